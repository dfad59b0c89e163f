/-- the words of the tables that go with every state of one launch -/
def zWS : List Cond := lw_tbl.filter goodWord
theorem zws_m (i : Nat) {w : Cond} (h : lw_tbl[i]? = some w) (hg : goodWord w = true) : w ∈ zWS := List.mem_filter.mpr ⟨List.mem_of_getElem? h, hg⟩
theorem m_0 : Cond.selects "ScrimshawKernel$History" ⟨"ScrimshawKernel$History", "isAt", "(I)Z"⟩ ⟨"ScrimshawKernel$History", "isAt", "(I)Z"⟩ ∈ zWS := zws_m 0 (by decide +kernel) rfl
theorem m_1 : Cond.selects "ScrimshawKernel$Flood" ⟨"ScrimshawKernel$Flood", "countParts", "(Z)I"⟩ ⟨"ScrimshawKernel$Flood", "countParts", "(Z)I"⟩ ∈ zWS := zws_m 1 (by decide +kernel) rfl
theorem m_2 : Cond.selects "ScrimshawKernel$Flood" ⟨"ScrimshawKernel$Flood", "take", "(IIZ)V"⟩ ⟨"ScrimshawKernel$Flood", "take", "(IIZ)V"⟩ ∈ zWS := zws_m 2 (by decide +kernel) rfl
theorem m_3 : Cond.selects "ScrimshawKernel$Flood" ⟨"ScrimshawKernel$Flood", "spread", "(Z)V"⟩ ⟨"ScrimshawKernel$Flood", "spread", "(Z)V"⟩ ∈ zWS := zws_m 3 (by decide +kernel) rfl
theorem m_4 : Cond.selects "ScrimshawKernel$Flood" ⟨"ScrimshawKernel$Flood", "spreadInto", "(IZ)Z"⟩ ⟨"ScrimshawKernel$Flood", "spreadInto", "(IZ)Z"⟩ ∈ zWS := zws_m 4 (by decide +kernel) rfl
theorem m_5 : Cond.selects "ScrimshawKernel$Flood" ⟨"ScrimshawKernel$Flood", "removeFound", "()V"⟩ ⟨"ScrimshawKernel$Flood", "removeFound", "()V"⟩ ∈ zWS := zws_m 5 (by decide +kernel) rfl
theorem m_6 : Cond.selects "ScrimshawKernel$Flood" ⟨"ScrimshawKernel$Flood", "findHoles", "(LScrimshawKernel$Fields;)V"⟩ ⟨"ScrimshawKernel$Flood", "findHoles", "(LScrimshawKernel$Fields;)V"⟩ ∈ zWS := zws_m 6 (by decide +kernel) rfl
theorem m_7 : Cond.selects "ScrimshawKernel$Fields" ⟨"ScrimshawKernel$Fields", "columns", "()J"⟩ ⟨"ScrimshawKernel$Fields", "columns", "()J"⟩ ∈ zWS := zws_m 7 (by decide +kernel) rfl
theorem m_8 : Cond.selects "ScrimshawKernel$Outline" ⟨"ScrimshawKernel$Outline", "beginAt", "(II)V"⟩ ⟨"ScrimshawKernel$Outline", "beginAt", "(II)V"⟩ ∈ zWS := zws_m 8 (by decide +kernel) rfl
theorem m_9 : Cond.selects "ScrimshawKernel$Outline" ⟨"ScrimshawKernel$Outline", "walk", "()V"⟩ ⟨"ScrimshawKernel$Outline", "walk", "()V"⟩ ∈ zWS := zws_m 9 (by decide +kernel) rfl
theorem m_10 : Cond.selects "ScrimshawKernel$Outline" ⟨"ScrimshawKernel$Outline", "noteCorner", "()V"⟩ ⟨"ScrimshawKernel$Outline", "noteCorner", "()V"⟩ ∈ zWS := zws_m 10 (by decide +kernel) rfl
theorem m_11 : Cond.selects "ScrimshawKernel$Outline" ⟨"ScrimshawKernel$Outline", "noteEdge", "()V"⟩ ⟨"ScrimshawKernel$Outline", "noteEdge", "()V"⟩ ∈ zWS := zws_m 11 (by decide +kernel) rfl
theorem m_12 : Cond.selects "ScrimshawKernel$Outline" ⟨"ScrimshawKernel$Outline", "goOn", "()V"⟩ ⟨"ScrimshawKernel$Outline", "goOn", "()V"⟩ ∈ zWS := zws_m 12 (by decide +kernel) rfl
theorem m_13 : Cond.selects "ScrimshawKernel" ⟨"ScrimshawKernel", "digestOfContours", "(JLScrimshawKernel$Fields;)J"⟩ ⟨"ScrimshawKernel", "digestOfContours", "(JLScrimshawKernel$Fields;)J"⟩ ∈ zWS := zws_m 13 (by decide +kernel) rfl
theorem m_14 : Cond.selects "ScrimshawKernel$StripWalk" ⟨"ScrimshawKernel$StripWalk", "isRunAt", "(IJ)Z"⟩ ⟨"ScrimshawKernel$StripWalk", "isRunAt", "(IJ)Z"⟩ ∈ zWS := zws_m 14 (by decide +kernel) rfl
theorem m_15 : Cond.selects "ScrimshawKernel$StripWalk" ⟨"ScrimshawKernel$StripWalk", "take", "(J)V"⟩ ⟨"ScrimshawKernel$StripWalk", "take", "(J)V"⟩ ∈ zWS := zws_m 15 (by decide +kernel) rfl
theorem m_16 : Cond.selects "ScrimshawKernel" ⟨"ScrimshawKernel", "digestOfStrips", "(JLScrimshawKernel$Fields;)J"⟩ ⟨"ScrimshawKernel", "digestOfStrips", "(JLScrimshawKernel$Fields;)J"⟩ ∈ zWS := zws_m 16 (by decide +kernel) rfl
theorem m_17 : Cond.selects "java/lang/Throwable" ⟨"java/lang/Throwable", "fillInStackTrace", "(I)Ljava/lang/Throwable;"⟩ ⟨"java/lang/Throwable", "fillInStackTrace", "(I)Ljava/lang/Throwable;"⟩ ∈ zWS := zws_m 17 (by decide +kernel) rfl
theorem m_18 : Cond.selects "ScrimshawKernel" ⟨"ScrimshawKernel", "checkLine", "(IJ)V"⟩ ⟨"ScrimshawKernel", "checkLine", "(IJ)V"⟩ ∈ zWS := zws_m 18 (by decide +kernel) rfl
theorem m_19 : Cond.selects "ScrimshawKernel" ⟨"ScrimshawKernel", "regionAt", "(I)LScrimshawKernel$Fields;"⟩ ⟨"ScrimshawKernel", "regionAt", "(I)LScrimshawKernel$Fields;"⟩ ∈ zWS := zws_m 19 (by decide +kernel) rfl
theorem m_20 : Cond.selects "ScrimshawKernel$Pen" ⟨"ScrimshawKernel$Pen", "countCrossings", "(I)V"⟩ ⟨"ScrimshawKernel$Pen", "countCrossings", "(I)V"⟩ ∈ zWS := zws_m 20 (by decide +kernel) rfl
theorem m_21 : Cond.selects "ScrimshawKernel$Pen" ⟨"ScrimshawKernel$Pen", "addCrossing", "(IIII)V"⟩ ⟨"ScrimshawKernel$Pen", "addCrossing", "(IIII)V"⟩ ∈ zWS := zws_m 21 (by decide +kernel) rfl
theorem m_22 : Cond.selects "ScrimshawKernel$Pen" ⟨"ScrimshawKernel$Pen", "inside", "(I)J"⟩ ⟨"ScrimshawKernel$Pen", "inside", "(I)J"⟩ ∈ zWS := zws_m 22 (by decide +kernel) rfl
theorem m_23 : Cond.selects "ScrimshawKernel" ⟨"ScrimshawKernel", "walkTo", "(III)V"⟩ ⟨"ScrimshawKernel", "walkTo", "(III)V"⟩ ∈ zWS := zws_m 23 (by decide +kernel) rfl
theorem m_24 : Cond.selects "ScrimshawKernelModel" ⟨"ScrimshawKernelModel", "no", "(I)I"⟩ ⟨"ScrimshawKernelModel", "no", "(I)I"⟩ ∈ zWS := zws_m 24 (by decide +kernel) rfl
theorem m_25 : Cond.selects "ScrimshawKernelModel" ⟨"ScrimshawKernelModel", "line", "(II)I"⟩ ⟨"ScrimshawKernelModel", "line", "(II)I"⟩ ∈ zWS := zws_m 25 (by decide +kernel) rfl
theorem m_26 : Cond.selects "ScrimshawKernelModel" ⟨"ScrimshawKernelModel", "change", "(I[Z)I"⟩ ⟨"ScrimshawKernelModel", "change", "(I[Z)I"⟩ ∈ zWS := zws_m 26 (by decide +kernel) rfl
theorem m_27 : Cond.selects "ScrimshawKernelModel" ⟨"ScrimshawKernelModel", "edgesNow", "(I)I"⟩ ⟨"ScrimshawKernelModel", "edgesNow", "(I)I"⟩ ∈ zWS := zws_m 27 (by decide +kernel) rfl
theorem m_28 : Cond.selects "ScrimshawKernelModel" ⟨"ScrimshawKernelModel", "holesNow", "(I)I"⟩ ⟨"ScrimshawKernelModel", "holesNow", "(I)I"⟩ ∈ zWS := zws_m 28 (by decide +kernel) rfl
theorem m_29 : Cond.selects "ScrimshawKernelModel" ⟨"ScrimshawKernelModel", "boundNow", "(II)I"⟩ ⟨"ScrimshawKernelModel", "boundNow", "(II)I"⟩ ∈ zWS := zws_m 29 (by decide +kernel) rfl
theorem m_30 : Cond.selects "ScrimshawKernelModel" ⟨"ScrimshawKernelModel", "contoursNow", "(I)[I"⟩ ⟨"ScrimshawKernelModel", "contoursNow", "(I)[I"⟩ ∈ zWS := zws_m 30 (by decide +kernel) rfl
theorem m_31 : Cond.selects "ScrimshawKernelModel" ⟨"ScrimshawKernelModel", "ofContour", "(III)I"⟩ ⟨"ScrimshawKernelModel", "ofContour", "(III)I"⟩ ∈ zWS := zws_m 31 (by decide +kernel) rfl
theorem m_32 : Cond.selects "ScrimshawKernelModel" ⟨"ScrimshawKernelModel", "corner", "(IIII)I"⟩ ⟨"ScrimshawKernelModel", "corner", "(IIII)I"⟩ ∈ zWS := zws_m 32 (by decide +kernel) rfl
theorem m_33 : Cond.selects "ScrimshawKernelModel" ⟨"ScrimshawKernelModel", "stripsNow", "(I)[I"⟩ ⟨"ScrimshawKernelModel", "stripsNow", "(I)[I"⟩ ∈ zWS := zws_m 33 (by decide +kernel) rfl
theorem m_34 : Cond.selects "ScrimshawKernelModel" ⟨"ScrimshawKernelModel", "hatching", "(IIIIZ)I"⟩ ⟨"ScrimshawKernelModel", "hatching", "(IIIIZ)I"⟩ ∈ zWS := zws_m 34 (by decide +kernel) rfl
theorem m_35 : Cond.initialized "ScrimshawKernelLaw" ∈ zWS := zws_m 35 (by decide +kernel) rfl
theorem m_36 : Cond.initialized "ScrimshawKernel" ∈ zWS := zws_m 36 (by decide +kernel) rfl
theorem m_37 : Cond.initialized "ScrimshawKernel$Fields" ∈ zWS := zws_m 37 (by decide +kernel) rfl
theorem m_38 : Cond.initialized "ScrimshawKernel$Pen" ∈ zWS := zws_m 38 (by decide +kernel) rfl
theorem m_39 : Cond.initialized "ScrimshawKernel$History" ∈ zWS := zws_m 39 (by decide +kernel) rfl
theorem m_40 : Cond.initialized "ScrimshawKernel$Flood" ∈ zWS := zws_m 40 (by decide +kernel) rfl
theorem m_41 : Cond.initialized "ScrimshawKernel$Outline" ∈ zWS := zws_m 41 (by decide +kernel) rfl
theorem m_42 : Cond.initialized "ScrimshawKernel$StripWalk" ∈ zWS := zws_m 42 (by decide +kernel) rfl
theorem m_43 : Cond.initialized "ScrimshawKernelModel" ∈ zWS := zws_m 43 (by decide +kernel) rfl
theorem m_44 : Cond.initialized "java/lang/Throwable" ∈ zWS := zws_m 44 (by decide +kernel) rfl
theorem m_45 : Cond.initialized "java/lang/Exception" ∈ zWS := zws_m 45 (by decide +kernel) rfl
theorem m_46 : Cond.initialized "java/lang/RuntimeException" ∈ zWS := zws_m 46 (by decide +kernel) rfl
theorem m_47 : Cond.initialized "java/lang/IllegalArgumentException" ∈ zWS := zws_m 47 (by decide +kernel) rfl
theorem m_48 : Cond.initialized "java/lang/IllegalStateException" ∈ zWS := zws_m 48 (by decide +kernel) rfl
theorem m_49 : Cond.initialized "java/lang/IndexOutOfBoundsException" ∈ zWS := zws_m 49 (by decide +kernel) rfl
theorem m_50 : Cond.initialized "java/lang/Math" ∈ zWS := zws_m 50 (by decide +kernel) rfl
theorem m_51 : Cond.initialized "java/util/Arrays" ∈ zWS := zws_m 51 (by decide +kernel) rfl
theorem m_52 : Cond.initialized "java/lang/Long" ∈ zWS := zws_m 52 (by decide +kernel) rfl
theorem m_53 : Cond.initialized "java/lang/System" ∈ zWS := zws_m 53 (by decide +kernel) rfl
theorem m_54 : Cond.classLink "ScrimshawKernelLaw" (8 : Nat) "ScrimshawKernel" ∈ zWS := zws_m 54 (by decide +kernel) rfl
theorem m_55 : Cond.instantiable "ScrimshawKernel" (7 : Nat) ∈ zWS := zws_m 55 (by decide +kernel) rfl
theorem m_56 : Cond.methodLink "ScrimshawKernelLaw" (119 : Nat) ({ cls := "ScrimshawKernel", name := "<init>", desc := "()V" } : MethodName) ∈ zWS := zws_m 56 (by decide +kernel) rfl
theorem m_57 : Cond.instanceMethod ({ cls := "ScrimshawKernel", name := "<init>", desc := "()V" } : MethodName) ∈ zWS := zws_m 57 (by decide +kernel) rfl
theorem m_58 : Cond.code ({ cls := "ScrimshawKernel", name := "<init>", desc := "()V" } : MethodName) prog_1_method_1_code (2 : Nat) (Option.none : Option FieldType) ∈ zWS := zws_m 58 (by decide +kernel) rfl
theorem m_59 : Cond.methodLink "ScrimshawKernel" (3 : Nat) ({ cls := "java/lang/Object", name := "<init>", desc := "()V" } : MethodName) ∈ zWS := zws_m 59 (by decide +kernel) rfl
theorem m_60 : Cond.instanceMethod ({ cls := "java/lang/Object", name := "<init>", desc := "()V" } : MethodName) ∈ zWS := zws_m 60 (by decide +kernel) rfl
theorem m_61 : Cond.code ({ cls := "java/lang/Object", name := "<init>", desc := "()V" } : MethodName) object_method_1_code (1 : Nat) (Option.none : Option FieldType) ∈ zWS := zws_m 61 (by decide +kernel) rfl
theorem m_62 : Cond.classLink "ScrimshawKernel" (9 : Nat) "ScrimshawKernel$Fields" ∈ zWS := zws_m 62 (by decide +kernel) rfl
theorem m_63 : lw_tbl[63]? = some (Cond.arrayOver (FieldType.object "ScrimshawKernel$Fields")) := by decide +kernel
theorem m_64 : Cond.instantiable "ScrimshawKernel$Fields" (1 : Nat) ∈ zWS := zws_m 64 (by decide +kernel) rfl
theorem m_65 : lw_tbl[65]? = some (Cond.methodLinkNest "ScrimshawKernel" (15 : Nat) ({ cls := "ScrimshawKernel$Fields", name := "<init>", desc := "()V" } : MethodName) "ScrimshawKernel") := by decide +kernel
theorem m_66 : Cond.instanceMethod ({ cls := "ScrimshawKernel$Fields", name := "<init>", desc := "()V" } : MethodName) ∈ zWS := zws_m 66 (by decide +kernel) rfl
theorem m_67 : Cond.code ({ cls := "ScrimshawKernel$Fields", name := "<init>", desc := "()V" } : MethodName) prog_2_method_1_code (1 : Nat) (Option.none : Option FieldType) ∈ zWS := zws_m 67 (by decide +kernel) rfl
theorem m_68 : Cond.methodLink "ScrimshawKernel$Fields" (3 : Nat) ({ cls := "java/lang/Object", name := "<init>", desc := "()V" } : MethodName) ∈ zWS := zws_m 68 (by decide +kernel) rfl
theorem m_69 : Cond.fieldLink "ScrimshawKernel$Fields" (9 : Nat) "ScrimshawKernel$Fields" "rows" "[J" ∈ zWS := zws_m 69 (by decide +kernel) rfl
theorem m_70 : Cond.laysFinal "ScrimshawKernel$Fields" "ScrimshawKernel$Fields" "rows" "[J" ∈ zWS := zws_m 70 (by decide +kernel) rfl
theorem m_73 : Cond.arrayClass FieldType.long ∈ zWS := zws_m 73 (by decide +kernel) rfl
theorem m_74 : Cond.classLink "ScrimshawKernel" (20 : Nat) "ScrimshawKernel$Pen" ∈ zWS := zws_m 74 (by decide +kernel) rfl
theorem m_75 : Cond.instantiable "ScrimshawKernel$Pen" (8 : Nat) ∈ zWS := zws_m 75 (by decide +kernel) rfl
theorem m_76 : lw_tbl[76]? = some (Cond.methodLinkNest "ScrimshawKernel" (22 : Nat) ({ cls := "ScrimshawKernel$Pen", name := "<init>", desc := "()V" } : MethodName) "ScrimshawKernel") := by decide +kernel
theorem m_77 : Cond.instanceMethod ({ cls := "ScrimshawKernel$Pen", name := "<init>", desc := "()V" } : MethodName) ∈ zWS := zws_m 77 (by decide +kernel) rfl
theorem m_78 : Cond.code ({ cls := "ScrimshawKernel$Pen", name := "<init>", desc := "()V" } : MethodName) prog_6_method_1_code (1 : Nat) (Option.none : Option FieldType) ∈ zWS := zws_m 78 (by decide +kernel) rfl
theorem m_79 : Cond.methodLink "ScrimshawKernel$Pen" (3 : Nat) ({ cls := "java/lang/Object", name := "<init>", desc := "()V" } : MethodName) ∈ zWS := zws_m 79 (by decide +kernel) rfl
theorem m_80 : Cond.fieldLink "ScrimshawKernel$Pen" (9 : Nat) "ScrimshawKernel$Pen" "xs" "[I" ∈ zWS := zws_m 80 (by decide +kernel) rfl
theorem m_81 : Cond.fieldLink "ScrimshawKernel$Pen" (15 : Nat) "ScrimshawKernel$Pen" "ys" "[I" ∈ zWS := zws_m 81 (by decide +kernel) rfl
theorem m_82 : Cond.fieldLink "ScrimshawKernel$Pen" (18 : Nat) "ScrimshawKernel$Pen" "length" "I" ∈ zWS := zws_m 82 (by decide +kernel) rfl
theorem m_83 : Cond.fieldLink "ScrimshawKernel$Pen" (31 : Nat) "ScrimshawKernel$Pen" "firstX" "I" ∈ zWS := zws_m 83 (by decide +kernel) rfl
theorem m_84 : Cond.fieldLink "ScrimshawKernel$Pen" (34 : Nat) "ScrimshawKernel$Pen" "firstY" "I" ∈ zWS := zws_m 84 (by decide +kernel) rfl
theorem m_85 : Cond.fieldLink "ScrimshawKernel$Pen" (25 : Nat) "ScrimshawKernel$Pen" "atX" "I" ∈ zWS := zws_m 85 (by decide +kernel) rfl
theorem m_86 : Cond.fieldLink "ScrimshawKernel$Pen" (28 : Nat) "ScrimshawKernel$Pen" "atY" "I" ∈ zWS := zws_m 86 (by decide +kernel) rfl
theorem m_87 : Cond.fieldLink "ScrimshawKernel$Pen" (22 : Nat) "ScrimshawKernel$Pen" "crossings" "[I" ∈ zWS := zws_m 87 (by decide +kernel) rfl
theorem m_88 : Cond.laysFinal "ScrimshawKernel$Pen" "ScrimshawKernel$Pen" "xs" "[I" ∈ zWS := zws_m 88 (by decide +kernel) rfl
theorem m_90 : Cond.laysFinal "ScrimshawKernel$Pen" "ScrimshawKernel$Pen" "ys" "[I" ∈ zWS := zws_m 90 (by decide +kernel) rfl
theorem m_92 : Cond.lays "ScrimshawKernel$Pen" "ScrimshawKernel$Pen" "length" "I" ∈ zWS := zws_m 92 (by decide +kernel) rfl
theorem m_94 : Cond.lays "ScrimshawKernel$Pen" "ScrimshawKernel$Pen" "firstX" "I" ∈ zWS := zws_m 94 (by decide +kernel) rfl
theorem m_96 : Cond.lays "ScrimshawKernel$Pen" "ScrimshawKernel$Pen" "firstY" "I" ∈ zWS := zws_m 96 (by decide +kernel) rfl
theorem m_98 : Cond.lays "ScrimshawKernel$Pen" "ScrimshawKernel$Pen" "atX" "I" ∈ zWS := zws_m 98 (by decide +kernel) rfl
theorem m_100 : Cond.lays "ScrimshawKernel$Pen" "ScrimshawKernel$Pen" "atY" "I" ∈ zWS := zws_m 100 (by decide +kernel) rfl
theorem m_102 : Cond.laysFinal "ScrimshawKernel$Pen" "ScrimshawKernel$Pen" "crossings" "[I" ∈ zWS := zws_m 102 (by decide +kernel) rfl
theorem m_105 : Cond.arrayClass FieldType.int ∈ zWS := zws_m 105 (by decide +kernel) rfl
theorem m_106 : Cond.classLink "ScrimshawKernel" (27 : Nat) "ScrimshawKernel$History" ∈ zWS := zws_m 106 (by decide +kernel) rfl
theorem m_107 : Cond.instantiable "ScrimshawKernel$History" (4 : Nat) ∈ zWS := zws_m 107 (by decide +kernel) rfl
theorem m_108 : Cond.methodLink "ScrimshawKernel" (29 : Nat) ({ cls := "ScrimshawKernel$History", name := "<init>", desc := "()V" } : MethodName) ∈ zWS := zws_m 108 (by decide +kernel) rfl
theorem m_109 : Cond.instanceMethod ({ cls := "ScrimshawKernel$History", name := "<init>", desc := "()V" } : MethodName) ∈ zWS := zws_m 109 (by decide +kernel) rfl
theorem m_110 : Cond.code ({ cls := "ScrimshawKernel$History", name := "<init>", desc := "()V" } : MethodName) prog_4_method_1_code (2 : Nat) (Option.none : Option FieldType) ∈ zWS := zws_m 110 (by decide +kernel) rfl
theorem m_111 : Cond.methodLink "ScrimshawKernel$History" (3 : Nat) ({ cls := "java/lang/Object", name := "<init>", desc := "()V" } : MethodName) ∈ zWS := zws_m 111 (by decide +kernel) rfl
theorem m_112 : Cond.classLink "ScrimshawKernel$History" (9 : Nat) "ScrimshawKernel$Fields" ∈ zWS := zws_m 112 (by decide +kernel) rfl
theorem m_113 : lw_tbl[113]? = some (Cond.methodLinkNest "ScrimshawKernel$History" (21 : Nat) ({ cls := "ScrimshawKernel$Fields", name := "<init>", desc := "()V" } : MethodName) "ScrimshawKernel") := by decide +kernel
theorem m_114 : Cond.fieldLink "ScrimshawKernel$History" (11 : Nat) "ScrimshawKernel$History" "kept" "[LScrimshawKernel$Fields;" ∈ zWS := zws_m 114 (by decide +kernel) rfl
theorem m_115 : Cond.fieldLink "ScrimshawKernel$History" (17 : Nat) "ScrimshawKernel$History" "keptRegions" "[I" ∈ zWS := zws_m 115 (by decide +kernel) rfl
theorem m_116 : Cond.fieldLink "ScrimshawKernel$History" (26 : Nat) "ScrimshawKernel$History" "latest" "I" ∈ zWS := zws_m 116 (by decide +kernel) rfl
theorem m_117 : Cond.fieldLink "ScrimshawKernel$History" (22 : Nat) "ScrimshawKernel$History" "count" "I" ∈ zWS := zws_m 117 (by decide +kernel) rfl
theorem m_118 : Cond.laysFinal "ScrimshawKernel$History" "ScrimshawKernel$History" "kept" "[LScrimshawKernel$Fields;" ∈ zWS := zws_m 118 (by decide +kernel) rfl
theorem m_120 : Cond.laysFinal "ScrimshawKernel$History" "ScrimshawKernel$History" "keptRegions" "[I" ∈ zWS := zws_m 120 (by decide +kernel) rfl
theorem m_122 : Cond.lays "ScrimshawKernel$History" "ScrimshawKernel$History" "latest" "I" ∈ zWS := zws_m 122 (by decide +kernel) rfl
theorem m_124 : Cond.lays "ScrimshawKernel$History" "ScrimshawKernel$History" "count" "I" ∈ zWS := zws_m 124 (by decide +kernel) rfl
theorem m_127 : Cond.classLink "ScrimshawKernel" (34 : Nat) "ScrimshawKernel$Flood" ∈ zWS := zws_m 127 (by decide +kernel) rfl
theorem m_128 : Cond.instantiable "ScrimshawKernel$Flood" (4 : Nat) ∈ zWS := zws_m 128 (by decide +kernel) rfl
theorem m_129 : lw_tbl[129]? = some (Cond.methodLinkNest "ScrimshawKernel" (36 : Nat) ({ cls := "ScrimshawKernel$Flood", name := "<init>", desc := "()V" } : MethodName) "ScrimshawKernel") := by decide +kernel
theorem m_130 : Cond.instanceMethod ({ cls := "ScrimshawKernel$Flood", name := "<init>", desc := "()V" } : MethodName) ∈ zWS := zws_m 130 (by decide +kernel) rfl
theorem m_131 : Cond.code ({ cls := "ScrimshawKernel$Flood", name := "<init>", desc := "()V" } : MethodName) prog_3_method_1_code (1 : Nat) (Option.none : Option FieldType) ∈ zWS := zws_m 131 (by decide +kernel) rfl
theorem m_132 : Cond.methodLink "ScrimshawKernel$Flood" (3 : Nat) ({ cls := "java/lang/Object", name := "<init>", desc := "()V" } : MethodName) ∈ zWS := zws_m 132 (by decide +kernel) rfl
theorem m_133 : Cond.classLink "ScrimshawKernel$Flood" (9 : Nat) "ScrimshawKernel$Fields" ∈ zWS := zws_m 133 (by decide +kernel) rfl
theorem m_134 : lw_tbl[134]? = some (Cond.methodLinkNest "ScrimshawKernel$Flood" (11 : Nat) ({ cls := "ScrimshawKernel$Fields", name := "<init>", desc := "()V" } : MethodName) "ScrimshawKernel") := by decide +kernel
theorem m_135 : Cond.fieldLink "ScrimshawKernel$Flood" (12 : Nat) "ScrimshawKernel$Flood" "rest" "LScrimshawKernel$Fields;" ∈ zWS := zws_m 135 (by decide +kernel) rfl
theorem m_136 : Cond.fieldLink "ScrimshawKernel$Flood" (18 : Nat) "ScrimshawKernel$Flood" "found" "LScrimshawKernel$Fields;" ∈ zWS := zws_m 136 (by decide +kernel) rfl
theorem m_137 : Cond.fieldLink "ScrimshawKernel$Flood" (59 : Nat) "ScrimshawKernel$Flood" "low" "I" ∈ zWS := zws_m 137 (by decide +kernel) rfl
theorem m_138 : Cond.fieldLink "ScrimshawKernel$Flood" (63 : Nat) "ScrimshawKernel$Flood" "high" "I" ∈ zWS := zws_m 138 (by decide +kernel) rfl
theorem m_139 : Cond.laysFinal "ScrimshawKernel$Flood" "ScrimshawKernel$Flood" "rest" "LScrimshawKernel$Fields;" ∈ zWS := zws_m 139 (by decide +kernel) rfl
theorem m_141 : Cond.laysFinal "ScrimshawKernel$Flood" "ScrimshawKernel$Flood" "found" "LScrimshawKernel$Fields;" ∈ zWS := zws_m 141 (by decide +kernel) rfl
theorem m_143 : Cond.lays "ScrimshawKernel$Flood" "ScrimshawKernel$Flood" "low" "I" ∈ zWS := zws_m 143 (by decide +kernel) rfl
theorem m_145 : Cond.lays "ScrimshawKernel$Flood" "ScrimshawKernel$Flood" "high" "I" ∈ zWS := zws_m 145 (by decide +kernel) rfl
theorem m_148 : Cond.classLink "ScrimshawKernel" (41 : Nat) "ScrimshawKernel$Outline" ∈ zWS := zws_m 148 (by decide +kernel) rfl
theorem m_149 : Cond.instantiable "ScrimshawKernel$Outline" (12 : Nat) ∈ zWS := zws_m 149 (by decide +kernel) rfl
theorem m_150 : lw_tbl[150]? = some (Cond.methodLinkNest "ScrimshawKernel" (43 : Nat) ({ cls := "ScrimshawKernel$Outline", name := "<init>", desc := "()V" } : MethodName) "ScrimshawKernel") := by decide +kernel
theorem m_151 : Cond.instanceMethod ({ cls := "ScrimshawKernel$Outline", name := "<init>", desc := "()V" } : MethodName) ∈ zWS := zws_m 151 (by decide +kernel) rfl
theorem m_152 : Cond.code ({ cls := "ScrimshawKernel$Outline", name := "<init>", desc := "()V" } : MethodName) prog_5_method_1_code (1 : Nat) (Option.none : Option FieldType) ∈ zWS := zws_m 152 (by decide +kernel) rfl
theorem m_153 : Cond.methodLink "ScrimshawKernel$Outline" (3 : Nat) ({ cls := "java/lang/Object", name := "<init>", desc := "()V" } : MethodName) ∈ zWS := zws_m 153 (by decide +kernel) rfl
theorem m_154 : Cond.classLink "ScrimshawKernel$Outline" (9 : Nat) "ScrimshawKernel$Fields" ∈ zWS := zws_m 154 (by decide +kernel) rfl
theorem m_155 : lw_tbl[155]? = some (Cond.methodLinkNest "ScrimshawKernel$Outline" (11 : Nat) ({ cls := "ScrimshawKernel$Fields", name := "<init>", desc := "()V" } : MethodName) "ScrimshawKernel") := by decide +kernel
theorem m_156 : Cond.fieldLink "ScrimshawKernel$Outline" (12 : Nat) "ScrimshawKernel$Outline" "region" "LScrimshawKernel$Fields;" ∈ zWS := zws_m 156 (by decide +kernel) rfl
theorem m_157 : Cond.fieldLink "ScrimshawKernel$Outline" (18 : Nat) "ScrimshawKernel$Outline" "walkedRight" "LScrimshawKernel$Fields;" ∈ zWS := zws_m 157 (by decide +kernel) rfl
theorem m_158 : Cond.fieldLink "ScrimshawKernel$Outline" (21 : Nat) "ScrimshawKernel$Outline" "walkedUp" "LScrimshawKernel$Fields;" ∈ zWS := zws_m 158 (by decide +kernel) rfl
theorem m_159 : Cond.fieldLink "ScrimshawKernel$Outline" (51 : Nat) "ScrimshawKernel$Outline" "fromY" "I" ∈ zWS := zws_m 159 (by decide +kernel) rfl
theorem m_160 : Cond.fieldLink "ScrimshawKernel$Outline" (83 : Nat) "ScrimshawKernel$Outline" "x" "I" ∈ zWS := zws_m 160 (by decide +kernel) rfl
theorem m_161 : Cond.fieldLink "ScrimshawKernel$Outline" (86 : Nat) "ScrimshawKernel$Outline" "y" "I" ∈ zWS := zws_m 161 (by decide +kernel) rfl
theorem m_162 : Cond.fieldLink "ScrimshawKernel$Outline" (74 : Nat) "ScrimshawKernel$Outline" "way" "I" ∈ zWS := zws_m 162 (by decide +kernel) rfl
theorem m_163 : Cond.fieldLink "ScrimshawKernel$Outline" (24 : Nat) "ScrimshawKernel$Outline" "cornerCount" "I" ∈ zWS := zws_m 163 (by decide +kernel) rfl
theorem m_164 : Cond.fieldLink "ScrimshawKernel$Outline" (28 : Nat) "ScrimshawKernel$Outline" "areaAround" "I" ∈ zWS := zws_m 164 (by decide +kernel) rfl
theorem m_165 : Cond.fieldLink "ScrimshawKernel$Outline" (54 : Nat) "ScrimshawKernel$Outline" "wanted" "I" ∈ zWS := zws_m 165 (by decide +kernel) rfl
theorem m_166 : Cond.fieldLink "ScrimshawKernel$Outline" (31 : Nat) "ScrimshawKernel$Outline" "wantedX" "I" ∈ zWS := zws_m 166 (by decide +kernel) rfl
theorem m_167 : Cond.fieldLink "ScrimshawKernel$Outline" (34 : Nat) "ScrimshawKernel$Outline" "wantedY" "I" ∈ zWS := zws_m 167 (by decide +kernel) rfl
theorem m_168 : Cond.laysFinal "ScrimshawKernel$Outline" "ScrimshawKernel$Outline" "region" "LScrimshawKernel$Fields;" ∈ zWS := zws_m 168 (by decide +kernel) rfl
theorem m_170 : Cond.laysFinal "ScrimshawKernel$Outline" "ScrimshawKernel$Outline" "walkedRight" "LScrimshawKernel$Fields;" ∈ zWS := zws_m 170 (by decide +kernel) rfl
theorem m_172 : Cond.laysFinal "ScrimshawKernel$Outline" "ScrimshawKernel$Outline" "walkedUp" "LScrimshawKernel$Fields;" ∈ zWS := zws_m 172 (by decide +kernel) rfl
theorem m_174 : Cond.lays "ScrimshawKernel$Outline" "ScrimshawKernel$Outline" "fromY" "I" ∈ zWS := zws_m 174 (by decide +kernel) rfl
theorem m_176 : Cond.lays "ScrimshawKernel$Outline" "ScrimshawKernel$Outline" "x" "I" ∈ zWS := zws_m 176 (by decide +kernel) rfl
theorem m_178 : Cond.lays "ScrimshawKernel$Outline" "ScrimshawKernel$Outline" "y" "I" ∈ zWS := zws_m 178 (by decide +kernel) rfl
theorem m_180 : Cond.lays "ScrimshawKernel$Outline" "ScrimshawKernel$Outline" "way" "I" ∈ zWS := zws_m 180 (by decide +kernel) rfl
theorem m_182 : Cond.lays "ScrimshawKernel$Outline" "ScrimshawKernel$Outline" "cornerCount" "I" ∈ zWS := zws_m 182 (by decide +kernel) rfl
theorem m_184 : Cond.lays "ScrimshawKernel$Outline" "ScrimshawKernel$Outline" "areaAround" "I" ∈ zWS := zws_m 184 (by decide +kernel) rfl
theorem m_186 : Cond.lays "ScrimshawKernel$Outline" "ScrimshawKernel$Outline" "wanted" "I" ∈ zWS := zws_m 186 (by decide +kernel) rfl
theorem m_188 : Cond.lays "ScrimshawKernel$Outline" "ScrimshawKernel$Outline" "wantedX" "I" ∈ zWS := zws_m 188 (by decide +kernel) rfl
theorem m_190 : Cond.lays "ScrimshawKernel$Outline" "ScrimshawKernel$Outline" "wantedY" "I" ∈ zWS := zws_m 190 (by decide +kernel) rfl
theorem m_193 : Cond.classLink "ScrimshawKernel" (48 : Nat) "ScrimshawKernel$StripWalk" ∈ zWS := zws_m 193 (by decide +kernel) rfl
theorem m_194 : Cond.instantiable "ScrimshawKernel$StripWalk" (7 : Nat) ∈ zWS := zws_m 194 (by decide +kernel) rfl
theorem m_195 : lw_tbl[195]? = some (Cond.methodLinkNest "ScrimshawKernel" (50 : Nat) ({ cls := "ScrimshawKernel$StripWalk", name := "<init>", desc := "()V" } : MethodName) "ScrimshawKernel") := by decide +kernel
theorem m_196 : Cond.instanceMethod ({ cls := "ScrimshawKernel$StripWalk", name := "<init>", desc := "()V" } : MethodName) ∈ zWS := zws_m 196 (by decide +kernel) rfl
theorem m_197 : Cond.code ({ cls := "ScrimshawKernel$StripWalk", name := "<init>", desc := "()V" } : MethodName) prog_7_method_1_code (1 : Nat) (Option.none : Option FieldType) ∈ zWS := zws_m 197 (by decide +kernel) rfl
theorem m_198 : Cond.methodLink "ScrimshawKernel$StripWalk" (3 : Nat) ({ cls := "java/lang/Object", name := "<init>", desc := "()V" } : MethodName) ∈ zWS := zws_m 198 (by decide +kernel) rfl
theorem m_199 : Cond.classLink "ScrimshawKernel$StripWalk" (9 : Nat) "ScrimshawKernel$Fields" ∈ zWS := zws_m 199 (by decide +kernel) rfl
theorem m_200 : lw_tbl[200]? = some (Cond.methodLinkNest "ScrimshawKernel$StripWalk" (11 : Nat) ({ cls := "ScrimshawKernel$Fields", name := "<init>", desc := "()V" } : MethodName) "ScrimshawKernel") := by decide +kernel
theorem m_201 : Cond.fieldLink "ScrimshawKernel$StripWalk" (12 : Nat) "ScrimshawKernel$StripWalk" "region" "LScrimshawKernel$Fields;" ∈ zWS := zws_m 201 (by decide +kernel) rfl
theorem m_202 : Cond.fieldLink "ScrimshawKernel$StripWalk" (42 : Nat) "ScrimshawKernel$StripWalk" "fromY" "I" ∈ zWS := zws_m 202 (by decide +kernel) rfl
theorem m_203 : Cond.fieldLink "ScrimshawKernel$StripWalk" (49 : Nat) "ScrimshawKernel$StripWalk" "toCome" "J" ∈ zWS := zws_m 203 (by decide +kernel) rfl
theorem m_204 : Cond.fieldLink "ScrimshawKernel$StripWalk" (18 : Nat) "ScrimshawKernel$StripWalk" "x" "I" ∈ zWS := zws_m 204 (by decide +kernel) rfl
theorem m_205 : Cond.fieldLink "ScrimshawKernel$StripWalk" (22 : Nat) "ScrimshawKernel$StripWalk" "y" "I" ∈ zWS := zws_m 205 (by decide +kernel) rfl
theorem m_206 : Cond.fieldLink "ScrimshawKernel$StripWalk" (25 : Nat) "ScrimshawKernel$StripWalk" "width" "I" ∈ zWS := zws_m 206 (by decide +kernel) rfl
theorem m_207 : Cond.fieldLink "ScrimshawKernel$StripWalk" (28 : Nat) "ScrimshawKernel$StripWalk" "height" "I" ∈ zWS := zws_m 207 (by decide +kernel) rfl
theorem m_208 : Cond.laysFinal "ScrimshawKernel$StripWalk" "ScrimshawKernel$StripWalk" "region" "LScrimshawKernel$Fields;" ∈ zWS := zws_m 208 (by decide +kernel) rfl
theorem m_210 : Cond.lays "ScrimshawKernel$StripWalk" "ScrimshawKernel$StripWalk" "fromY" "I" ∈ zWS := zws_m 210 (by decide +kernel) rfl
theorem m_212 : Cond.lays "ScrimshawKernel$StripWalk" "ScrimshawKernel$StripWalk" "toCome" "J" ∈ zWS := zws_m 212 (by decide +kernel) rfl
theorem m_214 : Cond.lays "ScrimshawKernel$StripWalk" "ScrimshawKernel$StripWalk" "x" "I" ∈ zWS := zws_m 214 (by decide +kernel) rfl
theorem m_216 : Cond.lays "ScrimshawKernel$StripWalk" "ScrimshawKernel$StripWalk" "y" "I" ∈ zWS := zws_m 216 (by decide +kernel) rfl
theorem m_218 : Cond.lays "ScrimshawKernel$StripWalk" "ScrimshawKernel$StripWalk" "width" "I" ∈ zWS := zws_m 218 (by decide +kernel) rfl
theorem m_220 : Cond.lays "ScrimshawKernel$StripWalk" "ScrimshawKernel$StripWalk" "height" "I" ∈ zWS := zws_m 220 (by decide +kernel) rfl
theorem m_223 : Cond.fieldLink "ScrimshawKernel" (11 : Nat) "ScrimshawKernel" "regions" "[LScrimshawKernel$Fields;" ∈ zWS := zws_m 223 (by decide +kernel) rfl
theorem m_224 : Cond.fieldLink "ScrimshawKernel" (16 : Nat) "ScrimshawKernel" "spare" "LScrimshawKernel$Fields;" ∈ zWS := zws_m 224 (by decide +kernel) rfl
theorem m_225 : Cond.fieldLink "ScrimshawKernel" (23 : Nat) "ScrimshawKernel" "pen" "LScrimshawKernel$Pen;" ∈ zWS := zws_m 225 (by decide +kernel) rfl
theorem m_226 : Cond.fieldLink "ScrimshawKernel" (30 : Nat) "ScrimshawKernel" "history" "LScrimshawKernel$History;" ∈ zWS := zws_m 226 (by decide +kernel) rfl
theorem m_227 : Cond.fieldLink "ScrimshawKernel" (37 : Nat) "ScrimshawKernel" "flood" "LScrimshawKernel$Flood;" ∈ zWS := zws_m 227 (by decide +kernel) rfl
theorem m_228 : Cond.fieldLink "ScrimshawKernel" (44 : Nat) "ScrimshawKernel" "outline" "LScrimshawKernel$Outline;" ∈ zWS := zws_m 228 (by decide +kernel) rfl
theorem m_229 : Cond.fieldLink "ScrimshawKernel" (51 : Nat) "ScrimshawKernel" "stripWalk" "LScrimshawKernel$StripWalk;" ∈ zWS := zws_m 229 (by decide +kernel) rfl
theorem m_230 : Cond.laysFinal "ScrimshawKernel" "ScrimshawKernel" "regions" "[LScrimshawKernel$Fields;" ∈ zWS := zws_m 230 (by decide +kernel) rfl
theorem m_232 : Cond.laysFinal "ScrimshawKernel" "ScrimshawKernel" "spare" "LScrimshawKernel$Fields;" ∈ zWS := zws_m 232 (by decide +kernel) rfl
theorem m_234 : Cond.laysFinal "ScrimshawKernel" "ScrimshawKernel" "pen" "LScrimshawKernel$Pen;" ∈ zWS := zws_m 234 (by decide +kernel) rfl
theorem m_236 : Cond.laysFinal "ScrimshawKernel" "ScrimshawKernel" "history" "LScrimshawKernel$History;" ∈ zWS := zws_m 236 (by decide +kernel) rfl
theorem m_238 : Cond.laysFinal "ScrimshawKernel" "ScrimshawKernel" "flood" "LScrimshawKernel$Flood;" ∈ zWS := zws_m 238 (by decide +kernel) rfl
theorem m_240 : Cond.laysFinal "ScrimshawKernel" "ScrimshawKernel" "outline" "LScrimshawKernel$Outline;" ∈ zWS := zws_m 240 (by decide +kernel) rfl
theorem m_242 : Cond.laysFinal "ScrimshawKernel" "ScrimshawKernel" "stripWalk" "LScrimshawKernel$StripWalk;" ∈ zWS := zws_m 242 (by decide +kernel) rfl
theorem m_245 : Cond.methodLink "ScrimshawKernelLaw" (143 : Nat) ({ cls := "ScrimshawKernel", name := "points", desc := "()I" } : MethodName) ∈ zWS := zws_m 245 (by decide +kernel) rfl
theorem m_246 : Cond.instanceMethod ({ cls := "ScrimshawKernel", name := "points", desc := "()I" } : MethodName) ∈ zWS := zws_m 246 (by decide +kernel) rfl
theorem m_247 : Cond.selects "ScrimshawKernel" ({ cls := "ScrimshawKernel", name := "points", desc := "()I" } : MethodName) ({ cls := "ScrimshawKernel", name := "points", desc := "()I" } : MethodName) ∈ zWS := zws_m 247 (by decide +kernel) rfl
theorem m_248 : Cond.code ({ cls := "ScrimshawKernel", name := "points", desc := "()I" } : MethodName) prog_1_method_6_code (1 : Nat) (Option.some FieldType.int) ∈ zWS := zws_m 248 (by decide +kernel) rfl
theorem m_249 : Cond.methodLink "ScrimshawKernel" (66 : Nat) ({ cls := "ScrimshawKernel$Pen", name := "length", desc := "()I" } : MethodName) ∈ zWS := zws_m 249 (by decide +kernel) rfl
theorem m_250 : Cond.instanceMethod ({ cls := "ScrimshawKernel$Pen", name := "length", desc := "()I" } : MethodName) ∈ zWS := zws_m 250 (by decide +kernel) rfl
theorem m_251 : Cond.selects "ScrimshawKernel$Pen" ({ cls := "ScrimshawKernel$Pen", name := "length", desc := "()I" } : MethodName) ({ cls := "ScrimshawKernel$Pen", name := "length", desc := "()I" } : MethodName) ∈ zWS := zws_m 251 (by decide +kernel) rfl
theorem m_252 : Cond.code ({ cls := "ScrimshawKernel$Pen", name := "length", desc := "()I" } : MethodName) prog_6_method_2_code (1 : Nat) (Option.some FieldType.int) ∈ zWS := zws_m 252 (by decide +kernel) rfl
theorem m_253 : Cond.methodLink "ScrimshawKernelLaw" (180 : Nat) ({ cls := "ScrimshawKernel", name := "undo", desc := "()I" } : MethodName) ∈ zWS := zws_m 253 (by decide +kernel) rfl
theorem m_254 : Cond.instanceMethod ({ cls := "ScrimshawKernel", name := "undo", desc := "()I" } : MethodName) ∈ zWS := zws_m 254 (by decide +kernel) rfl
theorem m_255 : Cond.selects "ScrimshawKernel" ({ cls := "ScrimshawKernel", name := "undo", desc := "()I" } : MethodName) ({ cls := "ScrimshawKernel", name := "undo", desc := "()I" } : MethodName) ∈ zWS := zws_m 255 (by decide +kernel) rfl
theorem m_256 : Cond.code ({ cls := "ScrimshawKernel", name := "undo", desc := "()I" } : MethodName) prog_1_method_17_code (2 : Nat) (Option.some FieldType.int) ∈ zWS := zws_m 256 (by decide +kernel) rfl
theorem m_257 : Cond.methodLink "ScrimshawKernel" (187 : Nat) ({ cls := "ScrimshawKernel$History", name := "latestRegion", desc := "()I" } : MethodName) ∈ zWS := zws_m 257 (by decide +kernel) rfl
theorem m_258 : Cond.instanceMethod ({ cls := "ScrimshawKernel$History", name := "latestRegion", desc := "()I" } : MethodName) ∈ zWS := zws_m 258 (by decide +kernel) rfl
theorem m_259 : Cond.selects "ScrimshawKernel$History" ({ cls := "ScrimshawKernel$History", name := "latestRegion", desc := "()I" } : MethodName) ({ cls := "ScrimshawKernel$History", name := "latestRegion", desc := "()I" } : MethodName) ∈ zWS := zws_m 259 (by decide +kernel) rfl
theorem m_260 : Cond.code ({ cls := "ScrimshawKernel$History", name := "latestRegion", desc := "()I" } : MethodName) prog_4_method_4_code (1 : Nat) (Option.some FieldType.int) ∈ zWS := zws_m 260 (by decide +kernel) rfl
theorem m_261 : Cond.methodLink "ScrimshawKernel$History" (35 : Nat) ({ cls := "ScrimshawKernel$History", name := "isAt", desc := "(I)Z" } : MethodName) ∈ zWS := zws_m 261 (by decide +kernel) rfl
theorem m_263 : Cond.instanceMethod ({ cls := "ScrimshawKernel$History", name := "isAt", desc := "(I)Z" } : MethodName) ∈ zWS := zws_m 263 (by decide +kernel) rfl
theorem m_264 : Cond.code ({ cls := "ScrimshawKernel$History", name := "isAt", desc := "(I)Z" } : MethodName) prog_4_method_6_code (2 : Nat) (Option.some FieldType.boolean) ∈ zWS := zws_m 264 (by decide +kernel) rfl
theorem m_265 : Cond.methodLink "ScrimshawKernel" (190 : Nat) ({ cls := "ScrimshawKernel$History", name := "takeBack", desc := "(LScrimshawKernel$Fields;)V" } : MethodName) ∈ zWS := zws_m 265 (by decide +kernel) rfl
theorem m_266 : Cond.instanceMethod ({ cls := "ScrimshawKernel$History", name := "takeBack", desc := "(LScrimshawKernel$Fields;)V" } : MethodName) ∈ zWS := zws_m 266 (by decide +kernel) rfl
theorem m_267 : Cond.selects "ScrimshawKernel$History" ({ cls := "ScrimshawKernel$History", name := "takeBack", desc := "(LScrimshawKernel$Fields;)V" } : MethodName) ({ cls := "ScrimshawKernel$History", name := "takeBack", desc := "(LScrimshawKernel$Fields;)V" } : MethodName) ∈ zWS := zws_m 267 (by decide +kernel) rfl
theorem m_268 : Cond.code ({ cls := "ScrimshawKernel$History", name := "takeBack", desc := "(LScrimshawKernel$Fields;)V" } : MethodName) prog_4_method_5_code (2 : Nat) (Option.none : Option FieldType) ∈ zWS := zws_m 268 (by decide +kernel) rfl
theorem m_269 : Cond.methodLink "ScrimshawKernel$History" (39 : Nat) ({ cls := "ScrimshawKernel$Fields", name := "copy", desc := "(LScrimshawKernel$Fields;)V" } : MethodName) ∈ zWS := zws_m 269 (by decide +kernel) rfl
theorem m_270 : Cond.instanceMethod ({ cls := "ScrimshawKernel$Fields", name := "copy", desc := "(LScrimshawKernel$Fields;)V" } : MethodName) ∈ zWS := zws_m 270 (by decide +kernel) rfl
theorem m_271 : Cond.selects "ScrimshawKernel$Fields" ({ cls := "ScrimshawKernel$Fields", name := "copy", desc := "(LScrimshawKernel$Fields;)V" } : MethodName) ({ cls := "ScrimshawKernel$Fields", name := "copy", desc := "(LScrimshawKernel$Fields;)V" } : MethodName) ∈ zWS := zws_m 271 (by decide +kernel) rfl
theorem m_272 : Cond.code ({ cls := "ScrimshawKernel$Fields", name := "copy", desc := "(LScrimshawKernel$Fields;)V" } : MethodName) prog_2_method_8_code (3 : Nat) (Option.none : Option FieldType) ∈ zWS := zws_m 272 (by decide +kernel) rfl
theorem m_273 : Cond.methodLink "ScrimshawKernel$Fields" (25 : Nat) ({ cls := "ScrimshawKernel$Fields", name := "row", desc := "(I)J" } : MethodName) ∈ zWS := zws_m 273 (by decide +kernel) rfl
theorem m_274 : Cond.instanceMethod ({ cls := "ScrimshawKernel$Fields", name := "row", desc := "(I)J" } : MethodName) ∈ zWS := zws_m 274 (by decide +kernel) rfl
theorem m_275 : Cond.selects "ScrimshawKernel$Fields" ({ cls := "ScrimshawKernel$Fields", name := "row", desc := "(I)J" } : MethodName) ({ cls := "ScrimshawKernel$Fields", name := "row", desc := "(I)J" } : MethodName) ∈ zWS := zws_m 275 (by decide +kernel) rfl
theorem m_276 : Cond.code ({ cls := "ScrimshawKernel$Fields", name := "row", desc := "(I)J" } : MethodName) prog_2_method_2_code (3 : Nat) (Option.some FieldType.long) ∈ zWS := zws_m 276 (by decide +kernel) rfl
theorem m_277 : Cond.methodLink "ScrimshawKernel$Fields" (29 : Nat) ({ cls := "ScrimshawKernel$Fields", name := "putRow", desc := "(IJ)V" } : MethodName) ∈ zWS := zws_m 277 (by decide +kernel) rfl
theorem m_278 : Cond.instanceMethod ({ cls := "ScrimshawKernel$Fields", name := "putRow", desc := "(IJ)V" } : MethodName) ∈ zWS := zws_m 278 (by decide +kernel) rfl
theorem m_279 : Cond.selects "ScrimshawKernel$Fields" ({ cls := "ScrimshawKernel$Fields", name := "putRow", desc := "(IJ)V" } : MethodName) ({ cls := "ScrimshawKernel$Fields", name := "putRow", desc := "(IJ)V" } : MethodName) ∈ zWS := zws_m 279 (by decide +kernel) rfl
theorem m_280 : Cond.code ({ cls := "ScrimshawKernel$Fields", name := "putRow", desc := "(IJ)V" } : MethodName) prog_2_method_3_code (5 : Nat) (Option.none : Option FieldType) ∈ zWS := zws_m 280 (by decide +kernel) rfl
theorem m_281 : Cond.methodLink "ScrimshawKernelLaw" (239 : Nat) ({ cls := "ScrimshawKernel", name := "digest", desc := "()J" } : MethodName) ∈ zWS := zws_m 281 (by decide +kernel) rfl
theorem m_282 : Cond.instanceMethod ({ cls := "ScrimshawKernel", name := "digest", desc := "()J" } : MethodName) ∈ zWS := zws_m 282 (by decide +kernel) rfl
theorem m_283 : Cond.selects "ScrimshawKernel" ({ cls := "ScrimshawKernel", name := "digest", desc := "()J" } : MethodName) ({ cls := "ScrimshawKernel", name := "digest", desc := "()J" } : MethodName) ∈ zWS := zws_m 283 (by decide +kernel) rfl
theorem m_284 : Cond.code ({ cls := "ScrimshawKernel", name := "digest", desc := "()J" } : MethodName) prog_1_method_36_code (6 : Nat) (Option.some FieldType.long) ∈ zWS := zws_m 284 (by decide +kernel) rfl
theorem m_285 : Cond.constantLong "ScrimshawKernel" (276 : Nat) (2543 : Int64) ∈ zWS := zws_m 285 (by decide +kernel) rfl
theorem m_286 : Cond.methodLink "ScrimshawKernel" (278 : Nat) ({ cls := "ScrimshawKernel", name := "mixed", desc := "(JJ)J" } : MethodName) ∈ zWS := zws_m 286 (by decide +kernel) rfl
theorem m_287 : Cond.static ({ cls := "ScrimshawKernel", name := "mixed", desc := "(JJ)J" } : MethodName) ∈ zWS := zws_m 287 (by decide +kernel) rfl
theorem m_288 : Cond.code ({ cls := "ScrimshawKernel", name := "mixed", desc := "(JJ)J" } : MethodName) prog_1_method_51_code (4 : Nat) (Option.some FieldType.long) ∈ zWS := zws_m 288 (by decide +kernel) rfl
theorem m_289 : Cond.constantLong "ScrimshawKernel" (304 : Nat) (31 : Int64) ∈ zWS := zws_m 289 (by decide +kernel) rfl
theorem m_290 : Cond.methodLink "ScrimshawKernel" (108 : Nat) ({ cls := "ScrimshawKernel$Fields", name := "count", desc := "()I" } : MethodName) ∈ zWS := zws_m 290 (by decide +kernel) rfl
theorem m_291 : Cond.instanceMethod ({ cls := "ScrimshawKernel$Fields", name := "count", desc := "()I" } : MethodName) ∈ zWS := zws_m 291 (by decide +kernel) rfl
theorem m_292 : Cond.selects "ScrimshawKernel$Fields" ({ cls := "ScrimshawKernel$Fields", name := "count", desc := "()I" } : MethodName) ({ cls := "ScrimshawKernel$Fields", name := "count", desc := "()I" } : MethodName) ∈ zWS := zws_m 292 (by decide +kernel) rfl
theorem m_293 : Cond.code ({ cls := "ScrimshawKernel$Fields", name := "count", desc := "()I" } : MethodName) prog_2_method_12_code (3 : Nat) (Option.some FieldType.int) ∈ zWS := zws_m 293 (by decide +kernel) rfl
theorem m_294 : Cond.methodLink "ScrimshawKernel$Fields" (33 : Nat) ({ cls := "java/lang/Long", name := "bitCount", desc := "(J)I" } : MethodName) ∈ zWS := zws_m 294 (by decide +kernel) rfl
theorem m_295 : Cond.static ({ cls := "java/lang/Long", name := "bitCount", desc := "(J)I" } : MethodName) ∈ zWS := zws_m 295 (by decide +kernel) rfl
theorem m_296 : Cond.code ({ cls := "java/lang/Long", name := "bitCount", desc := "(J)I" } : MethodName) prog_14_method_50_code (2 : Nat) (Option.some FieldType.int) ∈ zWS := zws_m 296 (by decide +kernel) rfl
theorem m_297 : Cond.constantLong "java/lang/Long" (314 : Nat) (6148914691236517205 : Int64) ∈ zWS := zws_m 297 (by decide +kernel) rfl
theorem m_298 : Cond.constantLong "java/lang/Long" (316 : Nat) (3689348814741910323 : Int64) ∈ zWS := zws_m 298 (by decide +kernel) rfl
theorem m_299 : Cond.constantLong "java/lang/Long" (318 : Nat) (1085102592571150095 : Int64) ∈ zWS := zws_m 299 (by decide +kernel) rfl
theorem m_300 : Cond.methodLink "ScrimshawKernel" (193 : Nat) ({ cls := "ScrimshawKernel$Fields", name := "countEdges", desc := "()I" } : MethodName) ∈ zWS := zws_m 300 (by decide +kernel) rfl
theorem m_301 : Cond.instanceMethod ({ cls := "ScrimshawKernel$Fields", name := "countEdges", desc := "()I" } : MethodName) ∈ zWS := zws_m 301 (by decide +kernel) rfl
theorem m_302 : Cond.selects "ScrimshawKernel$Fields" ({ cls := "ScrimshawKernel$Fields", name := "countEdges", desc := "()I" } : MethodName) ({ cls := "ScrimshawKernel$Fields", name := "countEdges", desc := "()I" } : MethodName) ∈ zWS := zws_m 302 (by decide +kernel) rfl
theorem m_303 : Cond.code ({ cls := "ScrimshawKernel$Fields", name := "countEdges", desc := "()I" } : MethodName) prog_2_method_13_code (5 : Nat) (Option.some FieldType.int) ∈ zWS := zws_m 303 (by decide +kernel) rfl
theorem m_304 : Cond.constantLong "ScrimshawKernel$Fields" (39 : Nat) (-1 : Int64) ∈ zWS := zws_m 304 (by decide +kernel) rfl
theorem m_305 : Cond.methodLink "ScrimshawKernel" (196 : Nat) ({ cls := "ScrimshawKernel$Flood", name := "countPieces", desc := "(LScrimshawKernel$Fields;)I" } : MethodName) ∈ zWS := zws_m 305 (by decide +kernel) rfl
theorem m_306 : Cond.instanceMethod ({ cls := "ScrimshawKernel$Flood", name := "countPieces", desc := "(LScrimshawKernel$Fields;)I" } : MethodName) ∈ zWS := zws_m 306 (by decide +kernel) rfl
theorem m_307 : Cond.selects "ScrimshawKernel$Flood" ({ cls := "ScrimshawKernel$Flood", name := "countPieces", desc := "(LScrimshawKernel$Fields;)I" } : MethodName) ({ cls := "ScrimshawKernel$Flood", name := "countPieces", desc := "(LScrimshawKernel$Fields;)I" } : MethodName) ∈ zWS := zws_m 307 (by decide +kernel) rfl
theorem m_308 : Cond.code ({ cls := "ScrimshawKernel$Flood", name := "countPieces", desc := "(LScrimshawKernel$Fields;)I" } : MethodName) prog_3_method_2_code (2 : Nat) (Option.some FieldType.int) ∈ zWS := zws_m 308 (by decide +kernel) rfl
theorem m_309 : Cond.methodLink "ScrimshawKernel$Flood" (21 : Nat) ({ cls := "ScrimshawKernel$Fields", name := "copy", desc := "(LScrimshawKernel$Fields;)V" } : MethodName) ∈ zWS := zws_m 309 (by decide +kernel) rfl
theorem m_310 : Cond.methodLink "ScrimshawKernel$Flood" (25 : Nat) ({ cls := "ScrimshawKernel$Flood", name := "countParts", desc := "(Z)I" } : MethodName) ∈ zWS := zws_m 310 (by decide +kernel) rfl
theorem m_312 : Cond.instanceMethod ({ cls := "ScrimshawKernel$Flood", name := "countParts", desc := "(Z)I" } : MethodName) ∈ zWS := zws_m 312 (by decide +kernel) rfl
theorem m_313 : Cond.code ({ cls := "ScrimshawKernel$Flood", name := "countParts", desc := "(Z)I" } : MethodName) prog_3_method_7_code (5 : Nat) (Option.some FieldType.int) ∈ zWS := zws_m 313 (by decide +kernel) rfl
theorem m_314 : Cond.methodLink "ScrimshawKernel$Flood" (52 : Nat) ({ cls := "ScrimshawKernel$Fields", name := "row", desc := "(I)J" } : MethodName) ∈ zWS := zws_m 314 (by decide +kernel) rfl
theorem m_315 : lw_tbl[315]? = some (Cond.methodLinkNest "ScrimshawKernel$Flood" (73 : Nat) ({ cls := "ScrimshawKernel", name := "lowestBit", desc := "(J)I" } : MethodName) "ScrimshawKernel") := by decide +kernel
theorem m_316 : Cond.static ({ cls := "ScrimshawKernel", name := "lowestBit", desc := "(J)I" } : MethodName) ∈ zWS := zws_m 316 (by decide +kernel) rfl
theorem m_317 : Cond.code ({ cls := "ScrimshawKernel", name := "lowestBit", desc := "(J)I" } : MethodName) prog_1_method_55_code (2 : Nat) (Option.some FieldType.int) ∈ zWS := zws_m 317 (by decide +kernel) rfl
theorem m_318 : Cond.methodLink "ScrimshawKernel" (260 : Nat) ({ cls := "java/lang/Long", name := "bitCount", desc := "(J)I" } : MethodName) ∈ zWS := zws_m 318 (by decide +kernel) rfl
theorem m_319 : Cond.methodLink "ScrimshawKernel$Flood" (42 : Nat) ({ cls := "ScrimshawKernel$Flood", name := "take", desc := "(IIZ)V" } : MethodName) ∈ zWS := zws_m 319 (by decide +kernel) rfl
theorem m_321 : Cond.instanceMethod ({ cls := "ScrimshawKernel$Flood", name := "take", desc := "(IIZ)V" } : MethodName) ∈ zWS := zws_m 321 (by decide +kernel) rfl
theorem m_322 : Cond.code ({ cls := "ScrimshawKernel$Flood", name := "take", desc := "(IIZ)V" } : MethodName) prog_3_method_8_code (4 : Nat) (Option.none : Option FieldType) ∈ zWS := zws_m 322 (by decide +kernel) rfl
theorem m_323 : Cond.methodLink "ScrimshawKernel$Flood" (35 : Nat) ({ cls := "ScrimshawKernel$Fields", name := "empty", desc := "()V" } : MethodName) ∈ zWS := zws_m 323 (by decide +kernel) rfl
theorem m_324 : Cond.instanceMethod ({ cls := "ScrimshawKernel$Fields", name := "empty", desc := "()V" } : MethodName) ∈ zWS := zws_m 324 (by decide +kernel) rfl
theorem m_325 : Cond.selects "ScrimshawKernel$Fields" ({ cls := "ScrimshawKernel$Fields", name := "empty", desc := "()V" } : MethodName) ({ cls := "ScrimshawKernel$Fields", name := "empty", desc := "()V" } : MethodName) ∈ zWS := zws_m 325 (by decide +kernel) rfl
theorem m_326 : Cond.code ({ cls := "ScrimshawKernel$Fields", name := "empty", desc := "()V" } : MethodName) prog_2_method_6_code (1 : Nat) (Option.none : Option FieldType) ∈ zWS := zws_m 326 (by decide +kernel) rfl
theorem m_327 : Cond.methodLink "ScrimshawKernel$Fields" (15 : Nat) ({ cls := "java/util/Arrays", name := "fill", desc := "([JJ)V" } : MethodName) ∈ zWS := zws_m 327 (by decide +kernel) rfl
theorem m_328 : Cond.static ({ cls := "java/util/Arrays", name := "fill", desc := "([JJ)V" } : MethodName) ∈ zWS := zws_m 328 (by decide +kernel) rfl
theorem m_329 : Cond.code ({ cls := "java/util/Arrays", name := "fill", desc := "([JJ)V" } : MethodName) prog_20_method_101_code (5 : Nat) (Option.none : Option FieldType) ∈ zWS := zws_m 329 (by decide +kernel) rfl
theorem m_330 : Cond.methodLink "ScrimshawKernel$Flood" (77 : Nat) ({ cls := "ScrimshawKernel$Fields", name := "add", desc := "(II)V" } : MethodName) ∈ zWS := zws_m 330 (by decide +kernel) rfl
theorem m_331 : Cond.instanceMethod ({ cls := "ScrimshawKernel$Fields", name := "add", desc := "(II)V" } : MethodName) ∈ zWS := zws_m 331 (by decide +kernel) rfl
theorem m_332 : Cond.selects "ScrimshawKernel$Fields" ({ cls := "ScrimshawKernel$Fields", name := "add", desc := "(II)V" } : MethodName) ({ cls := "ScrimshawKernel$Fields", name := "add", desc := "(II)V" } : MethodName) ∈ zWS := zws_m 332 (by decide +kernel) rfl
theorem m_333 : Cond.code ({ cls := "ScrimshawKernel$Fields", name := "add", desc := "(II)V" } : MethodName) prog_2_method_5_code (4 : Nat) (Option.none : Option FieldType) ∈ zWS := zws_m 333 (by decide +kernel) rfl
theorem m_334 : Cond.methodLink "ScrimshawKernel$Flood" (66 : Nat) ({ cls := "ScrimshawKernel$Flood", name := "spread", desc := "(Z)V" } : MethodName) ∈ zWS := zws_m 334 (by decide +kernel) rfl
theorem m_336 : Cond.instanceMethod ({ cls := "ScrimshawKernel$Flood", name := "spread", desc := "(Z)V" } : MethodName) ∈ zWS := zws_m 336 (by decide +kernel) rfl
theorem m_337 : Cond.code ({ cls := "ScrimshawKernel$Flood", name := "spread", desc := "(Z)V" } : MethodName) prog_3_method_10_code (5 : Nat) (Option.none : Option FieldType) ∈ zWS := zws_m 337 (by decide +kernel) rfl
theorem m_338 : Cond.methodLink "ScrimshawKernel$Flood" (81 : Nat) ({ cls := "ScrimshawKernel$Flood", name := "spreadInto", desc := "(IZ)Z" } : MethodName) ∈ zWS := zws_m 338 (by decide +kernel) rfl
theorem m_340 : Cond.instanceMethod ({ cls := "ScrimshawKernel$Flood", name := "spreadInto", desc := "(IZ)Z" } : MethodName) ∈ zWS := zws_m 340 (by decide +kernel) rfl
theorem m_341 : Cond.code ({ cls := "ScrimshawKernel$Flood", name := "spreadInto", desc := "(IZ)Z" } : MethodName) prog_3_method_11_code (11 : Nat) (Option.some FieldType.boolean) ∈ zWS := zws_m 341 (by decide +kernel) rfl
theorem m_342 : Cond.methodLink "ScrimshawKernel$Flood" (85 : Nat) ({ cls := "ScrimshawKernel$Flood", name := "along", desc := "(JJ)J" } : MethodName) ∈ zWS := zws_m 342 (by decide +kernel) rfl
theorem m_343 : Cond.static ({ cls := "ScrimshawKernel$Flood", name := "along", desc := "(JJ)J" } : MethodName) ∈ zWS := zws_m 343 (by decide +kernel) rfl
theorem m_344 : Cond.code ({ cls := "ScrimshawKernel$Flood", name := "along", desc := "(JJ)J" } : MethodName) prog_3_method_12_code (13 : Nat) (Option.some FieldType.long) ∈ zWS := zws_m 344 (by decide +kernel) rfl
theorem m_345 : Cond.methodLink "ScrimshawKernel$Flood" (55 : Nat) ({ cls := "ScrimshawKernel$Fields", name := "putRow", desc := "(IJ)V" } : MethodName) ∈ zWS := zws_m 345 (by decide +kernel) rfl
theorem m_346 : Cond.methodLink "ScrimshawKernel$Flood" (89 : Nat) ({ cls := "java/lang/Math", name := "min", desc := "(II)I" } : MethodName) ∈ zWS := zws_m 346 (by decide +kernel) rfl
theorem m_347 : Cond.static ({ cls := "java/lang/Math", name := "min", desc := "(II)I" } : MethodName) ∈ zWS := zws_m 347 (by decide +kernel) rfl
theorem m_348 : Cond.code ({ cls := "java/lang/Math", name := "min", desc := "(II)I" } : MethodName) prog_15_method_69_code (2 : Nat) (Option.some FieldType.int) ∈ zWS := zws_m 348 (by decide +kernel) rfl
theorem m_349 : Cond.methodLink "ScrimshawKernel$Flood" (95 : Nat) ({ cls := "java/lang/Math", name := "max", desc := "(II)I" } : MethodName) ∈ zWS := zws_m 349 (by decide +kernel) rfl
theorem m_350 : Cond.static ({ cls := "java/lang/Math", name := "max", desc := "(II)I" } : MethodName) ∈ zWS := zws_m 350 (by decide +kernel) rfl
theorem m_351 : Cond.code ({ cls := "java/lang/Math", name := "max", desc := "(II)I" } : MethodName) prog_15_method_65_code (2 : Nat) (Option.some FieldType.int) ∈ zWS := zws_m 351 (by decide +kernel) rfl
theorem m_352 : Cond.methodLink "ScrimshawKernel$Flood" (70 : Nat) ({ cls := "ScrimshawKernel$Flood", name := "removeFound", desc := "()V" } : MethodName) ∈ zWS := zws_m 352 (by decide +kernel) rfl
theorem m_354 : Cond.instanceMethod ({ cls := "ScrimshawKernel$Flood", name := "removeFound", desc := "()V" } : MethodName) ∈ zWS := zws_m 354 (by decide +kernel) rfl
theorem m_355 : Cond.code ({ cls := "ScrimshawKernel$Flood", name := "removeFound", desc := "()V" } : MethodName) prog_3_method_9_code (2 : Nat) (Option.none : Option FieldType) ∈ zWS := zws_m 355 (by decide +kernel) rfl
theorem m_356 : Cond.constantLong "ScrimshawKernel$Flood" (46 : Nat) (-1 : Int64) ∈ zWS := zws_m 356 (by decide +kernel) rfl
theorem m_357 : Cond.methodLink "ScrimshawKernel" (199 : Nat) ({ cls := "ScrimshawKernel$Flood", name := "countHoles", desc := "(LScrimshawKernel$Fields;)I" } : MethodName) ∈ zWS := zws_m 357 (by decide +kernel) rfl
theorem m_358 : Cond.instanceMethod ({ cls := "ScrimshawKernel$Flood", name := "countHoles", desc := "(LScrimshawKernel$Fields;)I" } : MethodName) ∈ zWS := zws_m 358 (by decide +kernel) rfl
theorem m_359 : Cond.selects "ScrimshawKernel$Flood" ({ cls := "ScrimshawKernel$Flood", name := "countHoles", desc := "(LScrimshawKernel$Fields;)I" } : MethodName) ({ cls := "ScrimshawKernel$Flood", name := "countHoles", desc := "(LScrimshawKernel$Fields;)I" } : MethodName) ∈ zWS := zws_m 359 (by decide +kernel) rfl
theorem m_360 : Cond.code ({ cls := "ScrimshawKernel$Flood", name := "countHoles", desc := "(LScrimshawKernel$Fields;)I" } : MethodName) prog_3_method_3_code (2 : Nat) (Option.some FieldType.int) ∈ zWS := zws_m 360 (by decide +kernel) rfl
theorem m_361 : Cond.methodLink "ScrimshawKernel$Flood" (29 : Nat) ({ cls := "ScrimshawKernel$Flood", name := "findHoles", desc := "(LScrimshawKernel$Fields;)V" } : MethodName) ∈ zWS := zws_m 361 (by decide +kernel) rfl
theorem m_363 : Cond.instanceMethod ({ cls := "ScrimshawKernel$Flood", name := "findHoles", desc := "(LScrimshawKernel$Fields;)V" } : MethodName) ∈ zWS := zws_m 363 (by decide +kernel) rfl
theorem m_364 : Cond.code ({ cls := "ScrimshawKernel$Flood", name := "findHoles", desc := "(LScrimshawKernel$Fields;)V" } : MethodName) prog_3_method_6_code (6 : Nat) (Option.none : Option FieldType) ∈ zWS := zws_m 364 (by decide +kernel) rfl
theorem m_365 : lw_tbl[365]? = some (Cond.methodLinkNest "ScrimshawKernel$Flood" (48 : Nat) ({ cls := "ScrimshawKernel", name := "bit", desc := "(I)J" } : MethodName) "ScrimshawKernel") := by decide +kernel
theorem m_366 : Cond.static ({ cls := "ScrimshawKernel", name := "bit", desc := "(I)J" } : MethodName) ∈ zWS := zws_m 366 (by decide +kernel) rfl
theorem m_367 : Cond.code ({ cls := "ScrimshawKernel", name := "bit", desc := "(I)J" } : MethodName) prog_1_method_54_code (1 : Nat) (Option.some FieldType.long) ∈ zWS := zws_m 367 (by decide +kernel) rfl
theorem m_368 : Cond.methodLink "ScrimshawKernel" (208 : Nat) ({ cls := "ScrimshawKernel", name := "boundOf", desc := "(LScrimshawKernel$Fields;I)I" } : MethodName) ∈ zWS := zws_m 368 (by decide +kernel) rfl
theorem m_369 : Cond.static ({ cls := "ScrimshawKernel", name := "boundOf", desc := "(LScrimshawKernel$Fields;I)I" } : MethodName) ∈ zWS := zws_m 369 (by decide +kernel) rfl
theorem m_370 : Cond.code ({ cls := "ScrimshawKernel", name := "boundOf", desc := "(LScrimshawKernel$Fields;I)I" } : MethodName) prog_1_method_45_code (2 : Nat) (Option.some FieldType.int) ∈ zWS := zws_m 370 (by decide +kernel) rfl
theorem m_371 : Cond.methodLink "ScrimshawKernel" (138 : Nat) ({ cls := "ScrimshawKernel$Fields", name := "leastX", desc := "()I" } : MethodName) ∈ zWS := zws_m 371 (by decide +kernel) rfl
theorem m_372 : Cond.instanceMethod ({ cls := "ScrimshawKernel$Fields", name := "leastX", desc := "()I" } : MethodName) ∈ zWS := zws_m 372 (by decide +kernel) rfl
theorem m_373 : Cond.selects "ScrimshawKernel$Fields" ({ cls := "ScrimshawKernel$Fields", name := "leastX", desc := "()I" } : MethodName) ({ cls := "ScrimshawKernel$Fields", name := "leastX", desc := "()I" } : MethodName) ∈ zWS := zws_m 373 (by decide +kernel) rfl
theorem m_374 : Cond.code ({ cls := "ScrimshawKernel$Fields", name := "leastX", desc := "()I" } : MethodName) prog_2_method_16_code (3 : Nat) (Option.some FieldType.int) ∈ zWS := zws_m 374 (by decide +kernel) rfl
theorem m_375 : Cond.methodLink "ScrimshawKernel$Fields" (21 : Nat) ({ cls := "ScrimshawKernel$Fields", name := "columns", desc := "()J" } : MethodName) ∈ zWS := zws_m 375 (by decide +kernel) rfl
theorem m_377 : Cond.instanceMethod ({ cls := "ScrimshawKernel$Fields", name := "columns", desc := "()J" } : MethodName) ∈ zWS := zws_m 377 (by decide +kernel) rfl
theorem m_378 : Cond.code ({ cls := "ScrimshawKernel$Fields", name := "columns", desc := "()J" } : MethodName) prog_2_method_15_code (4 : Nat) (Option.some FieldType.long) ∈ zWS := zws_m 378 (by decide +kernel) rfl
theorem m_379 : lw_tbl[379]? = some (Cond.methodLinkNest "ScrimshawKernel$Fields" (45 : Nat) ({ cls := "ScrimshawKernel", name := "lowestBit", desc := "(J)I" } : MethodName) "ScrimshawKernel") := by decide +kernel
theorem m_380 : Cond.methodLink "ScrimshawKernel" (144 : Nat) ({ cls := "ScrimshawKernel$Fields", name := "leastY", desc := "()I" } : MethodName) ∈ zWS := zws_m 380 (by decide +kernel) rfl
theorem m_381 : Cond.instanceMethod ({ cls := "ScrimshawKernel$Fields", name := "leastY", desc := "()I" } : MethodName) ∈ zWS := zws_m 381 (by decide +kernel) rfl
theorem m_382 : Cond.selects "ScrimshawKernel$Fields" ({ cls := "ScrimshawKernel$Fields", name := "leastY", desc := "()I" } : MethodName) ({ cls := "ScrimshawKernel$Fields", name := "leastY", desc := "()I" } : MethodName) ∈ zWS := zws_m 382 (by decide +kernel) rfl
theorem m_383 : Cond.code ({ cls := "ScrimshawKernel$Fields", name := "leastY", desc := "()I" } : MethodName) prog_2_method_18_code (2 : Nat) (Option.some FieldType.int) ∈ zWS := zws_m 383 (by decide +kernel) rfl
theorem m_384 : Cond.methodLink "ScrimshawKernel" (141 : Nat) ({ cls := "ScrimshawKernel$Fields", name := "greatestX", desc := "()I" } : MethodName) ∈ zWS := zws_m 384 (by decide +kernel) rfl
theorem m_385 : Cond.instanceMethod ({ cls := "ScrimshawKernel$Fields", name := "greatestX", desc := "()I" } : MethodName) ∈ zWS := zws_m 385 (by decide +kernel) rfl
theorem m_386 : Cond.selects "ScrimshawKernel$Fields" ({ cls := "ScrimshawKernel$Fields", name := "greatestX", desc := "()I" } : MethodName) ({ cls := "ScrimshawKernel$Fields", name := "greatestX", desc := "()I" } : MethodName) ∈ zWS := zws_m 386 (by decide +kernel) rfl
theorem m_387 : Cond.code ({ cls := "ScrimshawKernel$Fields", name := "greatestX", desc := "()I" } : MethodName) prog_2_method_17_code (4 : Nat) (Option.some FieldType.int) ∈ zWS := zws_m 387 (by decide +kernel) rfl
theorem m_388 : lw_tbl[388]? = some (Cond.methodLinkNest "ScrimshawKernel$Fields" (48 : Nat) ({ cls := "ScrimshawKernel", name := "bit", desc := "(I)J" } : MethodName) "ScrimshawKernel") := by decide +kernel
theorem m_389 : Cond.methodLink "ScrimshawKernel" (147 : Nat) ({ cls := "ScrimshawKernel$Fields", name := "greatestY", desc := "()I" } : MethodName) ∈ zWS := zws_m 389 (by decide +kernel) rfl
theorem m_390 : Cond.instanceMethod ({ cls := "ScrimshawKernel$Fields", name := "greatestY", desc := "()I" } : MethodName) ∈ zWS := zws_m 390 (by decide +kernel) rfl
theorem m_391 : Cond.selects "ScrimshawKernel$Fields" ({ cls := "ScrimshawKernel$Fields", name := "greatestY", desc := "()I" } : MethodName) ({ cls := "ScrimshawKernel$Fields", name := "greatestY", desc := "()I" } : MethodName) ∈ zWS := zws_m 391 (by decide +kernel) rfl
theorem m_392 : Cond.code ({ cls := "ScrimshawKernel$Fields", name := "greatestY", desc := "()I" } : MethodName) prog_2_method_19_code (2 : Nat) (Option.some FieldType.int) ∈ zWS := zws_m 392 (by decide +kernel) rfl
theorem m_393 : Cond.methodLink "ScrimshawKernel" (212 : Nat) ({ cls := "ScrimshawKernel$Outline", name := "countContours", desc := "(LScrimshawKernel$Fields;)I" } : MethodName) ∈ zWS := zws_m 393 (by decide +kernel) rfl
theorem m_394 : Cond.instanceMethod ({ cls := "ScrimshawKernel$Outline", name := "countContours", desc := "(LScrimshawKernel$Fields;)I" } : MethodName) ∈ zWS := zws_m 394 (by decide +kernel) rfl
theorem m_395 : Cond.selects "ScrimshawKernel$Outline" ({ cls := "ScrimshawKernel$Outline", name := "countContours", desc := "(LScrimshawKernel$Fields;)I" } : MethodName) ({ cls := "ScrimshawKernel$Outline", name := "countContours", desc := "(LScrimshawKernel$Fields;)I" } : MethodName) ∈ zWS := zws_m 395 (by decide +kernel) rfl
theorem m_396 : Cond.code ({ cls := "ScrimshawKernel$Outline", name := "countContours", desc := "(LScrimshawKernel$Fields;)I" } : MethodName) prog_5_method_6_code (3 : Nat) (Option.some FieldType.int) ∈ zWS := zws_m 396 (by decide +kernel) rfl
theorem m_397 : Cond.methodLink "ScrimshawKernel$Outline" (37 : Nat) ({ cls := "ScrimshawKernel$Outline", name := "begin", desc := "(LScrimshawKernel$Fields;)V" } : MethodName) ∈ zWS := zws_m 397 (by decide +kernel) rfl
theorem m_398 : Cond.instanceMethod ({ cls := "ScrimshawKernel$Outline", name := "begin", desc := "(LScrimshawKernel$Fields;)V" } : MethodName) ∈ zWS := zws_m 398 (by decide +kernel) rfl
theorem m_399 : Cond.selects "ScrimshawKernel$Outline" ({ cls := "ScrimshawKernel$Outline", name := "begin", desc := "(LScrimshawKernel$Fields;)V" } : MethodName) ({ cls := "ScrimshawKernel$Outline", name := "begin", desc := "(LScrimshawKernel$Fields;)V" } : MethodName) ∈ zWS := zws_m 399 (by decide +kernel) rfl
theorem m_400 : Cond.code ({ cls := "ScrimshawKernel$Outline", name := "begin", desc := "(LScrimshawKernel$Fields;)V" } : MethodName) prog_5_method_8_code (2 : Nat) (Option.none : Option FieldType) ∈ zWS := zws_m 400 (by decide +kernel) rfl
theorem m_401 : Cond.methodLink "ScrimshawKernel$Outline" (45 : Nat) ({ cls := "ScrimshawKernel$Fields", name := "copy", desc := "(LScrimshawKernel$Fields;)V" } : MethodName) ∈ zWS := zws_m 401 (by decide +kernel) rfl
theorem m_402 : Cond.methodLink "ScrimshawKernel$Outline" (48 : Nat) ({ cls := "ScrimshawKernel$Fields", name := "empty", desc := "()V" } : MethodName) ∈ zWS := zws_m 402 (by decide +kernel) rfl
theorem m_403 : Cond.methodLink "ScrimshawKernel$Outline" (41 : Nat) ({ cls := "ScrimshawKernel$Outline", name := "next", desc := "(I)Z" } : MethodName) ∈ zWS := zws_m 403 (by decide +kernel) rfl
theorem m_404 : Cond.instanceMethod ({ cls := "ScrimshawKernel$Outline", name := "next", desc := "(I)Z" } : MethodName) ∈ zWS := zws_m 404 (by decide +kernel) rfl
theorem m_405 : Cond.selects "ScrimshawKernel$Outline" ({ cls := "ScrimshawKernel$Outline", name := "next", desc := "(I)Z" } : MethodName) ({ cls := "ScrimshawKernel$Outline", name := "next", desc := "(I)Z" } : MethodName) ∈ zWS := zws_m 405 (by decide +kernel) rfl
theorem m_406 : Cond.code ({ cls := "ScrimshawKernel$Outline", name := "next", desc := "(I)Z" } : MethodName) prog_5_method_9_code (8 : Nat) (Option.some FieldType.boolean) ∈ zWS := zws_m 406 (by decide +kernel) rfl
theorem m_407 : Cond.methodLink "ScrimshawKernel$Outline" (57 : Nat) ({ cls := "ScrimshawKernel$Fields", name := "row", desc := "(I)J" } : MethodName) ∈ zWS := zws_m 407 (by decide +kernel) rfl
theorem m_408 : Cond.constantLong "ScrimshawKernel$Outline" (61 : Nat) (-1 : Int64) ∈ zWS := zws_m 408 (by decide +kernel) rfl
theorem m_409 : lw_tbl[409]? = some (Cond.methodLinkNest "ScrimshawKernel$Outline" (63 : Nat) ({ cls := "ScrimshawKernel", name := "lowestBit", desc := "(J)I" } : MethodName) "ScrimshawKernel") := by decide +kernel
theorem m_410 : Cond.methodLink "ScrimshawKernel$Outline" (67 : Nat) ({ cls := "ScrimshawKernel$Outline", name := "beginAt", desc := "(II)V" } : MethodName) ∈ zWS := zws_m 410 (by decide +kernel) rfl
theorem m_412 : Cond.instanceMethod ({ cls := "ScrimshawKernel$Outline", name := "beginAt", desc := "(II)V" } : MethodName) ∈ zWS := zws_m 412 (by decide +kernel) rfl
theorem m_413 : Cond.code ({ cls := "ScrimshawKernel$Outline", name := "beginAt", desc := "(II)V" } : MethodName) prog_5_method_10_code (3 : Nat) (Option.none : Option FieldType) ∈ zWS := zws_m 413 (by decide +kernel) rfl
theorem m_414 : Cond.methodLink "ScrimshawKernel$Outline" (77 : Nat) ({ cls := "java/lang/Math", name := "min", desc := "(II)I" } : MethodName) ∈ zWS := zws_m 414 (by decide +kernel) rfl
theorem m_415 : Cond.methodLink "ScrimshawKernel$Outline" (71 : Nat) ({ cls := "ScrimshawKernel$Outline", name := "walk", desc := "()V" } : MethodName) ∈ zWS := zws_m 415 (by decide +kernel) rfl
theorem m_417 : Cond.instanceMethod ({ cls := "ScrimshawKernel$Outline", name := "walk", desc := "()V" } : MethodName) ∈ zWS := zws_m 417 (by decide +kernel) rfl
theorem m_418 : Cond.code ({ cls := "ScrimshawKernel$Outline", name := "walk", desc := "()V" } : MethodName) prog_5_method_11_code (6 : Nat) (Option.none : Option FieldType) ∈ zWS := zws_m 418 (by decide +kernel) rfl
theorem m_419 : Cond.methodLink "ScrimshawKernel$Outline" (89 : Nat) ({ cls := "ScrimshawKernel$Outline", name := "noteCorner", desc := "()V" } : MethodName) ∈ zWS := zws_m 419 (by decide +kernel) rfl
theorem m_421 : Cond.instanceMethod ({ cls := "ScrimshawKernel$Outline", name := "noteCorner", desc := "()V" } : MethodName) ∈ zWS := zws_m 421 (by decide +kernel) rfl
theorem m_422 : Cond.code ({ cls := "ScrimshawKernel$Outline", name := "noteCorner", desc := "()V" } : MethodName) prog_5_method_12_code (1 : Nat) (Option.none : Option FieldType) ∈ zWS := zws_m 422 (by decide +kernel) rfl
theorem m_423 : Cond.methodLink "ScrimshawKernel$Outline" (92 : Nat) ({ cls := "ScrimshawKernel$Outline", name := "noteEdge", desc := "()V" } : MethodName) ∈ zWS := zws_m 423 (by decide +kernel) rfl
theorem m_425 : Cond.instanceMethod ({ cls := "ScrimshawKernel$Outline", name := "noteEdge", desc := "()V" } : MethodName) ∈ zWS := zws_m 425 (by decide +kernel) rfl
theorem m_426 : Cond.code ({ cls := "ScrimshawKernel$Outline", name := "noteEdge", desc := "()V" } : MethodName) prog_5_method_13_code (1 : Nat) (Option.none : Option FieldType) ∈ zWS := zws_m 426 (by decide +kernel) rfl
theorem m_427 : Cond.methodLink "ScrimshawKernel$Outline" (98 : Nat) ({ cls := "ScrimshawKernel$Fields", name := "add", desc := "(II)V" } : MethodName) ∈ zWS := zws_m 427 (by decide +kernel) rfl
theorem m_428 : Cond.methodLink "ScrimshawKernel$Outline" (95 : Nat) ({ cls := "ScrimshawKernel$Outline", name := "goOn", desc := "()V" } : MethodName) ∈ zWS := zws_m 428 (by decide +kernel) rfl
theorem m_430 : Cond.instanceMethod ({ cls := "ScrimshawKernel$Outline", name := "goOn", desc := "()V" } : MethodName) ∈ zWS := zws_m 430 (by decide +kernel) rfl
theorem m_431 : Cond.code ({ cls := "ScrimshawKernel$Outline", name := "goOn", desc := "()V" } : MethodName) prog_5_method_14_code (3 : Nat) (Option.none : Option FieldType) ∈ zWS := zws_m 431 (by decide +kernel) rfl
theorem m_432 : Cond.methodLink "ScrimshawKernel$Outline" (101 : Nat) ({ cls := "ScrimshawKernel$Fields", name := "holds", desc := "(II)Z" } : MethodName) ∈ zWS := zws_m 432 (by decide +kernel) rfl
theorem m_433 : Cond.instanceMethod ({ cls := "ScrimshawKernel$Fields", name := "holds", desc := "(II)Z" } : MethodName) ∈ zWS := zws_m 433 (by decide +kernel) rfl
theorem m_434 : Cond.selects "ScrimshawKernel$Fields" ({ cls := "ScrimshawKernel$Fields", name := "holds", desc := "(II)Z" } : MethodName) ({ cls := "ScrimshawKernel$Fields", name := "holds", desc := "(II)Z" } : MethodName) ∈ zWS := zws_m 434 (by decide +kernel) rfl
theorem m_435 : Cond.code ({ cls := "ScrimshawKernel$Fields", name := "holds", desc := "(II)Z" } : MethodName) prog_2_method_4_code (5 : Nat) (Option.some FieldType.boolean) ∈ zWS := zws_m 435 (by decide +kernel) rfl
theorem m_436 : Cond.methodLink "ScrimshawKernel" (282 : Nat) ({ cls := "ScrimshawKernel", name := "digestOfContours", desc := "(JLScrimshawKernel$Fields;)J" } : MethodName) ∈ zWS := zws_m 436 (by decide +kernel) rfl
theorem m_438 : Cond.instanceMethod ({ cls := "ScrimshawKernel", name := "digestOfContours", desc := "(JLScrimshawKernel$Fields;)J" } : MethodName) ∈ zWS := zws_m 438 (by decide +kernel) rfl
theorem m_439 : Cond.code ({ cls := "ScrimshawKernel", name := "digestOfContours", desc := "(JLScrimshawKernel$Fields;)J" } : MethodName) prog_1_method_52_code (7 : Nat) (Option.some FieldType.long) ∈ zWS := zws_m 439 (by decide +kernel) rfl
theorem m_440 : Cond.methodLink "ScrimshawKernel" (330 : Nat) ({ cls := "ScrimshawKernel$Outline", name := "begin", desc := "(LScrimshawKernel$Fields;)V" } : MethodName) ∈ zWS := zws_m 440 (by decide +kernel) rfl
theorem m_441 : Cond.methodLink "ScrimshawKernel" (332 : Nat) ({ cls := "ScrimshawKernel$Outline", name := "next", desc := "(I)Z" } : MethodName) ∈ zWS := zws_m 441 (by decide +kernel) rfl
theorem m_442 : Cond.methodLink "ScrimshawKernel" (219 : Nat) ({ cls := "ScrimshawKernel$Outline", name := "cornerCount", desc := "()I" } : MethodName) ∈ zWS := zws_m 442 (by decide +kernel) rfl
theorem m_443 : Cond.instanceMethod ({ cls := "ScrimshawKernel$Outline", name := "cornerCount", desc := "()I" } : MethodName) ∈ zWS := zws_m 443 (by decide +kernel) rfl
theorem m_444 : Cond.selects "ScrimshawKernel$Outline" ({ cls := "ScrimshawKernel$Outline", name := "cornerCount", desc := "()I" } : MethodName) ({ cls := "ScrimshawKernel$Outline", name := "cornerCount", desc := "()I" } : MethodName) ∈ zWS := zws_m 444 (by decide +kernel) rfl
theorem m_445 : Cond.code ({ cls := "ScrimshawKernel$Outline", name := "cornerCount", desc := "()I" } : MethodName) prog_5_method_2_code (1 : Nat) (Option.some FieldType.int) ∈ zWS := zws_m 445 (by decide +kernel) rfl
theorem m_446 : Cond.methodLink "ScrimshawKernel" (228 : Nat) ({ cls := "ScrimshawKernel$Outline", name := "areaAround", desc := "()I" } : MethodName) ∈ zWS := zws_m 446 (by decide +kernel) rfl
theorem m_447 : Cond.instanceMethod ({ cls := "ScrimshawKernel$Outline", name := "areaAround", desc := "()I" } : MethodName) ∈ zWS := zws_m 447 (by decide +kernel) rfl
theorem m_448 : Cond.selects "ScrimshawKernel$Outline" ({ cls := "ScrimshawKernel$Outline", name := "areaAround", desc := "()I" } : MethodName) ({ cls := "ScrimshawKernel$Outline", name := "areaAround", desc := "()I" } : MethodName) ∈ zWS := zws_m 448 (by decide +kernel) rfl
theorem m_449 : Cond.code ({ cls := "ScrimshawKernel$Outline", name := "areaAround", desc := "()I" } : MethodName) prog_5_method_3_code (1 : Nat) (Option.some FieldType.int) ∈ zWS := zws_m 449 (by decide +kernel) rfl
theorem m_450 : Cond.methodLink "ScrimshawKernel" (222 : Nat) ({ cls := "ScrimshawKernel$Outline", name := "wantedX", desc := "()I" } : MethodName) ∈ zWS := zws_m 450 (by decide +kernel) rfl
theorem m_451 : Cond.instanceMethod ({ cls := "ScrimshawKernel$Outline", name := "wantedX", desc := "()I" } : MethodName) ∈ zWS := zws_m 451 (by decide +kernel) rfl
theorem m_452 : Cond.selects "ScrimshawKernel$Outline" ({ cls := "ScrimshawKernel$Outline", name := "wantedX", desc := "()I" } : MethodName) ({ cls := "ScrimshawKernel$Outline", name := "wantedX", desc := "()I" } : MethodName) ∈ zWS := zws_m 452 (by decide +kernel) rfl
theorem m_453 : Cond.code ({ cls := "ScrimshawKernel$Outline", name := "wantedX", desc := "()I" } : MethodName) prog_5_method_4_code (1 : Nat) (Option.some FieldType.int) ∈ zWS := zws_m 453 (by decide +kernel) rfl
theorem m_454 : Cond.methodLink "ScrimshawKernel" (225 : Nat) ({ cls := "ScrimshawKernel$Outline", name := "wantedY", desc := "()I" } : MethodName) ∈ zWS := zws_m 454 (by decide +kernel) rfl
theorem m_455 : Cond.instanceMethod ({ cls := "ScrimshawKernel$Outline", name := "wantedY", desc := "()I" } : MethodName) ∈ zWS := zws_m 455 (by decide +kernel) rfl
theorem m_456 : Cond.selects "ScrimshawKernel$Outline" ({ cls := "ScrimshawKernel$Outline", name := "wantedY", desc := "()I" } : MethodName) ({ cls := "ScrimshawKernel$Outline", name := "wantedY", desc := "()I" } : MethodName) ∈ zWS := zws_m 456 (by decide +kernel) rfl
theorem m_457 : Cond.code ({ cls := "ScrimshawKernel$Outline", name := "wantedY", desc := "()I" } : MethodName) prog_5_method_5_code (1 : Nat) (Option.some FieldType.int) ∈ zWS := zws_m 457 (by decide +kernel) rfl
theorem m_458 : Cond.methodLink "ScrimshawKernel" (231 : Nat) ({ cls := "ScrimshawKernel$StripWalk", name := "countStrips", desc := "(LScrimshawKernel$Fields;)I" } : MethodName) ∈ zWS := zws_m 458 (by decide +kernel) rfl
theorem m_459 : Cond.instanceMethod ({ cls := "ScrimshawKernel$StripWalk", name := "countStrips", desc := "(LScrimshawKernel$Fields;)I" } : MethodName) ∈ zWS := zws_m 459 (by decide +kernel) rfl
theorem m_460 : Cond.selects "ScrimshawKernel$StripWalk" ({ cls := "ScrimshawKernel$StripWalk", name := "countStrips", desc := "(LScrimshawKernel$Fields;)I" } : MethodName) ({ cls := "ScrimshawKernel$StripWalk", name := "countStrips", desc := "(LScrimshawKernel$Fields;)I" } : MethodName) ∈ zWS := zws_m 460 (by decide +kernel) rfl
theorem m_461 : Cond.code ({ cls := "ScrimshawKernel$StripWalk", name := "countStrips", desc := "(LScrimshawKernel$Fields;)I" } : MethodName) prog_7_method_3_code (3 : Nat) (Option.some FieldType.int) ∈ zWS := zws_m 461 (by decide +kernel) rfl
theorem m_462 : Cond.methodLink "ScrimshawKernel$StripWalk" (31 : Nat) ({ cls := "ScrimshawKernel$StripWalk", name := "begin", desc := "(LScrimshawKernel$Fields;)V" } : MethodName) ∈ zWS := zws_m 462 (by decide +kernel) rfl
theorem m_463 : Cond.instanceMethod ({ cls := "ScrimshawKernel$StripWalk", name := "begin", desc := "(LScrimshawKernel$Fields;)V" } : MethodName) ∈ zWS := zws_m 463 (by decide +kernel) rfl
theorem m_464 : Cond.selects "ScrimshawKernel$StripWalk" ({ cls := "ScrimshawKernel$StripWalk", name := "begin", desc := "(LScrimshawKernel$Fields;)V" } : MethodName) ({ cls := "ScrimshawKernel$StripWalk", name := "begin", desc := "(LScrimshawKernel$Fields;)V" } : MethodName) ∈ zWS := zws_m 464 (by decide +kernel) rfl
theorem m_465 : Cond.code ({ cls := "ScrimshawKernel$StripWalk", name := "begin", desc := "(LScrimshawKernel$Fields;)V" } : MethodName) prog_7_method_5_code (2 : Nat) (Option.none : Option FieldType) ∈ zWS := zws_m 465 (by decide +kernel) rfl
theorem m_466 : Cond.methodLink "ScrimshawKernel$StripWalk" (39 : Nat) ({ cls := "ScrimshawKernel$Fields", name := "copy", desc := "(LScrimshawKernel$Fields;)V" } : MethodName) ∈ zWS := zws_m 466 (by decide +kernel) rfl
theorem m_467 : Cond.methodLink "ScrimshawKernel$StripWalk" (45 : Nat) ({ cls := "ScrimshawKernel$Fields", name := "row", desc := "(I)J" } : MethodName) ∈ zWS := zws_m 467 (by decide +kernel) rfl
theorem m_468 : Cond.methodLink "ScrimshawKernel$StripWalk" (35 : Nat) ({ cls := "ScrimshawKernel$StripWalk", name := "next", desc := "()Z" } : MethodName) ∈ zWS := zws_m 468 (by decide +kernel) rfl
theorem m_469 : Cond.instanceMethod ({ cls := "ScrimshawKernel$StripWalk", name := "next", desc := "()Z" } : MethodName) ∈ zWS := zws_m 469 (by decide +kernel) rfl
theorem m_470 : Cond.selects "ScrimshawKernel$StripWalk" ({ cls := "ScrimshawKernel$StripWalk", name := "next", desc := "()Z" } : MethodName) ({ cls := "ScrimshawKernel$StripWalk", name := "next", desc := "()Z" } : MethodName) ∈ zWS := zws_m 470 (by decide +kernel) rfl
theorem m_471 : Cond.code ({ cls := "ScrimshawKernel$StripWalk", name := "next", desc := "()Z" } : MethodName) prog_7_method_6_code (4 : Nat) (Option.some FieldType.boolean) ∈ zWS := zws_m 471 (by decide +kernel) rfl
theorem m_472 : Cond.methodLink "ScrimshawKernel$StripWalk" (53 : Nat) ({ cls := "ScrimshawKernel$StripWalk", name := "firstRun", desc := "(J)J" } : MethodName) ∈ zWS := zws_m 472 (by decide +kernel) rfl
theorem m_473 : Cond.static ({ cls := "ScrimshawKernel$StripWalk", name := "firstRun", desc := "(J)J" } : MethodName) ∈ zWS := zws_m 473 (by decide +kernel) rfl
theorem m_474 : Cond.code ({ cls := "ScrimshawKernel$StripWalk", name := "firstRun", desc := "(J)J" } : MethodName) prog_7_method_9_code (2 : Nat) (Option.some FieldType.long) ∈ zWS := zws_m 474 (by decide +kernel) rfl
theorem m_475 : Cond.constantLong "ScrimshawKernel$StripWalk" (57 : Nat) (-1 : Int64) ∈ zWS := zws_m 475 (by decide +kernel) rfl
theorem m_476 : Cond.methodLink "ScrimshawKernel$StripWalk" (59 : Nat) ({ cls := "ScrimshawKernel$StripWalk", name := "isRunAt", desc := "(IJ)Z" } : MethodName) ∈ zWS := zws_m 476 (by decide +kernel) rfl
theorem m_478 : Cond.instanceMethod ({ cls := "ScrimshawKernel$StripWalk", name := "isRunAt", desc := "(IJ)Z" } : MethodName) ∈ zWS := zws_m 478 (by decide +kernel) rfl
theorem m_479 : Cond.code ({ cls := "ScrimshawKernel$StripWalk", name := "isRunAt", desc := "(IJ)Z" } : MethodName) prog_7_method_8_code (4 : Nat) (Option.some FieldType.boolean) ∈ zWS := zws_m 479 (by decide +kernel) rfl
theorem m_480 : Cond.methodLink "ScrimshawKernel$StripWalk" (63 : Nat) ({ cls := "ScrimshawKernel$StripWalk", name := "take", desc := "(J)V" } : MethodName) ∈ zWS := zws_m 480 (by decide +kernel) rfl
theorem m_482 : Cond.instanceMethod ({ cls := "ScrimshawKernel$StripWalk", name := "take", desc := "(J)V" } : MethodName) ∈ zWS := zws_m 482 (by decide +kernel) rfl
theorem m_483 : Cond.code ({ cls := "ScrimshawKernel$StripWalk", name := "take", desc := "(J)V" } : MethodName) prog_7_method_7_code (3 : Nat) (Option.none : Option FieldType) ∈ zWS := zws_m 483 (by decide +kernel) rfl
theorem m_484 : lw_tbl[484]? = some (Cond.methodLinkNest "ScrimshawKernel$StripWalk" (67 : Nat) ({ cls := "ScrimshawKernel", name := "lowestBit", desc := "(J)I" } : MethodName) "ScrimshawKernel") := by decide +kernel
theorem m_485 : Cond.methodLink "ScrimshawKernel$StripWalk" (71 : Nat) ({ cls := "java/lang/Long", name := "bitCount", desc := "(J)I" } : MethodName) ∈ zWS := zws_m 485 (by decide +kernel) rfl
theorem m_486 : Cond.methodLink "ScrimshawKernel" (286 : Nat) ({ cls := "ScrimshawKernel", name := "digestOfStrips", desc := "(JLScrimshawKernel$Fields;)J" } : MethodName) ∈ zWS := zws_m 486 (by decide +kernel) rfl
theorem m_488 : Cond.instanceMethod ({ cls := "ScrimshawKernel", name := "digestOfStrips", desc := "(JLScrimshawKernel$Fields;)J" } : MethodName) ∈ zWS := zws_m 488 (by decide +kernel) rfl
theorem m_489 : Cond.code ({ cls := "ScrimshawKernel", name := "digestOfStrips", desc := "(JLScrimshawKernel$Fields;)J" } : MethodName) prog_1_method_53_code (8 : Nat) (Option.some FieldType.long) ∈ zWS := zws_m 489 (by decide +kernel) rfl
theorem m_490 : Cond.methodLink "ScrimshawKernel" (336 : Nat) ({ cls := "ScrimshawKernel$StripWalk", name := "begin", desc := "(LScrimshawKernel$Fields;)V" } : MethodName) ∈ zWS := zws_m 490 (by decide +kernel) rfl
theorem m_491 : Cond.methodLink "ScrimshawKernel" (337 : Nat) ({ cls := "ScrimshawKernel$StripWalk", name := "next", desc := "()Z" } : MethodName) ∈ zWS := zws_m 491 (by decide +kernel) rfl
theorem m_492 : Cond.methodLink "ScrimshawKernel" (245 : Nat) ({ cls := "ScrimshawKernel$StripWalk", name := "measure", desc := "(I)I" } : MethodName) ∈ zWS := zws_m 492 (by decide +kernel) rfl
theorem m_493 : Cond.instanceMethod ({ cls := "ScrimshawKernel$StripWalk", name := "measure", desc := "(I)I" } : MethodName) ∈ zWS := zws_m 493 (by decide +kernel) rfl
theorem m_494 : Cond.selects "ScrimshawKernel$StripWalk" ({ cls := "ScrimshawKernel$StripWalk", name := "measure", desc := "(I)I" } : MethodName) ({ cls := "ScrimshawKernel$StripWalk", name := "measure", desc := "(I)I" } : MethodName) ∈ zWS := zws_m 494 (by decide +kernel) rfl
theorem m_495 : Cond.code ({ cls := "ScrimshawKernel$StripWalk", name := "measure", desc := "(I)I" } : MethodName) prog_7_method_2_code (2 : Nat) (Option.some FieldType.int) ∈ zWS := zws_m 495 (by decide +kernel) rfl
theorem m_496 : Cond.methodLink "ScrimshawKernel" (289 : Nat) ({ cls := "ScrimshawKernel$History", name := "count", desc := "()I" } : MethodName) ∈ zWS := zws_m 496 (by decide +kernel) rfl
theorem m_497 : Cond.instanceMethod ({ cls := "ScrimshawKernel$History", name := "count", desc := "()I" } : MethodName) ∈ zWS := zws_m 497 (by decide +kernel) rfl
theorem m_498 : Cond.selects "ScrimshawKernel$History" ({ cls := "ScrimshawKernel$History", name := "count", desc := "()I" } : MethodName) ({ cls := "ScrimshawKernel$History", name := "count", desc := "()I" } : MethodName) ∈ zWS := zws_m 498 (by decide +kernel) rfl
theorem m_499 : Cond.code ({ cls := "ScrimshawKernel$History", name := "count", desc := "()I" } : MethodName) prog_4_method_2_code (1 : Nat) (Option.some FieldType.int) ∈ zWS := zws_m 499 (by decide +kernel) rfl
theorem m_500 : Cond.methodLink "ScrimshawKernelLaw" (123 : Nat) ({ cls := "ScrimshawKernelLaw", name := "moveTo", desc := "(LScrimshawKernel;II[J)I" } : MethodName) ∈ zWS := zws_m 500 (by decide +kernel) rfl
theorem m_501 : Cond.static ({ cls := "ScrimshawKernelLaw", name := "moveTo", desc := "(LScrimshawKernel;II[J)I" } : MethodName) ∈ zWS := zws_m 501 (by decide +kernel) rfl
theorem m_502 : Cond.codeWith ({ cls := "ScrimshawKernelLaw", name := "moveTo", desc := "(LScrimshawKernel;II[J)I" } : MethodName) method_3_code (5 : Nat) (Option.some FieldType.int) [((0 : Nat), (10 : Nat), (13 : Nat), (13 : Nat))] ∈ zWS := zws_m 502 (by decide +kernel) rfl
theorem m_503 : Cond.classLink "ScrimshawKernelLaw" (13 : Nat) "java/lang/IllegalArgumentException" ∈ zWS := zws_m 503 (by decide +kernel) rfl
theorem m_504 : Cond.methodLink "ScrimshawKernelLaw" (7 : Nat) ({ cls := "ScrimshawKernel", name := "moveTo", desc := "(II)I" } : MethodName) ∈ zWS := zws_m 504 (by decide +kernel) rfl
theorem m_505 : Cond.instanceMethod ({ cls := "ScrimshawKernel", name := "moveTo", desc := "(II)I" } : MethodName) ∈ zWS := zws_m 505 (by decide +kernel) rfl
theorem m_506 : Cond.selects "ScrimshawKernel" ({ cls := "ScrimshawKernel", name := "moveTo", desc := "(II)I" } : MethodName) ({ cls := "ScrimshawKernel", name := "moveTo", desc := "(II)I" } : MethodName) ∈ zWS := zws_m 506 (by decide +kernel) rfl
theorem m_507 : Cond.code ({ cls := "ScrimshawKernel", name := "moveTo", desc := "(II)I" } : MethodName) prog_1_method_2_code (4 : Nat) (Option.some FieldType.int) ∈ zWS := zws_m 507 (by decide +kernel) rfl
theorem m_508 : Cond.methodLink "ScrimshawKernel" (55 : Nat) ({ cls := "ScrimshawKernel", name := "isInReach", desc := "(J)Z" } : MethodName) ∈ zWS := zws_m 508 (by decide +kernel) rfl
theorem m_509 : Cond.static ({ cls := "ScrimshawKernel", name := "isInReach", desc := "(J)Z" } : MethodName) ∈ zWS := zws_m 509 (by decide +kernel) rfl
theorem m_510 : Cond.code ({ cls := "ScrimshawKernel", name := "isInReach", desc := "(J)Z" } : MethodName) prog_1_method_43_code (2 : Nat) (Option.some FieldType.boolean) ∈ zWS := zws_m 510 (by decide +kernel) rfl
theorem m_511 : Cond.constantLong "ScrimshawKernel" (319 : Nat) (-24 : Int64) ∈ zWS := zws_m 511 (by decide +kernel) rfl
theorem m_512 : Cond.constantLong "ScrimshawKernel" (321 : Nat) (24 : Int64) ∈ zWS := zws_m 512 (by decide +kernel) rfl
theorem m_513 : Cond.classLink "ScrimshawKernel" (59 : Nat) "java/lang/IllegalArgumentException" ∈ zWS := zws_m 513 (by decide +kernel) rfl
theorem m_514 : Cond.instantiable "java/lang/IllegalArgumentException" (6 : Nat) ∈ zWS := zws_m 514 (by decide +kernel) rfl
theorem m_515 : lw_tbl[515]? = some (Cond.castable "java/lang/IllegalArgumentException" "java/lang/IllegalArgumentException") := by decide +kernel
theorem m_516 : lw_tbl[516]? = some (Cond.declares ({ cls := "java/lang/RuntimeException", name := "<init>", desc := "()V" } : MethodName)) := by decide +kernel
theorem m_517 : lw_tbl[517]? = some (Cond.declares ({ cls := "java/lang/RuntimeException", name := "<init>", desc := "(Ljava/lang/String;)V" } : MethodName)) := by decide +kernel
theorem m_518 : lw_tbl[518]? = some (Cond.declares ({ cls := "java/lang/Exception", name := "<init>", desc := "()V" } : MethodName)) := by decide +kernel
theorem m_519 : lw_tbl[519]? = some (Cond.declares ({ cls := "java/lang/Exception", name := "<init>", desc := "(Ljava/lang/String;)V" } : MethodName)) := by decide +kernel
theorem m_520 : lw_tbl[520]? = some (Cond.declares ({ cls := "java/lang/Throwable", name := "<init>", desc := "()V" } : MethodName)) := by decide +kernel
theorem m_521 : lw_tbl[521]? = some (Cond.declares ({ cls := "java/lang/Throwable", name := "<init>", desc := "(Ljava/lang/String;)V" } : MethodName)) := by decide +kernel
theorem m_522 : Cond.selects "java/lang/IllegalArgumentException" ({ cls := "java/lang/Throwable", name := "fillInStackTrace", desc := "(I)Ljava/lang/Throwable;" } : MethodName) ({ cls := "java/lang/Throwable", name := "fillInStackTrace", desc := "(I)Ljava/lang/Throwable;" } : MethodName) ∈ zWS := zws_m 522 (by decide +kernel) rfl
theorem m_523 : Cond.selects "java/lang/IllegalArgumentException" ({ cls := "java/lang/Throwable", name := "fillInStackTrace", desc := "()Ljava/lang/Throwable;" } : MethodName) ({ cls := "java/lang/Throwable", name := "fillInStackTrace", desc := "()Ljava/lang/Throwable;" } : MethodName) ∈ zWS := zws_m 523 (by decide +kernel) rfl
theorem m_524 : Cond.lays "java/lang/IllegalArgumentException" "java/lang/Throwable" "cause" "Ljava/lang/Throwable;" ∈ zWS := zws_m 524 (by decide +kernel) rfl
theorem m_525 : Cond.lays "java/lang/Throwable" "java/lang/Throwable" "cause" "Ljava/lang/Throwable;" ∈ zWS := zws_m 525 (by decide +kernel) rfl
theorem m_526 : Cond.lays "java/lang/IllegalArgumentException" "java/lang/Throwable" "stackTrace" "[Ljava/lang/StackTraceElement;" ∈ zWS := zws_m 526 (by decide +kernel) rfl
theorem m_527 : Cond.lays "java/lang/Throwable" "java/lang/Throwable" "stackTrace" "[Ljava/lang/StackTraceElement;" ∈ zWS := zws_m 527 (by decide +kernel) rfl
theorem m_528 : Cond.lays "java/lang/IllegalArgumentException" "java/lang/Throwable" "suppressedExceptions" "Ljava/util/List;" ∈ zWS := zws_m 528 (by decide +kernel) rfl
theorem m_529 : Cond.lays "java/lang/Throwable" "java/lang/Throwable" "suppressedExceptions" "Ljava/util/List;" ∈ zWS := zws_m 529 (by decide +kernel) rfl
theorem m_530 : Cond.lays "java/lang/IllegalArgumentException" "java/lang/Throwable" "detailMessage" "Ljava/lang/String;" ∈ zWS := zws_m 530 (by decide +kernel) rfl
theorem m_531 : Cond.lays "java/lang/Throwable" "java/lang/Throwable" "detailMessage" "Ljava/lang/String;" ∈ zWS := zws_m 531 (by decide +kernel) rfl
theorem m_532 : Cond.lays "java/lang/IllegalArgumentException" "java/lang/Throwable" "backtrace" "Ljava/lang/Object;" ∈ zWS := zws_m 532 (by decide +kernel) rfl
theorem m_533 : Cond.lays "java/lang/Throwable" "java/lang/Throwable" "backtrace" "Ljava/lang/Object;" ∈ zWS := zws_m 533 (by decide +kernel) rfl
theorem m_534 : Cond.fieldLink "java/lang/Throwable" (198 : Nat) "java/lang/Throwable" "backtrace" "Ljava/lang/Object;" ∈ zWS := zws_m 534 (by decide +kernel) rfl
theorem m_536 : Cond.instanceMethod ({ cls := "java/lang/Throwable", name := "<init>", desc := "()V" } : MethodName) ∈ zWS := zws_m 536 (by decide +kernel) rfl
theorem m_537 : Cond.code ({ cls := "java/lang/Throwable", name := "<init>", desc := "()V" } : MethodName) prog_19_method_1_code (1 : Nat) (Option.none : Option FieldType) ∈ zWS := zws_m 537 (by decide +kernel) rfl
theorem m_538 : Cond.methodLink "java/lang/Throwable" (1 : Nat) ({ cls := "java/lang/Object", name := "<init>", desc := "()V" } : MethodName) ∈ zWS := zws_m 538 (by decide +kernel) rfl
theorem m_539 : Cond.fieldLink "java/lang/Throwable" (13 : Nat) "java/lang/Throwable" "UNASSIGNED_STACK" "[Ljava/lang/StackTraceElement;" ∈ zWS := zws_m 539 (by decide +kernel) rfl
theorem m_540 : lw_tbl[540]? = some (Cond.laysStatic "java/lang/Throwable" "UNASSIGNED_STACK" "[Ljava/lang/StackTraceElement;") := by decide +kernel
theorem m_541 : Cond.fieldLink "java/lang/Throwable" (20 : Nat) "java/lang/Throwable" "SUPPRESSED_SENTINEL" "Ljava/util/List;" ∈ zWS := zws_m 541 (by decide +kernel) rfl
theorem m_542 : lw_tbl[542]? = some (Cond.laysStatic "java/lang/Throwable" "SUPPRESSED_SENTINEL" "Ljava/util/List;") := by decide +kernel
theorem m_543 : Cond.methodLink "java/lang/Throwable" (27 : Nat) ({ cls := "java/lang/Throwable", name := "fillInStackTrace", desc := "()Ljava/lang/Throwable;" } : MethodName) ∈ zWS := zws_m 543 (by decide +kernel) rfl
theorem m_544 : Cond.instanceMethod ({ cls := "java/lang/Throwable", name := "fillInStackTrace", desc := "()Ljava/lang/Throwable;" } : MethodName) ∈ zWS := zws_m 544 (by decide +kernel) rfl
theorem m_546 : Cond.selects "java/lang/IllegalStateException" ({ cls := "java/lang/Throwable", name := "fillInStackTrace", desc := "()Ljava/lang/Throwable;" } : MethodName) ({ cls := "java/lang/Throwable", name := "fillInStackTrace", desc := "()Ljava/lang/Throwable;" } : MethodName) ∈ zWS := zws_m 546 (by decide +kernel) rfl
theorem m_547 : Cond.selects "java/lang/IndexOutOfBoundsException" ({ cls := "java/lang/Throwable", name := "fillInStackTrace", desc := "()Ljava/lang/Throwable;" } : MethodName) ({ cls := "java/lang/Throwable", name := "fillInStackTrace", desc := "()Ljava/lang/Throwable;" } : MethodName) ∈ zWS := zws_m 547 (by decide +kernel) rfl
theorem m_549 : Cond.methodLink "java/lang/Throwable" (202 : Nat) ({ cls := "java/lang/Throwable", name := "fillInStackTrace", desc := "(I)Ljava/lang/Throwable;" } : MethodName) ∈ zWS := zws_m 549 (by decide +kernel) rfl
theorem m_551 : Cond.instanceMethod ({ cls := "java/lang/Throwable", name := "fillInStackTrace", desc := "(I)Ljava/lang/Throwable;" } : MethodName) ∈ zWS := zws_m 551 (by decide +kernel) rfl
theorem m_552 : Cond.instantiable "java/lang/Throwable" (6 : Nat) ∈ zWS := zws_m 552 (by decide +kernel) rfl
theorem m_554 : lw_tbl[554]? = some (Cond.stringRef "ScrimshawKernel" (61 : Nat) "x or y is not -24 to 24") := by decide +kernel
theorem m_555 : Cond.methodLink "ScrimshawKernel" (63 : Nat) ({ cls := "java/lang/IllegalArgumentException", name := "<init>", desc := "(Ljava/lang/String;)V" } : MethodName) ∈ zWS := zws_m 555 (by decide +kernel) rfl
theorem m_556 : Cond.instanceMethod ({ cls := "java/lang/IllegalArgumentException", name := "<init>", desc := "(Ljava/lang/String;)V" } : MethodName) ∈ zWS := zws_m 556 (by decide +kernel) rfl
theorem m_557 : Cond.code ({ cls := "java/lang/IllegalArgumentException", name := "<init>", desc := "(Ljava/lang/String;)V" } : MethodName) prog_11_method_2_code (2 : Nat) (Option.none : Option FieldType) ∈ zWS := zws_m 557 (by decide +kernel) rfl
theorem m_558 : Cond.methodLink "java/lang/IllegalArgumentException" (7 : Nat) ({ cls := "java/lang/RuntimeException", name := "<init>", desc := "(Ljava/lang/String;)V" } : MethodName) ∈ zWS := zws_m 558 (by decide +kernel) rfl
theorem m_559 : Cond.instanceMethod ({ cls := "java/lang/RuntimeException", name := "<init>", desc := "(Ljava/lang/String;)V" } : MethodName) ∈ zWS := zws_m 559 (by decide +kernel) rfl
theorem m_560 : Cond.code ({ cls := "java/lang/RuntimeException", name := "<init>", desc := "(Ljava/lang/String;)V" } : MethodName) prog_16_method_2_code (2 : Nat) (Option.none : Option FieldType) ∈ zWS := zws_m 560 (by decide +kernel) rfl
theorem m_561 : Cond.methodLink "java/lang/RuntimeException" (7 : Nat) ({ cls := "java/lang/Exception", name := "<init>", desc := "(Ljava/lang/String;)V" } : MethodName) ∈ zWS := zws_m 561 (by decide +kernel) rfl
theorem m_562 : Cond.instanceMethod ({ cls := "java/lang/Exception", name := "<init>", desc := "(Ljava/lang/String;)V" } : MethodName) ∈ zWS := zws_m 562 (by decide +kernel) rfl
theorem m_563 : Cond.code ({ cls := "java/lang/Exception", name := "<init>", desc := "(Ljava/lang/String;)V" } : MethodName) prog_10_method_2_code (2 : Nat) (Option.none : Option FieldType) ∈ zWS := zws_m 563 (by decide +kernel) rfl
theorem m_564 : Cond.methodLink "java/lang/Exception" (7 : Nat) ({ cls := "java/lang/Throwable", name := "<init>", desc := "(Ljava/lang/String;)V" } : MethodName) ∈ zWS := zws_m 564 (by decide +kernel) rfl
theorem m_565 : Cond.instanceMethod ({ cls := "java/lang/Throwable", name := "<init>", desc := "(Ljava/lang/String;)V" } : MethodName) ∈ zWS := zws_m 565 (by decide +kernel) rfl
theorem m_566 : Cond.code ({ cls := "java/lang/Throwable", name := "<init>", desc := "(Ljava/lang/String;)V" } : MethodName) prog_19_method_2_code (2 : Nat) (Option.none : Option FieldType) ∈ zWS := zws_m 566 (by decide +kernel) rfl
theorem m_567 : Cond.fieldLink "java/lang/Throwable" (198 : Nat) "java/lang/Throwable" "backtrace" "Ljava/lang/Object;" ∈ zWS := zws_m 567 (by decide +kernel) rfl
theorem m_568 : Cond.fieldLink "java/lang/Throwable" (31 : Nat) "java/lang/Throwable" "detailMessage" "Ljava/lang/String;" ∈ zWS := zws_m 568 (by decide +kernel) rfl
theorem m_569 : Cond.fieldLink "java/lang/Throwable" (7 : Nat) "java/lang/Throwable" "cause" "Ljava/lang/Throwable;" ∈ zWS := zws_m 569 (by decide +kernel) rfl
theorem m_570 : Cond.fieldLink "java/lang/Throwable" (17 : Nat) "java/lang/Throwable" "stackTrace" "[Ljava/lang/StackTraceElement;" ∈ zWS := zws_m 570 (by decide +kernel) rfl
theorem m_571 : Cond.fieldLink "java/lang/Throwable" (24 : Nat) "java/lang/Throwable" "suppressedExceptions" "Ljava/util/List;" ∈ zWS := zws_m 571 (by decide +kernel) rfl
theorem m_576 : Cond.lays "java/lang/IllegalArgumentException" "java/lang/Throwable" "depth" "I" ∈ zWS := zws_m 576 (by decide +kernel) rfl
theorem m_580 : Cond.arrayClass FieldType.byte ∈ zWS := zws_m 580 (by decide +kernel) rfl
theorem m_581 : Cond.methodLink "ScrimshawKernel" (70 : Nat) ({ cls := "ScrimshawKernel$Pen", name := "begin", desc := "(II)V" } : MethodName) ∈ zWS := zws_m 581 (by decide +kernel) rfl
theorem m_582 : Cond.instanceMethod ({ cls := "ScrimshawKernel$Pen", name := "begin", desc := "(II)V" } : MethodName) ∈ zWS := zws_m 582 (by decide +kernel) rfl
theorem m_583 : Cond.selects "ScrimshawKernel$Pen" ({ cls := "ScrimshawKernel$Pen", name := "begin", desc := "(II)V" } : MethodName) ({ cls := "ScrimshawKernel$Pen", name := "begin", desc := "(II)V" } : MethodName) ∈ zWS := zws_m 583 (by decide +kernel) rfl
theorem m_584 : Cond.code ({ cls := "ScrimshawKernel$Pen", name := "begin", desc := "(II)V" } : MethodName) prog_6_method_6_code (3 : Nat) (Option.none : Option FieldType) ∈ zWS := zws_m 584 (by decide +kernel) rfl
theorem m_585 : Cond.methodLink "ScrimshawKernel$Pen" (37 : Nat) ({ cls := "ScrimshawKernel$Pen", name := "add", desc := "(II)V" } : MethodName) ∈ zWS := zws_m 585 (by decide +kernel) rfl
theorem m_586 : Cond.instanceMethod ({ cls := "ScrimshawKernel$Pen", name := "add", desc := "(II)V" } : MethodName) ∈ zWS := zws_m 586 (by decide +kernel) rfl
theorem m_587 : Cond.selects "ScrimshawKernel$Pen" ({ cls := "ScrimshawKernel$Pen", name := "add", desc := "(II)V" } : MethodName) ({ cls := "ScrimshawKernel$Pen", name := "add", desc := "(II)V" } : MethodName) ∈ zWS := zws_m 587 (by decide +kernel) rfl
theorem m_588 : Cond.code ({ cls := "ScrimshawKernel$Pen", name := "add", desc := "(II)V" } : MethodName) prog_6_method_8_code (3 : Nat) (Option.none : Option FieldType) ∈ zWS := zws_m 588 (by decide +kernel) rfl
theorem m_589 : Cond.methodLink "ScrimshawKernelLaw" (133 : Nat) ({ cls := "ScrimshawKernelLaw", name := "lineX", desc := "(LScrimshawKernel;I[J)I" } : MethodName) ∈ zWS := zws_m 589 (by decide +kernel) rfl
theorem m_590 : Cond.static ({ cls := "ScrimshawKernelLaw", name := "lineX", desc := "(LScrimshawKernel;I[J)I" } : MethodName) ∈ zWS := zws_m 590 (by decide +kernel) rfl
theorem m_591 : Cond.codeWith ({ cls := "ScrimshawKernelLaw", name := "lineX", desc := "(LScrimshawKernel;I[J)I" } : MethodName) method_4_code (4 : Nat) (Option.some FieldType.int) [((0 : Nat), (9 : Nat), (12 : Nat), (13 : Nat)), ((0 : Nat), (9 : Nat), (15 : Nat), (19 : Nat))] ∈ zWS := zws_m 591 (by decide +kernel) rfl
theorem m_592 : Cond.classLink "ScrimshawKernelLaw" (19 : Nat) "java/lang/IllegalStateException" ∈ zWS := zws_m 592 (by decide +kernel) rfl
theorem m_593 : Cond.methodLink "ScrimshawKernelLaw" (15 : Nat) ({ cls := "ScrimshawKernel", name := "lineX", desc := "(I)I" } : MethodName) ∈ zWS := zws_m 593 (by decide +kernel) rfl
theorem m_594 : Cond.instanceMethod ({ cls := "ScrimshawKernel", name := "lineX", desc := "(I)I" } : MethodName) ∈ zWS := zws_m 594 (by decide +kernel) rfl
theorem m_595 : Cond.selects "ScrimshawKernel" ({ cls := "ScrimshawKernel", name := "lineX", desc := "(I)I" } : MethodName) ({ cls := "ScrimshawKernel", name := "lineX", desc := "(I)I" } : MethodName) ∈ zWS := zws_m 595 (by decide +kernel) rfl
theorem m_596 : Cond.code ({ cls := "ScrimshawKernel", name := "lineX", desc := "(I)I" } : MethodName) prog_1_method_3_code (4 : Nat) (Option.some FieldType.int) ∈ zWS := zws_m 596 (by decide +kernel) rfl
theorem m_597 : Cond.methodLink "ScrimshawKernel" (74 : Nat) ({ cls := "ScrimshawKernel$Pen", name := "atX", desc := "()I" } : MethodName) ∈ zWS := zws_m 597 (by decide +kernel) rfl
theorem m_598 : Cond.instanceMethod ({ cls := "ScrimshawKernel$Pen", name := "atX", desc := "()I" } : MethodName) ∈ zWS := zws_m 598 (by decide +kernel) rfl
theorem m_599 : Cond.selects "ScrimshawKernel$Pen" ({ cls := "ScrimshawKernel$Pen", name := "atX", desc := "()I" } : MethodName) ({ cls := "ScrimshawKernel$Pen", name := "atX", desc := "()I" } : MethodName) ∈ zWS := zws_m 599 (by decide +kernel) rfl
theorem m_600 : Cond.code ({ cls := "ScrimshawKernel$Pen", name := "atX", desc := "()I" } : MethodName) prog_6_method_3_code (1 : Nat) (Option.some FieldType.int) ∈ zWS := zws_m 600 (by decide +kernel) rfl
theorem m_601 : Cond.methodLink "ScrimshawKernel" (77 : Nat) ({ cls := "ScrimshawKernel", name := "checkLine", desc := "(IJ)V" } : MethodName) ∈ zWS := zws_m 601 (by decide +kernel) rfl
theorem m_603 : Cond.instanceMethod ({ cls := "ScrimshawKernel", name := "checkLine", desc := "(IJ)V" } : MethodName) ∈ zWS := zws_m 603 (by decide +kernel) rfl
theorem m_604 : Cond.code ({ cls := "ScrimshawKernel", name := "checkLine", desc := "(IJ)V" } : MethodName) prog_1_method_38_code (4 : Nat) (Option.none : Option FieldType) ∈ zWS := zws_m 604 (by decide +kernel) rfl
theorem m_605 : lw_tbl[605]? = some (Cond.stringRef "ScrimshawKernel" (292 : Nat) "the pen would not be at -24 to 24") := by decide +kernel
theorem m_606 : Cond.methodLink "ScrimshawKernel" (294 : Nat) ({ cls := "ScrimshawKernel$Pen", name := "isFull", desc := "()Z" } : MethodName) ∈ zWS := zws_m 606 (by decide +kernel) rfl
theorem m_607 : Cond.instanceMethod ({ cls := "ScrimshawKernel$Pen", name := "isFull", desc := "()Z" } : MethodName) ∈ zWS := zws_m 607 (by decide +kernel) rfl
theorem m_608 : Cond.selects "ScrimshawKernel$Pen" ({ cls := "ScrimshawKernel$Pen", name := "isFull", desc := "()Z" } : MethodName) ({ cls := "ScrimshawKernel$Pen", name := "isFull", desc := "()Z" } : MethodName) ∈ zWS := zws_m 608 (by decide +kernel) rfl
theorem m_609 : Cond.code ({ cls := "ScrimshawKernel$Pen", name := "isFull", desc := "()Z" } : MethodName) prog_6_method_5_code (1 : Nat) (Option.some FieldType.boolean) ∈ zWS := zws_m 609 (by decide +kernel) rfl
theorem m_610 : Cond.classLink "ScrimshawKernel" (297 : Nat) "java/lang/IllegalStateException" ∈ zWS := zws_m 610 (by decide +kernel) rfl
theorem m_611 : Cond.instantiable "java/lang/IllegalStateException" (6 : Nat) ∈ zWS := zws_m 611 (by decide +kernel) rfl
theorem m_612 : lw_tbl[612]? = some (Cond.castable "java/lang/IllegalStateException" "java/lang/IllegalStateException") := by decide +kernel
theorem m_613 : Cond.selects "java/lang/IllegalStateException" ({ cls := "java/lang/Throwable", name := "fillInStackTrace", desc := "(I)Ljava/lang/Throwable;" } : MethodName) ({ cls := "java/lang/Throwable", name := "fillInStackTrace", desc := "(I)Ljava/lang/Throwable;" } : MethodName) ∈ zWS := zws_m 613 (by decide +kernel) rfl
theorem m_614 : Cond.lays "java/lang/IllegalStateException" "java/lang/Throwable" "cause" "Ljava/lang/Throwable;" ∈ zWS := zws_m 614 (by decide +kernel) rfl
theorem m_615 : Cond.lays "java/lang/IllegalStateException" "java/lang/Throwable" "stackTrace" "[Ljava/lang/StackTraceElement;" ∈ zWS := zws_m 615 (by decide +kernel) rfl
theorem m_616 : Cond.lays "java/lang/IllegalStateException" "java/lang/Throwable" "suppressedExceptions" "Ljava/util/List;" ∈ zWS := zws_m 616 (by decide +kernel) rfl
theorem m_617 : Cond.lays "java/lang/IllegalStateException" "java/lang/Throwable" "detailMessage" "Ljava/lang/String;" ∈ zWS := zws_m 617 (by decide +kernel) rfl
theorem m_618 : Cond.lays "java/lang/IllegalStateException" "java/lang/Throwable" "backtrace" "Ljava/lang/Object;" ∈ zWS := zws_m 618 (by decide +kernel) rfl
theorem m_619 : lw_tbl[619]? = some (Cond.stringRef "ScrimshawKernel" (299 : Nat) "the path has 60 points") := by decide +kernel
theorem m_620 : Cond.methodLink "ScrimshawKernel" (301 : Nat) ({ cls := "java/lang/IllegalStateException", name := "<init>", desc := "(Ljava/lang/String;)V" } : MethodName) ∈ zWS := zws_m 620 (by decide +kernel) rfl
theorem m_621 : Cond.instanceMethod ({ cls := "java/lang/IllegalStateException", name := "<init>", desc := "(Ljava/lang/String;)V" } : MethodName) ∈ zWS := zws_m 621 (by decide +kernel) rfl
theorem m_622 : Cond.code ({ cls := "java/lang/IllegalStateException", name := "<init>", desc := "(Ljava/lang/String;)V" } : MethodName) prog_12_method_2_code (2 : Nat) (Option.none : Option FieldType) ∈ zWS := zws_m 622 (by decide +kernel) rfl
theorem m_623 : Cond.methodLink "java/lang/IllegalStateException" (7 : Nat) ({ cls := "java/lang/RuntimeException", name := "<init>", desc := "(Ljava/lang/String;)V" } : MethodName) ∈ zWS := zws_m 623 (by decide +kernel) rfl
theorem m_624 : Cond.lays "java/lang/IllegalStateException" "java/lang/Throwable" "depth" "I" ∈ zWS := zws_m 624 (by decide +kernel) rfl
theorem m_626 : Cond.methodLink "ScrimshawKernel" (81 : Nat) ({ cls := "ScrimshawKernel$Pen", name := "atY", desc := "()I" } : MethodName) ∈ zWS := zws_m 626 (by decide +kernel) rfl
theorem m_627 : Cond.instanceMethod ({ cls := "ScrimshawKernel$Pen", name := "atY", desc := "()I" } : MethodName) ∈ zWS := zws_m 627 (by decide +kernel) rfl
theorem m_628 : Cond.selects "ScrimshawKernel$Pen" ({ cls := "ScrimshawKernel$Pen", name := "atY", desc := "()I" } : MethodName) ({ cls := "ScrimshawKernel$Pen", name := "atY", desc := "()I" } : MethodName) ∈ zWS := zws_m 628 (by decide +kernel) rfl
theorem m_629 : Cond.code ({ cls := "ScrimshawKernel$Pen", name := "atY", desc := "()I" } : MethodName) prog_6_method_4_code (1 : Nat) (Option.some FieldType.int) ∈ zWS := zws_m 629 (by decide +kernel) rfl
theorem m_630 : Cond.methodLink "ScrimshawKernel" (84 : Nat) ({ cls := "ScrimshawKernel$Pen", name := "add", desc := "(II)V" } : MethodName) ∈ zWS := zws_m 630 (by decide +kernel) rfl
theorem m_631 : Cond.methodLink "ScrimshawKernelLaw" (137 : Nat) ({ cls := "ScrimshawKernelLaw", name := "lineY", desc := "(LScrimshawKernel;I[J)I" } : MethodName) ∈ zWS := zws_m 631 (by decide +kernel) rfl
theorem m_632 : Cond.static ({ cls := "ScrimshawKernelLaw", name := "lineY", desc := "(LScrimshawKernel;I[J)I" } : MethodName) ∈ zWS := zws_m 632 (by decide +kernel) rfl
theorem m_633 : Cond.codeWith ({ cls := "ScrimshawKernelLaw", name := "lineY", desc := "(LScrimshawKernel;I[J)I" } : MethodName) method_5_code (4 : Nat) (Option.some FieldType.int) [((0 : Nat), (9 : Nat), (12 : Nat), (13 : Nat)), ((0 : Nat), (9 : Nat), (15 : Nat), (19 : Nat))] ∈ zWS := zws_m 633 (by decide +kernel) rfl
theorem m_634 : Cond.methodLink "ScrimshawKernelLaw" (21 : Nat) ({ cls := "ScrimshawKernel", name := "lineY", desc := "(I)I" } : MethodName) ∈ zWS := zws_m 634 (by decide +kernel) rfl
theorem m_635 : Cond.instanceMethod ({ cls := "ScrimshawKernel", name := "lineY", desc := "(I)I" } : MethodName) ∈ zWS := zws_m 635 (by decide +kernel) rfl
theorem m_636 : Cond.selects "ScrimshawKernel" ({ cls := "ScrimshawKernel", name := "lineY", desc := "(I)I" } : MethodName) ({ cls := "ScrimshawKernel", name := "lineY", desc := "(I)I" } : MethodName) ∈ zWS := zws_m 636 (by decide +kernel) rfl
theorem m_637 : Cond.code ({ cls := "ScrimshawKernel", name := "lineY", desc := "(I)I" } : MethodName) prog_1_method_4_code (4 : Nat) (Option.some FieldType.int) ∈ zWS := zws_m 637 (by decide +kernel) rfl
theorem m_638 : Cond.methodLink "ScrimshawKernelLaw" (140 : Nat) ({ cls := "ScrimshawKernelLaw", name := "close", desc := "(LScrimshawKernel;II[J)I" } : MethodName) ∈ zWS := zws_m 638 (by decide +kernel) rfl
theorem m_639 : Cond.static ({ cls := "ScrimshawKernelLaw", name := "close", desc := "(LScrimshawKernel;II[J)I" } : MethodName) ∈ zWS := zws_m 639 (by decide +kernel) rfl
theorem m_640 : Cond.codeWith ({ cls := "ScrimshawKernelLaw", name := "close", desc := "(LScrimshawKernel;II[J)I" } : MethodName) method_6_code (5 : Nat) (Option.some FieldType.int) [((0 : Nat), (10 : Nat), (13 : Nat), (27 : Nat)), ((0 : Nat), (10 : Nat), (17 : Nat), (13 : Nat))] ∈ zWS := zws_m 640 (by decide +kernel) rfl
theorem m_641 : Cond.classLink "ScrimshawKernelLaw" (27 : Nat) "java/lang/IndexOutOfBoundsException" ∈ zWS := zws_m 641 (by decide +kernel) rfl
theorem m_642 : Cond.methodLink "ScrimshawKernelLaw" (24 : Nat) ({ cls := "ScrimshawKernel", name := "close", desc := "(II)I" } : MethodName) ∈ zWS := zws_m 642 (by decide +kernel) rfl
theorem m_643 : Cond.instanceMethod ({ cls := "ScrimshawKernel", name := "close", desc := "(II)I" } : MethodName) ∈ zWS := zws_m 643 (by decide +kernel) rfl
theorem m_644 : Cond.selects "ScrimshawKernel" ({ cls := "ScrimshawKernel", name := "close", desc := "(II)I" } : MethodName) ({ cls := "ScrimshawKernel", name := "close", desc := "(II)I" } : MethodName) ∈ zWS := zws_m 644 (by decide +kernel) rfl
theorem m_645 : Cond.code ({ cls := "ScrimshawKernel", name := "close", desc := "(II)I" } : MethodName) prog_1_method_5_code (4 : Nat) (Option.some FieldType.int) ∈ zWS := zws_m 645 (by decide +kernel) rfl
theorem m_646 : Cond.methodLink "ScrimshawKernel" (87 : Nat) ({ cls := "ScrimshawKernel", name := "regionAt", desc := "(I)LScrimshawKernel$Fields;" } : MethodName) ∈ zWS := zws_m 646 (by decide +kernel) rfl
theorem m_648 : Cond.instanceMethod ({ cls := "ScrimshawKernel", name := "regionAt", desc := "(I)LScrimshawKernel$Fields;" } : MethodName) ∈ zWS := zws_m 648 (by decide +kernel) rfl
theorem m_649 : Cond.code ({ cls := "ScrimshawKernel", name := "regionAt", desc := "(I)LScrimshawKernel$Fields;" } : MethodName) prog_1_method_37_code (2 : Nat) (Option.some (FieldType.object "ScrimshawKernel$Fields")) ∈ zWS := zws_m 649 (by decide +kernel) rfl
theorem m_650 : Cond.classLink "ScrimshawKernel" (238 : Nat) "java/lang/IndexOutOfBoundsException" ∈ zWS := zws_m 650 (by decide +kernel) rfl
theorem m_651 : Cond.instantiable "java/lang/IndexOutOfBoundsException" (6 : Nat) ∈ zWS := zws_m 651 (by decide +kernel) rfl
theorem m_652 : lw_tbl[652]? = some (Cond.castable "java/lang/IndexOutOfBoundsException" "java/lang/IndexOutOfBoundsException") := by decide +kernel
theorem m_653 : Cond.selects "java/lang/IndexOutOfBoundsException" ({ cls := "java/lang/Throwable", name := "fillInStackTrace", desc := "(I)Ljava/lang/Throwable;" } : MethodName) ({ cls := "java/lang/Throwable", name := "fillInStackTrace", desc := "(I)Ljava/lang/Throwable;" } : MethodName) ∈ zWS := zws_m 653 (by decide +kernel) rfl
theorem m_654 : Cond.lays "java/lang/IndexOutOfBoundsException" "java/lang/Throwable" "cause" "Ljava/lang/Throwable;" ∈ zWS := zws_m 654 (by decide +kernel) rfl
theorem m_655 : Cond.lays "java/lang/IndexOutOfBoundsException" "java/lang/Throwable" "stackTrace" "[Ljava/lang/StackTraceElement;" ∈ zWS := zws_m 655 (by decide +kernel) rfl
theorem m_656 : Cond.lays "java/lang/IndexOutOfBoundsException" "java/lang/Throwable" "suppressedExceptions" "Ljava/util/List;" ∈ zWS := zws_m 656 (by decide +kernel) rfl
theorem m_657 : Cond.lays "java/lang/IndexOutOfBoundsException" "java/lang/Throwable" "detailMessage" "Ljava/lang/String;" ∈ zWS := zws_m 657 (by decide +kernel) rfl
theorem m_658 : Cond.lays "java/lang/IndexOutOfBoundsException" "java/lang/Throwable" "backtrace" "Ljava/lang/Object;" ∈ zWS := zws_m 658 (by decide +kernel) rfl
theorem m_659 : lw_tbl[659]? = some (Cond.stringRef "ScrimshawKernel" (290 : Nat) "no such region") := by decide +kernel
theorem m_660 : Cond.methodLink "ScrimshawKernel" (242 : Nat) ({ cls := "java/lang/IndexOutOfBoundsException", name := "<init>", desc := "(Ljava/lang/String;)V" } : MethodName) ∈ zWS := zws_m 660 (by decide +kernel) rfl
theorem m_661 : Cond.instanceMethod ({ cls := "java/lang/IndexOutOfBoundsException", name := "<init>", desc := "(Ljava/lang/String;)V" } : MethodName) ∈ zWS := zws_m 661 (by decide +kernel) rfl
theorem m_662 : Cond.code ({ cls := "java/lang/IndexOutOfBoundsException", name := "<init>", desc := "(Ljava/lang/String;)V" } : MethodName) prog_13_method_2_code (2 : Nat) (Option.none : Option FieldType) ∈ zWS := zws_m 662 (by decide +kernel) rfl
theorem m_663 : Cond.methodLink "java/lang/IndexOutOfBoundsException" (7 : Nat) ({ cls := "java/lang/RuntimeException", name := "<init>", desc := "(Ljava/lang/String;)V" } : MethodName) ∈ zWS := zws_m 663 (by decide +kernel) rfl
theorem m_664 : Cond.lays "java/lang/IndexOutOfBoundsException" "java/lang/Throwable" "depth" "I" ∈ zWS := zws_m 664 (by decide +kernel) rfl
theorem m_666 : Cond.methodLink "ScrimshawKernel" (91 : Nat) ({ cls := "ScrimshawKernel", name := "isFrom", desc := "(III)Z" } : MethodName) ∈ zWS := zws_m 666 (by decide +kernel) rfl
theorem m_667 : Cond.static ({ cls := "ScrimshawKernel", name := "isFrom", desc := "(III)Z" } : MethodName) ∈ zWS := zws_m 667 (by decide +kernel) rfl
theorem m_668 : Cond.code ({ cls := "ScrimshawKernel", name := "isFrom", desc := "(III)Z" } : MethodName) prog_1_method_44_code (3 : Nat) (Option.some FieldType.boolean) ∈ zWS := zws_m 668 (by decide +kernel) rfl
theorem m_669 : lw_tbl[669]? = some (Cond.stringRef "ScrimshawKernel" (95 : Nat) "rule is not 0 or 1") := by decide +kernel
theorem m_670 : Cond.methodLink "ScrimshawKernel" (97 : Nat) ({ cls := "ScrimshawKernel$History", name := "keep", desc := "(ILScrimshawKernel$Fields;)V" } : MethodName) ∈ zWS := zws_m 670 (by decide +kernel) rfl
theorem m_671 : Cond.instanceMethod ({ cls := "ScrimshawKernel$History", name := "keep", desc := "(ILScrimshawKernel$Fields;)V" } : MethodName) ∈ zWS := zws_m 671 (by decide +kernel) rfl
theorem m_672 : Cond.selects "ScrimshawKernel$History" ({ cls := "ScrimshawKernel$History", name := "keep", desc := "(ILScrimshawKernel$Fields;)V" } : MethodName) ({ cls := "ScrimshawKernel$History", name := "keep", desc := "(ILScrimshawKernel$Fields;)V" } : MethodName) ∈ zWS := zws_m 672 (by decide +kernel) rfl
theorem m_673 : Cond.code ({ cls := "ScrimshawKernel$History", name := "keep", desc := "(ILScrimshawKernel$Fields;)V" } : MethodName) prog_4_method_3_code (3 : Nat) (Option.none : Option FieldType) ∈ zWS := zws_m 673 (by decide +kernel) rfl
theorem m_674 : Cond.methodLink "ScrimshawKernel$History" (29 : Nat) ({ cls := "java/lang/Math", name := "min", desc := "(II)I" } : MethodName) ∈ zWS := zws_m 674 (by decide +kernel) rfl
theorem m_675 : Cond.methodLink "ScrimshawKernel" (101 : Nat) ({ cls := "ScrimshawKernel$Pen", name := "putInside", desc := "(LScrimshawKernel$Fields;I)V" } : MethodName) ∈ zWS := zws_m 675 (by decide +kernel) rfl
theorem m_676 : Cond.instanceMethod ({ cls := "ScrimshawKernel$Pen", name := "putInside", desc := "(LScrimshawKernel$Fields;I)V" } : MethodName) ∈ zWS := zws_m 676 (by decide +kernel) rfl
theorem m_677 : Cond.selects "ScrimshawKernel$Pen" ({ cls := "ScrimshawKernel$Pen", name := "putInside", desc := "(LScrimshawKernel$Fields;I)V" } : MethodName) ({ cls := "ScrimshawKernel$Pen", name := "putInside", desc := "(LScrimshawKernel$Fields;I)V" } : MethodName) ∈ zWS := zws_m 677 (by decide +kernel) rfl
theorem m_678 : Cond.code ({ cls := "ScrimshawKernel$Pen", name := "putInside", desc := "(LScrimshawKernel$Fields;I)V" } : MethodName) prog_6_method_9_code (4 : Nat) (Option.none : Option FieldType) ∈ zWS := zws_m 678 (by decide +kernel) rfl
theorem m_679 : Cond.methodLink "ScrimshawKernel$Pen" (44 : Nat) ({ cls := "ScrimshawKernel$Pen", name := "countCrossings", desc := "(I)V" } : MethodName) ∈ zWS := zws_m 679 (by decide +kernel) rfl
theorem m_681 : Cond.instanceMethod ({ cls := "ScrimshawKernel$Pen", name := "countCrossings", desc := "(I)V" } : MethodName) ∈ zWS := zws_m 681 (by decide +kernel) rfl
theorem m_682 : Cond.code ({ cls := "ScrimshawKernel$Pen", name := "countCrossings", desc := "(I)V" } : MethodName) prog_6_method_10_code (3 : Nat) (Option.none : Option FieldType) ∈ zWS := zws_m 682 (by decide +kernel) rfl
theorem m_683 : Cond.methodLink "ScrimshawKernel$Pen" (58 : Nat) ({ cls := "java/util/Arrays", name := "fill", desc := "([II)V" } : MethodName) ∈ zWS := zws_m 683 (by decide +kernel) rfl
theorem m_684 : Cond.static ({ cls := "java/util/Arrays", name := "fill", desc := "([II)V" } : MethodName) ∈ zWS := zws_m 684 (by decide +kernel) rfl
theorem m_685 : Cond.code ({ cls := "java/util/Arrays", name := "fill", desc := "([II)V" } : MethodName) prog_20_method_103_code (4 : Nat) (Option.none : Option FieldType) ∈ zWS := zws_m 685 (by decide +kernel) rfl
theorem m_686 : Cond.methodLink "ScrimshawKernel$Pen" (64 : Nat) ({ cls := "ScrimshawKernel$Pen", name := "addCrossing", desc := "(IIII)V" } : MethodName) ∈ zWS := zws_m 686 (by decide +kernel) rfl
theorem m_688 : Cond.instanceMethod ({ cls := "ScrimshawKernel$Pen", name := "addCrossing", desc := "(IIII)V" } : MethodName) ∈ zWS := zws_m 688 (by decide +kernel) rfl
theorem m_689 : Cond.code ({ cls := "ScrimshawKernel$Pen", name := "addCrossing", desc := "(IIII)V" } : MethodName) prog_6_method_11_code (6 : Nat) (Option.none : Option FieldType) ∈ zWS := zws_m 689 (by decide +kernel) rfl
theorem m_690 : Cond.methodLink "ScrimshawKernel$Pen" (48 : Nat) ({ cls := "ScrimshawKernel$Pen", name := "inside", desc := "(I)J" } : MethodName) ∈ zWS := zws_m 690 (by decide +kernel) rfl
theorem m_692 : Cond.instanceMethod ({ cls := "ScrimshawKernel$Pen", name := "inside", desc := "(I)J" } : MethodName) ∈ zWS := zws_m 692 (by decide +kernel) rfl
theorem m_693 : Cond.code ({ cls := "ScrimshawKernel$Pen", name := "inside", desc := "(I)J" } : MethodName) prog_6_method_12_code (6 : Nat) (Option.some FieldType.long) ∈ zWS := zws_m 693 (by decide +kernel) rfl
theorem m_694 : Cond.methodLink "ScrimshawKernel$Pen" (52 : Nat) ({ cls := "ScrimshawKernel$Fields", name := "putRow", desc := "(IJ)V" } : MethodName) ∈ zWS := zws_m 694 (by decide +kernel) rfl
theorem m_695 : Cond.methodLink "ScrimshawKernel" (105 : Nat) ({ cls := "ScrimshawKernel$Pen", name := "beginAnew", desc := "()V" } : MethodName) ∈ zWS := zws_m 695 (by decide +kernel) rfl
theorem m_696 : Cond.instanceMethod ({ cls := "ScrimshawKernel$Pen", name := "beginAnew", desc := "()V" } : MethodName) ∈ zWS := zws_m 696 (by decide +kernel) rfl
theorem m_697 : Cond.selects "ScrimshawKernel$Pen" ({ cls := "ScrimshawKernel$Pen", name := "beginAnew", desc := "()V" } : MethodName) ({ cls := "ScrimshawKernel$Pen", name := "beginAnew", desc := "()V" } : MethodName) ∈ zWS := zws_m 697 (by decide +kernel) rfl
theorem m_698 : Cond.code ({ cls := "ScrimshawKernel$Pen", name := "beginAnew", desc := "()V" } : MethodName) prog_6_method_7_code (1 : Nat) (Option.none : Option FieldType) ∈ zWS := zws_m 698 (by decide +kernel) rfl
theorem m_699 : Cond.methodLink "ScrimshawKernel$Pen" (41 : Nat) ({ cls := "ScrimshawKernel$Pen", name := "begin", desc := "(II)V" } : MethodName) ∈ zWS := zws_m 699 (by decide +kernel) rfl
theorem m_700 : Cond.methodLink "ScrimshawKernelLaw" (147 : Nat) ({ cls := "ScrimshawKernelLaw", name := "addRectangle", desc := "(LScrimshawKernel;IIIII[J)I" } : MethodName) ∈ zWS := zws_m 700 (by decide +kernel) rfl
theorem m_701 : Cond.static ({ cls := "ScrimshawKernelLaw", name := "addRectangle", desc := "(LScrimshawKernel;IIIII[J)I" } : MethodName) ∈ zWS := zws_m 701 (by decide +kernel) rfl
theorem m_702 : Cond.codeWith ({ cls := "ScrimshawKernelLaw", name := "addRectangle", desc := "(LScrimshawKernel;IIIII[J)I" } : MethodName) method_7_code (8 : Nat) (Option.some FieldType.int) [((0 : Nat), (16 : Nat), (19 : Nat), (27 : Nat)), ((0 : Nat), (16 : Nat), (23 : Nat), (13 : Nat)), ((0 : Nat), (16 : Nat), (27 : Nat), (19 : Nat))] ∈ zWS := zws_m 702 (by decide +kernel) rfl
theorem m_703 : Cond.methodLink "ScrimshawKernelLaw" (29 : Nat) ({ cls := "ScrimshawKernel", name := "addRectangle", desc := "(IIIII)I" } : MethodName) ∈ zWS := zws_m 703 (by decide +kernel) rfl
theorem m_704 : Cond.instanceMethod ({ cls := "ScrimshawKernel", name := "addRectangle", desc := "(IIIII)I" } : MethodName) ∈ zWS := zws_m 704 (by decide +kernel) rfl
theorem m_705 : Cond.selects "ScrimshawKernel" ({ cls := "ScrimshawKernel", name := "addRectangle", desc := "(IIIII)I" } : MethodName) ({ cls := "ScrimshawKernel", name := "addRectangle", desc := "(IIIII)I" } : MethodName) ∈ zWS := zws_m 705 (by decide +kernel) rfl
theorem m_706 : Cond.code ({ cls := "ScrimshawKernel", name := "addRectangle", desc := "(IIIII)I" } : MethodName) prog_1_method_7_code (10 : Nat) (Option.some FieldType.int) ∈ zWS := zws_m 706 (by decide +kernel) rfl
theorem m_707 : lw_tbl[707]? = some (Cond.stringRef "ScrimshawKernel" (111 : Nat) "width or height is not 1 to 64") := by decide +kernel
theorem m_708 : Cond.methodLink "ScrimshawKernel" (113 : Nat) ({ cls := "ScrimshawKernel", name := "checkRoom", desc := "(JJ)V" } : MethodName) ∈ zWS := zws_m 708 (by decide +kernel) rfl
theorem m_709 : Cond.static ({ cls := "ScrimshawKernel", name := "checkRoom", desc := "(JJ)V" } : MethodName) ∈ zWS := zws_m 709 (by decide +kernel) rfl
theorem m_710 : Cond.code ({ cls := "ScrimshawKernel", name := "checkRoom", desc := "(JJ)V" } : MethodName) prog_1_method_39_code (4 : Nat) (Option.none : Option FieldType) ∈ zWS := zws_m 710 (by decide +kernel) rfl
theorem m_711 : Cond.constantLong "ScrimshawKernel" (302 : Nat) (-32 : Int64) ∈ zWS := zws_m 711 (by decide +kernel) rfl
theorem m_712 : lw_tbl[712]? = some (Cond.stringRef "ScrimshawKernel" (306 : Nat) "a field would have an x or y that is not -32 to 31") := by decide +kernel
theorem m_713 : Cond.constantLong "ScrimshawKernel" (117 : Nat) (-1 : Int64) ∈ zWS := zws_m 713 (by decide +kernel) rfl
theorem m_714 : Cond.methodLink "ScrimshawKernel" (119 : Nat) ({ cls := "ScrimshawKernel$Fields", name := "row", desc := "(I)J" } : MethodName) ∈ zWS := zws_m 714 (by decide +kernel) rfl
theorem m_715 : Cond.methodLink "ScrimshawKernel" (123 : Nat) ({ cls := "ScrimshawKernel$Fields", name := "putRow", desc := "(IJ)V" } : MethodName) ∈ zWS := zws_m 715 (by decide +kernel) rfl
theorem m_716 : Cond.methodLink "ScrimshawKernelLaw" (151 : Nat) ({ cls := "ScrimshawKernelLaw", name := "combine", desc := "(LScrimshawKernel;IIII[J)I" } : MethodName) ∈ zWS := zws_m 716 (by decide +kernel) rfl
theorem m_717 : Cond.static ({ cls := "ScrimshawKernelLaw", name := "combine", desc := "(LScrimshawKernel;IIII[J)I" } : MethodName) ∈ zWS := zws_m 717 (by decide +kernel) rfl
theorem m_718 : Cond.codeWith ({ cls := "ScrimshawKernelLaw", name := "combine", desc := "(LScrimshawKernel;IIII[J)I" } : MethodName) method_8_code (7 : Nat) (Option.some FieldType.int) [((0 : Nat), (14 : Nat), (17 : Nat), (27 : Nat)), ((0 : Nat), (14 : Nat), (21 : Nat), (13 : Nat))] ∈ zWS := zws_m 718 (by decide +kernel) rfl
theorem m_719 : Cond.methodLink "ScrimshawKernelLaw" (33 : Nat) ({ cls := "ScrimshawKernel", name := "combine", desc := "(IIII)I" } : MethodName) ∈ zWS := zws_m 719 (by decide +kernel) rfl
theorem m_720 : Cond.instanceMethod ({ cls := "ScrimshawKernel", name := "combine", desc := "(IIII)I" } : MethodName) ∈ zWS := zws_m 720 (by decide +kernel) rfl
theorem m_721 : Cond.selects "ScrimshawKernel" ({ cls := "ScrimshawKernel", name := "combine", desc := "(IIII)I" } : MethodName) ({ cls := "ScrimshawKernel", name := "combine", desc := "(IIII)I" } : MethodName) ∈ zWS := zws_m 721 (by decide +kernel) rfl
theorem m_722 : Cond.code ({ cls := "ScrimshawKernel", name := "combine", desc := "(IIII)I" } : MethodName) prog_1_method_8_code (9 : Nat) (Option.some FieldType.int) ∈ zWS := zws_m 722 (by decide +kernel) rfl
theorem m_723 : lw_tbl[723]? = some (Cond.stringRef "ScrimshawKernel" (126 : Nat) "operation is not 0 to 3") := by decide +kernel
theorem m_724 : Cond.methodLink "ScrimshawKernel" (128 : Nat) ({ cls := "ScrimshawKernel", name := "combined", desc := "(JJI)J" } : MethodName) ∈ zWS := zws_m 724 (by decide +kernel) rfl
theorem m_725 : Cond.static ({ cls := "ScrimshawKernel", name := "combined", desc := "(JJI)J" } : MethodName) ∈ zWS := zws_m 725 (by decide +kernel) rfl
theorem m_726 : Cond.code ({ cls := "ScrimshawKernel", name := "combined", desc := "(JJI)J" } : MethodName) prog_1_method_46_code (5 : Nat) (Option.some FieldType.long) ∈ zWS := zws_m 726 (by decide +kernel) rfl
theorem m_727 : Cond.methodLink "ScrimshawKernelLaw" (155 : Nat) ({ cls := "ScrimshawKernelLaw", name := "move", desc := "(LScrimshawKernel;III[J)I" } : MethodName) ∈ zWS := zws_m 727 (by decide +kernel) rfl
theorem m_728 : Cond.static ({ cls := "ScrimshawKernelLaw", name := "move", desc := "(LScrimshawKernel;III[J)I" } : MethodName) ∈ zWS := zws_m 728 (by decide +kernel) rfl
theorem m_729 : Cond.codeWith ({ cls := "ScrimshawKernelLaw", name := "move", desc := "(LScrimshawKernel;III[J)I" } : MethodName) method_9_code (6 : Nat) (Option.some FieldType.int) [((0 : Nat), (12 : Nat), (15 : Nat), (27 : Nat)), ((0 : Nat), (12 : Nat), (19 : Nat), (13 : Nat)), ((0 : Nat), (12 : Nat), (23 : Nat), (19 : Nat))] ∈ zWS := zws_m 729 (by decide +kernel) rfl
theorem m_730 : Cond.methodLink "ScrimshawKernelLaw" (37 : Nat) ({ cls := "ScrimshawKernel", name := "move", desc := "(III)I" } : MethodName) ∈ zWS := zws_m 730 (by decide +kernel) rfl
theorem m_731 : Cond.instanceMethod ({ cls := "ScrimshawKernel", name := "move", desc := "(III)I" } : MethodName) ∈ zWS := zws_m 731 (by decide +kernel) rfl
theorem m_732 : Cond.selects "ScrimshawKernel" ({ cls := "ScrimshawKernel", name := "move", desc := "(III)I" } : MethodName) ({ cls := "ScrimshawKernel", name := "move", desc := "(III)I" } : MethodName) ∈ zWS := zws_m 732 (by decide +kernel) rfl
theorem m_733 : Cond.code ({ cls := "ScrimshawKernel", name := "move", desc := "(III)I" } : MethodName) prog_1_method_9_code (5 : Nat) (Option.some FieldType.int) ∈ zWS := zws_m 733 (by decide +kernel) rfl
theorem m_734 : lw_tbl[734]? = some (Cond.stringRef "ScrimshawKernel" (132 : Nat) "byX or byY is not -64 to 64") := by decide +kernel
theorem m_735 : Cond.methodLink "ScrimshawKernel" (134 : Nat) ({ cls := "ScrimshawKernel$Fields", name := "isEmpty", desc := "()Z" } : MethodName) ∈ zWS := zws_m 735 (by decide +kernel) rfl
theorem m_736 : Cond.instanceMethod ({ cls := "ScrimshawKernel$Fields", name := "isEmpty", desc := "()Z" } : MethodName) ∈ zWS := zws_m 736 (by decide +kernel) rfl
theorem m_737 : Cond.selects "ScrimshawKernel$Fields" ({ cls := "ScrimshawKernel$Fields", name := "isEmpty", desc := "()Z" } : MethodName) ({ cls := "ScrimshawKernel$Fields", name := "isEmpty", desc := "()Z" } : MethodName) ∈ zWS := zws_m 737 (by decide +kernel) rfl
theorem m_738 : Cond.code ({ cls := "ScrimshawKernel$Fields", name := "isEmpty", desc := "()Z" } : MethodName) prog_2_method_7_code (1 : Nat) (Option.some FieldType.boolean) ∈ zWS := zws_m 738 (by decide +kernel) rfl
theorem m_739 : Cond.methodLink "ScrimshawKernel" (150 : Nat) ({ cls := "ScrimshawKernel$Fields", name := "shift", desc := "(II)V" } : MethodName) ∈ zWS := zws_m 739 (by decide +kernel) rfl
theorem m_740 : Cond.instanceMethod ({ cls := "ScrimshawKernel$Fields", name := "shift", desc := "(II)V" } : MethodName) ∈ zWS := zws_m 740 (by decide +kernel) rfl
theorem m_741 : Cond.selects "ScrimshawKernel$Fields" ({ cls := "ScrimshawKernel$Fields", name := "shift", desc := "(II)V" } : MethodName) ({ cls := "ScrimshawKernel$Fields", name := "shift", desc := "(II)V" } : MethodName) ∈ zWS := zws_m 741 (by decide +kernel) rfl
theorem m_742 : Cond.code ({ cls := "ScrimshawKernel$Fields", name := "shift", desc := "(II)V" } : MethodName) prog_2_method_20_code (5 : Nat) (Option.none : Option FieldType) ∈ zWS := zws_m 742 (by decide +kernel) rfl
theorem m_743 : Cond.methodLink "ScrimshawKernel$Fields" (51 : Nat) ({ cls := "ScrimshawKernel$Fields", name := "shifted", desc := "(JI)J" } : MethodName) ∈ zWS := zws_m 743 (by decide +kernel) rfl
theorem m_744 : Cond.static ({ cls := "ScrimshawKernel$Fields", name := "shifted", desc := "(JI)J" } : MethodName) ∈ zWS := zws_m 744 (by decide +kernel) rfl
theorem m_745 : Cond.code ({ cls := "ScrimshawKernel$Fields", name := "shifted", desc := "(JI)J" } : MethodName) prog_2_method_21_code (3 : Nat) (Option.some FieldType.long) ∈ zWS := zws_m 745 (by decide +kernel) rfl
theorem m_746 : Cond.methodLink "ScrimshawKernelLaw" (159 : Nat) ({ cls := "ScrimshawKernelLaw", name := "turn", desc := "(LScrimshawKernel;II[J)I" } : MethodName) ∈ zWS := zws_m 746 (by decide +kernel) rfl
theorem m_747 : Cond.static ({ cls := "ScrimshawKernelLaw", name := "turn", desc := "(LScrimshawKernel;II[J)I" } : MethodName) ∈ zWS := zws_m 747 (by decide +kernel) rfl
theorem m_748 : Cond.codeWith ({ cls := "ScrimshawKernelLaw", name := "turn", desc := "(LScrimshawKernel;II[J)I" } : MethodName) method_10_code (5 : Nat) (Option.some FieldType.int) [((0 : Nat), (10 : Nat), (13 : Nat), (27 : Nat)), ((0 : Nat), (10 : Nat), (17 : Nat), (13 : Nat))] ∈ zWS := zws_m 748 (by decide +kernel) rfl
theorem m_749 : Cond.methodLink "ScrimshawKernelLaw" (41 : Nat) ({ cls := "ScrimshawKernel", name := "turn", desc := "(II)I" } : MethodName) ∈ zWS := zws_m 749 (by decide +kernel) rfl
theorem m_750 : Cond.instanceMethod ({ cls := "ScrimshawKernel", name := "turn", desc := "(II)I" } : MethodName) ∈ zWS := zws_m 750 (by decide +kernel) rfl
theorem m_751 : Cond.selects "ScrimshawKernel" ({ cls := "ScrimshawKernel", name := "turn", desc := "(II)I" } : MethodName) ({ cls := "ScrimshawKernel", name := "turn", desc := "(II)I" } : MethodName) ∈ zWS := zws_m 751 (by decide +kernel) rfl
theorem m_752 : Cond.code ({ cls := "ScrimshawKernel", name := "turn", desc := "(II)I" } : MethodName) prog_1_method_10_code (5 : Nat) (Option.some FieldType.int) ∈ zWS := zws_m 752 (by decide +kernel) rfl
theorem m_753 : lw_tbl[753]? = some (Cond.stringRef "ScrimshawKernel" (153 : Nat) "quarters is not 0 to 3") := by decide +kernel
theorem m_754 : Cond.methodLink "ScrimshawKernel" (155 : Nat) ({ cls := "ScrimshawKernel$Fields", name := "copy", desc := "(LScrimshawKernel$Fields;)V" } : MethodName) ∈ zWS := zws_m 754 (by decide +kernel) rfl
theorem m_755 : Cond.methodLink "ScrimshawKernel" (159 : Nat) ({ cls := "ScrimshawKernel$Fields", name := "putTurned", desc := "(LScrimshawKernel$Fields;)V" } : MethodName) ∈ zWS := zws_m 755 (by decide +kernel) rfl
theorem m_756 : Cond.instanceMethod ({ cls := "ScrimshawKernel$Fields", name := "putTurned", desc := "(LScrimshawKernel$Fields;)V" } : MethodName) ∈ zWS := zws_m 756 (by decide +kernel) rfl
theorem m_757 : Cond.selects "ScrimshawKernel$Fields" ({ cls := "ScrimshawKernel$Fields", name := "putTurned", desc := "(LScrimshawKernel$Fields;)V" } : MethodName) ({ cls := "ScrimshawKernel$Fields", name := "putTurned", desc := "(LScrimshawKernel$Fields;)V" } : MethodName) ∈ zWS := zws_m 757 (by decide +kernel) rfl
theorem m_758 : Cond.code ({ cls := "ScrimshawKernel$Fields", name := "putTurned", desc := "(LScrimshawKernel$Fields;)V" } : MethodName) prog_2_method_22_code (6 : Nat) (Option.none : Option FieldType) ∈ zWS := zws_m 758 (by decide +kernel) rfl
theorem m_759 : Cond.methodLink "ScrimshawKernel$Fields" (41 : Nat) ({ cls := "ScrimshawKernel$Fields", name := "holds", desc := "(II)Z" } : MethodName) ∈ zWS := zws_m 759 (by decide +kernel) rfl
theorem m_760 : Cond.methodLink "ScrimshawKernelLaw" (162 : Nat) ({ cls := "ScrimshawKernelLaw", name := "mirror", desc := "(LScrimshawKernel;I[J)I" } : MethodName) ∈ zWS := zws_m 760 (by decide +kernel) rfl
theorem m_761 : Cond.static ({ cls := "ScrimshawKernelLaw", name := "mirror", desc := "(LScrimshawKernel;I[J)I" } : MethodName) ∈ zWS := zws_m 761 (by decide +kernel) rfl
theorem m_762 : Cond.codeWith ({ cls := "ScrimshawKernelLaw", name := "mirror", desc := "(LScrimshawKernel;I[J)I" } : MethodName) method_11_code (4 : Nat) (Option.some FieldType.int) [((0 : Nat), (9 : Nat), (12 : Nat), (27 : Nat))] ∈ zWS := zws_m 762 (by decide +kernel) rfl
theorem m_763 : Cond.methodLink "ScrimshawKernelLaw" (44 : Nat) ({ cls := "ScrimshawKernel", name := "mirror", desc := "(I)I" } : MethodName) ∈ zWS := zws_m 763 (by decide +kernel) rfl
theorem m_764 : Cond.instanceMethod ({ cls := "ScrimshawKernel", name := "mirror", desc := "(I)I" } : MethodName) ∈ zWS := zws_m 764 (by decide +kernel) rfl
theorem m_765 : Cond.selects "ScrimshawKernel" ({ cls := "ScrimshawKernel", name := "mirror", desc := "(I)I" } : MethodName) ({ cls := "ScrimshawKernel", name := "mirror", desc := "(I)I" } : MethodName) ∈ zWS := zws_m 765 (by decide +kernel) rfl
theorem m_766 : Cond.code ({ cls := "ScrimshawKernel", name := "mirror", desc := "(I)I" } : MethodName) prog_1_method_11_code (4 : Nat) (Option.some FieldType.int) ∈ zWS := zws_m 766 (by decide +kernel) rfl
theorem m_767 : Cond.methodLink "ScrimshawKernel" (162 : Nat) ({ cls := "ScrimshawKernel", name := "mirrored", desc := "(J)J" } : MethodName) ∈ zWS := zws_m 767 (by decide +kernel) rfl
theorem m_768 : Cond.static ({ cls := "ScrimshawKernel", name := "mirrored", desc := "(J)J" } : MethodName) ∈ zWS := zws_m 768 (by decide +kernel) rfl
theorem m_769 : Cond.code ({ cls := "ScrimshawKernel", name := "mirrored", desc := "(J)J" } : MethodName) prog_1_method_47_code (5 : Nat) (Option.some FieldType.long) ∈ zWS := zws_m 769 (by decide +kernel) rfl
theorem m_770 : Cond.methodLink "ScrimshawKernelLaw" (165 : Nat) ({ cls := "ScrimshawKernelLaw", name := "grow", desc := "(LScrimshawKernel;III[J)I" } : MethodName) ∈ zWS := zws_m 770 (by decide +kernel) rfl
theorem m_771 : Cond.static ({ cls := "ScrimshawKernelLaw", name := "grow", desc := "(LScrimshawKernel;III[J)I" } : MethodName) ∈ zWS := zws_m 771 (by decide +kernel) rfl
theorem m_772 : Cond.codeWith ({ cls := "ScrimshawKernelLaw", name := "grow", desc := "(LScrimshawKernel;III[J)I" } : MethodName) method_12_code (6 : Nat) (Option.some FieldType.int) [((0 : Nat), (12 : Nat), (15 : Nat), (27 : Nat)), ((0 : Nat), (12 : Nat), (19 : Nat), (13 : Nat)), ((0 : Nat), (12 : Nat), (23 : Nat), (19 : Nat))] ∈ zWS := zws_m 772 (by decide +kernel) rfl
theorem m_773 : Cond.methodLink "ScrimshawKernelLaw" (47 : Nat) ({ cls := "ScrimshawKernel", name := "grow", desc := "(III)I" } : MethodName) ∈ zWS := zws_m 773 (by decide +kernel) rfl
theorem m_774 : Cond.instanceMethod ({ cls := "ScrimshawKernel", name := "grow", desc := "(III)I" } : MethodName) ∈ zWS := zws_m 774 (by decide +kernel) rfl
theorem m_775 : Cond.selects "ScrimshawKernel" ({ cls := "ScrimshawKernel", name := "grow", desc := "(III)I" } : MethodName) ({ cls := "ScrimshawKernel", name := "grow", desc := "(III)I" } : MethodName) ∈ zWS := zws_m 775 (by decide +kernel) rfl
theorem m_776 : Cond.code ({ cls := "ScrimshawKernel", name := "grow", desc := "(III)I" } : MethodName) prog_1_method_12_code (6 : Nat) (Option.some FieldType.int) ∈ zWS := zws_m 776 (by decide +kernel) rfl
theorem m_777 : Cond.methodLink "ScrimshawKernel" (166 : Nat) ({ cls := "ScrimshawKernel", name := "checkGrowth", desc := "(II)V" } : MethodName) ∈ zWS := zws_m 777 (by decide +kernel) rfl
theorem m_778 : Cond.static ({ cls := "ScrimshawKernel", name := "checkGrowth", desc := "(II)V" } : MethodName) ∈ zWS := zws_m 778 (by decide +kernel) rfl
theorem m_779 : Cond.code ({ cls := "ScrimshawKernel", name := "checkGrowth", desc := "(II)V" } : MethodName) prog_1_method_40_code (2 : Nat) (Option.none : Option FieldType) ∈ zWS := zws_m 779 (by decide +kernel) rfl
theorem m_780 : lw_tbl[780]? = some (Cond.stringRef "ScrimshawKernel" (308 : Nat) "by is not 0 to 8, or kind is not 0 or 1") := by decide +kernel
theorem m_781 : Cond.methodLink "ScrimshawKernel" (169 : Nat) ({ cls := "ScrimshawKernel$Fields", name := "widen", desc := "(I)V" } : MethodName) ∈ zWS := zws_m 781 (by decide +kernel) rfl
theorem m_782 : Cond.instanceMethod ({ cls := "ScrimshawKernel$Fields", name := "widen", desc := "(I)V" } : MethodName) ∈ zWS := zws_m 782 (by decide +kernel) rfl
theorem m_783 : Cond.selects "ScrimshawKernel$Fields" ({ cls := "ScrimshawKernel$Fields", name := "widen", desc := "(I)V" } : MethodName) ({ cls := "ScrimshawKernel$Fields", name := "widen", desc := "(I)V" } : MethodName) ∈ zWS := zws_m 783 (by decide +kernel) rfl
theorem m_784 : Cond.code ({ cls := "ScrimshawKernel$Fields", name := "widen", desc := "(I)V" } : MethodName) prog_2_method_23_code (9 : Nat) (Option.none : Option FieldType) ∈ zWS := zws_m 784 (by decide +kernel) rfl
theorem m_785 : Cond.methodLink "ScrimshawKernelLaw" (168 : Nat) ({ cls := "ScrimshawKernelLaw", name := "shrink", desc := "(LScrimshawKernel;III[J)I" } : MethodName) ∈ zWS := zws_m 785 (by decide +kernel) rfl
theorem m_786 : Cond.static ({ cls := "ScrimshawKernelLaw", name := "shrink", desc := "(LScrimshawKernel;III[J)I" } : MethodName) ∈ zWS := zws_m 786 (by decide +kernel) rfl
theorem m_787 : Cond.codeWith ({ cls := "ScrimshawKernelLaw", name := "shrink", desc := "(LScrimshawKernel;III[J)I" } : MethodName) method_13_code (6 : Nat) (Option.some FieldType.int) [((0 : Nat), (12 : Nat), (15 : Nat), (27 : Nat)), ((0 : Nat), (12 : Nat), (19 : Nat), (13 : Nat))] ∈ zWS := zws_m 787 (by decide +kernel) rfl
theorem m_788 : Cond.methodLink "ScrimshawKernelLaw" (50 : Nat) ({ cls := "ScrimshawKernel", name := "shrink", desc := "(III)I" } : MethodName) ∈ zWS := zws_m 788 (by decide +kernel) rfl
theorem m_789 : Cond.instanceMethod ({ cls := "ScrimshawKernel", name := "shrink", desc := "(III)I" } : MethodName) ∈ zWS := zws_m 789 (by decide +kernel) rfl
theorem m_790 : Cond.selects "ScrimshawKernel" ({ cls := "ScrimshawKernel", name := "shrink", desc := "(III)I" } : MethodName) ({ cls := "ScrimshawKernel", name := "shrink", desc := "(III)I" } : MethodName) ∈ zWS := zws_m 790 (by decide +kernel) rfl
theorem m_791 : Cond.code ({ cls := "ScrimshawKernel", name := "shrink", desc := "(III)I" } : MethodName) prog_1_method_13_code (6 : Nat) (Option.some FieldType.int) ∈ zWS := zws_m 791 (by decide +kernel) rfl
theorem m_792 : Cond.methodLink "ScrimshawKernel" (173 : Nat) ({ cls := "ScrimshawKernel$Fields", name := "narrow", desc := "(I)V" } : MethodName) ∈ zWS := zws_m 792 (by decide +kernel) rfl
theorem m_793 : Cond.instanceMethod ({ cls := "ScrimshawKernel$Fields", name := "narrow", desc := "(I)V" } : MethodName) ∈ zWS := zws_m 793 (by decide +kernel) rfl
theorem m_794 : Cond.selects "ScrimshawKernel$Fields" ({ cls := "ScrimshawKernel$Fields", name := "narrow", desc := "(I)V" } : MethodName) ({ cls := "ScrimshawKernel$Fields", name := "narrow", desc := "(I)V" } : MethodName) ∈ zWS := zws_m 794 (by decide +kernel) rfl
theorem m_795 : Cond.code ({ cls := "ScrimshawKernel$Fields", name := "narrow", desc := "(I)V" } : MethodName) prog_2_method_24_code (9 : Nat) (Option.none : Option FieldType) ∈ zWS := zws_m 795 (by decide +kernel) rfl
theorem m_796 : Cond.methodLink "ScrimshawKernelLaw" (171 : Nat) ({ cls := "ScrimshawKernelLaw", name := "fill", desc := "(LScrimshawKernel;I[J)I" } : MethodName) ∈ zWS := zws_m 796 (by decide +kernel) rfl
theorem m_797 : Cond.static ({ cls := "ScrimshawKernelLaw", name := "fill", desc := "(LScrimshawKernel;I[J)I" } : MethodName) ∈ zWS := zws_m 797 (by decide +kernel) rfl
theorem m_798 : Cond.codeWith ({ cls := "ScrimshawKernelLaw", name := "fill", desc := "(LScrimshawKernel;I[J)I" } : MethodName) method_14_code (4 : Nat) (Option.some FieldType.int) [((0 : Nat), (9 : Nat), (12 : Nat), (27 : Nat))] ∈ zWS := zws_m 798 (by decide +kernel) rfl
theorem m_799 : Cond.methodLink "ScrimshawKernelLaw" (53 : Nat) ({ cls := "ScrimshawKernel", name := "fill", desc := "(I)I" } : MethodName) ∈ zWS := zws_m 799 (by decide +kernel) rfl
theorem m_800 : Cond.instanceMethod ({ cls := "ScrimshawKernel", name := "fill", desc := "(I)I" } : MethodName) ∈ zWS := zws_m 800 (by decide +kernel) rfl
theorem m_801 : Cond.selects "ScrimshawKernel" ({ cls := "ScrimshawKernel", name := "fill", desc := "(I)I" } : MethodName) ({ cls := "ScrimshawKernel", name := "fill", desc := "(I)I" } : MethodName) ∈ zWS := zws_m 801 (by decide +kernel) rfl
theorem m_802 : Cond.code ({ cls := "ScrimshawKernel", name := "fill", desc := "(I)I" } : MethodName) prog_1_method_14_code (3 : Nat) (Option.some FieldType.int) ∈ zWS := zws_m 802 (by decide +kernel) rfl
theorem m_803 : Cond.methodLink "ScrimshawKernel" (176 : Nat) ({ cls := "ScrimshawKernel$Flood", name := "fillHoles", desc := "(LScrimshawKernel$Fields;)I" } : MethodName) ∈ zWS := zws_m 803 (by decide +kernel) rfl
theorem m_804 : Cond.instanceMethod ({ cls := "ScrimshawKernel$Flood", name := "fillHoles", desc := "(LScrimshawKernel$Fields;)I" } : MethodName) ∈ zWS := zws_m 804 (by decide +kernel) rfl
theorem m_805 : Cond.selects "ScrimshawKernel$Flood" ({ cls := "ScrimshawKernel$Flood", name := "fillHoles", desc := "(LScrimshawKernel$Fields;)I" } : MethodName) ({ cls := "ScrimshawKernel$Flood", name := "fillHoles", desc := "(LScrimshawKernel$Fields;)I" } : MethodName) ∈ zWS := zws_m 805 (by decide +kernel) rfl
theorem m_806 : Cond.code ({ cls := "ScrimshawKernel$Flood", name := "fillHoles", desc := "(LScrimshawKernel$Fields;)I" } : MethodName) prog_3_method_4_code (2 : Nat) (Option.some FieldType.int) ∈ zWS := zws_m 806 (by decide +kernel) rfl
theorem m_807 : Cond.methodLink "ScrimshawKernel$Flood" (32 : Nat) ({ cls := "ScrimshawKernel$Fields", name := "unite", desc := "(LScrimshawKernel$Fields;)V" } : MethodName) ∈ zWS := zws_m 807 (by decide +kernel) rfl
theorem m_808 : Cond.instanceMethod ({ cls := "ScrimshawKernel$Fields", name := "unite", desc := "(LScrimshawKernel$Fields;)V" } : MethodName) ∈ zWS := zws_m 808 (by decide +kernel) rfl
theorem m_809 : Cond.selects "ScrimshawKernel$Fields" ({ cls := "ScrimshawKernel$Fields", name := "unite", desc := "(LScrimshawKernel$Fields;)V" } : MethodName) ({ cls := "ScrimshawKernel$Fields", name := "unite", desc := "(LScrimshawKernel$Fields;)V" } : MethodName) ∈ zWS := zws_m 809 (by decide +kernel) rfl
theorem m_810 : Cond.code ({ cls := "ScrimshawKernel$Fields", name := "unite", desc := "(LScrimshawKernel$Fields;)V" } : MethodName) prog_2_method_11_code (3 : Nat) (Option.none : Option FieldType) ∈ zWS := zws_m 810 (by decide +kernel) rfl
theorem m_811 : Cond.methodLink "ScrimshawKernelLaw" (174 : Nat) ({ cls := "ScrimshawKernelLaw", name := "keepPiece", desc := "(LScrimshawKernel;III[J)I" } : MethodName) ∈ zWS := zws_m 811 (by decide +kernel) rfl
theorem m_812 : Cond.static ({ cls := "ScrimshawKernelLaw", name := "keepPiece", desc := "(LScrimshawKernel;III[J)I" } : MethodName) ∈ zWS := zws_m 812 (by decide +kernel) rfl
theorem m_813 : Cond.codeWith ({ cls := "ScrimshawKernelLaw", name := "keepPiece", desc := "(LScrimshawKernel;III[J)I" } : MethodName) method_15_code (6 : Nat) (Option.some FieldType.int) [((0 : Nat), (12 : Nat), (15 : Nat), (27 : Nat))] ∈ zWS := zws_m 813 (by decide +kernel) rfl
theorem m_814 : Cond.methodLink "ScrimshawKernelLaw" (56 : Nat) ({ cls := "ScrimshawKernel", name := "keepPiece", desc := "(III)I" } : MethodName) ∈ zWS := zws_m 814 (by decide +kernel) rfl
theorem m_815 : Cond.instanceMethod ({ cls := "ScrimshawKernel", name := "keepPiece", desc := "(III)I" } : MethodName) ∈ zWS := zws_m 815 (by decide +kernel) rfl
theorem m_816 : Cond.selects "ScrimshawKernel" ({ cls := "ScrimshawKernel", name := "keepPiece", desc := "(III)I" } : MethodName) ({ cls := "ScrimshawKernel", name := "keepPiece", desc := "(III)I" } : MethodName) ∈ zWS := zws_m 816 (by decide +kernel) rfl
theorem m_817 : Cond.code ({ cls := "ScrimshawKernel", name := "keepPiece", desc := "(III)I" } : MethodName) prog_1_method_15_code (5 : Nat) (Option.some FieldType.int) ∈ zWS := zws_m 817 (by decide +kernel) rfl
theorem m_818 : Cond.methodLink "ScrimshawKernel" (180 : Nat) ({ cls := "ScrimshawKernel$Flood", name := "leavePiece", desc := "(LScrimshawKernel$Fields;II)V" } : MethodName) ∈ zWS := zws_m 818 (by decide +kernel) rfl
theorem m_819 : Cond.instanceMethod ({ cls := "ScrimshawKernel$Flood", name := "leavePiece", desc := "(LScrimshawKernel$Fields;II)V" } : MethodName) ∈ zWS := zws_m 819 (by decide +kernel) rfl
theorem m_820 : Cond.selects "ScrimshawKernel$Flood" ({ cls := "ScrimshawKernel$Flood", name := "leavePiece", desc := "(LScrimshawKernel$Fields;II)V" } : MethodName) ({ cls := "ScrimshawKernel$Flood", name := "leavePiece", desc := "(LScrimshawKernel$Fields;II)V" } : MethodName) ∈ zWS := zws_m 820 (by decide +kernel) rfl
theorem m_821 : Cond.code ({ cls := "ScrimshawKernel$Flood", name := "leavePiece", desc := "(LScrimshawKernel$Fields;II)V" } : MethodName) prog_3_method_5_code (4 : Nat) (Option.none : Option FieldType) ∈ zWS := zws_m 821 (by decide +kernel) rfl
theorem m_822 : Cond.methodLink "ScrimshawKernel$Flood" (38 : Nat) ({ cls := "ScrimshawKernel$Fields", name := "holds", desc := "(II)Z" } : MethodName) ∈ zWS := zws_m 822 (by decide +kernel) rfl
theorem m_823 : Cond.methodLink "ScrimshawKernelLaw" (177 : Nat) ({ cls := "ScrimshawKernelLaw", name := "clear", desc := "(LScrimshawKernel;I[J)I" } : MethodName) ∈ zWS := zws_m 823 (by decide +kernel) rfl
theorem m_824 : Cond.static ({ cls := "ScrimshawKernelLaw", name := "clear", desc := "(LScrimshawKernel;I[J)I" } : MethodName) ∈ zWS := zws_m 824 (by decide +kernel) rfl
theorem m_825 : Cond.codeWith ({ cls := "ScrimshawKernelLaw", name := "clear", desc := "(LScrimshawKernel;I[J)I" } : MethodName) method_16_code (4 : Nat) (Option.some FieldType.int) [((0 : Nat), (9 : Nat), (12 : Nat), (27 : Nat))] ∈ zWS := zws_m 825 (by decide +kernel) rfl
theorem m_826 : Cond.methodLink "ScrimshawKernelLaw" (59 : Nat) ({ cls := "ScrimshawKernel", name := "clear", desc := "(I)I" } : MethodName) ∈ zWS := zws_m 826 (by decide +kernel) rfl
theorem m_827 : Cond.instanceMethod ({ cls := "ScrimshawKernel", name := "clear", desc := "(I)I" } : MethodName) ∈ zWS := zws_m 827 (by decide +kernel) rfl
theorem m_828 : Cond.selects "ScrimshawKernel" ({ cls := "ScrimshawKernel", name := "clear", desc := "(I)I" } : MethodName) ({ cls := "ScrimshawKernel", name := "clear", desc := "(I)I" } : MethodName) ∈ zWS := zws_m 828 (by decide +kernel) rfl
theorem m_829 : Cond.code ({ cls := "ScrimshawKernel", name := "clear", desc := "(I)I" } : MethodName) prog_1_method_16_code (4 : Nat) (Option.some FieldType.int) ∈ zWS := zws_m 829 (by decide +kernel) rfl
theorem m_830 : Cond.methodLink "ScrimshawKernel" (184 : Nat) ({ cls := "ScrimshawKernel$Fields", name := "empty", desc := "()V" } : MethodName) ∈ zWS := zws_m 830 (by decide +kernel) rfl
theorem m_831 : Cond.methodLink "ScrimshawKernelLaw" (184 : Nat) ({ cls := "ScrimshawKernelLaw", name := "area", desc := "(LScrimshawKernel;I[J)I" } : MethodName) ∈ zWS := zws_m 831 (by decide +kernel) rfl
theorem m_832 : Cond.static ({ cls := "ScrimshawKernelLaw", name := "area", desc := "(LScrimshawKernel;I[J)I" } : MethodName) ∈ zWS := zws_m 832 (by decide +kernel) rfl
theorem m_833 : Cond.codeWith ({ cls := "ScrimshawKernelLaw", name := "area", desc := "(LScrimshawKernel;I[J)I" } : MethodName) method_17_code (4 : Nat) (Option.some FieldType.int) [((0 : Nat), (9 : Nat), (12 : Nat), (27 : Nat))] ∈ zWS := zws_m 833 (by decide +kernel) rfl
theorem m_834 : Cond.methodLink "ScrimshawKernelLaw" (62 : Nat) ({ cls := "ScrimshawKernel", name := "area", desc := "(I)I" } : MethodName) ∈ zWS := zws_m 834 (by decide +kernel) rfl
theorem m_835 : Cond.instanceMethod ({ cls := "ScrimshawKernel", name := "area", desc := "(I)I" } : MethodName) ∈ zWS := zws_m 835 (by decide +kernel) rfl
theorem m_836 : Cond.selects "ScrimshawKernel" ({ cls := "ScrimshawKernel", name := "area", desc := "(I)I" } : MethodName) ({ cls := "ScrimshawKernel", name := "area", desc := "(I)I" } : MethodName) ∈ zWS := zws_m 836 (by decide +kernel) rfl
theorem m_837 : Cond.code ({ cls := "ScrimshawKernel", name := "area", desc := "(I)I" } : MethodName) prog_1_method_18_code (2 : Nat) (Option.some FieldType.int) ∈ zWS := zws_m 837 (by decide +kernel) rfl
theorem m_838 : Cond.methodLink "ScrimshawKernelLaw" (187 : Nat) ({ cls := "ScrimshawKernelLaw", name := "edges", desc := "(LScrimshawKernel;I[J)I" } : MethodName) ∈ zWS := zws_m 838 (by decide +kernel) rfl
theorem m_839 : Cond.static ({ cls := "ScrimshawKernelLaw", name := "edges", desc := "(LScrimshawKernel;I[J)I" } : MethodName) ∈ zWS := zws_m 839 (by decide +kernel) rfl
theorem m_840 : Cond.codeWith ({ cls := "ScrimshawKernelLaw", name := "edges", desc := "(LScrimshawKernel;I[J)I" } : MethodName) method_18_code (4 : Nat) (Option.some FieldType.int) [((0 : Nat), (9 : Nat), (12 : Nat), (27 : Nat))] ∈ zWS := zws_m 840 (by decide +kernel) rfl
theorem m_841 : Cond.methodLink "ScrimshawKernelLaw" (65 : Nat) ({ cls := "ScrimshawKernel", name := "edges", desc := "(I)I" } : MethodName) ∈ zWS := zws_m 841 (by decide +kernel) rfl
theorem m_842 : Cond.instanceMethod ({ cls := "ScrimshawKernel", name := "edges", desc := "(I)I" } : MethodName) ∈ zWS := zws_m 842 (by decide +kernel) rfl
theorem m_843 : Cond.selects "ScrimshawKernel" ({ cls := "ScrimshawKernel", name := "edges", desc := "(I)I" } : MethodName) ({ cls := "ScrimshawKernel", name := "edges", desc := "(I)I" } : MethodName) ∈ zWS := zws_m 843 (by decide +kernel) rfl
theorem m_844 : Cond.code ({ cls := "ScrimshawKernel", name := "edges", desc := "(I)I" } : MethodName) prog_1_method_19_code (2 : Nat) (Option.some FieldType.int) ∈ zWS := zws_m 844 (by decide +kernel) rfl
theorem m_845 : Cond.methodLink "ScrimshawKernelLaw" (190 : Nat) ({ cls := "ScrimshawKernelLaw", name := "pieces", desc := "(LScrimshawKernel;I[J)I" } : MethodName) ∈ zWS := zws_m 845 (by decide +kernel) rfl
theorem m_846 : Cond.static ({ cls := "ScrimshawKernelLaw", name := "pieces", desc := "(LScrimshawKernel;I[J)I" } : MethodName) ∈ zWS := zws_m 846 (by decide +kernel) rfl
theorem m_847 : Cond.codeWith ({ cls := "ScrimshawKernelLaw", name := "pieces", desc := "(LScrimshawKernel;I[J)I" } : MethodName) method_19_code (4 : Nat) (Option.some FieldType.int) [((0 : Nat), (9 : Nat), (12 : Nat), (27 : Nat))] ∈ zWS := zws_m 847 (by decide +kernel) rfl
theorem m_848 : Cond.methodLink "ScrimshawKernelLaw" (68 : Nat) ({ cls := "ScrimshawKernel", name := "pieces", desc := "(I)I" } : MethodName) ∈ zWS := zws_m 848 (by decide +kernel) rfl
theorem m_849 : Cond.instanceMethod ({ cls := "ScrimshawKernel", name := "pieces", desc := "(I)I" } : MethodName) ∈ zWS := zws_m 849 (by decide +kernel) rfl
theorem m_850 : Cond.selects "ScrimshawKernel" ({ cls := "ScrimshawKernel", name := "pieces", desc := "(I)I" } : MethodName) ({ cls := "ScrimshawKernel", name := "pieces", desc := "(I)I" } : MethodName) ∈ zWS := zws_m 850 (by decide +kernel) rfl
theorem m_851 : Cond.code ({ cls := "ScrimshawKernel", name := "pieces", desc := "(I)I" } : MethodName) prog_1_method_20_code (2 : Nat) (Option.some FieldType.int) ∈ zWS := zws_m 851 (by decide +kernel) rfl
theorem m_852 : Cond.methodLink "ScrimshawKernelLaw" (193 : Nat) ({ cls := "ScrimshawKernelLaw", name := "holes", desc := "(LScrimshawKernel;I[J)I" } : MethodName) ∈ zWS := zws_m 852 (by decide +kernel) rfl
theorem m_853 : Cond.static ({ cls := "ScrimshawKernelLaw", name := "holes", desc := "(LScrimshawKernel;I[J)I" } : MethodName) ∈ zWS := zws_m 853 (by decide +kernel) rfl
theorem m_854 : Cond.codeWith ({ cls := "ScrimshawKernelLaw", name := "holes", desc := "(LScrimshawKernel;I[J)I" } : MethodName) method_20_code (4 : Nat) (Option.some FieldType.int) [((0 : Nat), (9 : Nat), (12 : Nat), (27 : Nat))] ∈ zWS := zws_m 854 (by decide +kernel) rfl
theorem m_855 : Cond.methodLink "ScrimshawKernelLaw" (71 : Nat) ({ cls := "ScrimshawKernel", name := "holes", desc := "(I)I" } : MethodName) ∈ zWS := zws_m 855 (by decide +kernel) rfl
theorem m_856 : Cond.instanceMethod ({ cls := "ScrimshawKernel", name := "holes", desc := "(I)I" } : MethodName) ∈ zWS := zws_m 856 (by decide +kernel) rfl
theorem m_857 : Cond.selects "ScrimshawKernel" ({ cls := "ScrimshawKernel", name := "holes", desc := "(I)I" } : MethodName) ({ cls := "ScrimshawKernel", name := "holes", desc := "(I)I" } : MethodName) ∈ zWS := zws_m 857 (by decide +kernel) rfl
theorem m_858 : Cond.code ({ cls := "ScrimshawKernel", name := "holes", desc := "(I)I" } : MethodName) prog_1_method_21_code (2 : Nat) (Option.some FieldType.int) ∈ zWS := zws_m 858 (by decide +kernel) rfl
theorem m_859 : Cond.methodLink "ScrimshawKernelLaw" (196 : Nat) ({ cls := "ScrimshawKernelLaw", name := "has", desc := "(LScrimshawKernel;III[J)I" } : MethodName) ∈ zWS := zws_m 859 (by decide +kernel) rfl
theorem m_860 : Cond.static ({ cls := "ScrimshawKernelLaw", name := "has", desc := "(LScrimshawKernel;III[J)I" } : MethodName) ∈ zWS := zws_m 860 (by decide +kernel) rfl
theorem m_861 : Cond.codeWith ({ cls := "ScrimshawKernelLaw", name := "has", desc := "(LScrimshawKernel;III[J)I" } : MethodName) method_21_code (6 : Nat) (Option.some FieldType.int) [((0 : Nat), (19 : Nat), (22 : Nat), (27 : Nat))] ∈ zWS := zws_m 861 (by decide +kernel) rfl
theorem m_862 : Cond.methodLink "ScrimshawKernelLaw" (74 : Nat) ({ cls := "ScrimshawKernel", name := "has", desc := "(III)Z" } : MethodName) ∈ zWS := zws_m 862 (by decide +kernel) rfl
theorem m_863 : Cond.instanceMethod ({ cls := "ScrimshawKernel", name := "has", desc := "(III)Z" } : MethodName) ∈ zWS := zws_m 863 (by decide +kernel) rfl
theorem m_864 : Cond.selects "ScrimshawKernel" ({ cls := "ScrimshawKernel", name := "has", desc := "(III)Z" } : MethodName) ({ cls := "ScrimshawKernel", name := "has", desc := "(III)Z" } : MethodName) ∈ zWS := zws_m 864 (by decide +kernel) rfl
theorem m_865 : Cond.code ({ cls := "ScrimshawKernel", name := "has", desc := "(III)Z" } : MethodName) prog_1_method_22_code (4 : Nat) (Option.some FieldType.boolean) ∈ zWS := zws_m 865 (by decide +kernel) rfl
theorem m_866 : Cond.methodLink "ScrimshawKernel" (202 : Nat) ({ cls := "ScrimshawKernel$Fields", name := "holds", desc := "(II)Z" } : MethodName) ∈ zWS := zws_m 866 (by decide +kernel) rfl
theorem m_867 : Cond.methodLink "ScrimshawKernelLaw" (199 : Nat) ({ cls := "ScrimshawKernelLaw", name := "bound", desc := "(LScrimshawKernel;II[J)I" } : MethodName) ∈ zWS := zws_m 867 (by decide +kernel) rfl
theorem m_868 : Cond.static ({ cls := "ScrimshawKernelLaw", name := "bound", desc := "(LScrimshawKernel;II[J)I" } : MethodName) ∈ zWS := zws_m 868 (by decide +kernel) rfl
theorem m_869 : Cond.codeWith ({ cls := "ScrimshawKernelLaw", name := "bound", desc := "(LScrimshawKernel;II[J)I" } : MethodName) method_22_code (5 : Nat) (Option.some FieldType.int) [((0 : Nat), (10 : Nat), (13 : Nat), (27 : Nat)), ((0 : Nat), (10 : Nat), (17 : Nat), (13 : Nat))] ∈ zWS := zws_m 869 (by decide +kernel) rfl
theorem m_870 : Cond.methodLink "ScrimshawKernelLaw" (78 : Nat) ({ cls := "ScrimshawKernel", name := "bound", desc := "(II)I" } : MethodName) ∈ zWS := zws_m 870 (by decide +kernel) rfl
theorem m_871 : Cond.instanceMethod ({ cls := "ScrimshawKernel", name := "bound", desc := "(II)I" } : MethodName) ∈ zWS := zws_m 871 (by decide +kernel) rfl
theorem m_872 : Cond.selects "ScrimshawKernel" ({ cls := "ScrimshawKernel", name := "bound", desc := "(II)I" } : MethodName) ({ cls := "ScrimshawKernel", name := "bound", desc := "(II)I" } : MethodName) ∈ zWS := zws_m 872 (by decide +kernel) rfl
theorem m_873 : Cond.code ({ cls := "ScrimshawKernel", name := "bound", desc := "(II)I" } : MethodName) prog_1_method_23_code (4 : Nat) (Option.some FieldType.int) ∈ zWS := zws_m 873 (by decide +kernel) rfl
theorem m_874 : lw_tbl[874]? = some (Cond.stringRef "ScrimshawKernel" (206 : Nat) "side is not 0 to 3") := by decide +kernel
theorem m_875 : Cond.methodLink "ScrimshawKernelLaw" (202 : Nat) ({ cls := "ScrimshawKernelLaw", name := "contours", desc := "(LScrimshawKernel;I[J)I" } : MethodName) ∈ zWS := zws_m 875 (by decide +kernel) rfl
theorem m_876 : Cond.static ({ cls := "ScrimshawKernelLaw", name := "contours", desc := "(LScrimshawKernel;I[J)I" } : MethodName) ∈ zWS := zws_m 876 (by decide +kernel) rfl
theorem m_877 : Cond.codeWith ({ cls := "ScrimshawKernelLaw", name := "contours", desc := "(LScrimshawKernel;I[J)I" } : MethodName) method_23_code (4 : Nat) (Option.some FieldType.int) [((0 : Nat), (9 : Nat), (12 : Nat), (27 : Nat))] ∈ zWS := zws_m 877 (by decide +kernel) rfl
theorem m_878 : Cond.methodLink "ScrimshawKernelLaw" (81 : Nat) ({ cls := "ScrimshawKernel", name := "contours", desc := "(I)I" } : MethodName) ∈ zWS := zws_m 878 (by decide +kernel) rfl
theorem m_879 : Cond.instanceMethod ({ cls := "ScrimshawKernel", name := "contours", desc := "(I)I" } : MethodName) ∈ zWS := zws_m 879 (by decide +kernel) rfl
theorem m_880 : Cond.selects "ScrimshawKernel" ({ cls := "ScrimshawKernel", name := "contours", desc := "(I)I" } : MethodName) ({ cls := "ScrimshawKernel", name := "contours", desc := "(I)I" } : MethodName) ∈ zWS := zws_m 880 (by decide +kernel) rfl
theorem m_881 : Cond.code ({ cls := "ScrimshawKernel", name := "contours", desc := "(I)I" } : MethodName) prog_1_method_24_code (2 : Nat) (Option.some FieldType.int) ∈ zWS := zws_m 881 (by decide +kernel) rfl
theorem m_882 : Cond.methodLink "ScrimshawKernelLaw" (205 : Nat) ({ cls := "ScrimshawKernelLaw", name := "corners", desc := "(LScrimshawKernel;II[J)I" } : MethodName) ∈ zWS := zws_m 882 (by decide +kernel) rfl
theorem m_883 : Cond.static ({ cls := "ScrimshawKernelLaw", name := "corners", desc := "(LScrimshawKernel;II[J)I" } : MethodName) ∈ zWS := zws_m 883 (by decide +kernel) rfl
theorem m_884 : Cond.codeWith ({ cls := "ScrimshawKernelLaw", name := "corners", desc := "(LScrimshawKernel;II[J)I" } : MethodName) method_24_code (5 : Nat) (Option.some FieldType.int) [((0 : Nat), (10 : Nat), (13 : Nat), (27 : Nat))] ∈ zWS := zws_m 884 (by decide +kernel) rfl
theorem m_885 : Cond.methodLink "ScrimshawKernelLaw" (84 : Nat) ({ cls := "ScrimshawKernel", name := "corners", desc := "(II)I" } : MethodName) ∈ zWS := zws_m 885 (by decide +kernel) rfl
theorem m_886 : Cond.instanceMethod ({ cls := "ScrimshawKernel", name := "corners", desc := "(II)I" } : MethodName) ∈ zWS := zws_m 886 (by decide +kernel) rfl
theorem m_887 : Cond.selects "ScrimshawKernel" ({ cls := "ScrimshawKernel", name := "corners", desc := "(II)I" } : MethodName) ({ cls := "ScrimshawKernel", name := "corners", desc := "(II)I" } : MethodName) ∈ zWS := zws_m 887 (by decide +kernel) rfl
theorem m_888 : Cond.code ({ cls := "ScrimshawKernel", name := "corners", desc := "(II)I" } : MethodName) prog_1_method_25_code (3 : Nat) (Option.some FieldType.int) ∈ zWS := zws_m 888 (by decide +kernel) rfl
theorem m_889 : Cond.methodLink "ScrimshawKernel" (215 : Nat) ({ cls := "ScrimshawKernel", name := "walkTo", desc := "(III)V" } : MethodName) ∈ zWS := zws_m 889 (by decide +kernel) rfl
theorem m_891 : Cond.instanceMethod ({ cls := "ScrimshawKernel", name := "walkTo", desc := "(III)V" } : MethodName) ∈ zWS := zws_m 891 (by decide +kernel) rfl
theorem m_892 : Cond.code ({ cls := "ScrimshawKernel", name := "walkTo", desc := "(III)V" } : MethodName) prog_1_method_42_code (5 : Nat) (Option.none : Option FieldType) ∈ zWS := zws_m 892 (by decide +kernel) rfl
theorem m_893 : Cond.methodLink "ScrimshawKernel" (312 : Nat) ({ cls := "ScrimshawKernel$Outline", name := "goTo", desc := "(LScrimshawKernel$Fields;II)Z" } : MethodName) ∈ zWS := zws_m 893 (by decide +kernel) rfl
theorem m_894 : Cond.instanceMethod ({ cls := "ScrimshawKernel$Outline", name := "goTo", desc := "(LScrimshawKernel$Fields;II)Z" } : MethodName) ∈ zWS := zws_m 894 (by decide +kernel) rfl
theorem m_895 : Cond.selects "ScrimshawKernel$Outline" ({ cls := "ScrimshawKernel$Outline", name := "goTo", desc := "(LScrimshawKernel$Fields;II)Z" } : MethodName) ({ cls := "ScrimshawKernel$Outline", name := "goTo", desc := "(LScrimshawKernel$Fields;II)Z" } : MethodName) ∈ zWS := zws_m 895 (by decide +kernel) rfl
theorem m_896 : Cond.code ({ cls := "ScrimshawKernel$Outline", name := "goTo", desc := "(LScrimshawKernel$Fields;II)Z" } : MethodName) prog_5_method_7_code (6 : Nat) (Option.some FieldType.boolean) ∈ zWS := zws_m 896 (by decide +kernel) rfl
theorem m_897 : lw_tbl[897]? = some (Cond.stringRef "ScrimshawKernel" (315 : Nat) "no such contour") := by decide +kernel
theorem m_898 : lw_tbl[898]? = some (Cond.stringRef "ScrimshawKernel" (317 : Nat) "no such corner") := by decide +kernel
theorem m_899 : Cond.methodLink "ScrimshawKernelLaw" (208 : Nat) ({ cls := "ScrimshawKernelLaw", name := "cornerX", desc := "(LScrimshawKernel;III[J)I" } : MethodName) ∈ zWS := zws_m 899 (by decide +kernel) rfl
theorem m_900 : Cond.static ({ cls := "ScrimshawKernelLaw", name := "cornerX", desc := "(LScrimshawKernel;III[J)I" } : MethodName) ∈ zWS := zws_m 900 (by decide +kernel) rfl
theorem m_901 : Cond.codeWith ({ cls := "ScrimshawKernelLaw", name := "cornerX", desc := "(LScrimshawKernel;III[J)I" } : MethodName) method_25_code (6 : Nat) (Option.some FieldType.int) [((0 : Nat), (12 : Nat), (15 : Nat), (27 : Nat))] ∈ zWS := zws_m 901 (by decide +kernel) rfl
theorem m_902 : Cond.methodLink "ScrimshawKernelLaw" (87 : Nat) ({ cls := "ScrimshawKernel", name := "cornerX", desc := "(III)I" } : MethodName) ∈ zWS := zws_m 902 (by decide +kernel) rfl
theorem m_903 : Cond.instanceMethod ({ cls := "ScrimshawKernel", name := "cornerX", desc := "(III)I" } : MethodName) ∈ zWS := zws_m 903 (by decide +kernel) rfl
theorem m_904 : Cond.selects "ScrimshawKernel" ({ cls := "ScrimshawKernel", name := "cornerX", desc := "(III)I" } : MethodName) ({ cls := "ScrimshawKernel", name := "cornerX", desc := "(III)I" } : MethodName) ∈ zWS := zws_m 904 (by decide +kernel) rfl
theorem m_905 : Cond.code ({ cls := "ScrimshawKernel", name := "cornerX", desc := "(III)I" } : MethodName) prog_1_method_26_code (4 : Nat) (Option.some FieldType.int) ∈ zWS := zws_m 905 (by decide +kernel) rfl
theorem m_906 : Cond.methodLink "ScrimshawKernelLaw" (211 : Nat) ({ cls := "ScrimshawKernelLaw", name := "cornerY", desc := "(LScrimshawKernel;III[J)I" } : MethodName) ∈ zWS := zws_m 906 (by decide +kernel) rfl
theorem m_907 : Cond.static ({ cls := "ScrimshawKernelLaw", name := "cornerY", desc := "(LScrimshawKernel;III[J)I" } : MethodName) ∈ zWS := zws_m 907 (by decide +kernel) rfl
theorem m_908 : Cond.codeWith ({ cls := "ScrimshawKernelLaw", name := "cornerY", desc := "(LScrimshawKernel;III[J)I" } : MethodName) method_26_code (6 : Nat) (Option.some FieldType.int) [((0 : Nat), (12 : Nat), (15 : Nat), (27 : Nat))] ∈ zWS := zws_m 908 (by decide +kernel) rfl
theorem m_909 : Cond.methodLink "ScrimshawKernelLaw" (90 : Nat) ({ cls := "ScrimshawKernel", name := "cornerY", desc := "(III)I" } : MethodName) ∈ zWS := zws_m 909 (by decide +kernel) rfl
theorem m_910 : Cond.instanceMethod ({ cls := "ScrimshawKernel", name := "cornerY", desc := "(III)I" } : MethodName) ∈ zWS := zws_m 910 (by decide +kernel) rfl
theorem m_911 : Cond.selects "ScrimshawKernel" ({ cls := "ScrimshawKernel", name := "cornerY", desc := "(III)I" } : MethodName) ({ cls := "ScrimshawKernel", name := "cornerY", desc := "(III)I" } : MethodName) ∈ zWS := zws_m 911 (by decide +kernel) rfl
theorem m_912 : Cond.code ({ cls := "ScrimshawKernel", name := "cornerY", desc := "(III)I" } : MethodName) prog_1_method_27_code (4 : Nat) (Option.some FieldType.int) ∈ zWS := zws_m 912 (by decide +kernel) rfl
theorem m_913 : Cond.methodLink "ScrimshawKernelLaw" (214 : Nat) ({ cls := "ScrimshawKernelLaw", name := "areaOf", desc := "(LScrimshawKernel;II[J)I" } : MethodName) ∈ zWS := zws_m 913 (by decide +kernel) rfl
theorem m_914 : Cond.static ({ cls := "ScrimshawKernelLaw", name := "areaOf", desc := "(LScrimshawKernel;II[J)I" } : MethodName) ∈ zWS := zws_m 914 (by decide +kernel) rfl
theorem m_915 : Cond.codeWith ({ cls := "ScrimshawKernelLaw", name := "areaOf", desc := "(LScrimshawKernel;II[J)I" } : MethodName) method_27_code (5 : Nat) (Option.some FieldType.int) [((0 : Nat), (10 : Nat), (13 : Nat), (27 : Nat))] ∈ zWS := zws_m 915 (by decide +kernel) rfl
theorem m_916 : Cond.methodLink "ScrimshawKernelLaw" (93 : Nat) ({ cls := "ScrimshawKernel", name := "areaOf", desc := "(II)I" } : MethodName) ∈ zWS := zws_m 916 (by decide +kernel) rfl
theorem m_917 : Cond.instanceMethod ({ cls := "ScrimshawKernel", name := "areaOf", desc := "(II)I" } : MethodName) ∈ zWS := zws_m 917 (by decide +kernel) rfl
theorem m_918 : Cond.selects "ScrimshawKernel" ({ cls := "ScrimshawKernel", name := "areaOf", desc := "(II)I" } : MethodName) ({ cls := "ScrimshawKernel", name := "areaOf", desc := "(II)I" } : MethodName) ∈ zWS := zws_m 918 (by decide +kernel) rfl
theorem m_919 : Cond.code ({ cls := "ScrimshawKernel", name := "areaOf", desc := "(II)I" } : MethodName) prog_1_method_28_code (3 : Nat) (Option.some FieldType.int) ∈ zWS := zws_m 919 (by decide +kernel) rfl
theorem m_920 : Cond.methodLink "ScrimshawKernelLaw" (217 : Nat) ({ cls := "ScrimshawKernelLaw", name := "strips", desc := "(LScrimshawKernel;I[J)I" } : MethodName) ∈ zWS := zws_m 920 (by decide +kernel) rfl
theorem m_921 : Cond.static ({ cls := "ScrimshawKernelLaw", name := "strips", desc := "(LScrimshawKernel;I[J)I" } : MethodName) ∈ zWS := zws_m 921 (by decide +kernel) rfl
theorem m_922 : Cond.codeWith ({ cls := "ScrimshawKernelLaw", name := "strips", desc := "(LScrimshawKernel;I[J)I" } : MethodName) method_28_code (4 : Nat) (Option.some FieldType.int) [((0 : Nat), (9 : Nat), (12 : Nat), (27 : Nat))] ∈ zWS := zws_m 922 (by decide +kernel) rfl
theorem m_923 : Cond.methodLink "ScrimshawKernelLaw" (96 : Nat) ({ cls := "ScrimshawKernel", name := "strips", desc := "(I)I" } : MethodName) ∈ zWS := zws_m 923 (by decide +kernel) rfl
theorem m_924 : Cond.instanceMethod ({ cls := "ScrimshawKernel", name := "strips", desc := "(I)I" } : MethodName) ∈ zWS := zws_m 924 (by decide +kernel) rfl
theorem m_925 : Cond.selects "ScrimshawKernel" ({ cls := "ScrimshawKernel", name := "strips", desc := "(I)I" } : MethodName) ({ cls := "ScrimshawKernel", name := "strips", desc := "(I)I" } : MethodName) ∈ zWS := zws_m 925 (by decide +kernel) rfl
theorem m_926 : Cond.code ({ cls := "ScrimshawKernel", name := "strips", desc := "(I)I" } : MethodName) prog_1_method_29_code (2 : Nat) (Option.some FieldType.int) ∈ zWS := zws_m 926 (by decide +kernel) rfl
theorem m_927 : Cond.methodLink "ScrimshawKernelLaw" (220 : Nat) ({ cls := "ScrimshawKernelLaw", name := "strip", desc := "(LScrimshawKernel;III[J)I" } : MethodName) ∈ zWS := zws_m 927 (by decide +kernel) rfl
theorem m_928 : Cond.static ({ cls := "ScrimshawKernelLaw", name := "strip", desc := "(LScrimshawKernel;III[J)I" } : MethodName) ∈ zWS := zws_m 928 (by decide +kernel) rfl
theorem m_929 : Cond.codeWith ({ cls := "ScrimshawKernelLaw", name := "strip", desc := "(LScrimshawKernel;III[J)I" } : MethodName) method_29_code (6 : Nat) (Option.some FieldType.int) [((0 : Nat), (12 : Nat), (15 : Nat), (27 : Nat)), ((0 : Nat), (12 : Nat), (19 : Nat), (13 : Nat))] ∈ zWS := zws_m 929 (by decide +kernel) rfl
theorem m_930 : Cond.methodLink "ScrimshawKernelLaw" (99 : Nat) ({ cls := "ScrimshawKernel", name := "strip", desc := "(III)I" } : MethodName) ∈ zWS := zws_m 930 (by decide +kernel) rfl
theorem m_931 : Cond.instanceMethod ({ cls := "ScrimshawKernel", name := "strip", desc := "(III)I" } : MethodName) ∈ zWS := zws_m 931 (by decide +kernel) rfl
theorem m_932 : Cond.selects "ScrimshawKernel" ({ cls := "ScrimshawKernel", name := "strip", desc := "(III)I" } : MethodName) ({ cls := "ScrimshawKernel", name := "strip", desc := "(III)I" } : MethodName) ∈ zWS := zws_m 932 (by decide +kernel) rfl
theorem m_933 : Cond.code ({ cls := "ScrimshawKernel", name := "strip", desc := "(III)I" } : MethodName) prog_1_method_30_code (5 : Nat) (Option.some FieldType.int) ∈ zWS := zws_m 933 (by decide +kernel) rfl
theorem m_934 : Cond.methodLink "ScrimshawKernel" (234 : Nat) ({ cls := "ScrimshawKernel$StripWalk", name := "goTo", desc := "(LScrimshawKernel$Fields;I)Z" } : MethodName) ∈ zWS := zws_m 934 (by decide +kernel) rfl
theorem m_935 : Cond.instanceMethod ({ cls := "ScrimshawKernel$StripWalk", name := "goTo", desc := "(LScrimshawKernel$Fields;I)Z" } : MethodName) ∈ zWS := zws_m 935 (by decide +kernel) rfl
theorem m_936 : Cond.selects "ScrimshawKernel$StripWalk" ({ cls := "ScrimshawKernel$StripWalk", name := "goTo", desc := "(LScrimshawKernel$Fields;I)Z" } : MethodName) ({ cls := "ScrimshawKernel$StripWalk", name := "goTo", desc := "(LScrimshawKernel$Fields;I)Z" } : MethodName) ∈ zWS := zws_m 936 (by decide +kernel) rfl
theorem m_937 : Cond.code ({ cls := "ScrimshawKernel$StripWalk", name := "goTo", desc := "(LScrimshawKernel$Fields;I)Z" } : MethodName) prog_7_method_4_code (5 : Nat) (Option.some FieldType.boolean) ∈ zWS := zws_m 937 (by decide +kernel) rfl
theorem m_938 : lw_tbl[938]? = some (Cond.stringRef "ScrimshawKernel" (240 : Nat) "no such strip") := by decide +kernel
theorem m_939 : lw_tbl[939]? = some (Cond.stringRef "ScrimshawKernel" (243 : Nat) "what is not 0 to 3") := by decide +kernel
theorem m_940 : Cond.methodLink "ScrimshawKernelLaw" (223 : Nat) ({ cls := "ScrimshawKernelLaw", name := "hatch", desc := "(LScrimshawKernel;IIII[J)I" } : MethodName) ∈ zWS := zws_m 940 (by decide +kernel) rfl
theorem m_941 : Cond.static ({ cls := "ScrimshawKernelLaw", name := "hatch", desc := "(LScrimshawKernel;IIII[J)I" } : MethodName) ∈ zWS := zws_m 941 (by decide +kernel) rfl
theorem m_942 : Cond.codeWith ({ cls := "ScrimshawKernelLaw", name := "hatch", desc := "(LScrimshawKernel;IIII[J)I" } : MethodName) method_30_code (7 : Nat) (Option.some FieldType.int) [((0 : Nat), (14 : Nat), (17 : Nat), (27 : Nat)), ((0 : Nat), (14 : Nat), (21 : Nat), (13 : Nat))] ∈ zWS := zws_m 942 (by decide +kernel) rfl
theorem m_943 : Cond.methodLink "ScrimshawKernelLaw" (102 : Nat) ({ cls := "ScrimshawKernel", name := "hatch", desc := "(IIII)I" } : MethodName) ∈ zWS := zws_m 943 (by decide +kernel) rfl
theorem m_944 : Cond.instanceMethod ({ cls := "ScrimshawKernel", name := "hatch", desc := "(IIII)I" } : MethodName) ∈ zWS := zws_m 944 (by decide +kernel) rfl
theorem m_945 : Cond.selects "ScrimshawKernel" ({ cls := "ScrimshawKernel", name := "hatch", desc := "(IIII)I" } : MethodName) ({ cls := "ScrimshawKernel", name := "hatch", desc := "(IIII)I" } : MethodName) ∈ zWS := zws_m 945 (by decide +kernel) rfl
theorem m_946 : Cond.code ({ cls := "ScrimshawKernel", name := "hatch", desc := "(IIII)I" } : MethodName) prog_1_method_31_code (10 : Nat) (Option.some FieldType.int) ∈ zWS := zws_m 946 (by decide +kernel) rfl
theorem m_947 : Cond.methodLink "ScrimshawKernel" (249 : Nat) ({ cls := "ScrimshawKernel", name := "checkHatching", desc := "(III)V" } : MethodName) ∈ zWS := zws_m 947 (by decide +kernel) rfl
theorem m_948 : Cond.static ({ cls := "ScrimshawKernel", name := "checkHatching", desc := "(III)V" } : MethodName) ∈ zWS := zws_m 948 (by decide +kernel) rfl
theorem m_949 : Cond.code ({ cls := "ScrimshawKernel", name := "checkHatching", desc := "(III)V" } : MethodName) prog_1_method_41_code (3 : Nat) (Option.none : Option FieldType) ∈ zWS := zws_m 949 (by decide +kernel) rfl
theorem m_950 : lw_tbl[950]? = some (Cond.stringRef "ScrimshawKernel" (310 : Nat) "kind is not 0 to 3, every not 1 to 20, or first not -100 to 100") := by decide +kernel
theorem m_951 : Cond.methodLink "ScrimshawKernel" (252 : Nat) ({ cls := "ScrimshawKernel", name := "fieldsBehind", desc := "(LScrimshawKernel$Fields;II)J" } : MethodName) ∈ zWS := zws_m 951 (by decide +kernel) rfl
theorem m_952 : Cond.static ({ cls := "ScrimshawKernel", name := "fieldsBehind", desc := "(LScrimshawKernel$Fields;II)J" } : MethodName) ∈ zWS := zws_m 952 (by decide +kernel) rfl
theorem m_953 : Cond.code ({ cls := "ScrimshawKernel", name := "fieldsBehind", desc := "(LScrimshawKernel$Fields;II)J" } : MethodName) prog_1_method_48_code (3 : Nat) (Option.some FieldType.long) ∈ zWS := zws_m 953 (by decide +kernel) rfl
theorem m_954 : Cond.methodLink "ScrimshawKernel" (256 : Nat) ({ cls := "ScrimshawKernel", name := "fieldsOnLines", desc := "(IIII)J" } : MethodName) ∈ zWS := zws_m 954 (by decide +kernel) rfl
theorem m_955 : Cond.static ({ cls := "ScrimshawKernel", name := "fieldsOnLines", desc := "(IIII)J" } : MethodName) ∈ zWS := zws_m 955 (by decide +kernel) rfl
theorem m_956 : Cond.code ({ cls := "ScrimshawKernel", name := "fieldsOnLines", desc := "(IIII)J" } : MethodName) prog_1_method_49_code (7 : Nat) (Option.some FieldType.long) ∈ zWS := zws_m 956 (by decide +kernel) rfl
theorem m_957 : Cond.methodLink "ScrimshawKernel" (323 : Nat) ({ cls := "ScrimshawKernel", name := "numberOfLine", desc := "(III)I" } : MethodName) ∈ zWS := zws_m 957 (by decide +kernel) rfl
theorem m_958 : Cond.static ({ cls := "ScrimshawKernel", name := "numberOfLine", desc := "(III)I" } : MethodName) ∈ zWS := zws_m 958 (by decide +kernel) rfl
theorem m_959 : Cond.code ({ cls := "ScrimshawKernel", name := "numberOfLine", desc := "(III)I" } : MethodName) prog_1_method_50_code (3 : Nat) (Option.some FieldType.int) ∈ zWS := zws_m 959 (by decide +kernel) rfl
theorem m_960 : Cond.methodLink "ScrimshawKernel" (327 : Nat) ({ cls := "ScrimshawKernel", name := "bit", desc := "(I)J" } : MethodName) ∈ zWS := zws_m 960 (by decide +kernel) rfl
theorem m_961 : Cond.methodLink "ScrimshawKernelLaw" (226 : Nat) ({ cls := "ScrimshawKernelLaw", name := "hatched", desc := "(LScrimshawKernel;IIII[J)I" } : MethodName) ∈ zWS := zws_m 961 (by decide +kernel) rfl
theorem m_962 : Cond.static ({ cls := "ScrimshawKernelLaw", name := "hatched", desc := "(LScrimshawKernel;IIII[J)I" } : MethodName) ∈ zWS := zws_m 962 (by decide +kernel) rfl
theorem m_963 : Cond.codeWith ({ cls := "ScrimshawKernelLaw", name := "hatched", desc := "(LScrimshawKernel;IIII[J)I" } : MethodName) method_31_code (7 : Nat) (Option.some FieldType.int) [((0 : Nat), (14 : Nat), (17 : Nat), (27 : Nat)), ((0 : Nat), (14 : Nat), (21 : Nat), (13 : Nat))] ∈ zWS := zws_m 963 (by decide +kernel) rfl
theorem m_964 : Cond.methodLink "ScrimshawKernelLaw" (105 : Nat) ({ cls := "ScrimshawKernel", name := "hatched", desc := "(IIII)I" } : MethodName) ∈ zWS := zws_m 964 (by decide +kernel) rfl
theorem m_965 : Cond.instanceMethod ({ cls := "ScrimshawKernel", name := "hatched", desc := "(IIII)I" } : MethodName) ∈ zWS := zws_m 965 (by decide +kernel) rfl
theorem m_966 : Cond.selects "ScrimshawKernel" ({ cls := "ScrimshawKernel", name := "hatched", desc := "(IIII)I" } : MethodName) ({ cls := "ScrimshawKernel", name := "hatched", desc := "(IIII)I" } : MethodName) ∈ zWS := zws_m 966 (by decide +kernel) rfl
theorem m_967 : Cond.code ({ cls := "ScrimshawKernel", name := "hatched", desc := "(IIII)I" } : MethodName) prog_1_method_32_code (8 : Nat) (Option.some FieldType.int) ∈ zWS := zws_m 967 (by decide +kernel) rfl
theorem m_968 : Cond.methodLink "ScrimshawKernelLaw" (229 : Nat) ({ cls := "ScrimshawKernelLaw", name := "apart", desc := "(LScrimshawKernel;II[J)I" } : MethodName) ∈ zWS := zws_m 968 (by decide +kernel) rfl
theorem m_969 : Cond.static ({ cls := "ScrimshawKernelLaw", name := "apart", desc := "(LScrimshawKernel;II[J)I" } : MethodName) ∈ zWS := zws_m 969 (by decide +kernel) rfl
theorem m_970 : Cond.codeWith ({ cls := "ScrimshawKernelLaw", name := "apart", desc := "(LScrimshawKernel;II[J)I" } : MethodName) method_32_code (5 : Nat) (Option.some FieldType.int) [((0 : Nat), (10 : Nat), (13 : Nat), (27 : Nat))] ∈ zWS := zws_m 970 (by decide +kernel) rfl
theorem m_971 : Cond.methodLink "ScrimshawKernelLaw" (108 : Nat) ({ cls := "ScrimshawKernel", name := "apart", desc := "(II)I" } : MethodName) ∈ zWS := zws_m 971 (by decide +kernel) rfl
theorem m_972 : Cond.instanceMethod ({ cls := "ScrimshawKernel", name := "apart", desc := "(II)I" } : MethodName) ∈ zWS := zws_m 972 (by decide +kernel) rfl
theorem m_973 : Cond.selects "ScrimshawKernel" ({ cls := "ScrimshawKernel", name := "apart", desc := "(II)I" } : MethodName) ({ cls := "ScrimshawKernel", name := "apart", desc := "(II)I" } : MethodName) ∈ zWS := zws_m 973 (by decide +kernel) rfl
theorem m_974 : Cond.code ({ cls := "ScrimshawKernel", name := "apart", desc := "(II)I" } : MethodName) prog_1_method_33_code (6 : Nat) (Option.some FieldType.int) ∈ zWS := zws_m 974 (by decide +kernel) rfl
theorem m_975 : Cond.methodLink "ScrimshawKernel" (266 : Nat) ({ cls := "ScrimshawKernel$Fields", name := "meets", desc := "(LScrimshawKernel$Fields;)Z" } : MethodName) ∈ zWS := zws_m 975 (by decide +kernel) rfl
theorem m_976 : Cond.instanceMethod ({ cls := "ScrimshawKernel$Fields", name := "meets", desc := "(LScrimshawKernel$Fields;)Z" } : MethodName) ∈ zWS := zws_m 976 (by decide +kernel) rfl
theorem m_977 : Cond.selects "ScrimshawKernel$Fields" ({ cls := "ScrimshawKernel$Fields", name := "meets", desc := "(LScrimshawKernel$Fields;)Z" } : MethodName) ({ cls := "ScrimshawKernel$Fields", name := "meets", desc := "(LScrimshawKernel$Fields;)Z" } : MethodName) ∈ zWS := zws_m 977 (by decide +kernel) rfl
theorem m_978 : Cond.code ({ cls := "ScrimshawKernel$Fields", name := "meets", desc := "(LScrimshawKernel$Fields;)Z" } : MethodName) prog_2_method_10_code (3 : Nat) (Option.some FieldType.boolean) ∈ zWS := zws_m 978 (by decide +kernel) rfl
theorem m_979 : Cond.methodLink "ScrimshawKernelLaw" (232 : Nat) ({ cls := "ScrimshawKernelLaw", name := "isSameForm", desc := "(LScrimshawKernel;II[J)I" } : MethodName) ∈ zWS := zws_m 979 (by decide +kernel) rfl
theorem m_980 : Cond.static ({ cls := "ScrimshawKernelLaw", name := "isSameForm", desc := "(LScrimshawKernel;II[J)I" } : MethodName) ∈ zWS := zws_m 980 (by decide +kernel) rfl
theorem m_981 : Cond.codeWith ({ cls := "ScrimshawKernelLaw", name := "isSameForm", desc := "(LScrimshawKernel;II[J)I" } : MethodName) method_33_code (5 : Nat) (Option.some FieldType.int) [((0 : Nat), (17 : Nat), (20 : Nat), (27 : Nat))] ∈ zWS := zws_m 981 (by decide +kernel) rfl
theorem m_982 : Cond.methodLink "ScrimshawKernelLaw" (111 : Nat) ({ cls := "ScrimshawKernel", name := "isSameForm", desc := "(II)Z" } : MethodName) ∈ zWS := zws_m 982 (by decide +kernel) rfl
theorem m_983 : Cond.instanceMethod ({ cls := "ScrimshawKernel", name := "isSameForm", desc := "(II)Z" } : MethodName) ∈ zWS := zws_m 983 (by decide +kernel) rfl
theorem m_984 : Cond.selects "ScrimshawKernel" ({ cls := "ScrimshawKernel", name := "isSameForm", desc := "(II)Z" } : MethodName) ({ cls := "ScrimshawKernel", name := "isSameForm", desc := "(II)Z" } : MethodName) ∈ zWS := zws_m 984 (by decide +kernel) rfl
theorem m_985 : Cond.code ({ cls := "ScrimshawKernel", name := "isSameForm", desc := "(II)Z" } : MethodName) prog_1_method_34_code (5 : Nat) (Option.some FieldType.boolean) ∈ zWS := zws_m 985 (by decide +kernel) rfl
theorem m_986 : Cond.methodLink "ScrimshawKernel" (270 : Nat) ({ cls := "ScrimshawKernel$Fields", name := "isSame", desc := "(LScrimshawKernel$Fields;)Z" } : MethodName) ∈ zWS := zws_m 986 (by decide +kernel) rfl
theorem m_987 : Cond.instanceMethod ({ cls := "ScrimshawKernel$Fields", name := "isSame", desc := "(LScrimshawKernel$Fields;)Z" } : MethodName) ∈ zWS := zws_m 987 (by decide +kernel) rfl
theorem m_988 : Cond.selects "ScrimshawKernel$Fields" ({ cls := "ScrimshawKernel$Fields", name := "isSame", desc := "(LScrimshawKernel$Fields;)Z" } : MethodName) ({ cls := "ScrimshawKernel$Fields", name := "isSame", desc := "(LScrimshawKernel$Fields;)Z" } : MethodName) ∈ zWS := zws_m 988 (by decide +kernel) rfl
theorem m_989 : Cond.code ({ cls := "ScrimshawKernel$Fields", name := "isSame", desc := "(LScrimshawKernel$Fields;)Z" } : MethodName) prog_2_method_9_code (3 : Nat) (Option.some FieldType.boolean) ∈ zWS := zws_m 989 (by decide +kernel) rfl
theorem m_990 : Cond.methodLink "ScrimshawKernelLaw" (235 : Nat) ({ cls := "ScrimshawKernelLaw", name := "middleX", desc := "(LScrimshawKernel;I[D)I" } : MethodName) ∈ zWS := zws_m 990 (by decide +kernel) rfl
theorem m_991 : Cond.static ({ cls := "ScrimshawKernelLaw", name := "middleX", desc := "(LScrimshawKernel;I[D)I" } : MethodName) ∈ zWS := zws_m 991 (by decide +kernel) rfl
theorem m_992 : Cond.codeWith ({ cls := "ScrimshawKernelLaw", name := "middleX", desc := "(LScrimshawKernel;I[D)I" } : MethodName) method_34_code (4 : Nat) (Option.some FieldType.int) [((0 : Nat), (8 : Nat), (11 : Nat), (27 : Nat))] ∈ zWS := zws_m 992 (by decide +kernel) rfl
theorem m_993 : Cond.methodLink "ScrimshawKernelLaw" (115 : Nat) ({ cls := "ScrimshawKernel", name := "middleX", desc := "(I)D" } : MethodName) ∈ zWS := zws_m 993 (by decide +kernel) rfl
theorem m_994 : Cond.instanceMethod ({ cls := "ScrimshawKernel", name := "middleX", desc := "(I)D" } : MethodName) ∈ zWS := zws_m 994 (by decide +kernel) rfl
theorem m_995 : Cond.selects "ScrimshawKernel" ({ cls := "ScrimshawKernel", name := "middleX", desc := "(I)D" } : MethodName) ({ cls := "ScrimshawKernel", name := "middleX", desc := "(I)D" } : MethodName) ∈ zWS := zws_m 995 (by decide +kernel) rfl
theorem m_996 : Cond.code ({ cls := "ScrimshawKernel", name := "middleX", desc := "(I)D" } : MethodName) prog_1_method_35_code (4 : Nat) (Option.some FieldType.double) ∈ zWS := zws_m 996 (by decide +kernel) rfl
theorem m_997 : Cond.methodLink "ScrimshawKernel" (273 : Nat) ({ cls := "ScrimshawKernel$Fields", name := "sumOfX", desc := "()I" } : MethodName) ∈ zWS := zws_m 997 (by decide +kernel) rfl
theorem m_998 : Cond.instanceMethod ({ cls := "ScrimshawKernel$Fields", name := "sumOfX", desc := "()I" } : MethodName) ∈ zWS := zws_m 998 (by decide +kernel) rfl
theorem m_999 : Cond.selects "ScrimshawKernel$Fields" ({ cls := "ScrimshawKernel$Fields", name := "sumOfX", desc := "()I" } : MethodName) ({ cls := "ScrimshawKernel$Fields", name := "sumOfX", desc := "()I" } : MethodName) ∈ zWS := zws_m 999 (by decide +kernel) rfl
theorem m_1000 : Cond.code ({ cls := "ScrimshawKernel$Fields", name := "sumOfX", desc := "()I" } : MethodName) prog_2_method_14_code (4 : Nat) (Option.some FieldType.int) ∈ zWS := zws_m 1000 (by decide +kernel) rfl
theorem m_1001 : Cond.classLink "ScrimshawKernelLaw" (120 : Nat) "ScrimshawKernelModel" ∈ zWS := zws_m 1001 (by decide +kernel) rfl
theorem m_1002 : Cond.instantiable "ScrimshawKernelModel" (8 : Nat) ∈ zWS := zws_m 1002 (by decide +kernel) rfl
theorem m_1003 : Cond.methodLink "ScrimshawKernelLaw" (122 : Nat) ({ cls := "ScrimshawKernelModel", name := "<init>", desc := "()V" } : MethodName) ∈ zWS := zws_m 1003 (by decide +kernel) rfl
theorem m_1004 : Cond.instanceMethod ({ cls := "ScrimshawKernelModel", name := "<init>", desc := "()V" } : MethodName) ∈ zWS := zws_m 1004 (by decide +kernel) rfl
theorem m_1005 : Cond.code ({ cls := "ScrimshawKernelModel", name := "<init>", desc := "()V" } : MethodName) prog_9_method_1_code (1 : Nat) (Option.none : Option FieldType) ∈ zWS := zws_m 1005 (by decide +kernel) rfl
theorem m_1006 : Cond.methodLink "ScrimshawKernelModel" (3 : Nat) ({ cls := "java/lang/Object", name := "<init>", desc := "()V" } : MethodName) ∈ zWS := zws_m 1006 (by decide +kernel) rfl
theorem m_1007 : Cond.classLink "ScrimshawKernelModel" (9 : Nat) "[[Z" ∈ zWS := zws_m 1007 (by decide +kernel) rfl
theorem m_1008 : lw_tbl[1008]? = some (Cond.arrayOver (FieldType.array FieldType.boolean)) := by decide +kernel
theorem m_1009 : Cond.classLink "ScrimshawKernelModel" (28 : Nat) "[Z" ∈ zWS := zws_m 1009 (by decide +kernel) rfl
theorem m_1010 : Cond.fieldLink "ScrimshawKernelModel" (33 : Nat) "ScrimshawKernelModel" "thrown" "I" ∈ zWS := zws_m 1010 (by decide +kernel) rfl
theorem m_1011 : Cond.fieldLink "ScrimshawKernelModel" (11 : Nat) "ScrimshawKernelModel" "fields" "[[Z" ∈ zWS := zws_m 1011 (by decide +kernel) rfl
theorem m_1012 : Cond.fieldLink "ScrimshawKernelModel" (14 : Nat) "ScrimshawKernelModel" "pathX" "[I" ∈ zWS := zws_m 1012 (by decide +kernel) rfl
theorem m_1013 : Cond.fieldLink "ScrimshawKernelModel" (18 : Nat) "ScrimshawKernelModel" "pathY" "[I" ∈ zWS := zws_m 1013 (by decide +kernel) rfl
theorem m_1014 : Cond.fieldLink "ScrimshawKernelModel" (21 : Nat) "ScrimshawKernelModel" "points" "I" ∈ zWS := zws_m 1014 (by decide +kernel) rfl
theorem m_1015 : Cond.fieldLink "ScrimshawKernelModel" (54 : Nat) "ScrimshawKernelModel" "kept" "I" ∈ zWS := zws_m 1015 (by decide +kernel) rfl
theorem m_1016 : Cond.fieldLink "ScrimshawKernelModel" (25 : Nat) "ScrimshawKernelModel" "keptRegion" "[I" ∈ zWS := zws_m 1016 (by decide +kernel) rfl
theorem m_1017 : Cond.fieldLink "ScrimshawKernelModel" (30 : Nat) "ScrimshawKernelModel" "keptFields" "[[Z" ∈ zWS := zws_m 1017 (by decide +kernel) rfl
theorem m_1018 : Cond.lays "ScrimshawKernelModel" "ScrimshawKernelModel" "thrown" "I" ∈ zWS := zws_m 1018 (by decide +kernel) rfl
theorem m_1020 : Cond.laysFinal "ScrimshawKernelModel" "ScrimshawKernelModel" "fields" "[[Z" ∈ zWS := zws_m 1020 (by decide +kernel) rfl
theorem m_1022 : Cond.laysFinal "ScrimshawKernelModel" "ScrimshawKernelModel" "pathX" "[I" ∈ zWS := zws_m 1022 (by decide +kernel) rfl
theorem m_1024 : Cond.laysFinal "ScrimshawKernelModel" "ScrimshawKernelModel" "pathY" "[I" ∈ zWS := zws_m 1024 (by decide +kernel) rfl
theorem m_1026 : Cond.lays "ScrimshawKernelModel" "ScrimshawKernelModel" "points" "I" ∈ zWS := zws_m 1026 (by decide +kernel) rfl
theorem m_1028 : Cond.lays "ScrimshawKernelModel" "ScrimshawKernelModel" "kept" "I" ∈ zWS := zws_m 1028 (by decide +kernel) rfl
theorem m_1030 : Cond.laysFinal "ScrimshawKernelModel" "ScrimshawKernelModel" "keptRegion" "[I" ∈ zWS := zws_m 1030 (by decide +kernel) rfl
theorem m_1032 : Cond.laysFinal "ScrimshawKernelModel" "ScrimshawKernelModel" "keptFields" "[[Z" ∈ zWS := zws_m 1032 (by decide +kernel) rfl
theorem m_1035 : Cond.arrayClass FieldType.boolean ∈ zWS := zws_m 1035 (by decide +kernel) rfl
theorem m_1036 : Cond.methodLink "ScrimshawKernelLaw" (129 : Nat) ({ cls := "ScrimshawKernelModel", name := "thrown", desc := "()I" } : MethodName) ∈ zWS := zws_m 1036 (by decide +kernel) rfl
theorem m_1037 : Cond.instanceMethod ({ cls := "ScrimshawKernelModel", name := "thrown", desc := "()I" } : MethodName) ∈ zWS := zws_m 1037 (by decide +kernel) rfl
theorem m_1038 : Cond.selects "ScrimshawKernelModel" ({ cls := "ScrimshawKernelModel", name := "thrown", desc := "()I" } : MethodName) ({ cls := "ScrimshawKernelModel", name := "thrown", desc := "()I" } : MethodName) ∈ zWS := zws_m 1038 (by decide +kernel) rfl
theorem m_1039 : Cond.code ({ cls := "ScrimshawKernelModel", name := "thrown", desc := "()I" } : MethodName) prog_9_method_2_code (1 : Nat) (Option.some FieldType.int) ∈ zWS := zws_m 1039 (by decide +kernel) rfl
theorem m_1040 : Cond.methodLink "ScrimshawKernelLaw" (128 : Nat) ({ cls := "ScrimshawKernelModel", name := "moveTo", desc := "(II)I" } : MethodName) ∈ zWS := zws_m 1040 (by decide +kernel) rfl
theorem m_1041 : Cond.instanceMethod ({ cls := "ScrimshawKernelModel", name := "moveTo", desc := "(II)I" } : MethodName) ∈ zWS := zws_m 1041 (by decide +kernel) rfl
theorem m_1042 : Cond.selects "ScrimshawKernelModel" ({ cls := "ScrimshawKernelModel", name := "moveTo", desc := "(II)I" } : MethodName) ({ cls := "ScrimshawKernelModel", name := "moveTo", desc := "(II)I" } : MethodName) ∈ zWS := zws_m 1042 (by decide +kernel) rfl
theorem m_1043 : Cond.code ({ cls := "ScrimshawKernelModel", name := "moveTo", desc := "(II)I" } : MethodName) prog_9_method_11_code (4 : Nat) (Option.some FieldType.int) ∈ zWS := zws_m 1043 (by decide +kernel) rfl
theorem m_1044 : Cond.methodLink "ScrimshawKernelModel" (36 : Nat) ({ cls := "ScrimshawKernelModel", name := "isIn", desc := "(III)Z" } : MethodName) ∈ zWS := zws_m 1044 (by decide +kernel) rfl
theorem m_1045 : Cond.static ({ cls := "ScrimshawKernelModel", name := "isIn", desc := "(III)Z" } : MethodName) ∈ zWS := zws_m 1045 (by decide +kernel) rfl
theorem m_1046 : Cond.code ({ cls := "ScrimshawKernelModel", name := "isIn", desc := "(III)Z" } : MethodName) prog_9_method_4_code (3 : Nat) (Option.some FieldType.boolean) ∈ zWS := zws_m 1046 (by decide +kernel) rfl
theorem m_1047 : Cond.methodLink "ScrimshawKernelModel" (61 : Nat) ({ cls := "ScrimshawKernelModel", name := "no", desc := "(I)I" } : MethodName) ∈ zWS := zws_m 1047 (by decide +kernel) rfl
theorem m_1049 : Cond.instanceMethod ({ cls := "ScrimshawKernelModel", name := "no", desc := "(I)I" } : MethodName) ∈ zWS := zws_m 1049 (by decide +kernel) rfl
theorem m_1050 : Cond.code ({ cls := "ScrimshawKernelModel", name := "no", desc := "(I)I" } : MethodName) prog_9_method_3_code (2 : Nat) (Option.some FieldType.int) ∈ zWS := zws_m 1050 (by decide +kernel) rfl
theorem m_1051 : Cond.methodLink "ScrimshawKernelLaw" (136 : Nat) ({ cls := "ScrimshawKernelModel", name := "lineX", desc := "(I)I" } : MethodName) ∈ zWS := zws_m 1051 (by decide +kernel) rfl
theorem m_1052 : Cond.instanceMethod ({ cls := "ScrimshawKernelModel", name := "lineX", desc := "(I)I" } : MethodName) ∈ zWS := zws_m 1052 (by decide +kernel) rfl
theorem m_1053 : Cond.selects "ScrimshawKernelModel" ({ cls := "ScrimshawKernelModel", name := "lineX", desc := "(I)I" } : MethodName) ({ cls := "ScrimshawKernelModel", name := "lineX", desc := "(I)I" } : MethodName) ∈ zWS := zws_m 1053 (by decide +kernel) rfl
theorem m_1054 : Cond.code ({ cls := "ScrimshawKernelModel", name := "lineX", desc := "(I)I" } : MethodName) prog_9_method_13_code (2 : Nat) (Option.some FieldType.int) ∈ zWS := zws_m 1054 (by decide +kernel) rfl
theorem m_1055 : Cond.methodLink "ScrimshawKernelModel" (65 : Nat) ({ cls := "ScrimshawKernelModel", name := "line", desc := "(II)I" } : MethodName) ∈ zWS := zws_m 1055 (by decide +kernel) rfl
theorem m_1057 : Cond.instanceMethod ({ cls := "ScrimshawKernelModel", name := "line", desc := "(II)I" } : MethodName) ∈ zWS := zws_m 1057 (by decide +kernel) rfl
theorem m_1058 : Cond.code ({ cls := "ScrimshawKernelModel", name := "line", desc := "(II)I" } : MethodName) prog_9_method_12_code (5 : Nat) (Option.some FieldType.int) ∈ zWS := zws_m 1058 (by decide +kernel) rfl
theorem m_1059 : Cond.methodLink "ScrimshawKernelLaw" (139 : Nat) ({ cls := "ScrimshawKernelModel", name := "lineY", desc := "(I)I" } : MethodName) ∈ zWS := zws_m 1059 (by decide +kernel) rfl
theorem m_1060 : Cond.instanceMethod ({ cls := "ScrimshawKernelModel", name := "lineY", desc := "(I)I" } : MethodName) ∈ zWS := zws_m 1060 (by decide +kernel) rfl
theorem m_1061 : Cond.selects "ScrimshawKernelModel" ({ cls := "ScrimshawKernelModel", name := "lineY", desc := "(I)I" } : MethodName) ({ cls := "ScrimshawKernelModel", name := "lineY", desc := "(I)I" } : MethodName) ∈ zWS := zws_m 1061 (by decide +kernel) rfl
theorem m_1062 : Cond.code ({ cls := "ScrimshawKernelModel", name := "lineY", desc := "(I)I" } : MethodName) prog_9_method_14_code (2 : Nat) (Option.some FieldType.int) ∈ zWS := zws_m 1062 (by decide +kernel) rfl
theorem m_1063 : Cond.methodLink "ScrimshawKernelLaw" (142 : Nat) ({ cls := "ScrimshawKernelModel", name := "close", desc := "(II)I" } : MethodName) ∈ zWS := zws_m 1063 (by decide +kernel) rfl
theorem m_1064 : Cond.instanceMethod ({ cls := "ScrimshawKernelModel", name := "close", desc := "(II)I" } : MethodName) ∈ zWS := zws_m 1064 (by decide +kernel) rfl
theorem m_1065 : Cond.selects "ScrimshawKernelModel" ({ cls := "ScrimshawKernelModel", name := "close", desc := "(II)I" } : MethodName) ({ cls := "ScrimshawKernelModel", name := "close", desc := "(II)I" } : MethodName) ∈ zWS := zws_m 1065 (by decide +kernel) rfl
theorem m_1066 : Cond.code ({ cls := "ScrimshawKernelModel", name := "close", desc := "(II)I" } : MethodName) prog_9_method_16_code (7 : Nat) (Option.some FieldType.int) ∈ zWS := zws_m 1066 (by decide +kernel) rfl
theorem m_1067 : Cond.methodLink "ScrimshawKernelModel" (76 : Nat) ({ cls := "ScrimshawKernelModel", name := "isRegion", desc := "(I)Z" } : MethodName) ∈ zWS := zws_m 1067 (by decide +kernel) rfl
theorem m_1068 : Cond.static ({ cls := "ScrimshawKernelModel", name := "isRegion", desc := "(I)Z" } : MethodName) ∈ zWS := zws_m 1068 (by decide +kernel) rfl
theorem m_1069 : Cond.code ({ cls := "ScrimshawKernelModel", name := "isRegion", desc := "(I)Z" } : MethodName) prog_9_method_5_code (1 : Nat) (Option.some FieldType.boolean) ∈ zWS := zws_m 1069 (by decide +kernel) rfl
theorem m_1070 : Cond.methodLink "ScrimshawKernelModel" (80 : Nat) ({ cls := "ScrimshawKernelModel", name := "cross", desc := "([I[IIII)V" } : MethodName) ∈ zWS := zws_m 1070 (by decide +kernel) rfl
theorem m_1071 : Cond.static ({ cls := "ScrimshawKernelModel", name := "cross", desc := "([I[IIII)V" } : MethodName) ∈ zWS := zws_m 1071 (by decide +kernel) rfl
theorem m_1072 : Cond.code ({ cls := "ScrimshawKernelModel", name := "cross", desc := "([I[IIII)V" } : MethodName) prog_9_method_15_code (7 : Nat) (Option.none : Option FieldType) ∈ zWS := zws_m 1072 (by decide +kernel) rfl
theorem m_1073 : Cond.methodLink "ScrimshawKernelModel" (68 : Nat) ({ cls := "java/lang/Math", name := "min", desc := "(II)I" } : MethodName) ∈ zWS := zws_m 1073 (by decide +kernel) rfl
theorem m_1074 : Cond.methodLink "ScrimshawKernelModel" (73 : Nat) ({ cls := "java/lang/Math", name := "max", desc := "(II)I" } : MethodName) ∈ zWS := zws_m 1074 (by decide +kernel) rfl
theorem m_1075 : Cond.methodLink "ScrimshawKernelModel" (44 : Nat) ({ cls := "ScrimshawKernelModel", name := "at", desc := "(II)I" } : MethodName) ∈ zWS := zws_m 1075 (by decide +kernel) rfl
theorem m_1076 : Cond.static ({ cls := "ScrimshawKernelModel", name := "at", desc := "(II)I" } : MethodName) ∈ zWS := zws_m 1076 (by decide +kernel) rfl
theorem m_1077 : Cond.code ({ cls := "ScrimshawKernelModel", name := "at", desc := "(II)I" } : MethodName) prog_9_method_7_code (2 : Nat) (Option.some FieldType.int) ∈ zWS := zws_m 1077 (by decide +kernel) rfl
theorem m_1078 : Cond.methodLink "ScrimshawKernelModel" (84 : Nat) ({ cls := "ScrimshawKernelModel", name := "change", desc := "(I[Z)I" } : MethodName) ∈ zWS := zws_m 1078 (by decide +kernel) rfl
theorem m_1080 : Cond.instanceMethod ({ cls := "ScrimshawKernelModel", name := "change", desc := "(I[Z)I" } : MethodName) ∈ zWS := zws_m 1080 (by decide +kernel) rfl
theorem m_1081 : Cond.code ({ cls := "ScrimshawKernelModel", name := "change", desc := "(I[Z)I" } : MethodName) prog_9_method_10_code (5 : Nat) (Option.some FieldType.int) ∈ zWS := zws_m 1081 (by decide +kernel) rfl
theorem m_1082 : Cond.methodLink "ScrimshawKernelModel" (48 : Nat) ({ cls := "java/lang/System", name := "arraycopy", desc := "(Ljava/lang/Object;ILjava/lang/Object;II)V" } : MethodName) ∈ zWS := zws_m 1082 (by decide +kernel) rfl
theorem m_1083 : Cond.static ({ cls := "java/lang/System", name := "arraycopy", desc := "(Ljava/lang/Object;ILjava/lang/Object;II)V" } : MethodName) ∈ zWS := zws_m 1083 (by decide +kernel) rfl
theorem m_1084 : Cond.native ({ cls := "java/lang/System", name := "arraycopy", desc := "(Ljava/lang/Object;ILjava/lang/Object;II)V" } : MethodName) ∈ zWS := zws_m 1084 (by decide +kernel) rfl
theorem m_1085 : Cond.methodLink "ScrimshawKernelModel" (57 : Nat) ({ cls := "ScrimshawKernelModel", name := "areaOf", desc := "([Z)I" } : MethodName) ∈ zWS := zws_m 1085 (by decide +kernel) rfl
theorem m_1086 : Cond.static ({ cls := "ScrimshawKernelModel", name := "areaOf", desc := "([Z)I" } : MethodName) ∈ zWS := zws_m 1086 (by decide +kernel) rfl
theorem m_1087 : Cond.code ({ cls := "ScrimshawKernelModel", name := "areaOf", desc := "([Z)I" } : MethodName) prog_9_method_9_code (6 : Nat) (Option.some FieldType.int) ∈ zWS := zws_m 1087 (by decide +kernel) rfl
theorem m_1088 : Cond.methodLink "ScrimshawKernelLaw" (146 : Nat) ({ cls := "ScrimshawKernelModel", name := "points", desc := "()I" } : MethodName) ∈ zWS := zws_m 1088 (by decide +kernel) rfl
theorem m_1089 : Cond.instanceMethod ({ cls := "ScrimshawKernelModel", name := "points", desc := "()I" } : MethodName) ∈ zWS := zws_m 1089 (by decide +kernel) rfl
theorem m_1090 : Cond.selects "ScrimshawKernelModel" ({ cls := "ScrimshawKernelModel", name := "points", desc := "()I" } : MethodName) ({ cls := "ScrimshawKernelModel", name := "points", desc := "()I" } : MethodName) ∈ zWS := zws_m 1090 (by decide +kernel) rfl
theorem m_1091 : Cond.code ({ cls := "ScrimshawKernelModel", name := "points", desc := "()I" } : MethodName) prog_9_method_17_code (1 : Nat) (Option.some FieldType.int) ∈ zWS := zws_m 1091 (by decide +kernel) rfl
theorem m_1092 : Cond.methodLink "ScrimshawKernelLaw" (150 : Nat) ({ cls := "ScrimshawKernelModel", name := "addRectangle", desc := "(IIIII)I" } : MethodName) ∈ zWS := zws_m 1092 (by decide +kernel) rfl
theorem m_1093 : Cond.instanceMethod ({ cls := "ScrimshawKernelModel", name := "addRectangle", desc := "(IIIII)I" } : MethodName) ∈ zWS := zws_m 1093 (by decide +kernel) rfl
theorem m_1094 : Cond.selects "ScrimshawKernelModel" ({ cls := "ScrimshawKernelModel", name := "addRectangle", desc := "(IIIII)I" } : MethodName) ({ cls := "ScrimshawKernelModel", name := "addRectangle", desc := "(IIIII)I" } : MethodName) ∈ zWS := zws_m 1094 (by decide +kernel) rfl
theorem m_1095 : Cond.code ({ cls := "ScrimshawKernelModel", name := "addRectangle", desc := "(IIIII)I" } : MethodName) prog_9_method_18_code (9 : Nat) (Option.some FieldType.int) ∈ zWS := zws_m 1095 (by decide +kernel) rfl
theorem m_1096 : Cond.methodLink "ScrimshawKernelLaw" (154 : Nat) ({ cls := "ScrimshawKernelModel", name := "combine", desc := "(IIII)I" } : MethodName) ∈ zWS := zws_m 1096 (by decide +kernel) rfl
theorem m_1097 : Cond.instanceMethod ({ cls := "ScrimshawKernelModel", name := "combine", desc := "(IIII)I" } : MethodName) ∈ zWS := zws_m 1097 (by decide +kernel) rfl
theorem m_1098 : Cond.selects "ScrimshawKernelModel" ({ cls := "ScrimshawKernelModel", name := "combine", desc := "(IIII)I" } : MethodName) ({ cls := "ScrimshawKernelModel", name := "combine", desc := "(IIII)I" } : MethodName) ∈ zWS := zws_m 1098 (by decide +kernel) rfl
theorem m_1099 : Cond.code ({ cls := "ScrimshawKernelModel", name := "combine", desc := "(IIII)I" } : MethodName) prog_9_method_19_code (9 : Nat) (Option.some FieldType.int) ∈ zWS := zws_m 1099 (by decide +kernel) rfl
theorem m_1100 : Cond.methodLink "ScrimshawKernelLaw" (158 : Nat) ({ cls := "ScrimshawKernelModel", name := "move", desc := "(III)I" } : MethodName) ∈ zWS := zws_m 1100 (by decide +kernel) rfl
theorem m_1101 : Cond.instanceMethod ({ cls := "ScrimshawKernelModel", name := "move", desc := "(III)I" } : MethodName) ∈ zWS := zws_m 1101 (by decide +kernel) rfl
theorem m_1102 : Cond.selects "ScrimshawKernelModel" ({ cls := "ScrimshawKernelModel", name := "move", desc := "(III)I" } : MethodName) ({ cls := "ScrimshawKernelModel", name := "move", desc := "(III)I" } : MethodName) ∈ zWS := zws_m 1102 (by decide +kernel) rfl
theorem m_1103 : Cond.code ({ cls := "ScrimshawKernelModel", name := "move", desc := "(III)I" } : MethodName) prog_9_method_20_code (7 : Nat) (Option.some FieldType.int) ∈ zWS := zws_m 1103 (by decide +kernel) rfl
theorem m_1104 : Cond.methodLink "ScrimshawKernelModel" (40 : Nat) ({ cls := "ScrimshawKernelModel", name := "isField", desc := "(II)Z" } : MethodName) ∈ zWS := zws_m 1104 (by decide +kernel) rfl
theorem m_1105 : Cond.static ({ cls := "ScrimshawKernelModel", name := "isField", desc := "(II)Z" } : MethodName) ∈ zWS := zws_m 1105 (by decide +kernel) rfl
theorem m_1106 : Cond.code ({ cls := "ScrimshawKernelModel", name := "isField", desc := "(II)Z" } : MethodName) prog_9_method_6_code (2 : Nat) (Option.some FieldType.boolean) ∈ zWS := zws_m 1106 (by decide +kernel) rfl
theorem m_1107 : Cond.methodLink "ScrimshawKernelLaw" (161 : Nat) ({ cls := "ScrimshawKernelModel", name := "turn", desc := "(II)I" } : MethodName) ∈ zWS := zws_m 1107 (by decide +kernel) rfl
theorem m_1108 : Cond.instanceMethod ({ cls := "ScrimshawKernelModel", name := "turn", desc := "(II)I" } : MethodName) ∈ zWS := zws_m 1108 (by decide +kernel) rfl
theorem m_1109 : Cond.selects "ScrimshawKernelModel" ({ cls := "ScrimshawKernelModel", name := "turn", desc := "(II)I" } : MethodName) ({ cls := "ScrimshawKernelModel", name := "turn", desc := "(II)I" } : MethodName) ∈ zWS := zws_m 1109 (by decide +kernel) rfl
theorem m_1110 : Cond.code ({ cls := "ScrimshawKernelModel", name := "turn", desc := "(II)I" } : MethodName) prog_9_method_21_code (8 : Nat) (Option.some FieldType.int) ∈ zWS := zws_m 1110 (by decide +kernel) rfl
theorem m_1111 : Cond.methodLink "ScrimshawKernelLaw" (164 : Nat) ({ cls := "ScrimshawKernelModel", name := "mirror", desc := "(I)I" } : MethodName) ∈ zWS := zws_m 1111 (by decide +kernel) rfl
theorem m_1112 : Cond.instanceMethod ({ cls := "ScrimshawKernelModel", name := "mirror", desc := "(I)I" } : MethodName) ∈ zWS := zws_m 1112 (by decide +kernel) rfl
theorem m_1113 : Cond.selects "ScrimshawKernelModel" ({ cls := "ScrimshawKernelModel", name := "mirror", desc := "(I)I" } : MethodName) ({ cls := "ScrimshawKernelModel", name := "mirror", desc := "(I)I" } : MethodName) ∈ zWS := zws_m 1113 (by decide +kernel) rfl
theorem m_1114 : Cond.code ({ cls := "ScrimshawKernelModel", name := "mirror", desc := "(I)I" } : MethodName) prog_9_method_22_code (5 : Nat) (Option.some FieldType.int) ∈ zWS := zws_m 1114 (by decide +kernel) rfl
theorem m_1115 : Cond.methodLink "ScrimshawKernelLaw" (167 : Nat) ({ cls := "ScrimshawKernelModel", name := "grow", desc := "(III)I" } : MethodName) ∈ zWS := zws_m 1115 (by decide +kernel) rfl
theorem m_1116 : Cond.instanceMethod ({ cls := "ScrimshawKernelModel", name := "grow", desc := "(III)I" } : MethodName) ∈ zWS := zws_m 1116 (by decide +kernel) rfl
theorem m_1117 : Cond.selects "ScrimshawKernelModel" ({ cls := "ScrimshawKernelModel", name := "grow", desc := "(III)I" } : MethodName) ({ cls := "ScrimshawKernelModel", name := "grow", desc := "(III)I" } : MethodName) ∈ zWS := zws_m 1117 (by decide +kernel) rfl
theorem m_1118 : Cond.code ({ cls := "ScrimshawKernelModel", name := "grow", desc := "(III)I" } : MethodName) prog_9_method_24_code (9 : Nat) (Option.some FieldType.int) ∈ zWS := zws_m 1118 (by decide +kernel) rfl
theorem m_1119 : Cond.methodLink "ScrimshawKernelModel" (91 : Nat) ({ cls := "ScrimshawKernelModel", name := "distance", desc := "(III)I" } : MethodName) ∈ zWS := zws_m 1119 (by decide +kernel) rfl
theorem m_1120 : Cond.static ({ cls := "ScrimshawKernelModel", name := "distance", desc := "(III)I" } : MethodName) ∈ zWS := zws_m 1120 (by decide +kernel) rfl
theorem m_1121 : Cond.code ({ cls := "ScrimshawKernelModel", name := "distance", desc := "(III)I" } : MethodName) prog_9_method_23_code (3 : Nat) (Option.some FieldType.int) ∈ zWS := zws_m 1121 (by decide +kernel) rfl
theorem m_1122 : Cond.methodLink "ScrimshawKernelModel" (88 : Nat) ({ cls := "java/lang/Math", name := "abs", desc := "(I)I" } : MethodName) ∈ zWS := zws_m 1122 (by decide +kernel) rfl
theorem m_1123 : Cond.static ({ cls := "java/lang/Math", name := "abs", desc := "(I)I" } : MethodName) ∈ zWS := zws_m 1123 (by decide +kernel) rfl
theorem m_1124 : Cond.code ({ cls := "java/lang/Math", name := "abs", desc := "(I)I" } : MethodName) prog_15_method_59_code (1 : Nat) (Option.some FieldType.int) ∈ zWS := zws_m 1124 (by decide +kernel) rfl
theorem m_1125 : Cond.methodLink "ScrimshawKernelLaw" (170 : Nat) ({ cls := "ScrimshawKernelModel", name := "shrink", desc := "(III)I" } : MethodName) ∈ zWS := zws_m 1125 (by decide +kernel) rfl
theorem m_1126 : Cond.instanceMethod ({ cls := "ScrimshawKernelModel", name := "shrink", desc := "(III)I" } : MethodName) ∈ zWS := zws_m 1126 (by decide +kernel) rfl
theorem m_1127 : Cond.selects "ScrimshawKernelModel" ({ cls := "ScrimshawKernelModel", name := "shrink", desc := "(III)I" } : MethodName) ({ cls := "ScrimshawKernelModel", name := "shrink", desc := "(III)I" } : MethodName) ∈ zWS := zws_m 1127 (by decide +kernel) rfl
theorem m_1128 : Cond.code ({ cls := "ScrimshawKernelModel", name := "shrink", desc := "(III)I" } : MethodName) prog_9_method_25_code (10 : Nat) (Option.some FieldType.int) ∈ zWS := zws_m 1128 (by decide +kernel) rfl
theorem m_1129 : Cond.methodLink "ScrimshawKernelModel" (95 : Nat) ({ cls := "ScrimshawKernelModel", name := "has", desc := "([ZII)Z" } : MethodName) ∈ zWS := zws_m 1129 (by decide +kernel) rfl
theorem m_1130 : Cond.static ({ cls := "ScrimshawKernelModel", name := "has", desc := "([ZII)Z" } : MethodName) ∈ zWS := zws_m 1130 (by decide +kernel) rfl
theorem m_1131 : Cond.code ({ cls := "ScrimshawKernelModel", name := "has", desc := "([ZII)Z" } : MethodName) prog_9_method_8_code (3 : Nat) (Option.some FieldType.boolean) ∈ zWS := zws_m 1131 (by decide +kernel) rfl
theorem m_1132 : Cond.methodLink "ScrimshawKernelLaw" (173 : Nat) ({ cls := "ScrimshawKernelModel", name := "fill", desc := "(I)I" } : MethodName) ∈ zWS := zws_m 1132 (by decide +kernel) rfl
theorem m_1133 : Cond.instanceMethod ({ cls := "ScrimshawKernelModel", name := "fill", desc := "(I)I" } : MethodName) ∈ zWS := zws_m 1133 (by decide +kernel) rfl
theorem m_1134 : Cond.selects "ScrimshawKernelModel" ({ cls := "ScrimshawKernelModel", name := "fill", desc := "(I)I" } : MethodName) ({ cls := "ScrimshawKernelModel", name := "fill", desc := "(I)I" } : MethodName) ∈ zWS := zws_m 1134 (by decide +kernel) rfl
theorem m_1135 : Cond.code ({ cls := "ScrimshawKernelModel", name := "fill", desc := "(I)I" } : MethodName) prog_9_method_30_code (6 : Nat) (Option.some FieldType.int) ∈ zWS := zws_m 1135 (by decide +kernel) rfl
theorem m_1136 : Cond.methodLink "ScrimshawKernelModel" (99 : Nat) ({ cls := "ScrimshawKernelModel", name := "parts", desc := "([ZZ)[I" } : MethodName) ∈ zWS := zws_m 1136 (by decide +kernel) rfl
theorem m_1137 : Cond.static ({ cls := "ScrimshawKernelModel", name := "parts", desc := "([ZZ)[I" } : MethodName) ∈ zWS := zws_m 1137 (by decide +kernel) rfl
theorem m_1138 : Cond.code ({ cls := "ScrimshawKernelModel", name := "parts", desc := "([ZZ)[I" } : MethodName) prog_9_method_26_code (17 : Nat) (Option.some (FieldType.array FieldType.int)) ∈ zWS := zws_m 1138 (by decide +kernel) rfl
theorem m_1139 : Cond.methodLink "ScrimshawKernelModel" (107 : Nat) ({ cls := "ScrimshawKernelModel", name := "partAt", desc := "([III)I" } : MethodName) ∈ zWS := zws_m 1139 (by decide +kernel) rfl
theorem m_1140 : Cond.static ({ cls := "ScrimshawKernelModel", name := "partAt", desc := "([III)I" } : MethodName) ∈ zWS := zws_m 1140 (by decide +kernel) rfl
theorem m_1141 : Cond.code ({ cls := "ScrimshawKernelModel", name := "partAt", desc := "([III)I" } : MethodName) prog_9_method_28_code (3 : Nat) (Option.some FieldType.int) ∈ zWS := zws_m 1141 (by decide +kernel) rfl
theorem m_1142 : Cond.methodLink "ScrimshawKernelModel" (103 : Nat) ({ cls := "ScrimshawKernelModel", name := "most", desc := "([I)I" } : MethodName) ∈ zWS := zws_m 1142 (by decide +kernel) rfl
theorem m_1143 : Cond.static ({ cls := "ScrimshawKernelModel", name := "most", desc := "([I)I" } : MethodName) ∈ zWS := zws_m 1143 (by decide +kernel) rfl
theorem m_1144 : Cond.code ({ cls := "ScrimshawKernelModel", name := "most", desc := "([I)I" } : MethodName) prog_9_method_27_code (6 : Nat) (Option.some FieldType.int) ∈ zWS := zws_m 1144 (by decide +kernel) rfl
theorem m_1145 : Cond.methodLink "ScrimshawKernelLaw" (176 : Nat) ({ cls := "ScrimshawKernelModel", name := "keepPiece", desc := "(III)I" } : MethodName) ∈ zWS := zws_m 1145 (by decide +kernel) rfl
theorem m_1146 : Cond.instanceMethod ({ cls := "ScrimshawKernelModel", name := "keepPiece", desc := "(III)I" } : MethodName) ∈ zWS := zws_m 1146 (by decide +kernel) rfl
theorem m_1147 : Cond.selects "ScrimshawKernelModel" ({ cls := "ScrimshawKernelModel", name := "keepPiece", desc := "(III)I" } : MethodName) ({ cls := "ScrimshawKernelModel", name := "keepPiece", desc := "(III)I" } : MethodName) ∈ zWS := zws_m 1147 (by decide +kernel) rfl
theorem m_1148 : Cond.code ({ cls := "ScrimshawKernelModel", name := "keepPiece", desc := "(III)I" } : MethodName) prog_9_method_31_code (9 : Nat) (Option.some FieldType.int) ∈ zWS := zws_m 1148 (by decide +kernel) rfl
theorem m_1149 : Cond.methodLink "ScrimshawKernelLaw" (179 : Nat) ({ cls := "ScrimshawKernelModel", name := "clear", desc := "(I)I" } : MethodName) ∈ zWS := zws_m 1149 (by decide +kernel) rfl
theorem m_1150 : Cond.instanceMethod ({ cls := "ScrimshawKernelModel", name := "clear", desc := "(I)I" } : MethodName) ∈ zWS := zws_m 1150 (by decide +kernel) rfl
theorem m_1151 : Cond.selects "ScrimshawKernelModel" ({ cls := "ScrimshawKernelModel", name := "clear", desc := "(I)I" } : MethodName) ({ cls := "ScrimshawKernelModel", name := "clear", desc := "(I)I" } : MethodName) ∈ zWS := zws_m 1151 (by decide +kernel) rfl
theorem m_1152 : Cond.code ({ cls := "ScrimshawKernelModel", name := "clear", desc := "(I)I" } : MethodName) prog_9_method_32_code (3 : Nat) (Option.some FieldType.int) ∈ zWS := zws_m 1152 (by decide +kernel) rfl
theorem m_1153 : Cond.methodLink "ScrimshawKernelLaw" (183 : Nat) ({ cls := "ScrimshawKernelModel", name := "undo", desc := "()I" } : MethodName) ∈ zWS := zws_m 1153 (by decide +kernel) rfl
theorem m_1154 : Cond.instanceMethod ({ cls := "ScrimshawKernelModel", name := "undo", desc := "()I" } : MethodName) ∈ zWS := zws_m 1154 (by decide +kernel) rfl
theorem m_1155 : Cond.selects "ScrimshawKernelModel" ({ cls := "ScrimshawKernelModel", name := "undo", desc := "()I" } : MethodName) ({ cls := "ScrimshawKernelModel", name := "undo", desc := "()I" } : MethodName) ∈ zWS := zws_m 1155 (by decide +kernel) rfl
theorem m_1156 : Cond.code ({ cls := "ScrimshawKernelModel", name := "undo", desc := "()I" } : MethodName) prog_9_method_33_code (1 : Nat) (Option.some FieldType.int) ∈ zWS := zws_m 1156 (by decide +kernel) rfl
theorem m_1157 : Cond.methodLink "ScrimshawKernelLaw" (186 : Nat) ({ cls := "ScrimshawKernelModel", name := "area", desc := "(I)I" } : MethodName) ∈ zWS := zws_m 1157 (by decide +kernel) rfl
theorem m_1158 : Cond.instanceMethod ({ cls := "ScrimshawKernelModel", name := "area", desc := "(I)I" } : MethodName) ∈ zWS := zws_m 1158 (by decide +kernel) rfl
theorem m_1159 : Cond.selects "ScrimshawKernelModel" ({ cls := "ScrimshawKernelModel", name := "area", desc := "(I)I" } : MethodName) ({ cls := "ScrimshawKernelModel", name := "area", desc := "(I)I" } : MethodName) ∈ zWS := zws_m 1159 (by decide +kernel) rfl
theorem m_1160 : Cond.code ({ cls := "ScrimshawKernelModel", name := "area", desc := "(I)I" } : MethodName) prog_9_method_34_code (2 : Nat) (Option.some FieldType.int) ∈ zWS := zws_m 1160 (by decide +kernel) rfl
theorem m_1161 : Cond.methodLink "ScrimshawKernelLaw" (189 : Nat) ({ cls := "ScrimshawKernelModel", name := "edges", desc := "(I)I" } : MethodName) ∈ zWS := zws_m 1161 (by decide +kernel) rfl
theorem m_1162 : Cond.instanceMethod ({ cls := "ScrimshawKernelModel", name := "edges", desc := "(I)I" } : MethodName) ∈ zWS := zws_m 1162 (by decide +kernel) rfl
theorem m_1163 : Cond.selects "ScrimshawKernelModel" ({ cls := "ScrimshawKernelModel", name := "edges", desc := "(I)I" } : MethodName) ({ cls := "ScrimshawKernelModel", name := "edges", desc := "(I)I" } : MethodName) ∈ zWS := zws_m 1163 (by decide +kernel) rfl
theorem m_1164 : Cond.code ({ cls := "ScrimshawKernelModel", name := "edges", desc := "(I)I" } : MethodName) prog_9_method_36_code (2 : Nat) (Option.some FieldType.int) ∈ zWS := zws_m 1164 (by decide +kernel) rfl
theorem m_1165 : Cond.methodLink "ScrimshawKernelModel" (111 : Nat) ({ cls := "ScrimshawKernelModel", name := "edgesNow", desc := "(I)I" } : MethodName) ∈ zWS := zws_m 1165 (by decide +kernel) rfl
theorem m_1167 : Cond.instanceMethod ({ cls := "ScrimshawKernelModel", name := "edgesNow", desc := "(I)I" } : MethodName) ∈ zWS := zws_m 1167 (by decide +kernel) rfl
theorem m_1168 : Cond.code ({ cls := "ScrimshawKernelModel", name := "edgesNow", desc := "(I)I" } : MethodName) prog_9_method_35_code (5 : Nat) (Option.some FieldType.int) ∈ zWS := zws_m 1168 (by decide +kernel) rfl
theorem m_1169 : Cond.methodLink "ScrimshawKernelLaw" (192 : Nat) ({ cls := "ScrimshawKernelModel", name := "pieces", desc := "(I)I" } : MethodName) ∈ zWS := zws_m 1169 (by decide +kernel) rfl
theorem m_1170 : Cond.instanceMethod ({ cls := "ScrimshawKernelModel", name := "pieces", desc := "(I)I" } : MethodName) ∈ zWS := zws_m 1170 (by decide +kernel) rfl
theorem m_1171 : Cond.selects "ScrimshawKernelModel" ({ cls := "ScrimshawKernelModel", name := "pieces", desc := "(I)I" } : MethodName) ({ cls := "ScrimshawKernelModel", name := "pieces", desc := "(I)I" } : MethodName) ∈ zWS := zws_m 1171 (by decide +kernel) rfl
theorem m_1172 : Cond.code ({ cls := "ScrimshawKernelModel", name := "pieces", desc := "(I)I" } : MethodName) prog_9_method_37_code (2 : Nat) (Option.some FieldType.int) ∈ zWS := zws_m 1172 (by decide +kernel) rfl
theorem m_1173 : Cond.methodLink "ScrimshawKernelLaw" (195 : Nat) ({ cls := "ScrimshawKernelModel", name := "holes", desc := "(I)I" } : MethodName) ∈ zWS := zws_m 1173 (by decide +kernel) rfl
theorem m_1174 : Cond.instanceMethod ({ cls := "ScrimshawKernelModel", name := "holes", desc := "(I)I" } : MethodName) ∈ zWS := zws_m 1174 (by decide +kernel) rfl
theorem m_1175 : Cond.selects "ScrimshawKernelModel" ({ cls := "ScrimshawKernelModel", name := "holes", desc := "(I)I" } : MethodName) ({ cls := "ScrimshawKernelModel", name := "holes", desc := "(I)I" } : MethodName) ∈ zWS := zws_m 1175 (by decide +kernel) rfl
theorem m_1176 : Cond.code ({ cls := "ScrimshawKernelModel", name := "holes", desc := "(I)I" } : MethodName) prog_9_method_38_code (2 : Nat) (Option.some FieldType.int) ∈ zWS := zws_m 1176 (by decide +kernel) rfl
theorem m_1177 : Cond.methodLink "ScrimshawKernelModel" (114 : Nat) ({ cls := "ScrimshawKernelModel", name := "holesNow", desc := "(I)I" } : MethodName) ∈ zWS := zws_m 1177 (by decide +kernel) rfl
theorem m_1179 : Cond.instanceMethod ({ cls := "ScrimshawKernelModel", name := "holesNow", desc := "(I)I" } : MethodName) ∈ zWS := zws_m 1179 (by decide +kernel) rfl
theorem m_1180 : Cond.code ({ cls := "ScrimshawKernelModel", name := "holesNow", desc := "(I)I" } : MethodName) prog_9_method_29_code (2 : Nat) (Option.some FieldType.int) ∈ zWS := zws_m 1180 (by decide +kernel) rfl
theorem m_1181 : Cond.methodLink "ScrimshawKernelLaw" (198 : Nat) ({ cls := "ScrimshawKernelModel", name := "has", desc := "(III)Z" } : MethodName) ∈ zWS := zws_m 1181 (by decide +kernel) rfl
theorem m_1182 : Cond.instanceMethod ({ cls := "ScrimshawKernelModel", name := "has", desc := "(III)Z" } : MethodName) ∈ zWS := zws_m 1182 (by decide +kernel) rfl
theorem m_1183 : Cond.selects "ScrimshawKernelModel" ({ cls := "ScrimshawKernelModel", name := "has", desc := "(III)Z" } : MethodName) ({ cls := "ScrimshawKernelModel", name := "has", desc := "(III)Z" } : MethodName) ∈ zWS := zws_m 1183 (by decide +kernel) rfl
theorem m_1184 : Cond.code ({ cls := "ScrimshawKernelModel", name := "has", desc := "(III)Z" } : MethodName) prog_9_method_39_code (4 : Nat) (Option.some FieldType.boolean) ∈ zWS := zws_m 1184 (by decide +kernel) rfl
theorem m_1185 : Cond.methodLink "ScrimshawKernelLaw" (201 : Nat) ({ cls := "ScrimshawKernelModel", name := "bound", desc := "(II)I" } : MethodName) ∈ zWS := zws_m 1185 (by decide +kernel) rfl
theorem m_1186 : Cond.instanceMethod ({ cls := "ScrimshawKernelModel", name := "bound", desc := "(II)I" } : MethodName) ∈ zWS := zws_m 1186 (by decide +kernel) rfl
theorem m_1187 : Cond.selects "ScrimshawKernelModel" ({ cls := "ScrimshawKernelModel", name := "bound", desc := "(II)I" } : MethodName) ({ cls := "ScrimshawKernelModel", name := "bound", desc := "(II)I" } : MethodName) ∈ zWS := zws_m 1187 (by decide +kernel) rfl
theorem m_1188 : Cond.code ({ cls := "ScrimshawKernelModel", name := "bound", desc := "(II)I" } : MethodName) prog_9_method_41_code (3 : Nat) (Option.some FieldType.int) ∈ zWS := zws_m 1188 (by decide +kernel) rfl
theorem m_1189 : Cond.methodLink "ScrimshawKernelModel" (117 : Nat) ({ cls := "ScrimshawKernelModel", name := "boundNow", desc := "(II)I" } : MethodName) ∈ zWS := zws_m 1189 (by decide +kernel) rfl
theorem m_1191 : Cond.instanceMethod ({ cls := "ScrimshawKernelModel", name := "boundNow", desc := "(II)I" } : MethodName) ∈ zWS := zws_m 1191 (by decide +kernel) rfl
theorem m_1192 : Cond.code ({ cls := "ScrimshawKernelModel", name := "boundNow", desc := "(II)I" } : MethodName) prog_9_method_40_code (8 : Nat) (Option.some FieldType.int) ∈ zWS := zws_m 1192 (by decide +kernel) rfl
theorem m_1193 : Cond.methodLink "ScrimshawKernelLaw" (204 : Nat) ({ cls := "ScrimshawKernelModel", name := "contours", desc := "(I)I" } : MethodName) ∈ zWS := zws_m 1193 (by decide +kernel) rfl
theorem m_1194 : Cond.instanceMethod ({ cls := "ScrimshawKernelModel", name := "contours", desc := "(I)I" } : MethodName) ∈ zWS := zws_m 1194 (by decide +kernel) rfl
theorem m_1195 : Cond.selects "ScrimshawKernelModel" ({ cls := "ScrimshawKernelModel", name := "contours", desc := "(I)I" } : MethodName) ({ cls := "ScrimshawKernelModel", name := "contours", desc := "(I)I" } : MethodName) ∈ zWS := zws_m 1195 (by decide +kernel) rfl
theorem m_1196 : Cond.code ({ cls := "ScrimshawKernelModel", name := "contours", desc := "(I)I" } : MethodName) prog_9_method_48_code (2 : Nat) (Option.some FieldType.int) ∈ zWS := zws_m 1196 (by decide +kernel) rfl
theorem m_1197 : Cond.methodLink "ScrimshawKernelModel" (134 : Nat) ({ cls := "ScrimshawKernelModel", name := "contoursNow", desc := "(I)[I" } : MethodName) ∈ zWS := zws_m 1197 (by decide +kernel) rfl
theorem m_1199 : Cond.instanceMethod ({ cls := "ScrimshawKernelModel", name := "contoursNow", desc := "(I)[I" } : MethodName) ∈ zWS := zws_m 1199 (by decide +kernel) rfl
theorem m_1200 : Cond.code ({ cls := "ScrimshawKernelModel", name := "contoursNow", desc := "(I)[I" } : MethodName) prog_9_method_45_code (21 : Nat) (Option.some (FieldType.array FieldType.int)) ∈ zWS := zws_m 1200 (by decide +kernel) rfl
theorem m_1201 : Cond.methodLink "ScrimshawKernelModel" (120 : Nat) ({ cls := "ScrimshawKernelModel", name := "isEdge", desc := "([ZIII)Z" } : MethodName) ∈ zWS := zws_m 1201 (by decide +kernel) rfl
theorem m_1202 : Cond.static ({ cls := "ScrimshawKernelModel", name := "isEdge", desc := "([ZIII)Z" } : MethodName) ∈ zWS := zws_m 1202 (by decide +kernel) rfl
theorem m_1203 : Cond.code ({ cls := "ScrimshawKernelModel", name := "isEdge", desc := "([ZIII)Z" } : MethodName) prog_9_method_42_code (4 : Nat) (Option.some FieldType.boolean) ∈ zWS := zws_m 1203 (by decide +kernel) rfl
theorem m_1204 : Cond.methodLink "ScrimshawKernelModel" (124 : Nat) ({ cls := "ScrimshawKernelModel", name := "put", desc := "([IIII)[I" } : MethodName) ∈ zWS := zws_m 1204 (by decide +kernel) rfl
theorem m_1205 : Cond.static ({ cls := "ScrimshawKernelModel", name := "put", desc := "([IIII)[I" } : MethodName) ∈ zWS := zws_m 1205 (by decide +kernel) rfl
theorem m_1206 : Cond.code ({ cls := "ScrimshawKernelModel", name := "put", desc := "([IIII)[I" } : MethodName) prog_9_method_46_code (5 : Nat) (Option.some (FieldType.array FieldType.int)) ∈ zWS := zws_m 1206 (by decide +kernel) rfl
theorem m_1207 : Cond.methodLink "ScrimshawKernelModel" (128 : Nat) ({ cls := "ScrimshawKernelModel", name := "stepX", desc := "(I)I" } : MethodName) ∈ zWS := zws_m 1207 (by decide +kernel) rfl
theorem m_1208 : Cond.static ({ cls := "ScrimshawKernelModel", name := "stepX", desc := "(I)I" } : MethodName) ∈ zWS := zws_m 1208 (by decide +kernel) rfl
theorem m_1209 : Cond.code ({ cls := "ScrimshawKernelModel", name := "stepX", desc := "(I)I" } : MethodName) prog_9_method_43_code (1 : Nat) (Option.some FieldType.int) ∈ zWS := zws_m 1209 (by decide +kernel) rfl
theorem m_1210 : Cond.methodLink "ScrimshawKernelModel" (131 : Nat) ({ cls := "ScrimshawKernelModel", name := "stepY", desc := "(I)I" } : MethodName) ∈ zWS := zws_m 1210 (by decide +kernel) rfl
theorem m_1211 : Cond.static ({ cls := "ScrimshawKernelModel", name := "stepY", desc := "(I)I" } : MethodName) ∈ zWS := zws_m 1211 (by decide +kernel) rfl
theorem m_1212 : Cond.code ({ cls := "ScrimshawKernelModel", name := "stepY", desc := "(I)I" } : MethodName) prog_9_method_44_code (1 : Nat) (Option.some FieldType.int) ∈ zWS := zws_m 1212 (by decide +kernel) rfl
theorem m_1213 : Cond.methodLink "ScrimshawKernelLaw" (207 : Nat) ({ cls := "ScrimshawKernelModel", name := "corners", desc := "(II)I" } : MethodName) ∈ zWS := zws_m 1213 (by decide +kernel) rfl
theorem m_1214 : Cond.instanceMethod ({ cls := "ScrimshawKernelModel", name := "corners", desc := "(II)I" } : MethodName) ∈ zWS := zws_m 1214 (by decide +kernel) rfl
theorem m_1215 : Cond.selects "ScrimshawKernelModel" ({ cls := "ScrimshawKernelModel", name := "corners", desc := "(II)I" } : MethodName) ({ cls := "ScrimshawKernelModel", name := "corners", desc := "(II)I" } : MethodName) ∈ zWS := zws_m 1215 (by decide +kernel) rfl
theorem m_1216 : Cond.code ({ cls := "ScrimshawKernelModel", name := "corners", desc := "(II)I" } : MethodName) prog_9_method_50_code (3 : Nat) (Option.some FieldType.int) ∈ zWS := zws_m 1216 (by decide +kernel) rfl
theorem m_1217 : Cond.methodLink "ScrimshawKernelModel" (142 : Nat) ({ cls := "ScrimshawKernelModel", name := "ofContour", desc := "(III)I" } : MethodName) ∈ zWS := zws_m 1217 (by decide +kernel) rfl
theorem m_1219 : Cond.instanceMethod ({ cls := "ScrimshawKernelModel", name := "ofContour", desc := "(III)I" } : MethodName) ∈ zWS := zws_m 1219 (by decide +kernel) rfl
theorem m_1220 : Cond.code ({ cls := "ScrimshawKernelModel", name := "ofContour", desc := "(III)I" } : MethodName) prog_9_method_49_code (6 : Nat) (Option.some FieldType.int) ∈ zWS := zws_m 1220 (by decide +kernel) rfl
theorem m_1221 : Cond.methodLink "ScrimshawKernelModel" (138 : Nat) ({ cls := "ScrimshawKernelModel", name := "headOf", desc := "([II)I" } : MethodName) ∈ zWS := zws_m 1221 (by decide +kernel) rfl
theorem m_1222 : Cond.static ({ cls := "ScrimshawKernelModel", name := "headOf", desc := "([II)I" } : MethodName) ∈ zWS := zws_m 1222 (by decide +kernel) rfl
theorem m_1223 : Cond.code ({ cls := "ScrimshawKernelModel", name := "headOf", desc := "([II)I" } : MethodName) prog_9_method_47_code (4 : Nat) (Option.some FieldType.int) ∈ zWS := zws_m 1223 (by decide +kernel) rfl
theorem m_1224 : Cond.methodLink "ScrimshawKernelLaw" (216 : Nat) ({ cls := "ScrimshawKernelModel", name := "areaOf", desc := "(II)I" } : MethodName) ∈ zWS := zws_m 1224 (by decide +kernel) rfl
theorem m_1225 : Cond.instanceMethod ({ cls := "ScrimshawKernelModel", name := "areaOf", desc := "(II)I" } : MethodName) ∈ zWS := zws_m 1225 (by decide +kernel) rfl
theorem m_1226 : Cond.selects "ScrimshawKernelModel" ({ cls := "ScrimshawKernelModel", name := "areaOf", desc := "(II)I" } : MethodName) ({ cls := "ScrimshawKernelModel", name := "areaOf", desc := "(II)I" } : MethodName) ∈ zWS := zws_m 1226 (by decide +kernel) rfl
theorem m_1227 : Cond.code ({ cls := "ScrimshawKernelModel", name := "areaOf", desc := "(II)I" } : MethodName) prog_9_method_51_code (3 : Nat) (Option.some FieldType.int) ∈ zWS := zws_m 1227 (by decide +kernel) rfl
theorem m_1228 : Cond.methodLink "ScrimshawKernelLaw" (210 : Nat) ({ cls := "ScrimshawKernelModel", name := "cornerX", desc := "(III)I" } : MethodName) ∈ zWS := zws_m 1228 (by decide +kernel) rfl
theorem m_1229 : Cond.instanceMethod ({ cls := "ScrimshawKernelModel", name := "cornerX", desc := "(III)I" } : MethodName) ∈ zWS := zws_m 1229 (by decide +kernel) rfl
theorem m_1230 : Cond.selects "ScrimshawKernelModel" ({ cls := "ScrimshawKernelModel", name := "cornerX", desc := "(III)I" } : MethodName) ({ cls := "ScrimshawKernelModel", name := "cornerX", desc := "(III)I" } : MethodName) ∈ zWS := zws_m 1230 (by decide +kernel) rfl
theorem m_1231 : Cond.code ({ cls := "ScrimshawKernelModel", name := "cornerX", desc := "(III)I" } : MethodName) prog_9_method_53_code (4 : Nat) (Option.some FieldType.int) ∈ zWS := zws_m 1231 (by decide +kernel) rfl
theorem m_1232 : Cond.methodLink "ScrimshawKernelModel" (148 : Nat) ({ cls := "ScrimshawKernelModel", name := "corner", desc := "(IIII)I" } : MethodName) ∈ zWS := zws_m 1232 (by decide +kernel) rfl
theorem m_1234 : Cond.instanceMethod ({ cls := "ScrimshawKernelModel", name := "corner", desc := "(IIII)I" } : MethodName) ∈ zWS := zws_m 1234 (by decide +kernel) rfl
theorem m_1235 : Cond.code ({ cls := "ScrimshawKernelModel", name := "corner", desc := "(IIII)I" } : MethodName) prog_9_method_52_code (6 : Nat) (Option.some FieldType.int) ∈ zWS := zws_m 1235 (by decide +kernel) rfl
theorem m_1236 : Cond.methodLink "ScrimshawKernelModel" (145 : Nat) ({ cls := "ScrimshawKernelModel", name := "corners", desc := "(II)I" } : MethodName) ∈ zWS := zws_m 1236 (by decide +kernel) rfl
theorem m_1237 : Cond.methodLink "ScrimshawKernelLaw" (213 : Nat) ({ cls := "ScrimshawKernelModel", name := "cornerY", desc := "(III)I" } : MethodName) ∈ zWS := zws_m 1237 (by decide +kernel) rfl
theorem m_1238 : Cond.instanceMethod ({ cls := "ScrimshawKernelModel", name := "cornerY", desc := "(III)I" } : MethodName) ∈ zWS := zws_m 1238 (by decide +kernel) rfl
theorem m_1239 : Cond.selects "ScrimshawKernelModel" ({ cls := "ScrimshawKernelModel", name := "cornerY", desc := "(III)I" } : MethodName) ({ cls := "ScrimshawKernelModel", name := "cornerY", desc := "(III)I" } : MethodName) ∈ zWS := zws_m 1239 (by decide +kernel) rfl
theorem m_1240 : Cond.code ({ cls := "ScrimshawKernelModel", name := "cornerY", desc := "(III)I" } : MethodName) prog_9_method_54_code (4 : Nat) (Option.some FieldType.int) ∈ zWS := zws_m 1240 (by decide +kernel) rfl
theorem m_1241 : Cond.methodLink "ScrimshawKernelLaw" (219 : Nat) ({ cls := "ScrimshawKernelModel", name := "strips", desc := "(I)I" } : MethodName) ∈ zWS := zws_m 1241 (by decide +kernel) rfl
theorem m_1242 : Cond.instanceMethod ({ cls := "ScrimshawKernelModel", name := "strips", desc := "(I)I" } : MethodName) ∈ zWS := zws_m 1242 (by decide +kernel) rfl
theorem m_1243 : Cond.selects "ScrimshawKernelModel" ({ cls := "ScrimshawKernelModel", name := "strips", desc := "(I)I" } : MethodName) ({ cls := "ScrimshawKernelModel", name := "strips", desc := "(I)I" } : MethodName) ∈ zWS := zws_m 1243 (by decide +kernel) rfl
theorem m_1244 : Cond.code ({ cls := "ScrimshawKernelModel", name := "strips", desc := "(I)I" } : MethodName) prog_9_method_57_code (2 : Nat) (Option.some FieldType.int) ∈ zWS := zws_m 1244 (by decide +kernel) rfl
theorem m_1245 : Cond.methodLink "ScrimshawKernelModel" (155 : Nat) ({ cls := "ScrimshawKernelModel", name := "stripsNow", desc := "(I)[I" } : MethodName) ∈ zWS := zws_m 1245 (by decide +kernel) rfl
theorem m_1247 : Cond.instanceMethod ({ cls := "ScrimshawKernelModel", name := "stripsNow", desc := "(I)[I" } : MethodName) ∈ zWS := zws_m 1247 (by decide +kernel) rfl
theorem m_1248 : Cond.code ({ cls := "ScrimshawKernelModel", name := "stripsNow", desc := "(I)[I" } : MethodName) prog_9_method_56_code (9 : Nat) (Option.some (FieldType.array FieldType.int)) ∈ zWS := zws_m 1248 (by decide +kernel) rfl
theorem m_1249 : Cond.methodLink "ScrimshawKernelModel" (152 : Nat) ({ cls := "ScrimshawKernelModel", name := "isRun", desc := "([ZIII)Z" } : MethodName) ∈ zWS := zws_m 1249 (by decide +kernel) rfl
theorem m_1250 : Cond.static ({ cls := "ScrimshawKernelModel", name := "isRun", desc := "([ZIII)Z" } : MethodName) ∈ zWS := zws_m 1250 (by decide +kernel) rfl
theorem m_1251 : Cond.code ({ cls := "ScrimshawKernelModel", name := "isRun", desc := "([ZIII)Z" } : MethodName) prog_9_method_55_code (5 : Nat) (Option.some FieldType.boolean) ∈ zWS := zws_m 1251 (by decide +kernel) rfl
theorem m_1252 : Cond.methodLink "ScrimshawKernelLaw" (222 : Nat) ({ cls := "ScrimshawKernelModel", name := "strip", desc := "(III)I" } : MethodName) ∈ zWS := zws_m 1252 (by decide +kernel) rfl
theorem m_1253 : Cond.instanceMethod ({ cls := "ScrimshawKernelModel", name := "strip", desc := "(III)I" } : MethodName) ∈ zWS := zws_m 1253 (by decide +kernel) rfl
theorem m_1254 : Cond.selects "ScrimshawKernelModel" ({ cls := "ScrimshawKernelModel", name := "strip", desc := "(III)I" } : MethodName) ({ cls := "ScrimshawKernelModel", name := "strip", desc := "(III)I" } : MethodName) ∈ zWS := zws_m 1254 (by decide +kernel) rfl
theorem m_1255 : Cond.code ({ cls := "ScrimshawKernelModel", name := "strip", desc := "(III)I" } : MethodName) prog_9_method_58_code (5 : Nat) (Option.some FieldType.int) ∈ zWS := zws_m 1255 (by decide +kernel) rfl
theorem m_1256 : Cond.methodLink "ScrimshawKernelLaw" (225 : Nat) ({ cls := "ScrimshawKernelModel", name := "hatch", desc := "(IIII)I" } : MethodName) ∈ zWS := zws_m 1256 (by decide +kernel) rfl
theorem m_1257 : Cond.instanceMethod ({ cls := "ScrimshawKernelModel", name := "hatch", desc := "(IIII)I" } : MethodName) ∈ zWS := zws_m 1257 (by decide +kernel) rfl
theorem m_1258 : Cond.selects "ScrimshawKernelModel" ({ cls := "ScrimshawKernelModel", name := "hatch", desc := "(IIII)I" } : MethodName) ({ cls := "ScrimshawKernelModel", name := "hatch", desc := "(IIII)I" } : MethodName) ∈ zWS := zws_m 1258 (by decide +kernel) rfl
theorem m_1259 : Cond.code ({ cls := "ScrimshawKernelModel", name := "hatch", desc := "(IIII)I" } : MethodName) prog_9_method_61_code (5 : Nat) (Option.some FieldType.int) ∈ zWS := zws_m 1259 (by decide +kernel) rfl
theorem m_1260 : Cond.methodLink "ScrimshawKernelModel" (162 : Nat) ({ cls := "ScrimshawKernelModel", name := "hatching", desc := "(IIIIZ)I" } : MethodName) ∈ zWS := zws_m 1260 (by decide +kernel) rfl
theorem m_1262 : Cond.instanceMethod ({ cls := "ScrimshawKernelModel", name := "hatching", desc := "(IIIIZ)I" } : MethodName) ∈ zWS := zws_m 1262 (by decide +kernel) rfl
theorem m_1263 : Cond.code ({ cls := "ScrimshawKernelModel", name := "hatching", desc := "(IIIIZ)I" } : MethodName) prog_9_method_60_code (11 : Nat) (Option.some FieldType.int) ∈ zWS := zws_m 1263 (by decide +kernel) rfl
theorem m_1264 : Cond.methodLink "ScrimshawKernelModel" (158 : Nat) ({ cls := "ScrimshawKernelModel", name := "isOnLine", desc := "(IIIII)Z" } : MethodName) ∈ zWS := zws_m 1264 (by decide +kernel) rfl
theorem m_1265 : Cond.static ({ cls := "ScrimshawKernelModel", name := "isOnLine", desc := "(IIIII)Z" } : MethodName) ∈ zWS := zws_m 1265 (by decide +kernel) rfl
theorem m_1266 : Cond.code ({ cls := "ScrimshawKernelModel", name := "isOnLine", desc := "(IIIII)Z" } : MethodName) prog_9_method_59_code (6 : Nat) (Option.some FieldType.boolean) ∈ zWS := zws_m 1266 (by decide +kernel) rfl
theorem m_1267 : Cond.methodLink "ScrimshawKernelLaw" (228 : Nat) ({ cls := "ScrimshawKernelModel", name := "hatched", desc := "(IIII)I" } : MethodName) ∈ zWS := zws_m 1267 (by decide +kernel) rfl
theorem m_1268 : Cond.instanceMethod ({ cls := "ScrimshawKernelModel", name := "hatched", desc := "(IIII)I" } : MethodName) ∈ zWS := zws_m 1268 (by decide +kernel) rfl
theorem m_1269 : Cond.selects "ScrimshawKernelModel" ({ cls := "ScrimshawKernelModel", name := "hatched", desc := "(IIII)I" } : MethodName) ({ cls := "ScrimshawKernelModel", name := "hatched", desc := "(IIII)I" } : MethodName) ∈ zWS := zws_m 1269 (by decide +kernel) rfl
theorem m_1270 : Cond.code ({ cls := "ScrimshawKernelModel", name := "hatched", desc := "(IIII)I" } : MethodName) prog_9_method_62_code (5 : Nat) (Option.some FieldType.int) ∈ zWS := zws_m 1270 (by decide +kernel) rfl
theorem m_1271 : Cond.methodLink "ScrimshawKernelLaw" (231 : Nat) ({ cls := "ScrimshawKernelModel", name := "apart", desc := "(II)I" } : MethodName) ∈ zWS := zws_m 1271 (by decide +kernel) rfl
theorem m_1272 : Cond.instanceMethod ({ cls := "ScrimshawKernelModel", name := "apart", desc := "(II)I" } : MethodName) ∈ zWS := zws_m 1272 (by decide +kernel) rfl
theorem m_1273 : Cond.selects "ScrimshawKernelModel" ({ cls := "ScrimshawKernelModel", name := "apart", desc := "(II)I" } : MethodName) ({ cls := "ScrimshawKernelModel", name := "apart", desc := "(II)I" } : MethodName) ∈ zWS := zws_m 1273 (by decide +kernel) rfl
theorem m_1274 : Cond.code ({ cls := "ScrimshawKernelModel", name := "apart", desc := "(II)I" } : MethodName) prog_9_method_63_code (9 : Nat) (Option.some FieldType.int) ∈ zWS := zws_m 1274 (by decide +kernel) rfl
theorem m_1275 : Cond.methodLink "ScrimshawKernelLaw" (234 : Nat) ({ cls := "ScrimshawKernelModel", name := "isSameForm", desc := "(II)Z" } : MethodName) ∈ zWS := zws_m 1275 (by decide +kernel) rfl
theorem m_1276 : Cond.instanceMethod ({ cls := "ScrimshawKernelModel", name := "isSameForm", desc := "(II)Z" } : MethodName) ∈ zWS := zws_m 1276 (by decide +kernel) rfl
theorem m_1277 : Cond.selects "ScrimshawKernelModel" ({ cls := "ScrimshawKernelModel", name := "isSameForm", desc := "(II)Z" } : MethodName) ({ cls := "ScrimshawKernelModel", name := "isSameForm", desc := "(II)Z" } : MethodName) ∈ zWS := zws_m 1277 (by decide +kernel) rfl
theorem m_1278 : Cond.code ({ cls := "ScrimshawKernelModel", name := "isSameForm", desc := "(II)Z" } : MethodName) prog_9_method_64_code (7 : Nat) (Option.some FieldType.boolean) ∈ zWS := zws_m 1278 (by decide +kernel) rfl
theorem m_1279 : Cond.methodLink "ScrimshawKernelLaw" (238 : Nat) ({ cls := "ScrimshawKernelModel", name := "middleX", desc := "(I)D" } : MethodName) ∈ zWS := zws_m 1279 (by decide +kernel) rfl
theorem m_1280 : Cond.instanceMethod ({ cls := "ScrimshawKernelModel", name := "middleX", desc := "(I)D" } : MethodName) ∈ zWS := zws_m 1280 (by decide +kernel) rfl
theorem m_1281 : Cond.selects "ScrimshawKernelModel" ({ cls := "ScrimshawKernelModel", name := "middleX", desc := "(I)D" } : MethodName) ({ cls := "ScrimshawKernelModel", name := "middleX", desc := "(I)D" } : MethodName) ∈ zWS := zws_m 1281 (by decide +kernel) rfl
theorem m_1282 : Cond.code ({ cls := "ScrimshawKernelModel", name := "middleX", desc := "(I)D" } : MethodName) prog_9_method_65_code (5 : Nat) (Option.some FieldType.double) ∈ zWS := zws_m 1282 (by decide +kernel) rfl
theorem m_1283 : Cond.methodLink "ScrimshawKernelLaw" (243 : Nat) ({ cls := "ScrimshawKernelModel", name := "digest", desc := "()J" } : MethodName) ∈ zWS := zws_m 1283 (by decide +kernel) rfl
theorem m_1284 : Cond.instanceMethod ({ cls := "ScrimshawKernelModel", name := "digest", desc := "()J" } : MethodName) ∈ zWS := zws_m 1284 (by decide +kernel) rfl
theorem m_1285 : Cond.selects "ScrimshawKernelModel" ({ cls := "ScrimshawKernelModel", name := "digest", desc := "()J" } : MethodName) ({ cls := "ScrimshawKernelModel", name := "digest", desc := "()J" } : MethodName) ∈ zWS := zws_m 1285 (by decide +kernel) rfl
theorem m_1286 : Cond.code ({ cls := "ScrimshawKernelModel", name := "digest", desc := "()J" } : MethodName) prog_9_method_66_code (7 : Nat) (Option.some FieldType.long) ∈ zWS := zws_m 1286 (by decide +kernel) rfl
theorem m_1287 : Cond.constantLong "ScrimshawKernelModel" (166 : Nat) (78833 : Int64) ∈ zWS := zws_m 1287 (by decide +kernel) rfl
theorem m_1288 : Cond.constantLong "ScrimshawKernelModel" (168 : Nat) (31 : Int64) ∈ zWS := zws_m 1288 (by decide +kernel) rfl
theorem m_1289 : Cond.arrayClass FieldType.double ∈ zWS := zws_m 1289 (by decide +kernel) rfl
theorem inz0 : ∀ w ∈ u_ws RX0 TX0 1, w ∈ zWS := by
  intro w hw
  obtain ⟨k, hk, rfl⟩ := List.mem_map.mp hw
  have hk2 := List.mem_range.mp hk
  match k, hk2 with
  | 0, _ => exact m_70
  | k + 1, h => exact absurd h (by omega)
theorem inz1 : ∀ w ∈ u_ws RX1 TX1 4, w ∈ zWS := by
  intro w hw
  obtain ⟨k, hk, rfl⟩ := List.mem_map.mp hw
  have hk2 := List.mem_range.mp hk
  match k, hk2 with
  | 0, _ => exact m_139
  | 1, _ => exact m_141
  | 2, _ => exact m_143
  | 3, _ => exact m_145
  | k + 4, h => exact absurd h (by omega)
theorem inz2 : ∀ w ∈ u_ws RX2 TX2 4, w ∈ zWS := by
  intro w hw
  obtain ⟨k, hk, rfl⟩ := List.mem_map.mp hw
  have hk2 := List.mem_range.mp hk
  match k, hk2 with
  | 0, _ => exact m_118
  | 1, _ => exact m_120
  | 2, _ => exact m_122
  | 3, _ => exact m_124
  | k + 4, h => exact absurd h (by omega)
theorem inz3 : ∀ w ∈ u_ws RX3 TX3 12, w ∈ zWS := by
  intro w hw
  obtain ⟨k, hk, rfl⟩ := List.mem_map.mp hw
  have hk2 := List.mem_range.mp hk
  match k, hk2 with
  | 0, _ => exact m_168
  | 1, _ => exact m_170
  | 2, _ => exact m_172
  | 3, _ => exact m_174
  | 4, _ => exact m_176
  | 5, _ => exact m_178
  | 6, _ => exact m_180
  | 7, _ => exact m_182
  | 8, _ => exact m_184
  | 9, _ => exact m_186
  | 10, _ => exact m_188
  | 11, _ => exact m_190
  | k + 12, h => exact absurd h (by omega)
theorem inz4 : ∀ w ∈ u_ws RX4 TX4 8, w ∈ zWS := by
  intro w hw
  obtain ⟨k, hk, rfl⟩ := List.mem_map.mp hw
  have hk2 := List.mem_range.mp hk
  match k, hk2 with
  | 0, _ => exact m_88
  | 1, _ => exact m_90
  | 2, _ => exact m_92
  | 3, _ => exact m_94
  | 4, _ => exact m_96
  | 5, _ => exact m_98
  | 6, _ => exact m_100
  | 7, _ => exact m_102
  | k + 8, h => exact absurd h (by omega)
theorem inz5 : ∀ w ∈ u_ws RX5 TX5 7, w ∈ zWS := by
  intro w hw
  obtain ⟨k, hk, rfl⟩ := List.mem_map.mp hw
  have hk2 := List.mem_range.mp hk
  match k, hk2 with
  | 0, _ => exact m_208
  | 1, _ => exact m_210
  | 2, _ => exact m_212
  | 3, _ => exact m_214
  | 4, _ => exact m_216
  | 5, _ => exact m_218
  | 6, _ => exact m_220
  | k + 7, h => exact absurd h (by omega)
theorem inz6 : ∀ w ∈ u_ws RX6 TX6 7, w ∈ zWS := by
  intro w hw
  obtain ⟨k, hk, rfl⟩ := List.mem_map.mp hw
  have hk2 := List.mem_range.mp hk
  match k, hk2 with
  | 0, _ => exact m_230
  | 1, _ => exact m_232
  | 2, _ => exact m_234
  | 3, _ => exact m_236
  | 4, _ => exact m_238
  | 5, _ => exact m_240
  | 6, _ => exact m_242
  | k + 7, h => exact absurd h (by omega)
theorem inz7 : ∀ w ∈ u_ws RX7 TX7 8, w ∈ zWS := by
  intro w hw
  obtain ⟨k, hk, rfl⟩ := List.mem_map.mp hw
  have hk2 := List.mem_range.mp hk
  match k, hk2 with
  | 0, _ => exact m_1018
  | 1, _ => exact m_1020
  | 2, _ => exact m_1022
  | 3, _ => exact m_1024
  | 4, _ => exact m_1026
  | 5, _ => exact m_1028
  | 6, _ => exact m_1030
  | 7, _ => exact m_1032
  | k + 8, h => exact absurd h (by omega)
/-- links between nest mates -/
def zNL : List (String × Nat × MethodName × String) := [("ScrimshawKernel", 15, ⟨"ScrimshawKernel$Fields", "<init>", "()V"⟩, "ScrimshawKernel"), ("ScrimshawKernel", 22, ⟨"ScrimshawKernel$Pen", "<init>", "()V"⟩, "ScrimshawKernel"), ("ScrimshawKernel$History", 21, ⟨"ScrimshawKernel$Fields", "<init>", "()V"⟩, "ScrimshawKernel"), ("ScrimshawKernel", 36, ⟨"ScrimshawKernel$Flood", "<init>", "()V"⟩, "ScrimshawKernel"), ("ScrimshawKernel$Flood", 11, ⟨"ScrimshawKernel$Fields", "<init>", "()V"⟩, "ScrimshawKernel"), ("ScrimshawKernel", 43, ⟨"ScrimshawKernel$Outline", "<init>", "()V"⟩, "ScrimshawKernel"), ("ScrimshawKernel$Outline", 11, ⟨"ScrimshawKernel$Fields", "<init>", "()V"⟩, "ScrimshawKernel"), ("ScrimshawKernel", 50, ⟨"ScrimshawKernel$StripWalk", "<init>", "()V"⟩, "ScrimshawKernel"), ("ScrimshawKernel$StripWalk", 11, ⟨"ScrimshawKernel$Fields", "<init>", "()V"⟩, "ScrimshawKernel"), ("ScrimshawKernel$Flood", 73, ⟨"ScrimshawKernel", "lowestBit", "(J)I"⟩, "ScrimshawKernel"), ("ScrimshawKernel$Flood", 48, ⟨"ScrimshawKernel", "bit", "(I)J"⟩, "ScrimshawKernel"), ("ScrimshawKernel$Fields", 45, ⟨"ScrimshawKernel", "lowestBit", "(J)I"⟩, "ScrimshawKernel"), ("ScrimshawKernel$Fields", 48, ⟨"ScrimshawKernel", "bit", "(I)J"⟩, "ScrimshawKernel"), ("ScrimshawKernel$Outline", 63, ⟨"ScrimshawKernel", "lowestBit", "(J)I"⟩, "ScrimshawKernel"), ("ScrimshawKernel$StripWalk", 67, ⟨"ScrimshawKernel", "lowestBit", "(J)I"⟩, "ScrimshawKernel")]
theorem nl_65 : (("ScrimshawKernel", 15, ⟨"ScrimshawKernel$Fields", "<init>", "()V"⟩, "ScrimshawKernel") : String × Nat × MethodName × String) ∈ zNL := List.mem_of_getElem? (i := 0) rfl
theorem nl_76 : (("ScrimshawKernel", 22, ⟨"ScrimshawKernel$Pen", "<init>", "()V"⟩, "ScrimshawKernel") : String × Nat × MethodName × String) ∈ zNL := List.mem_of_getElem? (i := 1) rfl
theorem nl_113 : (("ScrimshawKernel$History", 21, ⟨"ScrimshawKernel$Fields", "<init>", "()V"⟩, "ScrimshawKernel") : String × Nat × MethodName × String) ∈ zNL := List.mem_of_getElem? (i := 2) rfl
theorem nl_129 : (("ScrimshawKernel", 36, ⟨"ScrimshawKernel$Flood", "<init>", "()V"⟩, "ScrimshawKernel") : String × Nat × MethodName × String) ∈ zNL := List.mem_of_getElem? (i := 3) rfl
theorem nl_134 : (("ScrimshawKernel$Flood", 11, ⟨"ScrimshawKernel$Fields", "<init>", "()V"⟩, "ScrimshawKernel") : String × Nat × MethodName × String) ∈ zNL := List.mem_of_getElem? (i := 4) rfl
theorem nl_150 : (("ScrimshawKernel", 43, ⟨"ScrimshawKernel$Outline", "<init>", "()V"⟩, "ScrimshawKernel") : String × Nat × MethodName × String) ∈ zNL := List.mem_of_getElem? (i := 5) rfl
theorem nl_155 : (("ScrimshawKernel$Outline", 11, ⟨"ScrimshawKernel$Fields", "<init>", "()V"⟩, "ScrimshawKernel") : String × Nat × MethodName × String) ∈ zNL := List.mem_of_getElem? (i := 6) rfl
theorem nl_195 : (("ScrimshawKernel", 50, ⟨"ScrimshawKernel$StripWalk", "<init>", "()V"⟩, "ScrimshawKernel") : String × Nat × MethodName × String) ∈ zNL := List.mem_of_getElem? (i := 7) rfl
theorem nl_200 : (("ScrimshawKernel$StripWalk", 11, ⟨"ScrimshawKernel$Fields", "<init>", "()V"⟩, "ScrimshawKernel") : String × Nat × MethodName × String) ∈ zNL := List.mem_of_getElem? (i := 8) rfl
theorem nl_315 : (("ScrimshawKernel$Flood", 73, ⟨"ScrimshawKernel", "lowestBit", "(J)I"⟩, "ScrimshawKernel") : String × Nat × MethodName × String) ∈ zNL := List.mem_of_getElem? (i := 9) rfl
theorem nl_365 : (("ScrimshawKernel$Flood", 48, ⟨"ScrimshawKernel", "bit", "(I)J"⟩, "ScrimshawKernel") : String × Nat × MethodName × String) ∈ zNL := List.mem_of_getElem? (i := 10) rfl
theorem nl_379 : (("ScrimshawKernel$Fields", 45, ⟨"ScrimshawKernel", "lowestBit", "(J)I"⟩, "ScrimshawKernel") : String × Nat × MethodName × String) ∈ zNL := List.mem_of_getElem? (i := 11) rfl
theorem nl_388 : (("ScrimshawKernel$Fields", 48, ⟨"ScrimshawKernel", "bit", "(I)J"⟩, "ScrimshawKernel") : String × Nat × MethodName × String) ∈ zNL := List.mem_of_getElem? (i := 12) rfl
theorem nl_409 : (("ScrimshawKernel$Outline", 63, ⟨"ScrimshawKernel", "lowestBit", "(J)I"⟩, "ScrimshawKernel") : String × Nat × MethodName × String) ∈ zNL := List.mem_of_getElem? (i := 13) rfl
theorem nl_484 : (("ScrimshawKernel$StripWalk", 67, ⟨"ScrimshawKernel", "lowestBit", "(J)I"⟩, "ScrimshawKernel") : String × Nat × MethodName × String) ∈ zNL := List.mem_of_getElem? (i := 14) rfl
theorem zNL_tbl : ∀ q ∈ zNL, Cond.methodLinkNest q.1 q.2.1 q.2.2.1 q.2.2.2 ∈ lw_tbl := by
  intro q hq
  simp only [zNL, List.mem_cons, List.not_mem_nil, or_false] at hq
  rcases hq with rfl | rfl | rfl | rfl | rfl | rfl | rfl | rfl | rfl | rfl | rfl | rfl | rfl | rfl | rfl
  · exact List.mem_of_getElem? m_65
  · exact List.mem_of_getElem? m_76
  · exact List.mem_of_getElem? m_113
  · exact List.mem_of_getElem? m_129
  · exact List.mem_of_getElem? m_134
  · exact List.mem_of_getElem? m_150
  · exact List.mem_of_getElem? m_155
  · exact List.mem_of_getElem? m_195
  · exact List.mem_of_getElem? m_200
  · exact List.mem_of_getElem? m_315
  · exact List.mem_of_getElem? m_365
  · exact List.mem_of_getElem? m_379
  · exact List.mem_of_getElem? m_388
  · exact List.mem_of_getElem? m_409
  · exact List.mem_of_getElem? m_484
/-- the texts of the exceptions: places of the pool of the class -/
def zST : List (Nat × String) := [(61, "x or y is not -24 to 24"), (292, "the pen would not be at -24 to 24"), (299, "the path has 60 points"), (290, "no such region"), (95, "rule is not 0 or 1"), (111, "width or height is not 1 to 64"), (306, "a field would have an x or y that is not -32 to 31"), (126, "operation is not 0 to 3"), (132, "byX or byY is not -64 to 64"), (153, "quarters is not 0 to 3"), (308, "by is not 0 to 8, or kind is not 0 or 1"), (206, "side is not 0 to 3"), (315, "no such contour"), (317, "no such corner"), (240, "no such strip"), (243, "what is not 0 to 3"), (310, "kind is not 0 to 3, every not 1 to 20, or first not -100 to 100")]
theorem st_61 : ((61, "x or y is not -24 to 24") : Nat × String) ∈ zST := List.mem_of_getElem? (i := 0) rfl
theorem st_292 : ((292, "the pen would not be at -24 to 24") : Nat × String) ∈ zST := List.mem_of_getElem? (i := 1) rfl
theorem st_299 : ((299, "the path has 60 points") : Nat × String) ∈ zST := List.mem_of_getElem? (i := 2) rfl
theorem st_290 : ((290, "no such region") : Nat × String) ∈ zST := List.mem_of_getElem? (i := 3) rfl
theorem st_95 : ((95, "rule is not 0 or 1") : Nat × String) ∈ zST := List.mem_of_getElem? (i := 4) rfl
theorem st_111 : ((111, "width or height is not 1 to 64") : Nat × String) ∈ zST := List.mem_of_getElem? (i := 5) rfl
theorem st_306 : ((306, "a field would have an x or y that is not -32 to 31") : Nat × String) ∈ zST := List.mem_of_getElem? (i := 6) rfl
theorem st_126 : ((126, "operation is not 0 to 3") : Nat × String) ∈ zST := List.mem_of_getElem? (i := 7) rfl
theorem st_132 : ((132, "byX or byY is not -64 to 64") : Nat × String) ∈ zST := List.mem_of_getElem? (i := 8) rfl
theorem st_153 : ((153, "quarters is not 0 to 3") : Nat × String) ∈ zST := List.mem_of_getElem? (i := 9) rfl
theorem st_308 : ((308, "by is not 0 to 8, or kind is not 0 or 1") : Nat × String) ∈ zST := List.mem_of_getElem? (i := 10) rfl
theorem st_206 : ((206, "side is not 0 to 3") : Nat × String) ∈ zST := List.mem_of_getElem? (i := 11) rfl
theorem st_315 : ((315, "no such contour") : Nat × String) ∈ zST := List.mem_of_getElem? (i := 12) rfl
theorem st_317 : ((317, "no such corner") : Nat × String) ∈ zST := List.mem_of_getElem? (i := 13) rfl
theorem st_240 : ((240, "no such strip") : Nat × String) ∈ zST := List.mem_of_getElem? (i := 14) rfl
theorem st_243 : ((243, "what is not 0 to 3") : Nat × String) ∈ zST := List.mem_of_getElem? (i := 15) rfl
theorem st_310 : ((310, "kind is not 0 to 3, every not 1 to 20, or first not -100 to 100") : Nat × String) ∈ zST := List.mem_of_getElem? (i := 16) rfl
