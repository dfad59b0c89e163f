section
-- ===== PART A: goes FIRST, ahead of the names: the tables' words, and 'selects' of the private methods out of them =====
/-- a private method of a class that the tables say can be made, by its rows of tables_1 -/
def lw_okq (q : MethodName × Nat) : Prop := (q.1.cls ≠ "java/lang/invoke/MethodHandle" ∧ q.1.cls ≠ "java/lang/invoke/VarHandle") ∧ Cond.instantiable q.1.cls q.2 ∈ tables_1 ∧ Cond.privateMethod q.1 ∈ tables_1 ∧ Cond.instanceMethod q.1 ∈ tables_1
theorem lw_p0 : lw_okq (⟨"ScrimshawKernel$History", "isAt", "(I)Z"⟩, 4) := ⟨⟨by decide +kernel, by decide +kernel⟩, List.mem_of_getElem? (i := 72) (by decide +kernel), List.mem_of_getElem? (i := 227) (by decide +kernel), List.mem_of_getElem? (i := 228) (by decide +kernel)⟩
theorem lw_p1 : lw_okq (⟨"ScrimshawKernel$Flood", "countParts", "(Z)I"⟩, 4) := ⟨⟨by decide +kernel, by decide +kernel⟩, List.mem_of_getElem? (i := 93) (by decide +kernel), List.mem_of_getElem? (i := 276) (by decide +kernel), List.mem_of_getElem? (i := 277) (by decide +kernel)⟩
theorem lw_p2 : lw_okq (⟨"ScrimshawKernel$Flood", "take", "(IIZ)V"⟩, 4) := ⟨⟨by decide +kernel, by decide +kernel⟩, List.mem_of_getElem? (i := 93) (by decide +kernel), List.mem_of_getElem? (i := 285) (by decide +kernel), List.mem_of_getElem? (i := 286) (by decide +kernel)⟩
theorem lw_p3 : lw_okq (⟨"ScrimshawKernel$Flood", "spread", "(Z)V"⟩, 4) := ⟨⟨by decide +kernel, by decide +kernel⟩, List.mem_of_getElem? (i := 93) (by decide +kernel), List.mem_of_getElem? (i := 300) (by decide +kernel), List.mem_of_getElem? (i := 301) (by decide +kernel)⟩
theorem lw_p4 : lw_okq (⟨"ScrimshawKernel$Flood", "spreadInto", "(IZ)Z"⟩, 4) := ⟨⟨by decide +kernel, by decide +kernel⟩, List.mem_of_getElem? (i := 93) (by decide +kernel), List.mem_of_getElem? (i := 304) (by decide +kernel), List.mem_of_getElem? (i := 305) (by decide +kernel)⟩
theorem lw_p5 : lw_okq (⟨"ScrimshawKernel$Flood", "removeFound", "()V"⟩, 4) := ⟨⟨by decide +kernel, by decide +kernel⟩, List.mem_of_getElem? (i := 93) (by decide +kernel), List.mem_of_getElem? (i := 318) (by decide +kernel), List.mem_of_getElem? (i := 319) (by decide +kernel)⟩
theorem lw_p6 : lw_okq (⟨"ScrimshawKernel$Flood", "findHoles", "(LScrimshawKernel$Fields;)V"⟩, 4) := ⟨⟨by decide +kernel, by decide +kernel⟩, List.mem_of_getElem? (i := 93) (by decide +kernel), List.mem_of_getElem? (i := 327) (by decide +kernel), List.mem_of_getElem? (i := 328) (by decide +kernel)⟩
theorem lw_p7 : lw_okq (⟨"ScrimshawKernel$Fields", "columns", "()J"⟩, 1) := ⟨⟨by decide +kernel, by decide +kernel⟩, List.mem_of_getElem? (i := 29) (by decide +kernel), List.mem_of_getElem? (i := 341) (by decide +kernel), List.mem_of_getElem? (i := 342) (by decide +kernel)⟩
theorem lw_p8 : lw_okq (⟨"ScrimshawKernel$Outline", "beginAt", "(II)V"⟩, 12) := ⟨⟨by decide +kernel, by decide +kernel⟩, List.mem_of_getElem? (i := 114) (by decide +kernel), List.mem_of_getElem? (i := 376) (by decide +kernel), List.mem_of_getElem? (i := 377) (by decide +kernel)⟩
theorem lw_p9 : lw_okq (⟨"ScrimshawKernel$Outline", "walk", "()V"⟩, 12) := ⟨⟨by decide +kernel, by decide +kernel⟩, List.mem_of_getElem? (i := 114) (by decide +kernel), List.mem_of_getElem? (i := 381) (by decide +kernel), List.mem_of_getElem? (i := 382) (by decide +kernel)⟩
theorem lw_p10 : lw_okq (⟨"ScrimshawKernel$Outline", "noteCorner", "()V"⟩, 12) := ⟨⟨by decide +kernel, by decide +kernel⟩, List.mem_of_getElem? (i := 114) (by decide +kernel), List.mem_of_getElem? (i := 385) (by decide +kernel), List.mem_of_getElem? (i := 386) (by decide +kernel)⟩
theorem lw_p11 : lw_okq (⟨"ScrimshawKernel$Outline", "noteEdge", "()V"⟩, 12) := ⟨⟨by decide +kernel, by decide +kernel⟩, List.mem_of_getElem? (i := 114) (by decide +kernel), List.mem_of_getElem? (i := 389) (by decide +kernel), List.mem_of_getElem? (i := 390) (by decide +kernel)⟩
theorem lw_p12 : lw_okq (⟨"ScrimshawKernel$Outline", "goOn", "()V"⟩, 12) := ⟨⟨by decide +kernel, by decide +kernel⟩, List.mem_of_getElem? (i := 114) (by decide +kernel), List.mem_of_getElem? (i := 394) (by decide +kernel), List.mem_of_getElem? (i := 395) (by decide +kernel)⟩
theorem lw_p13 : lw_okq (⟨"ScrimshawKernel", "digestOfContours", "(JLScrimshawKernel$Fields;)J"⟩, 7) := ⟨⟨by decide +kernel, by decide +kernel⟩, List.mem_of_getElem? (i := 20) (by decide +kernel), List.mem_of_getElem? (i := 402) (by decide +kernel), List.mem_of_getElem? (i := 403) (by decide +kernel)⟩
theorem lw_p14 : lw_okq (⟨"ScrimshawKernel$StripWalk", "isRunAt", "(IJ)Z"⟩, 7) := ⟨⟨by decide +kernel, by decide +kernel⟩, List.mem_of_getElem? (i := 159) (by decide +kernel), List.mem_of_getElem? (i := 442) (by decide +kernel), List.mem_of_getElem? (i := 443) (by decide +kernel)⟩
theorem lw_p15 : lw_okq (⟨"ScrimshawKernel$StripWalk", "take", "(J)V"⟩, 7) := ⟨⟨by decide +kernel, by decide +kernel⟩, List.mem_of_getElem? (i := 159) (by decide +kernel), List.mem_of_getElem? (i := 446) (by decide +kernel), List.mem_of_getElem? (i := 447) (by decide +kernel)⟩
def lw_privs_1 : List (MethodName × Nat) := [(⟨"ScrimshawKernel$History", "isAt", "(I)Z"⟩, 4), (⟨"ScrimshawKernel$Flood", "countParts", "(Z)I"⟩, 4), (⟨"ScrimshawKernel$Flood", "take", "(IIZ)V"⟩, 4), (⟨"ScrimshawKernel$Flood", "spread", "(Z)V"⟩, 4), (⟨"ScrimshawKernel$Flood", "spreadInto", "(IZ)Z"⟩, 4), (⟨"ScrimshawKernel$Flood", "removeFound", "()V"⟩, 4), (⟨"ScrimshawKernel$Flood", "findHoles", "(LScrimshawKernel$Fields;)V"⟩, 4), (⟨"ScrimshawKernel$Fields", "columns", "()J"⟩, 1), (⟨"ScrimshawKernel$Outline", "beginAt", "(II)V"⟩, 12), (⟨"ScrimshawKernel$Outline", "walk", "()V"⟩, 12), (⟨"ScrimshawKernel$Outline", "noteCorner", "()V"⟩, 12), (⟨"ScrimshawKernel$Outline", "noteEdge", "()V"⟩, 12), (⟨"ScrimshawKernel$Outline", "goOn", "()V"⟩, 12), (⟨"ScrimshawKernel", "digestOfContours", "(JLScrimshawKernel$Fields;)J"⟩, 7), (⟨"ScrimshawKernel$StripWalk", "isRunAt", "(IJ)Z"⟩, 7), (⟨"ScrimshawKernel$StripWalk", "take", "(J)V"⟩, 7)]
theorem lw_r1 : ∀ q ∈ lw_privs_1, lw_okq q := List.forall_mem_cons.mpr ⟨lw_p0, List.forall_mem_cons.mpr ⟨lw_p1, List.forall_mem_cons.mpr ⟨lw_p2, List.forall_mem_cons.mpr ⟨lw_p3, List.forall_mem_cons.mpr ⟨lw_p4, List.forall_mem_cons.mpr ⟨lw_p5, List.forall_mem_cons.mpr ⟨lw_p6, List.forall_mem_cons.mpr ⟨lw_p7, List.forall_mem_cons.mpr ⟨lw_p8, List.forall_mem_cons.mpr ⟨lw_p9, List.forall_mem_cons.mpr ⟨lw_p10, List.forall_mem_cons.mpr ⟨lw_p11, List.forall_mem_cons.mpr ⟨lw_p12, List.forall_mem_cons.mpr ⟨lw_p13, List.forall_mem_cons.mpr ⟨lw_p14, List.forall_mem_cons.mpr ⟨lw_p15, fun _ h => absurd h List.not_mem_nil⟩⟩⟩⟩⟩⟩⟩⟩⟩⟩⟩⟩⟩⟩⟩⟩
theorem lw_p16 : lw_okq (⟨"ScrimshawKernel", "digestOfStrips", "(JLScrimshawKernel$Fields;)J"⟩, 7) := ⟨⟨by decide +kernel, by decide +kernel⟩, List.mem_of_getElem? (i := 20) (by decide +kernel), List.mem_of_getElem? (i := 452) (by decide +kernel), List.mem_of_getElem? (i := 453) (by decide +kernel)⟩
theorem lw_p17 : lw_okq (⟨"java/lang/Throwable", "fillInStackTrace", "(I)Ljava/lang/Throwable;"⟩, 6) := ⟨⟨by decide +kernel, by decide +kernel⟩, List.mem_of_getElem? (i := 517) (by decide +kernel), List.mem_of_getElem? (i := 515) (by decide +kernel), List.mem_of_getElem? (i := 516) (by decide +kernel)⟩
theorem lw_p18 : lw_okq (⟨"ScrimshawKernel", "checkLine", "(IJ)V"⟩, 7) := ⟨⟨by decide +kernel, by decide +kernel⟩, List.mem_of_getElem? (i := 20) (by decide +kernel), List.mem_of_getElem? (i := 567) (by decide +kernel), List.mem_of_getElem? (i := 568) (by decide +kernel)⟩
theorem lw_p19 : lw_okq (⟨"ScrimshawKernel", "regionAt", "(I)LScrimshawKernel$Fields;"⟩, 7) := ⟨⟨by decide +kernel, by decide +kernel⟩, List.mem_of_getElem? (i := 20) (by decide +kernel), List.mem_of_getElem? (i := 612) (by decide +kernel), List.mem_of_getElem? (i := 613) (by decide +kernel)⟩
theorem lw_p20 : lw_okq (⟨"ScrimshawKernel$Pen", "countCrossings", "(I)V"⟩, 8) := ⟨⟨by decide +kernel, by decide +kernel⟩, List.mem_of_getElem? (i := 40) (by decide +kernel), List.mem_of_getElem? (i := 645) (by decide +kernel), List.mem_of_getElem? (i := 646) (by decide +kernel)⟩
theorem lw_p21 : lw_okq (⟨"ScrimshawKernel$Pen", "addCrossing", "(IIII)V"⟩, 8) := ⟨⟨by decide +kernel, by decide +kernel⟩, List.mem_of_getElem? (i := 40) (by decide +kernel), List.mem_of_getElem? (i := 652) (by decide +kernel), List.mem_of_getElem? (i := 653) (by decide +kernel)⟩
theorem lw_p22 : lw_okq (⟨"ScrimshawKernel$Pen", "inside", "(I)J"⟩, 8) := ⟨⟨by decide +kernel, by decide +kernel⟩, List.mem_of_getElem? (i := 40) (by decide +kernel), List.mem_of_getElem? (i := 656) (by decide +kernel), List.mem_of_getElem? (i := 657) (by decide +kernel)⟩
theorem lw_p23 : lw_okq (⟨"ScrimshawKernel", "walkTo", "(III)V"⟩, 7) := ⟨⟨by decide +kernel, by decide +kernel⟩, List.mem_of_getElem? (i := 20) (by decide +kernel), List.mem_of_getElem? (i := 855) (by decide +kernel), List.mem_of_getElem? (i := 856) (by decide +kernel)⟩
theorem lw_p24 : lw_okq (⟨"ScrimshawKernelModel", "no", "(I)I"⟩, 8) := ⟨⟨by decide +kernel, by decide +kernel⟩, List.mem_of_getElem? (i := 967) (by decide +kernel), List.mem_of_getElem? (i := 1013) (by decide +kernel), List.mem_of_getElem? (i := 1014) (by decide +kernel)⟩
theorem lw_p25 : lw_okq (⟨"ScrimshawKernelModel", "line", "(II)I"⟩, 8) := ⟨⟨by decide +kernel, by decide +kernel⟩, List.mem_of_getElem? (i := 967) (by decide +kernel), List.mem_of_getElem? (i := 1021) (by decide +kernel), List.mem_of_getElem? (i := 1022) (by decide +kernel)⟩
theorem lw_p26 : lw_okq (⟨"ScrimshawKernelModel", "change", "(I[Z)I"⟩, 8) := ⟨⟨by decide +kernel, by decide +kernel⟩, List.mem_of_getElem? (i := 967) (by decide +kernel), List.mem_of_getElem? (i := 1044) (by decide +kernel), List.mem_of_getElem? (i := 1045) (by decide +kernel)⟩
theorem lw_p27 : lw_okq (⟨"ScrimshawKernelModel", "edgesNow", "(I)I"⟩, 8) := ⟨⟨by decide +kernel, by decide +kernel⟩, List.mem_of_getElem? (i := 967) (by decide +kernel), List.mem_of_getElem? (i := 1131) (by decide +kernel), List.mem_of_getElem? (i := 1132) (by decide +kernel)⟩
theorem lw_p28 : lw_okq (⟨"ScrimshawKernelModel", "holesNow", "(I)I"⟩, 8) := ⟨⟨by decide +kernel, by decide +kernel⟩, List.mem_of_getElem? (i := 967) (by decide +kernel), List.mem_of_getElem? (i := 1143) (by decide +kernel), List.mem_of_getElem? (i := 1144) (by decide +kernel)⟩
theorem lw_p29 : lw_okq (⟨"ScrimshawKernelModel", "boundNow", "(II)I"⟩, 8) := ⟨⟨by decide +kernel, by decide +kernel⟩, List.mem_of_getElem? (i := 967) (by decide +kernel), List.mem_of_getElem? (i := 1155) (by decide +kernel), List.mem_of_getElem? (i := 1156) (by decide +kernel)⟩
theorem lw_p30 : lw_okq (⟨"ScrimshawKernelModel", "contoursNow", "(I)[I"⟩, 8) := ⟨⟨by decide +kernel, by decide +kernel⟩, List.mem_of_getElem? (i := 967) (by decide +kernel), List.mem_of_getElem? (i := 1163) (by decide +kernel), List.mem_of_getElem? (i := 1164) (by decide +kernel)⟩
theorem lw_p31 : lw_okq (⟨"ScrimshawKernelModel", "ofContour", "(III)I"⟩, 8) := ⟨⟨by decide +kernel, by decide +kernel⟩, List.mem_of_getElem? (i := 967) (by decide +kernel), List.mem_of_getElem? (i := 1183) (by decide +kernel), List.mem_of_getElem? (i := 1184) (by decide +kernel)⟩
def lw_privs_2 : List (MethodName × Nat) := [(⟨"ScrimshawKernel", "digestOfStrips", "(JLScrimshawKernel$Fields;)J"⟩, 7), (⟨"java/lang/Throwable", "fillInStackTrace", "(I)Ljava/lang/Throwable;"⟩, 6), (⟨"ScrimshawKernel", "checkLine", "(IJ)V"⟩, 7), (⟨"ScrimshawKernel", "regionAt", "(I)LScrimshawKernel$Fields;"⟩, 7), (⟨"ScrimshawKernel$Pen", "countCrossings", "(I)V"⟩, 8), (⟨"ScrimshawKernel$Pen", "addCrossing", "(IIII)V"⟩, 8), (⟨"ScrimshawKernel$Pen", "inside", "(I)J"⟩, 8), (⟨"ScrimshawKernel", "walkTo", "(III)V"⟩, 7), (⟨"ScrimshawKernelModel", "no", "(I)I"⟩, 8), (⟨"ScrimshawKernelModel", "line", "(II)I"⟩, 8), (⟨"ScrimshawKernelModel", "change", "(I[Z)I"⟩, 8), (⟨"ScrimshawKernelModel", "edgesNow", "(I)I"⟩, 8), (⟨"ScrimshawKernelModel", "holesNow", "(I)I"⟩, 8), (⟨"ScrimshawKernelModel", "boundNow", "(II)I"⟩, 8), (⟨"ScrimshawKernelModel", "contoursNow", "(I)[I"⟩, 8), (⟨"ScrimshawKernelModel", "ofContour", "(III)I"⟩, 8)]
theorem lw_r2 : ∀ q ∈ lw_privs_2, lw_okq q := List.forall_mem_cons.mpr ⟨lw_p16, List.forall_mem_cons.mpr ⟨lw_p17, List.forall_mem_cons.mpr ⟨lw_p18, List.forall_mem_cons.mpr ⟨lw_p19, List.forall_mem_cons.mpr ⟨lw_p20, List.forall_mem_cons.mpr ⟨lw_p21, List.forall_mem_cons.mpr ⟨lw_p22, List.forall_mem_cons.mpr ⟨lw_p23, List.forall_mem_cons.mpr ⟨lw_p24, List.forall_mem_cons.mpr ⟨lw_p25, List.forall_mem_cons.mpr ⟨lw_p26, List.forall_mem_cons.mpr ⟨lw_p27, List.forall_mem_cons.mpr ⟨lw_p28, List.forall_mem_cons.mpr ⟨lw_p29, List.forall_mem_cons.mpr ⟨lw_p30, List.forall_mem_cons.mpr ⟨lw_p31, fun _ h => absurd h List.not_mem_nil⟩⟩⟩⟩⟩⟩⟩⟩⟩⟩⟩⟩⟩⟩⟩⟩
theorem lw_p32 : lw_okq (⟨"ScrimshawKernelModel", "corner", "(IIII)I"⟩, 8) := ⟨⟨by decide +kernel, by decide +kernel⟩, List.mem_of_getElem? (i := 967) (by decide +kernel), List.mem_of_getElem? (i := 1198) (by decide +kernel), List.mem_of_getElem? (i := 1199) (by decide +kernel)⟩
theorem lw_p33 : lw_okq (⟨"ScrimshawKernelModel", "stripsNow", "(I)[I"⟩, 8) := ⟨⟨by decide +kernel, by decide +kernel⟩, List.mem_of_getElem? (i := 967) (by decide +kernel), List.mem_of_getElem? (i := 1211) (by decide +kernel), List.mem_of_getElem? (i := 1212) (by decide +kernel)⟩
theorem lw_p34 : lw_okq (⟨"ScrimshawKernelModel", "hatching", "(IIIIZ)I"⟩, 8) := ⟨⟨by decide +kernel, by decide +kernel⟩, List.mem_of_getElem? (i := 967) (by decide +kernel), List.mem_of_getElem? (i := 1226) (by decide +kernel), List.mem_of_getElem? (i := 1227) (by decide +kernel)⟩
def lw_privs_3 : List (MethodName × Nat) := [(⟨"ScrimshawKernelModel", "corner", "(IIII)I"⟩, 8), (⟨"ScrimshawKernelModel", "stripsNow", "(I)[I"⟩, 8), (⟨"ScrimshawKernelModel", "hatching", "(IIIIZ)I"⟩, 8)]
theorem lw_r3 : ∀ q ∈ lw_privs_3, lw_okq q := List.forall_mem_cons.mpr ⟨lw_p32, List.forall_mem_cons.mpr ⟨lw_p33, List.forall_mem_cons.mpr ⟨lw_p34, fun _ h => absurd h List.not_mem_nil⟩⟩⟩
def lw_privs : List (MethodName × Nat) := lw_privs_1 ++ (lw_privs_2 ++ (lw_privs_3))
def lw_tbl : List Cond := k2_sels lw_privs ++ tables_1
theorem lw_privs_ok : ∀ q ∈ lw_privs, lw_okq q := by
  show ∀ q ∈ lw_privs_1 ++ (lw_privs_2 ++ (lw_privs_3)), lw_okq q
  exact List.forall_mem_append.mpr ⟨lw_r1, List.forall_mem_append.mpr ⟨lw_r2, lw_r3⟩⟩
/-- the streams that the claim lets the run draw from -/
abbrev lw_cs : List Choice := [Jvm.Choice.named "NaN.bits"]
theorem lw_bits : nanBits ∈ lw_cs := by first | decide | exact List.mem_cons_self | simp [lw_cs, nanBits]
end
section
/-- the tables know the class of arrays over arrays of ty (the printed names use this word; the kit has it not) -/
def va_AOA (ty : FieldType) (U : State) : Prop := (Cond.arrayOver (.array ty)).before #[] U = true
theorem va_AOA.use {ty : FieldType} {A : Array Value} {U : State} (h : va_AOA ty U) : (Cond.arrayOver (.array ty)).before A U = true := h
/-! ===== BEGIN words of one list among another's, by their places ===== -/
theorem goodIn_r {big : List Cond} (ws : List Cond) (ps : List Nat) (hp : ws = ps.filterMap (fun i => big[i]?)) (h : ws.all goodWord = true) : GoodIn big ws := by
  intro w hw
  have h1 := List.all_eq_true.mp h w hw
  rw [hp] at hw
  obtain ⟨i, -, hi⟩ := List.mem_filterMap.mp hw
  have hm : w ∈ big := by first | exact List.mem_of_getElem? hi | exact List.getElem?_mem hi
  exact ⟨hm, good_of_word h1⟩
theorem goodIn_app {big a b : List Cond} (ha : GoodIn big a) (hb : GoodIn big b) : GoodIn big (a ++ b) := fun w h => (List.mem_append.mp h).elim (ha w) (hb w)
theorem goodIn_ca {big a b : List Cond} {c : Cond} (ha : GoodIn big (c :: a)) (hb : GoodIn big b) : GoodIn big (c :: (a ++ b)) := fun w h => (List.mem_cons.mp h).elim (fun e => ha w (List.mem_cons.mpr (Or.inl e))) (fun h => (List.mem_append.mp h).elim (fun h => ha w (List.mem_cons.mpr (Or.inr h))) (hb w))
theorem goodIn_sub {big ws : List Cond} (hm : ∀ w ∈ ws, w ∈ big) (h : ws.all goodWord = true) : GoodIn big ws := fun w hw => ⟨hm w hw, good_of_word (List.all_eq_true.mp h w hw)⟩
/-! ===== END ===== -/

/-! ===== BEGIN new T[n][m]: the outer array a place, the inner ones among the pooled ===== -/
/-- f, but v at every address of l -/
def vr_up {α : Type} (f : Nat → α) (l : List Nat) (v : α) : Nat → α := fun a => if a ∈ l then v else f a
theorem vr_up_in {α : Type} {f : Nat → α} {l : List Nat} {v : α} {a : Nat} (h : a ∈ l) : vr_up f l v a = v := if_pos h
theorem vr_up_ne {α : Type} {f : Nat → α} {l : List Nat} {v : α} {a : Nat} (h : a ∉ l) : vr_up f l v a = f a := if_neg h
theorem vr_rows {L l : List Nat} {f : Nat → va_E} {e : va_E} (h : ∀ a, a ∈ l → a ∉ L) : va_pl L f ++ l.map (fun a => (a, e)) = va_pl (L ++ l) (vr_up f l e) := by
  unfold va_pl
  rw [List.map_append]
  congr 1
  · apply List.map_congr_left
    intro a ha
    rw [vr_up_ne (fun q => h a q ha)]
  · apply List.map_congr_left
    intro a ha
    rw [vr_up_in ha]
theorem vr_lay {X rows : va_W} {x : Nat × va_E} {pl : va_W} {D : va_G} {cl : List vw_C} {H : Heap} (hP : va_P D cl (((X ++ pl) ++ [x]) ++ rows) H) : va_P D cl ((X ++ [x]) ++ (pl ++ rows)) H := by
  rw [List.append_assoc (X ++ pl)] at hP
  have h := va_P.swap hP
  rw [← List.append_assoc X] at h
  have h2 := va_P.swap h
  rw [List.append_assoc (X ++ [x])] at h2
  exact h2
theorem vr_layD {X rows : va_W} {x : Nat × va_E} {pl : va_W} {A : Nat → Prop} (hD : va_D A (((X ++ pl) ++ [x]) ++ rows)) : va_D A ((X ++ [x]) ++ (pl ++ rows)) := by
  rw [List.append_assoc (X ++ pl)] at hD
  have h := va_D.swap hD
  rw [← List.append_assoc X] at h
  have h2 := va_D.swap h
  rw [List.append_assoc (X ++ [x])] at h2
  exact h2
theorem vr_outer (c : ClassId) (N h0 : Nat) : ∀ i : Nat, Jvm.Free.Multi.outerC c N h0 i = arrV c N (fun j => va_rf (if j < i then some (h0 + 1 + j) else none))
  | 0 => by
    show ({ cls := c, slots := Array.replicate N .null, vm := .none } : Cell) = _
    rw [arrV_new]
    refine congrArg (arrV c N) (funext fun j => ?_)
    simp [va_rf]
  | i + 1 => by
    show (Jvm.Free.Multi.outerC c N h0 i).setSlot i (.ref (h0 + 1 + i)) = _
    rw [vr_outer c N h0 i, arrV_store]
    refine congrArg (arrV c N) (funext fun j => ?_)
    by_cases e : j = i
    · subst e
      simp [updV, va_rf]
    · by_cases h : j < i
      · simp [updV, e, h, Nat.lt_succ_of_lt h]
      · simp [updV, e, h, show ¬ j < i + 1 by omega]
section VGM
variable {p : Program} {l : Launch} {e : Env} {R : Room} {s : State} {m : MethodId} {args : Array Value} {below : List Frame} {meth : Method} {c : Code} {H : Heap} {locs : List Loc} {cells slots : Nat} {Q : State → Prop}
variable {cc : ByteArray} {pc : Nat} {ls : Array Slot} {rest : List Value} {D : va_G} {cl : List vw_C} {A : Nat → Prop} {a : Nat} {tys : List (ClassId × FieldType)} {ws : va_W} {H0 : Heap}
theorem va_mna {X : va_W} {L : List Nat} {f : Nat → va_E} {cc : ByteArray} (hexec : p.tables.exec = Jvm.exec) (hb : c.code = cc) {own : String} {index : Nat} {ty : FieldType} {cy : ClassId} (hown : s.vm.findClass own = some m.cls) (hclink : (Cond.classLink own index ("[" ++ (FieldType.array ty).toString)).before args s = true) (hover : va_AOA ty s) (harr : (Cond.arrayClass ty).before args s = true) (hcy : s.vm.findClass (FieldType.array ty).toString = some cy)
    (hK : va_K D cl tys s) (hP : va_P D cl (X ++ va_pl L f) H) (hD : va_D A (X ++ va_pl L f)) (hS : va_S A H0 H locs) (hA : ∀ q, H0.size ≤ q → A q) {n k : Int32} {N' K' : Nat} {z : vp_A} (hn : ¬ n < 0) (hk : ¬ k < 0) (hN : n.toNatClampNeg = N') (hM : k.toNatClampNeg = K')
    (hb1 : N' * 4 ≤ 536870912) (hb2 : K' * componentBytes ty ≤ 536870912) (hb3 : K' ≤ 536870912) (hdf : fits ty (defaultValue ty) = true) (hdd : (defaultValue ty).isDefault = true) (hcells : cells + (1 + N') ≤ R.cells) (hslots : slots + (N' + N' * K') ≤ R.slots) (hz : ∀ c : ClassId, Jvm.Free.Multi.innerC c K' (defaultValue ty) = vp_cell c z) (hdg : decode cc pc = .ok (.multianewarray index 2, 4))
    (kk : ∀ (q : Nat) (r : Nat → Nat) (cA : ClassId) (H1 : Heap), (∀ i j : Nat, i < N' → j < N' → r i = r j → i = j) → (∀ i : Nat, i < N' → r i ∉ L) → va_K D cl (tys ++ [(cA, .array ty)]) s →
      va_P D cl ((X ++ [(q, .inl (cA, N', .inr (.inr (.inr (.inr (fun i => if i < N' then some (r i) else none))))))]) ++ va_pl (L ++ (List.range N').map r) (vr_up f ((List.range N').map r) (.inl (cy, z)))) H1 → va_D A ((X ++ [(q, .inl (cA, N', .inr (.inr (.inr (.inr (fun i => if i < N' then some (r i) else none))))))]) ++ va_pl (L ++ (List.range N').map r) (vr_up f ((List.range N').map r) (.inl (cy, z)))) → va_S A H0 H1 locs →
      W p l e R s m args below meth c H1 locs (cells + 1 + N') (slots + N' + N' * K') Q (F0 m (pc + 4) ls (.ref q :: rest))) : W p l e R s m args below meth c H locs cells slots Q (F0 m pc ls (.int k :: .int n :: rest)) := by
  subst hN
  subst hM
  intro T hT Xs
  obtain ⟨vm₁, cA, comp, -, fA, fC, hO, -, X', step⟩ := Xs.multianewarray2F hexec hown hclink (va_AOA.use hover) harr (g := F0 m pc ls (.int k :: .int n :: rest)) rfl (by rw [hb]; exact hdg) rfl hn hk hb1 hb2 hb3 hdf hdd hcells hslots
  have ec : some cy = some comp := hcy.symm.trans fC
  cases ec
  generalize hF : Jvm.Free.Multi.fill (T.setVm vm₁) cA cy n.toNatClampNeg k.toNatClampNeg (defaultValue ty) n.toNatClampNeg = F at X' step
  have hTh : (T.setVm vm₁).heap = H := hT
  obtain ⟨f1, f2, -, -⟩ := Jvm.Free.Multi.fill_facts (T.setVm vm₁) cA cy n.toNatClampNeg k.toNatClampNeg (defaultValue ty) n.toNatClampNeg
  rw [hF, hTh] at f1 f2
  have hold : ∀ x : Nat, x < H.size → F.heap[x]? = H[x]? := fun x hx => by
    have := Jvm.Free.Multi.fill_old (T.setVm vm₁) cA cy n.toNatClampNeg k.toNatClampNeg (defaultValue ty) (a := x) (by rw [hTh]; exact hx) n.toNatClampNeg
    rw [hF, hTh] at this
    exact this
  have hrow : ∀ j : Nat, j < n.toNatClampNeg → F.heap[H.size + 1 + j]? = some (vp_cell cy z) := fun j hj => by
    have := Jvm.Free.Multi.fill_inner (T.setVm vm₁) cA cy n.toNatClampNeg k.toNatClampNeg (defaultValue ty) n.toNatClampNeg j hj
    rw [hF, hTh, hz] at this
    exact this
  have hout : Jvm.Free.Multi.outerC cA n.toNatClampNeg H.size n.toNatClampNeg = vp_cell cA (n.toNatClampNeg, .inr (.inr (.inr (.inr (fun i => if i < n.toNatClampNeg then some (H.size + 1 + i) else none))))) := by
    rw [vp_cell_q]
    exact vr_outer cA n.toNatClampNeg H.size n.toNatClampNeg
  rw [hout] at f2
  have hlt : ∀ a, a ∈ L → a < H.size := fun a ha => by
    obtain ⟨k9, hk9⟩ := va_pl_get (X := X) (f := f) ha
    exact (hP k9 _ hk9).lt
  have hnl : ∀ i : Nat, i < n.toNatClampNeg → H.size + 1 + i ∉ L := fun i _ h => by
    have := hlt _ h
    omega
  have hnm : ∀ a, a ∈ (List.range n.toNatClampNeg).map (fun i => H.size + 1 + i) → a ∉ L := fun a ha h => by
    obtain ⟨i, -, rfl⟩ := List.mem_map.mp ha
    have := hlt _ h
    omega
  have hP0 : va_P D cl (X ++ va_pl L f) F.heap := hP.kept (fun k9 x hx => hold x.1 ((hP k9 x hx).lt))
  have hP1 : va_P D cl ((X ++ va_pl L f) ++ [(H.size, .inl (cA, n.toNatClampNeg, .inr (.inr (.inr (.inr (fun i => if i < n.toNatClampNeg then some (H.size + 1 + i) else none))))))]) F.heap := hP0.app (fun k9 x hx => by
    have h0 : k9 < 1 := (List.getElem?_eq_some_iff.mp hx).1
    rw [show k9 = 0 by omega] at hx
    cases hx
    exact f2)
  have hP2 : va_P D cl (((X ++ va_pl L f) ++ [(H.size, .inl (cA, n.toNatClampNeg, .inr (.inr (.inr (.inr (fun i => if i < n.toNatClampNeg then some (H.size + 1 + i) else none))))))]) ++ ((List.range n.toNatClampNeg).map (fun i => H.size + 1 + i)).map (fun a => (a, .inl (cy, z)))) F.heap := hP1.app (fun k9 x hx => by
    obtain ⟨a, ha, rfl⟩ := List.mem_map.mp (List.mem_of_getElem? hx)
    obtain ⟨i, hi, rfl⟩ := List.mem_map.mp ha
    exact hrow i (List.mem_range.mp hi))
  have hD2 : va_D A (((X ++ va_pl L f) ++ [(H.size, .inl (cA, n.toNatClampNeg, .inr (.inr (.inr (.inr (fun i => if i < n.toNatClampNeg then some (H.size + 1 + i) else none))))))]) ++ ((List.range n.toNatClampNeg).map (fun i => H.size + 1 + i)).map (fun a => (a, .inl (cy, z)))) := by
    have hD1 := hD.push (e := .inl (cA, n.toNatClampNeg, .inr (.inr (.inr (.inr (fun i => if i < n.toNatClampNeg then some (H.size + 1 + i) else none)))))) hP rfl (hA _ hS.1)
    generalize hW1 : (X ++ va_pl L f) ++ [(H.size, .inl (cA, n.toNatClampNeg, .inr (.inr (.inr (.inr (fun i => if i < n.toNatClampNeg then some (H.size + 1 + i) else none))))))] = W1 at hD1 hP1 ⊢
    have hle : ∀ (k9 : Nat) (x : Nat × va_E), W1[k9]? = some x → x.1 ≤ H.size := fun k9 x hx => by
      rw [← hW1] at hx
      by_cases hl : k9 < (X ++ va_pl L f).length
      · rw [List.getElem?_append_left hl] at hx
        exact Nat.le_of_lt ((hP k9 x hx).lt)
      · rw [List.getElem?_append_right (by omega)] at hx
        have h0 : k9 - (X ++ va_pl L f).length < 1 := (List.getElem?_eq_some_iff.mp hx).1
        rw [show k9 - (X ++ va_pl L f).length = 0 by omega] at hx
        cases hx
        exact Nat.le_refl _
    have hr : ∀ (k9 : Nat) (x : Nat × va_E), (((List.range n.toNatClampNeg).map (fun i => H.size + 1 + i)).map (fun a => ((a, .inl (cy, z)) : Nat × va_E)))[k9]? = some x → x.1 = H.size + 1 + k9 := fun k9 x hx => by
      rw [List.getElem?_map, List.getElem?_map] at hx
      by_cases h9 : k9 < n.toNatClampNeg
      · rw [List.getElem?_range h9] at hx
        cases hx
        rfl
      · have hn0 : (List.range n.toNatClampNeg)[k9]? = none := List.getElem?_eq_none (by rw [List.length_range]; omega)
        rw [hn0] at hx
        cases hx
    refine ⟨fun i j x y hi hj hxy => ?_, fun k9 x hx => ?_⟩
    · by_cases h1 : i < W1.length <;> by_cases h2 : j < W1.length
      · rw [List.getElem?_append_left h1] at hi
        rw [List.getElem?_append_left h2] at hj
        exact hD1.1 i j x y hi hj hxy
      · rw [List.getElem?_append_left h1] at hi
        rw [List.getElem?_append_right (by omega)] at hj
        have := hle _ _ hi
        have := hr _ _ hj
        omega
      · rw [List.getElem?_append_right (by omega)] at hi
        rw [List.getElem?_append_left h2] at hj
        have := hle _ _ hj
        have := hr _ _ hi
        omega
      · rw [List.getElem?_append_right (by omega)] at hi hj
        have := hr _ _ hi
        have := hr _ _ hj
        omega
    · by_cases h1 : k9 < W1.length
      · rw [List.getElem?_append_left h1] at hx
        exact hD1.2 k9 x hx
      · rw [List.getElem?_append_right (by omega)] at hx
        have := hr _ _ hx
        exact hA _ (by have := hS.1; omega)
  have hAr : ArrOfT s cA (.array ty) := fun N9 z9 => by
    obtain ⟨-, k9, hk9, cm9, hkk9⟩ := (hO 0 0 0).1
    exact ⟨(fun q hq => by cases hq), k9, hk9, cm9, hkk9⟩
  have hK2 : va_K D cl (tys ++ [(cA, .array ty)]) s := ⟨hK.1, fun k9 x hx => by
    by_cases hl : k9 < tys.length
    · rw [List.getElem?_append_left hl] at hx
      exact hK.2 k9 x hx
    · rw [List.getElem?_append_right (by omega)] at hx
      have h0 : k9 - tys.length < 1 := (List.getElem?_eq_some_iff.mp hx).1
      rw [show k9 - tys.length = 0 by omega] at hx
      cases hx
      exact ⟨hAr, fA⟩⟩
  obtain ⟨t, a1, b1⟩ := kk H.size (fun i => H.size + 1 + i) cA F.heap (fun i j _ _ h => by have h9 : H.size + 1 + i = H.size + 1 + j := h; omega) hnl hK2 (by rw [← vr_rows hnm]; exact vr_lay hP2) (by rw [← vr_rows hnm]; exact vr_layD hD2) ⟨by rw [f1]; have := hS.1; omega, fun x h1 h2 => (hold x (Nat.lt_of_lt_of_le h1 hS.1)).trans (hS.2.1 x h1 h2), hS.2.2⟩ F rfl X'
  refine ⟨t, step t ?_, b1⟩
  have e : T.heap.size = H.size := by rw [hT]
  rw [e]
  exact a1
end VGM
/-! ===== END ===== -/

/-! ===== BEGIN exceptions that leave a method, and their catching by the caller (launches without stack traces) ===== -/
section VXA
/-! The laws vx_back, vx_callV, vx_callS, vx_callSW, vx_throw0, vx_throwS follow proofs of the library, with one case more: JvmDerived/Free/Laws.lean (Back.of_free), Shelf42/LK1.lean (callV, callS), Shelf/KitTraced.lean (throwNew0V, throwNewS). -/
/-- where a method has thrown q: the class by its name, the cell, what was written, the world -/
def vx_T (XC : String → State → State → Prop) (st : State) (q : Addr) (t : State) (mc ms : Nat) (free : Addr → Prop) : Prop :=
  ∃ (E : String) (ce : Cell) (L : List Loc), XC E st t ∧ t.heap[q]? = some ce ∧ ce.vm = .none ∧ st.vm.findClass E = some ce.cls ∧ st.WarmedH t.vm ∧ st.sameButNew ({ t with vm := st.vm } : State) L mc ms ∧ ∀ z ∈ L, free z.base
def vx_Q (Qc : Array Value → State → Outcome → State → Prop) (XC : String → State → State → Prop) (mc ms : Nat) (free : Addr → Prop) : Array Value → State → Outcome → State → Prop := fun a st o t =>
  (Qc a st o t ∧ ∃ L, FrameEnd st o t L mc ms ∧ ∀ q ∈ L, free q.base) ∨ ∃ q, o = .threw q ∧ vx_T XC st q t mc ms free
/-- a callee that returns or throws -/
def vx_Met (l : Launch) (y : MethodName) (ws : List Cond) (rm : Room) (Pc : Array Value → State → Prop) (Qc : Array Value → State → Outcome → State → Prop) (XC : String → State → State → Prop) (mc ms : Nat) (free : Addr → Prop) : Prop :=
  MetFree l y (headSpec ws rm) Pc (fun _ _ _ _ _ => True) (vx_Q Qc XC mc ms free)
def vx_Post (XC : String → State → State → Prop) (mc ms : Nat) (free : Addr → Prop) : Pt → Array Value → Addr → Pt → Prop := fun A a q B =>
  ∃ (g : JFrame) (mk : MethodId) (t : State) (L : List Loc) (E : String) (ce : Cell), B.U.heap = t.heap ∧ B.U.vm = t.vm ∧ XC E (A.U.calling g mk a) t ∧ t.heap[q]? = some ce ∧ ce.vm = .none ∧ A.U.vm.findClass E = some ce.cls ∧ B.locs = A.locs ++ L ∧ (∀ z ∈ L, free z.base) ∧ B.cells = A.cells + mc ∧ B.slots = A.slots + ms
def vx_Back (l : Launch) (R : Room) (p : Program) (e : Env) (below : List Frame) (s : State) (sargs : Array Value) (y : MethodName) (len W9 : Nat)
    (Pre : Pt → Array Value → Prop) (Post : Pt → Array Value → Option Value → Pt → Prop) (PostX : Pt → Array Value → Addr → Pt → Prop) : Prop :=
  ∀ (m : MethodId) (meth : Method) (c : Code) (A : Pt) (g : JFrame) (ig : Instr) (mk : MethodId) (a : Array Value),
    Stand p l e R s m sargs below meth c A.U A.locs A.cells A.slots → g.method = m → g.locals.size = c.maxLocals → decode c.code g.pc = .ok (ig, len) →
    2 * g.monitorRoom + (g.stack.map fun v => v.category).sum ≤ W9 → A.U.methodNamed? y = some mk → Pre A a →
    (∃ (v : Option Value) (B : Pt), Stand p l e R s m sargs below meth c B.U B.locs B.cells B.slots ∧ Post A a v B ∧
      Steps p.tables e below (doInvoke e (A.U.setTop g) [] mk a).1 (B.U.setTop { g with pc := g.pc + len, stack := v.toList ++ g.stack })) ∨
    (∃ (q : Addr) (B : Pt), Stand p l e R s m sargs below meth c B.U B.locs B.cells B.slots ∧ PostX A a q B ∧
      Steps p.tables e below (doInvoke e (A.U.setTop g) [] mk a).1 ((B.U.setTop g).pushFrame (.throwing q)))
section Payer
variable {l : Launch} {R : Room} {p : Program} {e : Env} {below : List Frame} {s : State} {sargs : Array Value} {y : MethodName} {len W9 : Nat}
theorem vx_back {ws : List Cond} {rm : Room} {Pc : Array Value → State → Prop} {Qc : Array Value → State → Outcome → State → Prop} {XC : String → State → State → Prop} {mc ms : Nat} {free : Addr → Prop} {bytes : ByteArray} {maxL : Nat} {ret : Option FieldType}
    (hM : vx_Met l y ws rm Pc Qc XC mc ms free) (hblind : FrameBlind Pc) (hrc : rm.cells = mc) (hrs : rm.slots = ms)
    (hframes : rm.frames + 1 ≤ R.frames) (hlocals : W9 + (maxL + 11) + rm.locals ≤ R.locals)
    (hws : ∀ w ∈ ws, ∀ a' U, s.WarmedH U.vm → w.before a' U = true) (hcode : Cond.code y bytes maxL ret ∈ ws) (hinit : ∀ a' U, s.WarmedH U.vm → (Cond.initialized y.cls).before a' U = true) :
    vx_Back l R p e below s sargs y len W9 (PreOf R mc ms Pc) (PostOf Qc mc ms free) (vx_Post XC mc ms free) := by
  intro m meth c A g ig mk a X hg hsize hdg hW hn hp
  have h1 : (headSpec ws rm).pre.before a A.U = true := atoms_intro fun w hw => hws w hw _ _ X.warmed
  have h2 : (Cond.code y bytes maxL ret).before a A.U = true := hws _ hcode _ _ X.warmed
  have h3 : (Cond.initialized y.cls).before a A.U = true := hinit _ _ X.warmed
  have h4 : A.cells + (headSpec ws rm).room.cells ≤ R.cells := by rw [show (headSpec ws rm).room.cells = mc from hrc]; exact hp.1
  have h5 : A.slots + (headSpec ws rm).room.slots ≤ R.slots := by rw [show (headSpec ws rm).room.slots = ms from hrs]; exact hp.2.1
  have hPc : Pc a (A.U.calling g mk a) := hblind _ _ _ _ hp.2.2
  obtain ⟨U, Ls, c0, s0⟩ := A
  dsimp only [Pt.U, Pt.locs, Pt.cells, Pt.slots] at h1 h2 h3 h4 h5 X hn hPc ⊢
  obtain ⟨methY, cY, hmY, hcY, -, hlY, -, -, -, -⟩ := Cond.code_spec hn h2
  obtain ⟨kY, hkY, -⟩ := className_of_methodNamed hn
  have hinitY : kY.init = .initialized := Cond.initialized_spec (findClass_of_methodNamed hn) hkY h3
  have h : At U g.method c below := by rw [hg]; exact X.here
  have hlocals9 : W9 + (maxL + 11) + (headSpec ws rm).room.locals ≤ R.locals := hlocals
  have happ : (headSpec ws rm).appliesLoose y e.platform (U.calling g mk a) = true :=
    Spec.appliesLoose_calling (g := g) h hdg hn hkY hinitY
      (X.room_calling (g := g) (R' := (headSpec ws rm).room) hsize hmY hcY hframes (by rw [hlY]; omega) h4 h5) h1
  obtain ⟨mid, hmid⟩ := h.above
  have hfr : (U.setTop g).frames = (.java g :: mid) ++ below := by rw [State.frames_setTop' g h.top, hmid]; rfl
  obtain ⟨o, s₂, hsteps, -, hend, hq⟩ := Steps.callFree hM p X.admits X.cas X.clock (acts := []) hfr happ hPc trivial
  have hq' : vx_Q Qc XC mc ms free a (U.calling g mk a) o s₂ := hq
  rw [State.frames_setTop' g h.top] at hend
  obtain ⟨g₀, hg0⟩ := Option.isSome_iff_exists.mp h.top
  obtain ⟨r, hr⟩ := State.topJava?_eq_some.mp hg0
  have hr' : (({ U with heap := s₂.heap, slotsUsed := s₂.slotsUsed } : State).setVm s₂.vm).frames = .java g₀ :: r := hr
  rcases hq' with ⟨hqc, L, hfe, hL⟩ | ⟨q, rfl, E, ce, L, hx, hce, hcv, hcl, hW₂, hsm, hL⟩
  · obtain ⟨⟨v, rfl⟩, hW₂, e2, q2, q3, q4, q5, q6⟩ := id hfe
    have e3 : s₂ = ({ (U.calling g mk a).setFrames s₂.frames with heap := s₂.heap, slotsUsed := s₂.slotsUsed } : State).setVm s₂.vm := by
      have : s₂ = ({ s₂ with vm := (U.calling g mk a).vm } : State).setVm s₂.vm := rfl
      rw [e2] at this
      exact this
    obtain ⟨c₂, i₂, len₂, hc₂, hd₂, hf₂⟩ := hend
    have hW' : U.WarmedH s₂.vm := hW₂
    have hcc : c₂ = c := by
      have h1 : s₂.code? g.method = U.code? g.method := by
        rw [State.code?_eq, State.code?_eq, hW'.alike.method?]
      exact Option.some.inj (hc₂.symm.trans (h1.trans h.code))
    subst hcc
    have hlen : len₂ = len := by rw [hdg] at hd₂; cases hd₂; rfl
    subst hlen
    have hs₂ : s₂ = (({ U with heap := s₂.heap, slotsUsed := s₂.slotsUsed } : State).setVm s₂.vm).setTop { g with pc := g.pc + len₂, stack := v.toList ++ g.stack } := by
      refine e3.trans ?_
      rw [hf₂, State.calling_eq h.top, State.setFrames_setFrames, State.setTop_of_frames _ hr', hr]
      rfl
    have hsame : U.sameButNew ({ U with heap := s₂.heap, slotsUsed := s₂.slotsUsed } : State) L mc ms := by
      refine ⟨?_, q2, q3, q4, q5, q6⟩
      obtain ⟨t, ht, -⟩ := State.frames_cons hr
      show ({ U with heap := s₂.heap, slotsUsed := s₂.slotsUsed } : State) = { U.setFrames U.frames with heap := s₂.heap, slotsUsed := s₂.slotsUsed }
      rw [State.setFrames_self ht]
    subst hg
    refine Or.inl ⟨v, ⟨(({ U with heap := s₂.heap, slotsUsed := s₂.slotsUsed } : State).setVm s₂.vm), Ls ++ L, c0 + mc, s0 + ms⟩,
      ⟨X.admits, X.cas, X.clock, X.frames, X.room, X.hears, X.method, X.code, (X.here.setHeapUsed s₂.heap s₂.slotsUsed).setVm hW'.alike, X.tail, State.WarmedH.trans X.warmed hW', X.limits, X.bytes, X.same.trans (hsame.setVm s.vm)⟩,
      ⟨g, mk, s₂, L, rfl, rfl, hqc, rfl, hL, rfl, rfl⟩, ?_⟩
    show Steps p.tables e below _ ((({ U with heap := s₂.heap, slotsUsed := s₂.slotsUsed } : State).setVm s₂.vm).setTop { g with pc := g.pc + len₂, stack := v.toList ++ g.stack })
    rw [← hs₂]
    exact hsteps
  · obtain ⟨e2, q2, q3, q4, q5, q6⟩ := id hsm
    have e3 : s₂ = ({ (U.calling g mk a).setFrames s₂.frames with heap := s₂.heap, slotsUsed := s₂.slotsUsed } : State).setVm s₂.vm := by
      have : s₂ = ({ s₂ with vm := (U.calling g mk a).vm } : State).setVm s₂.vm := rfl
      rw [e2] at this
      exact this
    have hf₂ : s₂.frames = .throwing q :: .java g :: U.frames.tail := hend
    have hW' : U.WarmedH s₂.vm := hW₂
    have hs₂ : s₂ = ((({ U with heap := s₂.heap, slotsUsed := s₂.slotsUsed } : State).setVm s₂.vm).setTop g).pushFrame (.throwing q) := by
      refine e3.trans ?_
      rw [hf₂, State.calling_eq h.top, State.setFrames_setFrames, State.pushFrame, State.frames_setTop _ hr', State.setTop_of_frames _ hr', State.setFrames_setFrames, hr]
      rfl
    have hsame : U.sameButNew ({ U with heap := s₂.heap, slotsUsed := s₂.slotsUsed } : State) L mc ms := by
      refine ⟨?_, q2, q3, q4, q5, q6⟩
      obtain ⟨t, ht, -⟩ := State.frames_cons hr
      show ({ U with heap := s₂.heap, slotsUsed := s₂.slotsUsed } : State) = { U.setFrames U.frames with heap := s₂.heap, slotsUsed := s₂.slotsUsed }
      rw [State.setFrames_self ht]
    subst hg
    refine Or.inr ⟨q, ⟨(({ U with heap := s₂.heap, slotsUsed := s₂.slotsUsed } : State).setVm s₂.vm), Ls ++ L, c0 + mc, s0 + ms⟩,
      ⟨X.admits, X.cas, X.clock, X.frames, X.room, X.hears, X.method, X.code, (X.here.setHeapUsed s₂.heap s₂.slotsUsed).setVm hW'.alike, X.tail, State.WarmedH.trans X.warmed hW', X.limits, X.bytes, X.same.trans (hsame.setVm s.vm)⟩,
      ⟨g, mk, s₂, L, E, ce, rfl, rfl, hx, hce, hcv, hcl, rfl, hL, rfl, rfl⟩, ?_⟩
    show Steps p.tables e below _ (((({ U with heap := s₂.heap, slotsUsed := s₂.slotsUsed } : State).setVm s₂.vm).setTop g).pushFrame (.throwing q))
    rw [← hs₂]
    exact hsteps
end Payer
section Calls
variable {p : Program} {l : Launch} {e : Env} {R : Room} {s : State} {m : MethodId} {args : Array Value} {below : List Frame} {meth : Method} {c : Code} {T : State} {locs : List Loc} {cells slots : Nat}
theorem vx_callV (X : Stand p l e R s m args below meth c T locs cells slots) (hexec : p.tables.exec = Jvm.exec) {own C : String} {index : Nat} {y : MethodName} {bytes : ByteArray} {maxL : Nat} {ret : Option FieldType}
    (hown : s.vm.findClass own = some m.cls) (hlink : (Cond.methodLink own index y).before args s = true) (hinst : (Cond.instanceMethod y).before args s = true) (hsel : (Cond.selects C y y).before args s = true)
    (hcode : (Cond.code y bytes maxL ret).before args s = true) (hy : y.cls ≠ "java/lang/invoke/MethodHandle" ∧ y.cls ≠ "java/lang/invoke/VarHandle")
    {W9 : Nat} {Pre : Pt → Array Value → Prop} {Post : Pt → Array Value → Option Value → Pt → Prop} {PostX : Pt → Array Value → Addr → Pt → Prop} (hK : vx_Back l R p e below s args y 3 W9 Pre Post PostX)
    {b : Addr} {cellB : Cell} (hcell : T.heap[b]? = some cellB) (hobj : cellB.vm.isStatics = false) (hcls : s.vm.findClass C = some cellB.cls)
    {g : JFrame} (hg : g.method = m) (hsize : g.locals.size = c.maxLocals) {argsL rest : List Value} (hlen : ∀ sig, parseMethodDescriptor y.desc = some sig → argsL.length = sig.parameters.length)
    (hstack : g.stack = argsL.reverse ++ .ref b :: rest) (hW : 2 * g.monitorRoom + (rest.map fun v => v.category).sum ≤ W9) (hdg : decode c.code g.pc = .ok (.invokevirtual index, 3))
    (hpre : ∀ vm₁, s.WarmedH vm₁ → Pre ⟨T.setVm vm₁, locs, cells, slots⟩ (Value.ref b :: argsL).toArray) :
    (∃ (v : Option Value) (vm₁ : Vm) (B : Pt), s.WarmedH vm₁ ∧ Stand p l e R s m args below meth c B.U B.locs B.cells B.slots ∧ Post ⟨T.setVm vm₁, locs, cells, slots⟩ (Value.ref b :: argsL).toArray v B ∧
      ∀ target, Steps p.tables e below (B.U.setTop { g with pc := g.pc + 3, stack := v.toList ++ rest }) target → Steps p.tables e below (T.setTop g) target) ∨
    (∃ (q : Addr) (vm₁ : Vm) (B : Pt), s.WarmedH vm₁ ∧ Stand p l e R s m args below meth c B.U B.locs B.cells B.slots ∧ PostX ⟨T.setVm vm₁, locs, cells, slots⟩ (Value.ref b :: argsL).toArray q B ∧
      Steps p.tables e below (T.setTop g) ((B.U.setTop { g with stack := rest }).pushFrame (.throwing q))) := by
  obtain ⟨mk, methM, hnamed, hmethM, hstM, habM⟩ := Cond.instanceMethod_spec hinst
  obtain ⟨methM', cM, hmethM', -, -, -, -, -, -, hsigM⟩ := Cond.code_spec hnamed hcode
  cases hmethM.symm.trans hmethM'
  obtain ⟨c2, r2, m2, q1, q2, q3, q4, kP, hkP, hkPi⟩ := Cond.selects_spec hsel
  cases hcls.symm.trans q1
  cases (State.methodFound?_of_named hnamed hy).symm.trans q2
  cases hnamed.symm.trans q3
  have hselP : selectMethod e.platform s.vm cellB.cls mk = .method mk := by rw [Launch.admits_selectMethod X.admits]; exact q4
  obtain ⟨vm₁, X₁, hstep₁⟩ := X.invokevirtual hexec hown hlink hnamed hmethM hstM hkP hkPi hy (a := b) (cell := cellB) hcell
    (fun z h => by rw [h] at hobj; cases hobj) hselP hmethM habM hkP hkPi (g := g) hg (argsL := argsL) (rest := rest) (hlen _ hsigM) hstack hdg
  rcases hK m meth c ⟨T.setVm vm₁, locs, cells, slots⟩ { g with stack := rest } (.invokevirtual index) mk (Value.ref b :: argsL).toArray X₁ hg hsize hdg hW (X₁.named hnamed) (hpre vm₁ X₁.warmed) with ⟨v, B, X', hpost, hsteps⟩ | ⟨q, B, X', hpost, hsteps⟩
  · exact Or.inl ⟨v, vm₁, B, X₁.warmed, X', hpost, fun target h => hstep₁ _ fun acts => by rw [doInvoke_state]; exact hsteps.trans h⟩
  · exact Or.inr ⟨q, vm₁, B, X₁.warmed, X', hpost, hstep₁ _ fun acts => by rw [doInvoke_state]; exact hsteps⟩
theorem vx_callS (X : Stand p l e R s m args below meth c T locs cells slots) (hexec : p.tables.exec = Jvm.exec) {own : String} {index : Nat} {y : MethodName} {bytes : ByteArray} {maxL : Nat} {ret : Option FieldType}
    (hown : s.vm.findClass own = some m.cls) (hlink : (Cond.methodLink own index y).before args s = true) (hstat : (Cond.static y).before args s = true) (hinit : (Cond.initialized y.cls).before args s = true)
    (hcode : (Cond.code y bytes maxL ret).before args s = true) (hy : y.cls ≠ "java/lang/invoke/MethodHandle" ∧ y.cls ≠ "java/lang/invoke/VarHandle")
    {W9 : Nat} {Pre : Pt → Array Value → Prop} {Post : Pt → Array Value → Option Value → Pt → Prop} {PostX : Pt → Array Value → Addr → Pt → Prop} (hK : vx_Back l R p e below s args y 3 W9 Pre Post PostX)
    {g : JFrame} (hg : g.method = m) (hsize : g.locals.size = c.maxLocals) {argsL rest : List Value} (hlen : ∀ sig, parseMethodDescriptor y.desc = some sig → argsL.length = sig.parameters.length)
    (hstack : g.stack = argsL.reverse ++ rest) (hW : 2 * g.monitorRoom + (rest.map fun v => v.category).sum ≤ W9) (hdg : decode c.code g.pc = .ok (.invokestatic index, 3))
    (hpre : ∀ vm₁, s.WarmedH vm₁ → Pre ⟨T.setVm vm₁, locs, cells, slots⟩ argsL.toArray) :
    (∃ (v : Option Value) (vm₁ : Vm) (B : Pt), s.WarmedH vm₁ ∧ Stand p l e R s m args below meth c B.U B.locs B.cells B.slots ∧ Post ⟨T.setVm vm₁, locs, cells, slots⟩ argsL.toArray v B ∧
      ∀ target, Steps p.tables e below (B.U.setTop { g with pc := g.pc + 3, stack := v.toList ++ rest }) target → Steps p.tables e below (T.setTop g) target) ∨
    (∃ (q : Addr) (vm₁ : Vm) (B : Pt), s.WarmedH vm₁ ∧ Stand p l e R s m args below meth c B.U B.locs B.cells B.slots ∧ PostX ⟨T.setVm vm₁, locs, cells, slots⟩ argsL.toArray q B ∧
      Steps p.tables e below (T.setTop g) ((B.U.setTop { g with stack := rest }).pushFrame (.throwing q))) := by
  obtain ⟨mk, hnamed⟩ := Cond.code_named hcode
  obtain ⟨methM, cM, hmethM, -, -, -, -, -, -, hsigM⟩ := Cond.code_spec hnamed hcode
  have hstatic : methM.isStatic = true := Cond.static_spec hnamed hmethM hstat
  obtain ⟨kP, hkP, -⟩ := className_of_methodNamed hnamed
  have hinitP : kP.init = .initialized := Cond.initialized_spec (findClass_of_methodNamed hnamed) hkP hinit
  obtain ⟨vm₁, X₁, hstep₁⟩ := X.invokestatic hexec hown hlink hnamed hmethM hstatic hkP hinitP hy (g := g) hg (argsL := argsL) (rest := rest) (hlen _ hsigM) hstack hdg
  rcases hK m meth c ⟨T.setVm vm₁, locs, cells, slots⟩ { g with stack := rest } (.invokestatic index) mk argsL.toArray X₁ hg hsize hdg hW (X₁.named hnamed) (hpre vm₁ X₁.warmed) with ⟨v, B, X', hpost, hsteps⟩ | ⟨q, B, X', hpost, hsteps⟩
  · exact Or.inl ⟨v, vm₁, B, X₁.warmed, X', hpost, fun target h => hstep₁ _ fun acts => by rw [doInvoke_state]; exact hsteps.trans h⟩
  · exact Or.inr ⟨q, vm₁, B, X₁.warmed, X', hpost, hstep₁ _ fun acts => by rw [doInvoke_state]; exact hsteps⟩
end Calls
theorem vx_cls {s : State} {T : State} {vm₁ : Vm} {E : String} {k : ClassId} (hW : s.WarmedH vm₁) (h : (T.setVm vm₁).vm.findClass E = some k) : s.vm.findClass E = some k := by
  have h1 : vm₁.findClass E = some k := h
  rw [hW.alike.findClass] at h1
  exact h1
/-- the method's frame g, with q thrown over it -/
def vx_W (p : Program) (l : Launch) (e : Env) (R : Room) (s : State) (m : MethodId) (args : Array Value) (below : List Frame) (meth : Method) (c : Code) (H : Heap) (locs : List Loc) (cells slots : Nat) (Q : State → Prop) (g : JFrame) (q : Addr) : Prop :=
  ∀ T : State, T.heap = H → Stand p l e R s m args below meth c T locs cells slots → ∃ t, Steps p.tables e below ((T.setTop g).pushFrame (.throwing q)) t ∧ Q t
def vx_Run (p : Program) (l : Launch) (e : Env) (R : Room) (s : State) (m : MethodId) (args : Array Value) (below : List Frame) (meth : Method) (c : Code) (H : Heap) (locs : List Loc) (cells slots mc ms : Nat) (g : JFrame) (rest : List Value) (Qa : State → Outcome → State → Prop) (XC : String → State → State → Prop) (free : Addr → Prop) : Prop :=
  ∀ T : State, T.heap = H → Stand p l e R s m args below meth c T locs cells slots →
    (∃ (v : Option Value) (st₀ t T' : State) (L : List Loc), st₀.heap = H ∧ Stand p l e R s m args below meth c T' (locs ++ L) (cells + mc) (slots + ms) ∧ (∀ q ∈ L, free q.base) ∧ T'.heap = t.heap ∧ T'.vm = t.vm ∧ Qa st₀ (.returned v) t ∧
      Goes p e below T g T' { g with pc := g.pc + 3, stack := v.toList ++ rest }) ∨
    (∃ (q : Addr) (st₀ t T' : State) (L : List Loc) (E : String) (ce : Cell), st₀.heap = H ∧ Stand p l e R s m args below meth c T' (locs ++ L) (cells + mc) (slots + ms) ∧ (∀ z ∈ L, free z.base) ∧ T'.heap = t.heap ∧ T'.vm = t.vm ∧ XC E st₀ t ∧ t.heap[q]? = some ce ∧ ce.vm = .none ∧ s.vm.findClass E = some ce.cls ∧
      Steps p.tables e below (T.setTop g) ((T'.setTop { g with stack := rest }).pushFrame (.throwing q)))
def vx_X {S : Type} (px : S → Prop) (B : String → S → State → Prop) (A : Nat → Prop) : String → State → State → Prop := fun E st t => ∃ u : S, px u ∧ B E u t ∧ va_F A st t
section Runs
variable {p : Program} {l : Launch} {e : Env} {R : Room} {s : State} {m : MethodId} {args : Array Value} {below : List Frame} {meth : Method} {c : Code} {H : Heap} {locs : List Loc} {cells slots : Nat}
variable {y : MethodName} {bytes cc : ByteArray} {maxL nL mc ms n index : Nat} {ret : Option FieldType} {ws : List Cond} {rm : Room} {Pc : Array Value → State → Prop} {Qc : Array Value → State → Outcome → State → Prop} {XC : String → State → State → Prop} {free : Addr → Prop} {Ts : List Cond} {own C : String} {b : Addr} {As rest : List Value} {g : JFrame}
theorem vx_callBack (cb : CallB R s args own index y bytes maxL ret ws rm mc ms n) (hM : vx_Met l y ws rm Pc Qc XC mc ms free) (hbl : FrameBlind Pc) : vx_Back l R p e below s args y 3 8 (PreOf R mc ms Pc) (PostOf Qc mc ms free) (vx_Post XC mc ms free) := by
  obtain ⟨hrc, hrs, hfr, hlo, hws, hcw, -, hini, -⟩ := cb
  exact vx_back (bytes := bytes) (maxL := maxL) (ret := ret) hM hbl hrc hrs hfr hlo hws hcw (fun a' U hW => word_at hW (Or.inl (by first | rfl | simp [Cond.onTables, Cond.keeps, Cond.steady])) hini)
theorem vx_runV (S : CallFix p m c cc nL s args Ts own) (hM : vx_Met l y ws rm Pc Qc XC mc ms free) (cw : CallW R s args own C index y bytes maxL ret ws rm mc ms n) (hp : PreV s H C b Pc As)
    (hg : g.method = m) (hn : As.length = n) (hsize : g.locals.size = nL) (hstack : g.stack = As.reverse ++ .ref b :: rest) (hW : 2 * g.monitorRoom + (rest.map fun v => v.category).sum ≤ 8) (hdg : decode cc g.pc = .ok (.invokevirtual index, 3)) (hf : cells + mc ≤ R.cells ∧ slots + ms ≤ R.slots) :
    vx_Run p l e R s m args below meth c H locs cells slots mc ms g rest (Qc (Value.ref b :: As).toArray) XC free := by
  have hK : vx_Back l R p e below s args y 3 8 (PreOf R mc ms Pc) (PostOf Qc mc ms free) (vx_Post XC mc ms free) := vx_callBack cw.1 hM hp.1
  obtain ⟨⟨-, -, -, -, -, -, hcode, -, hy, hlen, hl⟩, hin, hse⟩ := cw
  obtain ⟨hx, hb, hml, ho, -⟩ := S
  obtain ⟨-, ⟨cellB, hcB, hoB, hclB⟩, hPc⟩ := hp
  intro T hT X
  rcases vx_callV X hx (C := C) (bytes := bytes) (maxL := maxL) (ret := ret) ho hl hin hse hcode hy hK (by rw [hT]; exact hcB) hoB hclB hg (hsize.trans hml.symm) (argsL := As) (rest := rest) (fun sig h => hn.trans (hlen sig h)) hstack hW (by rw [hb]; exact hdg)
    (fun vm₁ hW₁ => ⟨hf.1, hf.2, hPc (T.setVm vm₁) hT hW₁⟩) with ⟨v, vm₁, ⟨U', l2, c2, s2⟩, hW₁, X', ⟨g', mk, t, L, e1, e2, hq, h1, hL, h2, h3⟩, st⟩ | ⟨q, vm₁, ⟨U', l2, c2, s2⟩, hW₁, X', ⟨g', mk, t, L, E, ce, e1, e2, hq, hce, hcv, hcl, h1, hL, h2, h3⟩, st⟩
  · dsimp only [Pt.U, Pt.locs, Pt.cells, Pt.slots] at X' e1 e2 h1 h2 h3 st
    subst h1; subst h2; subst h3
    exact Or.inl ⟨v, (T.setVm vm₁).calling g' mk (Value.ref b :: As).toArray, t, U', L, hT, X', hL, e1, e2, hq, st⟩
  · dsimp only [Pt.U, Pt.locs, Pt.cells, Pt.slots] at X' e1 e2 h1 h2 h3 st hcl
    subst h1; subst h2; subst h3
    exact Or.inr ⟨q, (T.setVm vm₁).calling g' mk (Value.ref b :: As).toArray, t, U', L, E, ce, hT, X', hL, e1, e2, hq, hce, hcv, vx_cls hW₁ hcl, st⟩
theorem vx_runS (S : CallFix p m c cc nL s args Ts own) (hM : vx_Met l y ws rm Pc Qc XC mc ms free) (cw : CallB R s args own index y bytes maxL ret ws rm mc ms n ∧ (Cond.static y).before args s = true) (hp : PreS s H Pc As)
    (hg : g.method = m) (hn : As.length = n) (hsize : g.locals.size = nL) (hstack : g.stack = As.reverse ++ rest) (hW : 2 * g.monitorRoom + (rest.map fun v => v.category).sum ≤ 8) (hdg : decode cc g.pc = .ok (.invokestatic index, 3)) (hf : cells + mc ≤ R.cells ∧ slots + ms ≤ R.slots) :
    vx_Run p l e R s m args below meth c H locs cells slots mc ms g rest (Qc As.toArray) XC free := by
  have hK : vx_Back l R p e below s args y 3 8 (PreOf R mc ms Pc) (PostOf Qc mc ms free) (vx_Post XC mc ms free) := vx_callBack cw.1 hM hp.1
  obtain ⟨⟨-, -, -, -, -, -, hcode, hini, hy, hlen, hl⟩, hstt⟩ := cw
  obtain ⟨hx, hb, hml, ho, -⟩ := S
  intro T hT X
  rcases vx_callS X hx (bytes := bytes) (maxL := maxL) (ret := ret) ho hl hstt hini hcode hy hK hg (hsize.trans hml.symm) (argsL := As) (rest := rest) (fun sig h => hn.trans (hlen sig h)) hstack hW (by rw [hb]; exact hdg)
    (fun vm₁ hW₁ => ⟨hf.1, hf.2, hp.2 (T.setVm vm₁) hT hW₁⟩) with ⟨v, vm₁, ⟨U', l2, c2, s2⟩, hW₁, X', ⟨g', mk, t, L, e1, e2, hq, h1, hL, h2, h3⟩, st⟩ | ⟨q, vm₁, ⟨U', l2, c2, s2⟩, hW₁, X', ⟨g', mk, t, L, E, ce, e1, e2, hq, hce, hcv, hcl, h1, hL, h2, h3⟩, st⟩
  · dsimp only [Pt.U, Pt.locs, Pt.cells, Pt.slots] at X' e1 e2 h1 h2 h3 st
    subst h1; subst h2; subst h3
    exact Or.inl ⟨v, (T.setVm vm₁).calling g' mk As.toArray, t, U', L, hT, X', hL, e1, e2, hq, st⟩
  · dsimp only [Pt.U, Pt.locs, Pt.cells, Pt.slots] at X' e1 e2 h1 h2 h3 st hcl
    subst h1; subst h2; subst h3
    exact Or.inr ⟨q, (T.setVm vm₁).calling g' mk As.toArray, t, U', L, E, ce, hT, X', hL, e1, e2, hq, hce, hcv, vx_cls hW₁ hcl, st⟩
end Runs
section Rows
variable {p : Program} {l : Launch} {e : Env} {R : Room} {s : State} {m : MethodId} {args : Array Value} {below : List Frame} {meth : Method} {c : Code} {H : Heap} {locs : List Loc} {cells slots : Nat} {Q : State → Prop}
variable {mc ms : Nat} {free : Addr → Prop} {A0 A1 : Nat → Prop} {H0 : Heap} {a : Array Value} {pc : Nat} {ls : Array Slot} {st0 rest : List Value}
theorem vx_keep {st₀ t T' : State} {L : List Loc} (h0 : st₀.heap = H) (e1 : T'.heap = t.heap) (hS : va_S A0 H0 H locs) (hA : ∀ q, q < H.size → A1 q → A0 q) (hf : ∀ q, free q → A0 q) (hL : ∀ q ∈ L, free q.base) (hF : va_F A1 st₀ t) :
    H.size ≤ T'.heap.size ∧ (∀ q : Nat, q < H.size → ¬ A1 q → T'.heap[q]? = H[q]?) ∧ va_S A0 H0 T'.heap (locs ++ L) := by
  obtain ⟨hz, hk⟩ := hF
  rw [h0] at hz hk
  exact ⟨by rw [e1]; exact hz, fun q h1 h2 => by rw [e1]; exact hk q h1 h2,
    ⟨Nat.le_trans hS.1 (by rw [e1]; exact hz), fun q h1 h2 => by rw [e1, hk q (Nat.lt_of_lt_of_le h1 hS.1) (fun z => h2 (hA q (Nat.lt_of_lt_of_le h1 hS.1) z))]; exact hS.2.1 q h1 h2, fun q hq => by
      rcases List.mem_append.mp hq with h | h
      · exact hS.2.2 q h
      · exact hf _ (hL q h)⟩⟩
theorem vx_calli {S SX : Type} {post : Int32 → S → Prop} {px : SX → Prop} {B : S → State → Prop} {BX : String → SX → State → Prop} {AX : Nat → Prop} (hr : vx_Run p l e R s m args below meth c H locs cells slots mc ms (F0 m pc ls st0) rest (va_Qi post B A1 a) (vx_X px BX AX) free) (hS : va_S A0 H0 H locs) (hA : ∀ q, q < H.size → A1 q → A0 q) (hf : ∀ q, free q → A0 q) (hAX : ∀ q, q < H.size → AX q → A0 q)
    (kx : ∀ (E : String) (ce : Cell) (q9 : Addr) (u : SX) (t : State) (H1 : Heap) (locs1 : List Loc), t.heap = H1 → s.vm.Alike t.vm → px u → BX E u t → H.size ≤ H1.size → (∀ q : Nat, q < H.size → ¬ AX q → H1[q]? = H[q]?) → va_S A0 H0 H1 locs1 → H1[q9]? = some ce → ce.vm = .none → s.vm.findClass E = some ce.cls → vx_W p l e R s m args below meth c H1 locs1 (cells + mc) (slots + ms) Q (F0 m pc ls rest) q9)
    (kk : ∀ (r : Int32) (u : S) (t : State) (H1 : Heap) (locs1 : List Loc), t.heap = H1 → s.vm.Alike t.vm → post r u → B u t → H.size ≤ H1.size → (∀ q : Nat, q < H.size → ¬ A1 q → H1[q]? = H[q]?) → va_S A0 H0 H1 locs1 → W p l e R s m args below meth c H1 locs1 (cells + mc) (slots + ms) Q (F0 m (pc + 3) ls (.int r :: rest))) : W p l e R s m args below meth c H locs cells slots Q (F0 m pc ls st0) := by
  intro T hT X
  rcases hr T hT X with ⟨v, st₀, t, T', L, h0, X', hL, e1, e2, ⟨⟨r, u, hv, hp, hb⟩, hF⟩, st⟩ | ⟨q, st₀, t, T', L, E, ce, h0, X', hL, e1, e2, ⟨u, hp, hb, hF⟩, hce, hcv, hcl, st⟩
  · cases hv
    obtain ⟨k1, k2, k3⟩ := vx_keep h0 e1 hS hA hf hL hF
    obtain ⟨t2, a1, b1⟩ := kk r u t T'.heap (locs ++ L) e1.symm (by rw [← e2]; exact X'.warmed.alike) hp hb k1 k2 k3 T' rfl X'
    exact ⟨t2, st t2 a1, b1⟩
  · obtain ⟨k1, k2, k3⟩ := vx_keep h0 e1 hS hAX hf hL hF
    obtain ⟨t2, a1, b1⟩ := kx E ce q u t T'.heap (locs ++ L) e1.symm (by rw [← e2]; exact X'.warmed.alike) hp hb k1 k2 k3 (by rw [e1]; exact hce) hcv hcl T' rfl X'
    exact ⟨t2, st.trans a1, b1⟩
theorem vx_calll {S SX : Type} {post : Int64 → S → Prop} {px : SX → Prop} {B : S → State → Prop} {BX : String → SX → State → Prop} {AX : Nat → Prop} (hr : vx_Run p l e R s m args below meth c H locs cells slots mc ms (F0 m pc ls st0) rest (va_Ql post B A1 a) (vx_X px BX AX) free) (hS : va_S A0 H0 H locs) (hA : ∀ q, q < H.size → A1 q → A0 q) (hf : ∀ q, free q → A0 q) (hAX : ∀ q, q < H.size → AX q → A0 q)
    (kx : ∀ (E : String) (ce : Cell) (q9 : Addr) (u : SX) (t : State) (H1 : Heap) (locs1 : List Loc), t.heap = H1 → s.vm.Alike t.vm → px u → BX E u t → H.size ≤ H1.size → (∀ q : Nat, q < H.size → ¬ AX q → H1[q]? = H[q]?) → va_S A0 H0 H1 locs1 → H1[q9]? = some ce → ce.vm = .none → s.vm.findClass E = some ce.cls → vx_W p l e R s m args below meth c H1 locs1 (cells + mc) (slots + ms) Q (F0 m pc ls rest) q9)
    (kk : ∀ (r : Int64) (u : S) (t : State) (H1 : Heap) (locs1 : List Loc), t.heap = H1 → s.vm.Alike t.vm → post r u → B u t → H.size ≤ H1.size → (∀ q : Nat, q < H.size → ¬ A1 q → H1[q]? = H[q]?) → va_S A0 H0 H1 locs1 → W p l e R s m args below meth c H1 locs1 (cells + mc) (slots + ms) Q (F0 m (pc + 3) ls (.long r :: rest))) : W p l e R s m args below meth c H locs cells slots Q (F0 m pc ls st0) := by
  intro T hT X
  rcases hr T hT X with ⟨v, st₀, t, T', L, h0, X', hL, e1, e2, ⟨⟨r, u, hv, hp, hb⟩, hF⟩, st⟩ | ⟨q, st₀, t, T', L, E, ce, h0, X', hL, e1, e2, ⟨u, hp, hb, hF⟩, hce, hcv, hcl, st⟩
  · cases hv
    obtain ⟨k1, k2, k3⟩ := vx_keep h0 e1 hS hA hf hL hF
    obtain ⟨t2, a1, b1⟩ := kk r u t T'.heap (locs ++ L) e1.symm (by rw [← e2]; exact X'.warmed.alike) hp hb k1 k2 k3 T' rfl X'
    exact ⟨t2, st t2 a1, b1⟩
  · obtain ⟨k1, k2, k3⟩ := vx_keep h0 e1 hS hAX hf hL hF
    obtain ⟨t2, a1, b1⟩ := kx E ce q u t T'.heap (locs ++ L) e1.symm (by rw [← e2]; exact X'.warmed.alike) hp hb k1 k2 k3 (by rw [e1]; exact hce) hcv hcl T' rfl X'
    exact ⟨t2, st.trans a1, b1⟩
theorem vx_callf {S SX : Type} {post : UInt32 → S → Prop} {px : SX → Prop} {B : S → State → Prop} {BX : String → SX → State → Prop} {AX : Nat → Prop} (hr : vx_Run p l e R s m args below meth c H locs cells slots mc ms (F0 m pc ls st0) rest (va_Qf post B A1 a) (vx_X px BX AX) free) (hS : va_S A0 H0 H locs) (hA : ∀ q, q < H.size → A1 q → A0 q) (hf : ∀ q, free q → A0 q) (hAX : ∀ q, q < H.size → AX q → A0 q)
    (kx : ∀ (E : String) (ce : Cell) (q9 : Addr) (u : SX) (t : State) (H1 : Heap) (locs1 : List Loc), t.heap = H1 → s.vm.Alike t.vm → px u → BX E u t → H.size ≤ H1.size → (∀ q : Nat, q < H.size → ¬ AX q → H1[q]? = H[q]?) → va_S A0 H0 H1 locs1 → H1[q9]? = some ce → ce.vm = .none → s.vm.findClass E = some ce.cls → vx_W p l e R s m args below meth c H1 locs1 (cells + mc) (slots + ms) Q (F0 m pc ls rest) q9)
    (kk : ∀ (r : UInt32) (u : S) (t : State) (H1 : Heap) (locs1 : List Loc), t.heap = H1 → s.vm.Alike t.vm → post r u → B u t → H.size ≤ H1.size → (∀ q : Nat, q < H.size → ¬ A1 q → H1[q]? = H[q]?) → va_S A0 H0 H1 locs1 → W p l e R s m args below meth c H1 locs1 (cells + mc) (slots + ms) Q (F0 m (pc + 3) ls (.float r :: rest))) : W p l e R s m args below meth c H locs cells slots Q (F0 m pc ls st0) := by
  intro T hT X
  rcases hr T hT X with ⟨v, st₀, t, T', L, h0, X', hL, e1, e2, ⟨⟨r, u, hv, hp, hb⟩, hF⟩, st⟩ | ⟨q, st₀, t, T', L, E, ce, h0, X', hL, e1, e2, ⟨u, hp, hb, hF⟩, hce, hcv, hcl, st⟩
  · cases hv
    obtain ⟨k1, k2, k3⟩ := vx_keep h0 e1 hS hA hf hL hF
    obtain ⟨t2, a1, b1⟩ := kk r u t T'.heap (locs ++ L) e1.symm (by rw [← e2]; exact X'.warmed.alike) hp hb k1 k2 k3 T' rfl X'
    exact ⟨t2, st t2 a1, b1⟩
  · obtain ⟨k1, k2, k3⟩ := vx_keep h0 e1 hS hAX hf hL hF
    obtain ⟨t2, a1, b1⟩ := kx E ce q u t T'.heap (locs ++ L) e1.symm (by rw [← e2]; exact X'.warmed.alike) hp hb k1 k2 k3 (by rw [e1]; exact hce) hcv hcl T' rfl X'
    exact ⟨t2, st.trans a1, b1⟩
theorem vx_calld {S SX : Type} {post : UInt64 → S → Prop} {px : SX → Prop} {B : S → State → Prop} {BX : String → SX → State → Prop} {AX : Nat → Prop} (hr : vx_Run p l e R s m args below meth c H locs cells slots mc ms (F0 m pc ls st0) rest (va_Qd post B A1 a) (vx_X px BX AX) free) (hS : va_S A0 H0 H locs) (hA : ∀ q, q < H.size → A1 q → A0 q) (hf : ∀ q, free q → A0 q) (hAX : ∀ q, q < H.size → AX q → A0 q)
    (kx : ∀ (E : String) (ce : Cell) (q9 : Addr) (u : SX) (t : State) (H1 : Heap) (locs1 : List Loc), t.heap = H1 → s.vm.Alike t.vm → px u → BX E u t → H.size ≤ H1.size → (∀ q : Nat, q < H.size → ¬ AX q → H1[q]? = H[q]?) → va_S A0 H0 H1 locs1 → H1[q9]? = some ce → ce.vm = .none → s.vm.findClass E = some ce.cls → vx_W p l e R s m args below meth c H1 locs1 (cells + mc) (slots + ms) Q (F0 m pc ls rest) q9)
    (kk : ∀ (r : UInt64) (u : S) (t : State) (H1 : Heap) (locs1 : List Loc), t.heap = H1 → s.vm.Alike t.vm → post r u → B u t → H.size ≤ H1.size → (∀ q : Nat, q < H.size → ¬ A1 q → H1[q]? = H[q]?) → va_S A0 H0 H1 locs1 → W p l e R s m args below meth c H1 locs1 (cells + mc) (slots + ms) Q (F0 m (pc + 3) ls (.double r :: rest))) : W p l e R s m args below meth c H locs cells slots Q (F0 m pc ls st0) := by
  intro T hT X
  rcases hr T hT X with ⟨v, st₀, t, T', L, h0, X', hL, e1, e2, ⟨⟨r, u, hv, hp, hb⟩, hF⟩, st⟩ | ⟨q, st₀, t, T', L, E, ce, h0, X', hL, e1, e2, ⟨u, hp, hb, hF⟩, hce, hcv, hcl, st⟩
  · cases hv
    obtain ⟨k1, k2, k3⟩ := vx_keep h0 e1 hS hA hf hL hF
    obtain ⟨t2, a1, b1⟩ := kk r u t T'.heap (locs ++ L) e1.symm (by rw [← e2]; exact X'.warmed.alike) hp hb k1 k2 k3 T' rfl X'
    exact ⟨t2, st t2 a1, b1⟩
  · obtain ⟨k1, k2, k3⟩ := vx_keep h0 e1 hS hAX hf hL hF
    obtain ⟨t2, a1, b1⟩ := kx E ce q u t T'.heap (locs ++ L) e1.symm (by rw [← e2]; exact X'.warmed.alike) hp hb k1 k2 k3 (by rw [e1]; exact hce) hcv hcl T' rfl X'
    exact ⟨t2, st.trans a1, b1⟩
theorem vx_callv {S SX : Type} {post : S → Prop} {px : SX → Prop} {B : S → State → Prop} {BX : String → SX → State → Prop} {AX : Nat → Prop} (hr : vx_Run p l e R s m args below meth c H locs cells slots mc ms (F0 m pc ls st0) rest (va_Qv post B A1 a) (vx_X px BX AX) free) (hS : va_S A0 H0 H locs) (hA : ∀ q, q < H.size → A1 q → A0 q) (hf : ∀ q, free q → A0 q) (hAX : ∀ q, q < H.size → AX q → A0 q)
    (kx : ∀ (E : String) (ce : Cell) (q9 : Addr) (u : SX) (t : State) (H1 : Heap) (locs1 : List Loc), t.heap = H1 → s.vm.Alike t.vm → px u → BX E u t → H.size ≤ H1.size → (∀ q : Nat, q < H.size → ¬ AX q → H1[q]? = H[q]?) → va_S A0 H0 H1 locs1 → H1[q9]? = some ce → ce.vm = .none → s.vm.findClass E = some ce.cls → vx_W p l e R s m args below meth c H1 locs1 (cells + mc) (slots + ms) Q (F0 m pc ls rest) q9)
    (kk : ∀ (u : S) (t : State) (H1 : Heap) (locs1 : List Loc), t.heap = H1 → s.vm.Alike t.vm → post u → B u t → H.size ≤ H1.size → (∀ q : Nat, q < H.size → ¬ A1 q → H1[q]? = H[q]?) → va_S A0 H0 H1 locs1 → W p l e R s m args below meth c H1 locs1 (cells + mc) (slots + ms) Q (F0 m (pc + 3) ls (rest))) : W p l e R s m args below meth c H locs cells slots Q (F0 m pc ls st0) := by
  intro T hT X
  rcases hr T hT X with ⟨v, st₀, t, T', L, h0, X', hL, e1, e2, ⟨⟨u, hv, hp, hb⟩, hF⟩, st⟩ | ⟨q, st₀, t, T', L, E, ce, h0, X', hL, e1, e2, ⟨u, hp, hb, hF⟩, hce, hcv, hcl, st⟩
  · cases hv
    obtain ⟨k1, k2, k3⟩ := vx_keep h0 e1 hS hA hf hL hF
    obtain ⟨t2, a1, b1⟩ := kk u t T'.heap (locs ++ L) e1.symm (by rw [← e2]; exact X'.warmed.alike) hp hb k1 k2 k3 T' rfl X'
    exact ⟨t2, st t2 a1, b1⟩
  · obtain ⟨k1, k2, k3⟩ := vx_keep h0 e1 hS hAX hf hL hF
    obtain ⟨t2, a1, b1⟩ := kx E ce q u t T'.heap (locs ++ L) e1.symm (by rw [← e2]; exact X'.warmed.alike) hp hb k1 k2 k3 (by rw [e1]; exact hce) hcv hcl T' rfl X'
    exact ⟨t2, st.trans a1, b1⟩
/-- caught by the row x of this method's table; the rows ahead don't take it -/
theorem vx_catch {own name : String} {E : String} {ce : Cell} {q : Addr} (hown : s.vm.findClass own = some m.cls) (pre : List ExceptionTableEntry) (x : ExceptionTableEntry) (suf : List ExceptionTableEntry) (hsplit : c.exceptionTable.toList = pre ++ x :: suf)
    (hpass : ∀ z ∈ pre, covers z pc = false ∨ (z.catchType ≠ 0 ∧ ∃ nm : String, (Cond.classLink own z.catchType nm).before args s = true ∧ va_Nc E nm s)) (hx : covers x pc = true) (h0 : x.catchType ≠ 0)
    (hlink : (Cond.classLink own x.catchType name).before args s = true) (hcast : (Cond.castable E name).before args s = true) (hcell : H[q]? = some ce) (hv : ce.vm = .none) (hcl : s.vm.findClass E = some ce.cls)
    (kk : W p l e R s m args below meth c H locs cells slots Q (F0 m x.handlerPc ls [.ref q])) : vx_W p l e R s m args below meth c H locs cells slots Q (F0 m pc ls rest) q := by
  intro T hT X
  have hpl : e.platform.magicAccessors = ({} : Platform).magicAccessors := by rw [X.admits.platform]
  obtain ⟨c3, c4, hc3, hc4, hasg⟩ := Cond.castable_spec hcast
  cases Option.some.inj (hc3.symm.trans hcl)
  obtain ⟨c5, hc5, hcl5⟩ := Cond.classLink_spec hown hlink e.platform hpl
  cases Option.some.inj (hc4.symm.trans hc5)
  obtain ⟨vm', X', st⟩ := X.thenCaughtThrough q (g := F0 m pc ls rest) rfl (Steps.refl _) (by rw [hT]; exact hcell) (by rw [hv]; rfl) (by obtain ⟨k9, h9, -⟩ := Vm.findClass_spec hcl; exact ⟨k9, h9⟩) pre x suf hsplit
    (fun z hz => by
      rcases hpass z hz with h | ⟨hz0, nm, hl1, hn1⟩
      · exact Or.inl h
      · obtain ⟨c6, hc6, hcl6⟩ := Cond.classLink_spec hown hl1 e.platform hpl
        obtain ⟨a8, b8, h1, h2, h3⟩ := hn1
        cases Option.some.inj (h1.symm.trans hcl)
        cases Option.some.inj (h2.symm.trans hc6)
        exact Or.inr ⟨hz0, _, hcl6, h3⟩) hx (Or.inr ⟨h0, c4, hcl5, hasg⟩)
  obtain ⟨t, a1, b1⟩ := kk (T.setVm vm') hT X'
  exact ⟨t, st.trans a1, b1⟩
end Rows
section Ends
variable {p : Program} {l : Launch} {e : Env} {R : Room} {s : State} {m : MethodId} {args : Array Value} {below : List Frame} {meth : Method} {c : Code} {H : Heap} {locs : List Loc} {cells slots : Nat} {Q : State → Prop}
variable {mc ms : Nat} {free : Addr → Prop} {A0 A1 : Nat → Prop} {H0 : Heap} {a : Array Value} {ls : Array Slot} {st0 rest : List Value}
variable {Qc : Array Value → State → Outcome → State → Prop} {XC : String → State → State → Prop}
/-- what a body that may throw owes at its end -/
def vx_MQ (below : List Frame) (Qc : Array Value → State → Outcome → State → Prop) (XC : String → State → State → Prop) (a : Array Value) (s : State) (mc ms : Nat) (free : Addr → Prop) : State → Prop := fun t =>
  ∃ o, t.status = .running ∧ Ended t below o ∧ vx_Q Qc XC mc ms free a s o t
theorem vx_ret {g : JFrame} {mc ms : Nat} (k : W p l e R s m args below meth c H locs cells slots (MQ below Qc args s mc ms free) g) : W p l e R s m args below meth c H locs cells slots (vx_MQ below Qc XC args s mc ms free) g := by
  intro T hT X
  obtain ⟨t, a1, o, b1, b2, b3, b4⟩ := k T hT X
  exact ⟨t, a1, o, b1, b2, Or.inl ⟨b3, b4⟩⟩
/-- not caught here: it goes on to the caller -/
theorem vx_widen {g : JFrame} {q : Addr} {k n : Nat} (h1 : cells ≤ k) (h2 : slots ≤ n) (kk : vx_W p l e R s m args below meth c H locs k n Q g q) : vx_W p l e R s m args below meth c H locs cells slots Q g q := fun T hT X => kk T hT (stand_widen X h1 h2)
theorem vx_out {pc : Nat} {E : String} {ce : Cell} {q : Addr} {mc ms : Nat} (hout : ∀ x ∈ c.exceptionTable.toList, covers x pc = false) (hlocks : meth.locks = false) (hcell : H[q]? = some ce) (hv : ce.vm = .none) (hcl : s.vm.findClass E = some ce.cls)
    (hx : ∀ t : State, t.heap = H → s.vm.Alike t.vm → XC E s t) (hf : ∀ z ∈ locs, free z.base) (hc : cells ≤ mc) (hs : slots ≤ ms) :
    vx_W p l e R s m args below meth c H locs cells slots (vx_MQ below Qc XC args s mc ms free) (F0 m pc ls rest) q := by
  intro T hT X
  obtain ⟨st1, hrun, hend, hW, hsm⟩ := X.leaveThrown q (g := F0 m pc ls rest) rfl rfl rfl hout hlocks
  have hcell9 : (T.setFrames (.throwing q :: below)).heap[q]? = some ce := by
    show T.heap[q]? = some ce
    rw [hT]; exact hcell
  exact ⟨_, st1, .threw q, hrun, hend, Or.inr ⟨q, rfl, E, ce, locs, hx _ hT hW.alike, hcell9, hv, hcl, hW, hsm.mono hc hs, hf⟩⟩
theorem vx_frame {U : State} {k n : Nat} (h : s.sameButNew ({ U with vm := s.vm } : State) locs k n) : s.heap.size ≤ U.heap.size ∧ ∀ q : Nat, q < s.heap.size → (∀ z ∈ locs, z.base ≠ q) → U.heap[q]? = s.heap[q]? := by
  obtain ⟨-, h2, -, -, -, h6⟩ := h
  refine ⟨h2, fun q hq hz => ?_⟩
  obtain ⟨c9, e1, e2, e3, e4⟩ := h6 q _ (Array.getElem?_eq_getElem hq)
  have hs : c9.slots = (s.heap[q]).slots := Array.ext_getElem? fun i => e4 i fun hm => hz _ hm rfl
  have h9 : c9 = s.heap[q] := by
    rw [hs] at e2
    exact e2
  have e5 : U.heap[q]? = some c9 := e1
  rw [e5, h9, Array.getElem?_eq_getElem hq]
/-- the words of a throw but the four that speak of the heap -/
def vx_no (w : Cond) : Bool := decide (w ≠ .isRef (.static Bundle.tN "UNASSIGNED_STACK" Bundle.steD)) && decide (w ≠ .isRef (.static Bundle.tN "SUPPRESSED_SENTINEL" Bundle.listD)) && decide (w ≠ .laysStatic Bundle.tN "UNASSIGNED_STACK" Bundle.steD) && decide (w ≠ .laysStatic Bundle.tN "SUPPRESSED_SENTINEL" Bundle.listD)
def vx_at0 (own : String) (ic : Nat) (X : String) (names : List String) : List Cond := (Bundle.ownAtoms0 own ic X names).filter vx_no
def vx_atS (own : String) (ic : Nat) (X : String) (names : List String) : List Cond := (Bundle.ownAtoms own ic X names).filter vx_no
/-- a word that the tables alone decide, or a good one -/
def vx_ot (w : Cond) : Bool := w.onTables || goodWord w
theorem vx_ot_at {args a' : Array Value} {s U : State} {w : Cond} (hW : s.WarmedH U.vm) (hvm : s.vm = U.vm) (hg : vx_ot w = true) (h : w.before args s = true) : w.before a' U = true := by
  simp only [vx_ot, Bool.or_eq_true] at hg
  rcases hg with hg | hg
  · exact va_tabs hg hvm h
  · exact word_at hW (good_of_word hg) h
/-- a list's words: the good ones out of the method's own list, the others by premises of their own -/
theorem vx_hat {args : Array Value} {s : State} {L B : List Cond} (h1 : ∀ w ∈ L.filter goodWord, w.before args s = true) (h2 : ∀ w ∈ L.filter (fun w => !goodWord w), w ∈ B) (h3 : ∀ w ∈ B, w.before args s = true) : ∀ w ∈ L, w.before args s = true := by
  intro w hw
  by_cases g : goodWord w = true
  · exact h1 w (List.mem_filter.mpr ⟨hw, g⟩)
  · refine h3 w (h2 w (List.mem_filter.mpr ⟨hw, ?_⟩))
    show (!goodWord w) = true
    cases hgw : goodWord w
    · rfl
    · exact absurd hgw g
theorem vx_c {args : Array Value} {s : State} {w : Cond} {B : List Cond} (h : w.before args s = true) (t : ∀ w ∈ B, w.before args s = true) : ∀ w' ∈ w :: B, w'.before args s = true := fun w' h' => (List.mem_cons.mp h').elim (fun e => by rw [e]; exact h) (t w')
theorem vx_n {args : Array Value} {s : State} : ∀ w ∈ ([] : List Cond), w.before args s = true := fun _ h => nomatch h
theorem vx_own {args : Array Value} {s : State} {L : List Cond} (h1 : ∀ w ∈ L.filter vx_no, w.before args s = true)
    (hU : (Cond.isRef (.static Bundle.tN "UNASSIGNED_STACK" Bundle.steD)).before args s = true) (hN : (Cond.isRef (.static Bundle.tN "SUPPRESSED_SENTINEL" Bundle.listD)).before args s = true)
    (lU : (Cond.laysStatic Bundle.tN "UNASSIGNED_STACK" Bundle.steD).before args s = true) (lN : (Cond.laysStatic Bundle.tN "SUPPRESSED_SENTINEL" Bundle.listD).before args s = true) : ∀ w ∈ L, w.before args s = true := by
  intro w hw
  by_cases e1 : w = .isRef (.static Bundle.tN "UNASSIGNED_STACK" Bundle.steD)
  · rw [e1]; exact hU
  · by_cases e2 : w = .isRef (.static Bundle.tN "SUPPRESSED_SENTINEL" Bundle.listD)
    · rw [e2]; exact hN
    · by_cases e3 : w = .laysStatic Bundle.tN "UNASSIGNED_STACK" Bundle.steD
      · rw [e3]; exact lU
      · by_cases e4 : w = .laysStatic Bundle.tN "SUPPRESSED_SENTINEL" Bundle.listD
        · rw [e4]; exact lN
        · exact h1 w (List.mem_filter.mpr ⟨hw, by unfold vx_no; rw [decide_eq_true e1, decide_eq_true e2, decide_eq_true e3, decide_eq_true e4]; rfl⟩)
/-- where a static field lies, its class's statics cell in H -/
def vx_L (C n d : String) (A : Nat → Prop) (U : State) (H : Heap) : Prop := ∃ (c : ClassId) (k : Class) (i : Nat) (f : Field) (a : Nat) (cell : Cell), U.vm.findClass C = some c ∧ U.fieldFound? C n d = some (c, k, i, f) ∧ f.isStatic = true ∧ k.statics = some a ∧ H[a]? = some cell ∧ cell.vm.isStatics = true ∧ cell.cls = c ∧ f.slot < cell.slots.size ∧ k.staticTypes[f.slot]? = some f.type ∧ ¬ A a
theorem vx_L.moved {C n d : String} {A : Nat → Prop} {u U : State} {H : Heap} (hvm : u.vm.Alike U.vm) (h : vx_L C n d A u H) : vx_L C n d A U H := by
  obtain ⟨c, k, i, f, a, cell, h1, h2, h3, h4, h5, h6, h7, h8, h9, h10⟩ := h
  obtain ⟨k', hi', he⟩ := State.fieldFound?_setVm hvm h2
  exact ⟨c, k', i, f, a, cell, by rw [hvm.findClass]; exact h1, hi', h3, by rw [he]; exact h4, h5, h6, h7, h8, by rw [he]; exact h9, h10⟩
theorem vx_L.kept {C n d : String} {A : Nat → Prop} {U : State} {H H1 : Heap} (h : vx_L C n d A U H) (hq : ∀ a : Nat, a < H.size → ¬ A a → H1[a]? = H[a]?) : vx_L C n d A U H1 := by
  obtain ⟨c, k, i, f, a, cell, h1, h2, h3, h4, h5, h6, h7, h8, h9, h10⟩ := h
  exact ⟨c, k, i, f, a, cell, h1, h2, h3, h4, by rw [hq a (Array.getElem?_eq_some_iff.mp h5).1 h10]; exact h5, h6, h7, h8, h9, h10⟩
theorem vx_L.narrow {C n d : String} {A B : Nat → Prop} {U : State} {H : Heap} (h : vx_L C n d A U H) (hAB : ∀ q, B q → A q) : vx_L C n d B U H := by
  obtain ⟨c, k, i, f, a, cell, h1, h2, h3, h4, h5, h6, h7, h8, h9, h10⟩ := h
  exact ⟨c, k, i, f, a, cell, h1, h2, h3, h4, h5, h6, h7, h8, h9, fun z => h10 (hAB _ z)⟩
theorem vx_L.word {C n d : String} {A : Nat → Prop} {s : State} {args : Array Value} (h : vx_L C n d A s s.heap) : (Cond.laysStatic C n d).before args s = true := by
  obtain ⟨c, k, i, f, a, cell, h1, h2, h3, h4, h5, h6, h7, h8, h9, -⟩ := h
  show (Cond.laysStatic C n d).holds args s none s [] = true
  exact Cond.laysStatic_of h1 h2 h3 h4 h5 h6 h7 h8 h9
/-- .. and what it holds: null or some reference -/
def vx_Zq (C n d : String) (A : Nat → Prop) (U : State) (H : Heap) : Prop := va_Zq C n d A U H ∧ vx_L C n d A U H
theorem vx_Zq.moved {C n d : String} {A : Nat → Prop} {u U : State} {H : Heap} (hvm : u.vm.Alike U.vm) (h : vx_Zq C n d A u H) : vx_Zq C n d A U H := ⟨va_Zq.moved hvm h.1, vx_L.moved hvm h.2⟩
theorem vx_Zq.kept {C n d : String} {A : Nat → Prop} {U : State} {H H1 : Heap} (h : vx_Zq C n d A U H) (hq : ∀ a : Nat, a < H.size → ¬ A a → H1[a]? = H[a]?) : vx_Zq C n d A U H1 := ⟨va_Zq.kept h.1 hq, vx_L.kept h.2 hq⟩
theorem vx_Zq.narrow {C n d : String} {A B : Nat → Prop} {U : State} {H : Heap} (h : vx_Zq C n d A U H) (hAB : ∀ q, B q → A q) : vx_Zq C n d B U H := ⟨va_Zq.narrow h.1 hAB, vx_L.narrow h.2 hAB⟩
theorem vx_Zqof {args : Array Value} {s : State} {C n d : String} {A : Nat → Prop} (hl : (Cond.laysStatic C n d).before args s = true) (hini : (Cond.initialized C).before args s = true) (h : (Cond.isRef (.static C n d)).before args s = true) (hA : ∀ a : Nat, a < s.heap.size → ¬ A a) : vx_Zq C n d A s s.heap := by
  refine ⟨va_Zqof hl hini h hA, ?_⟩
  obtain ⟨c, k, i, f, a, cell, h1, h2, h3, h4, h5, h6, h7, h8, h9⟩ := Cond.laysStatic_spec hl
  exact ⟨c, k, i, f, a, cell, h1, h2, h3, h4, h5, h6, h7, h8, h9, hA a (Array.getElem?_eq_some_iff.mp h5).1⟩
theorem vx_isRef {C n d : String} {v : Value} {A : Nat → Prop} {s : State} {args : Array Value} (h : va_Z C n d v A s s.heap) (hv : v.isRef = true) : (Cond.isRef (.static C n d)).before args s = true := by
  obtain ⟨cf, kf, fi, f, a, cell, h1, h2, h3, h4, h5, h6, h7, -⟩ := h
  have he : (Term.static C n d).eval args s none [] s = some v := by
    simp [Term.eval, State.fieldNamed?, h1, h2, h4, h5, h6, h7]
  simp only [Cond.before, Cond.holds, Cond.value, he]
  cases v <;> simp_all [Value.isRef]
theorem vx_isRefq {C n d : String} {A : Nat → Prop} {s : State} {args : Array Value} (h : va_Zq C n d A s s.heap) : (Cond.isRef (.static C n d)).before args s = true := by
  rcases h with h | ⟨t, h⟩
  · exact vx_isRef h rfl
  · exact vx_isRef h rfl
/-- the same frame, seen from here: as if the method were called anew in this heap -/
theorem vx_rebase {T : State} (X : Stand p l e R s m args below meth c T locs cells slots) {R' : Room} (hf : R'.frames ≤ R.frames) (hl : R'.locals ≤ R.locals) (hc : cells + R'.cells ≤ R.cells) (hs : slots + R'.slots ≤ R.slots) :
    Stand p l e R' ((T.setVm s.vm).setFrames (.invoking m args :: below)) m args below meth c T [] 0 0 := by
  have htop : (T.setVm s.vm).topJava?.isSome := X.here.top
  have hF : ((T.setVm s.vm).setFrames (.invoking m args :: below)).frames = .invoking m args :: below := State.frames_setFrames _ (State.cur_lt_of_top htop)
  obtain ⟨g₀, hg0⟩ := Option.isSome_iff_exists.mp htop
  obtain ⟨r, hr⟩ := State.topJava?_eq_some.mp hg0
  have hl9 : e.platform.stackLimits (T.setVm s.vm).me = e.platform.stackLimits s.me := X.limits
  have hb9 : (T.setVm s.vm).me.stackBytes = s.me.stackBytes := X.bytes
  refine ⟨X.admits, X.cas, X.clock, hF, ?_, X.hears, X.method, X.code, X.here, X.tail, X.warmed, ?_, ?_, ?_⟩
  · have h := X.room
    have hU : ((T.setVm s.vm).setFrames (.invoking m args :: below)).localsInUse = s.localsInUse := by
      rw [State.localsInUse_invoking hF (meth := meth) (c := c) X.method X.code, State.localsInUse_invoking X.frames X.method X.code]
    simp only [State.hasRoom, Bool.and_eq_true, decide_eq_true_eq] at h ⊢
    obtain ⟨⟨⟨⟨h1, h2, h3, h4, h5, h6⟩, h7⟩, h8⟩, h9⟩ := h
    rw [X.frames, List.length_cons] at h2 h3
    have q1 := X.heapSize
    have q2 := X.used
    simp only [hF, hU, List.length_cons, State.stackLimits_setFrames, State.stackBytes_setFrames, hl9, hb9]
    refine ⟨⟨⟨⟨by omega, by omega, by omega, by omega, by omega, h6⟩, ?_⟩, ?_⟩, X.book⟩
    · show T.heap.size + R'.cells ≤ e.platform.maxCells
      omega
    · show T.slotsUsed + R'.slots ≤ e.platform.maxSlots
      omega
  · rw [State.stackLimits_setFrames]; rfl
  · rw [State.stackBytes_setFrames]; rfl
  · refine ⟨?_, Nat.le_refl _, Nat.le_refl _, ?_, ?_, fun a c9 h9 => ⟨c9, h9, rfl, rfl, fun _ _ => rfl⟩⟩
    · obtain ⟨t, ht, -⟩ := State.frames_cons hr
      show T.setVm s.vm = { ((T.setVm s.vm).setFrames (.invoking m args :: below)).setFrames (T.setVm s.vm).frames with heap := T.heap, slotsUsed := T.slotsUsed }
      rw [State.setFrames_setFrames, State.setFrames_self ht]
      rfl
    · show T.slotsUsed = T.slotsUsed + ((T.heap.toList.drop T.heap.size).map (·.slots.size)).sum
      rw [List.drop_eq_nil_of_le (Nat.le_of_eq Array.length_toList)]
      rfl
    · show ((T.heap.toList.drop T.heap.size).map (·.slots.size)).sum ≤ 0
      rw [List.drop_eq_nil_of_le (Nat.le_of_eq Array.length_toList)]
      exact Nat.le_refl _
/-- 'throw new E()': new; dup; invokespecial; athrow -/
theorem vx_throw0 {cc : ByteArray} {pc : Nat} (hexec : p.tables.exec = Jvm.exec) (hb : c.code = cc) (hl : l.stackTraces = false) {own cls : String} {names : List String} {ik ic mc ms : Nat} {A : Nat → Prop}
    (hown : s.vm.findClass own = some m.cls) (hcls : Bundle.fit cls = true) (hnames : ∀ n ∈ names, Bundle.fit n = true)
    (hk : (Cond.classLink own ik cls).before args s = true) (hini : (Cond.initialized cls).before args s = true) (hat : ∀ w ∈ vx_at0 own ic cls names, w.before args s = true)
    (hgood : ∀ w ∈ Cond.classLink own ik cls :: Cond.initialized cls :: vx_at0 own ic cls names, vx_ot w = true)
    (hU : vx_Zq Bundle.tN "UNASSIGNED_STACK" Bundle.steD A s s.heap) (hN : vx_Zq Bundle.tN "SUPPRESSED_SENTINEL" Bundle.listD A s s.heap) (hS : va_S A s.heap H locs) (hsize : ls.size = c.maxLocals)
    (d0 : decode cc pc = .ok (.new ik, 3)) (d3 : decode cc (pc + 3) = .ok (.dup, 1)) (d4 : decode cc (pc + 4) = .ok (.invokespecial ic, 3)) (d7 : decode cc (pc + 7) = .ok (.athrow, 1))
    (hout : ∀ x ∈ c.exceptionTable.toList, covers x (pc + 7) = false)
    (hRframes : names.length + 3 < R.frames) (hRlocals : (rest.map fun v => v.category).sum + (13 * (names.length + 1) + 42) ≤ R.locals) (hRcells : cells + 1 ≤ R.cells) (hRslots : slots + 6 ≤ R.slots) (hlocks : meth.locks = false)
    (hx : ∀ t : State, s.vm.Alike t.vm → H.size ≤ t.heap.size → (∀ q : Nat, q < H.size → t.heap[q]? = H[q]?) → XC cls s t)
    (hf : ∀ z ∈ locs, free z.base) (hc : cells + 1 ≤ mc) (hs : slots + 6 ≤ ms) :
    W p l e R s m args below meth c H locs cells slots (vx_MQ below Qc XC args s mc ms free) (F0 m pc ls rest) := by
  intro T hT X
  have htr : e.platform.stackTraces = false := (show e.platform.stackTraces = l.stackTraces by rw [X.admits.platform]).trans hl
  have Y := vx_rebase X (R' := { frames := R.frames, locals := R.locals, cells := 1, slots := 6 }) (Nat.le_refl _) (Nat.le_refl _) hRcells hRslots
  obtain ⟨s', hA⟩ : ∃ z, z = (T.setVm s.vm).setFrames (.invoking m args :: below) := ⟨_, rfl⟩
  rw [← hA] at Y
  have hvm : s'.vm = s.vm := by rw [hA]; rfl
  have hhp : s'.heap = H := by rw [hA]; exact hT
  have hW0 : s.WarmedH s'.vm := by rw [hvm]; exact State.WarmedH.refl s
  have hat' : ∀ w ∈ vx_at0 own ic cls names, w.before args s' = true := fun w hw => vx_ot_at hW0 hvm.symm (hgood w (List.mem_cons_of_mem _ (List.mem_cons_of_mem _ hw))) (hat w hw)
  have hk' : (Cond.classLink own ik cls).before args s' = true := vx_ot_at hW0 hvm.symm (hgood _ List.mem_cons_self) hk
  have hini' : (Cond.initialized cls).before args s' = true := vx_ot_at hW0 hvm.symm (hgood _ (List.mem_cons_of_mem _ List.mem_cons_self)) hini
  have hU' : vx_Zq Bundle.tN "UNASSIGNED_STACK" Bundle.steD A s' s'.heap := by rw [hhp]; exact vx_Zq.moved hW0.alike (hU.kept hS.2.1)
  have hN' : vx_Zq Bundle.tN "SUPPRESSED_SENTINEL" Bundle.listD A s' s'.heap := by rw [hhp]; exact vx_Zq.moved hW0.alike (hN.kept hS.2.1)
  have h : ∀ w ∈ Bundle.ownAtoms0 own ic cls names, w.before args s' = true := vx_own hat' (vx_isRefq hU'.1) (vx_isRefq hN'.1) hU'.2.word hN'.2.word
  have hown' : s'.vm.findClass own = some m.cls := by rw [hvm]; exact hown
  have hins : (Cond.instantiable cls 6).before args s' = true := h _ (by simp [Bundle.ownAtoms0])
  obtain ⟨vm₁, cX, kX, hfX, hkX, -, -, X₁, st1⟩ := Y.newCold hexec (own := own) (C := cls) (index := ik) (n := 6) hown' hk' hins hini'
    (g := F0 m pc ls rest) rfl (by rw [hb]; exact d0) (Nat.le_refl _) (Nat.le_refl _)
  generalize hT1 : (T.setVm vm₁).pushCell { cls := cX, slots := kX.instanceTypes.map defaultValue, vm := .none } = T1 at X₁ st1
  have hcat : (Value.ref T.heap.size).category = 1 := rfl
  have hcellA : T1.heap[T.heap.size]? = some (freshCell cX kX) := by rw [← hT1]; exact State.heap_pushCell_size _ _
  have d3' : decode c.code (pc + 3) = .ok (.dup, 1) := by rw [hb]; exact d3
  obtain ⟨U, hsteps, hrun, hend, hW, hsame, ce, hce, hO⟩ := X₁.ctorThrow0 hexec htr (own := own) (cls := cls) (names := names) (ic := ic) hown' hcls hnames h (fun x hx => nomatch hx) hfX hkX hcellA (by rw [hhp, hT]; exact Nat.le_refl _)
    (g := { method := m, pc := pc + 4, locals := ls, stack := .ref T.heap.size :: .ref T.heap.size :: rest, locked := none }) rfl hsize rfl rfl (rest := rest) rfl
    (by rw [hb]; exact d4) (by rw [hb]; exact d7) hout hRframes (by simp only [List.map_cons, List.sum_cons, hcat]; omega) hlocks
  obtain ⟨f1, f2⟩ := vx_frame hsame
  rw [hhp] at f1 f2
  have hWs : s.WarmedH U.vm := State.WarmedH.trans hW0 hW
  have hcl : s.vm.findClass cls = some ce.cls := by
    have h9 := hO.cls
    rw [hvm] at h9
    exact h9
  have hall : s.sameButNew ({ U with vm := s.vm } : State) locs mc ms := by
    subst hA
    obtain ⟨e1, e2⟩ := hsame
    rw [State.setFrames_setFrames] at e1
    have h2 : (T.setVm s.vm).sameButNew ({ U with vm := s.vm } : State) [] (0 + 1) (0 + 6) := ⟨e1, e2⟩
    have h3 := X.same.trans h2
    rw [List.append_nil] at h3
    exact h3.mono hc hs
  refine ⟨U, ?_, .threw T.heap.size, hrun, hend, Or.inr ⟨T.heap.size, rfl, cls, ce, locs, hx U hWs.alike f1 (fun q hq => f2 q hq (fun z hz => nomatch hz)), hce, hO.vm, hcl, hWs, hall, hf⟩⟩
  refine st1 _ ?_
  show Steps p.tables e below (T1.setTop { method := m, pc := pc + 3, locals := ls, stack := .ref T.heap.size :: rest, locked := none }) _
  jvm_step X₁.here [X₁.here.top, hexec, d3', Value.category]
  exact hsteps
/-- 'throw new E("text")': new; dup; ldc; invokespecial; athrow -/
theorem vx_throwS {cc : ByteArray} {pc : Nat} (hexec : p.tables.exec = Jvm.exec) (hb : c.code = cc) (hl : l.stackTraces = false) {own cls text : String} {names : List String} {ik is ic mc ms sa : Nat} {A : Nat → Prop}
    (hown : s.vm.findClass own = some m.cls) (hcls : Bundle.fit cls = true) (hnames : ∀ n ∈ names, Bundle.fit n = true)
    (hk : (Cond.classLink own ik cls).before args s = true) (hini : (Cond.initialized cls).before args s = true) (hstr : vk_R own is text sa s) (hat : ∀ w ∈ vx_atS own ic cls names, w.before args s = true)
    (hgood : ∀ w ∈ Cond.classLink own ik cls :: Cond.initialized cls :: vx_atS own ic cls names, vx_ot w = true)
    (hU : vx_Zq Bundle.tN "UNASSIGNED_STACK" Bundle.steD A s s.heap) (hN : vx_Zq Bundle.tN "SUPPRESSED_SENTINEL" Bundle.listD A s s.heap) (hS : va_S A s.heap H locs) (hsize : ls.size = c.maxLocals)
    (d0 : decode cc pc = .ok (.new ik, 3)) (d3 : decode cc (pc + 3) = .ok (.dup, 1)) (d4 : decode cc (pc + 4) = .ok (.ldc is, 2)) (d6 : decode cc (pc + 6) = .ok (.invokespecial ic, 3)) (d9 : decode cc (pc + 9) = .ok (.athrow, 1))
    (hout : ∀ x ∈ c.exceptionTable.toList, covers x (pc + 9) = false)
    (hRframes : names.length + 3 < R.frames) (hRlocals : (rest.map fun v => v.category).sum + (13 * (names.length + 1) + 43) ≤ R.locals) (hRcells : cells + 1 ≤ R.cells) (hRslots : slots + 6 ≤ R.slots) (hlocks : meth.locks = false)
    (hx : ∀ t : State, s.vm.Alike t.vm → H.size ≤ t.heap.size → (∀ q : Nat, q < H.size → t.heap[q]? = H[q]?) → XC cls s t)
    (hf : ∀ z ∈ locs, free z.base) (hc : cells + 1 ≤ mc) (hs : slots + 6 ≤ ms) :
    W p l e R s m args below meth c H locs cells slots (vx_MQ below Qc XC args s mc ms free) (F0 m pc ls rest) := by
  intro T hT X
  have htr : e.platform.stackTraces = false := (show e.platform.stackTraces = l.stackTraces by rw [X.admits.platform]).trans hl
  have Y := vx_rebase X (R' := { frames := R.frames, locals := R.locals, cells := 1, slots := 6 }) (Nat.le_refl _) (Nat.le_refl _) hRcells hRslots
  obtain ⟨s', hA⟩ : ∃ z, z = (T.setVm s.vm).setFrames (.invoking m args :: below) := ⟨_, rfl⟩
  rw [← hA] at Y
  have hvm : s'.vm = s.vm := by rw [hA]; rfl
  have hhp : s'.heap = H := by rw [hA]; exact hT
  have hW0 : s.WarmedH s'.vm := by rw [hvm]; exact State.WarmedH.refl s
  have hat' : ∀ w ∈ vx_atS own ic cls names, w.before args s' = true := fun w hw => vx_ot_at hW0 hvm.symm (hgood w (List.mem_cons_of_mem _ (List.mem_cons_of_mem _ hw))) (hat w hw)
  have hk' : (Cond.classLink own ik cls).before args s' = true := vx_ot_at hW0 hvm.symm (hgood _ List.mem_cons_self) hk
  have hini' : (Cond.initialized cls).before args s' = true := vx_ot_at hW0 hvm.symm (hgood _ (List.mem_cons_of_mem _ List.mem_cons_self)) hini
  have hU' : vx_Zq Bundle.tN "UNASSIGNED_STACK" Bundle.steD A s' s'.heap := by rw [hhp]; exact vx_Zq.moved hW0.alike (hU.kept hS.2.1)
  have hN' : vx_Zq Bundle.tN "SUPPRESSED_SENTINEL" Bundle.listD A s' s'.heap := by rw [hhp]; exact vx_Zq.moved hW0.alike (hN.kept hS.2.1)
  have h : ∀ w ∈ Bundle.ownAtoms own ic cls names, w.before args s' = true := vx_own hat' (vx_isRefq hU'.1) (vx_isRefq hN'.1) hU'.2.word hN'.2.word
  have hown' : s'.vm.findClass own = some m.cls := by rw [hvm]; exact hown
  have hins : (Cond.instantiable cls 6).before args s' = true := h _ (by simp [Bundle.ownAtoms])
  obtain ⟨vm₁, cX, kX, hfX, hkX, -, -, X₁, st1⟩ := Y.newCold hexec (own := own) (C := cls) (index := ik) (n := 6) hown' hk' hins hini'
    (g := F0 m pc ls rest) rfl (by rw [hb]; exact d0) (Nat.le_refl _) (Nat.le_refl _)
  generalize hT1 : (T.setVm vm₁).pushCell { cls := cX, slots := kX.instanceTypes.map defaultValue, vm := .none } = T1 at X₁ st1
  have hcat : (Value.ref T.heap.size).category = 1 := rfl
  have hcellA : T1.heap[T.heap.size]? = some (freshCell cX kX) := by rw [← hT1]; exact State.heap_pushCell_size _ _
  have d3' : decode c.code (pc + 3) = .ok (.dup, 1) := by rw [hb]; exact d3
  have d4' : decode c.code (pc + 4) = .ok (.ldc is, 2) := by rw [hb]; exact d4
  have hstr' : vk_R own is text sa s' := vk_R.warm hW0 hstr
  obtain ⟨U, hsteps, hrun, hend, hW, hsame, ce, hce, hO⟩ := X₁.ctorThrowS hexec htr (own := own) (cls := cls) (names := names) (ic := ic) hown' hcls hnames h (fun x hx => nomatch hx) hfX hkX hcellA (by rw [hhp, hT]; exact Nat.le_refl _) (msg := .ref sa) rfl
    (g := { method := m, pc := pc + 6, locals := ls, stack := .ref sa :: .ref T.heap.size :: .ref T.heap.size :: rest, locked := none }) rfl hsize rfl rfl (rest := rest) rfl
    (by rw [hb]; exact d6) (by rw [hb]; exact d9) hout hRframes (by simp only [List.map_cons, List.sum_cons, hcat]; omega) hlocks
  obtain ⟨f1, f2⟩ := vx_frame hsame
  rw [hhp] at f1 f2
  have hWs : s.WarmedH U.vm := State.WarmedH.trans hW0 hW
  have hcl : s.vm.findClass cls = some ce.cls := by
    have h9 := hO.cls
    rw [hvm] at h9
    exact h9
  have hall : s.sameButNew ({ U with vm := s.vm } : State) locs mc ms := by
    subst hA
    obtain ⟨e1, e2⟩ := hsame
    rw [State.setFrames_setFrames] at e1
    have h2 : (T.setVm s.vm).sameButNew ({ U with vm := s.vm } : State) [] (0 + 1) (0 + 6) := ⟨e1, e2⟩
    have h3 := X.same.trans h2
    rw [List.append_nil] at h3
    exact h3.mono hc hs
  refine ⟨U, ?_, .threw T.heap.size, hrun, hend, Or.inr ⟨T.heap.size, rfl, cls, ce, locs, hx U hWs.alike f1 (fun q hq => f2 q hq (fun z hz => nomatch hz)), hce, hO.vm, hcl, hWs, hall, hf⟩⟩
  refine st1 _ ?_
  show Steps p.tables e below (T1.setTop { method := m, pc := pc + 3, locals := ls, stack := .ref T.heap.size :: rest, locked := none }) _
  jvm_step X₁.here [X₁.here.top, hexec, d3', Value.category]
  exact X₁.ldcString hexec (own := own) (text := text) (index := is) (a := sa) hown' hstr'.1 hstr'.2
    (g := { method := m, pc := pc + 4, locals := ls, stack := .ref T.heap.size :: .ref T.heap.size :: rest, locked := none }) rfl d4' _ hsteps
/-- 'throw new E("text")', the text by a wide index -/
theorem vx_throwSW {cc : ByteArray} {pc : Nat} (hexec : p.tables.exec = Jvm.exec) (hb : c.code = cc) (hl : l.stackTraces = false) {own cls text : String} {names : List String} {ik is ic mc ms sa : Nat} {A : Nat → Prop}
    (hown : s.vm.findClass own = some m.cls) (hcls : Bundle.fit cls = true) (hnames : ∀ n ∈ names, Bundle.fit n = true)
    (hk : (Cond.classLink own ik cls).before args s = true) (hini : (Cond.initialized cls).before args s = true) (hstr : vk_R own is text sa s) (hat : ∀ w ∈ vx_atS own ic cls names, w.before args s = true)
    (hgood : ∀ w ∈ Cond.classLink own ik cls :: Cond.initialized cls :: vx_atS own ic cls names, vx_ot w = true)
    (hU : vx_Zq Bundle.tN "UNASSIGNED_STACK" Bundle.steD A s s.heap) (hN : vx_Zq Bundle.tN "SUPPRESSED_SENTINEL" Bundle.listD A s s.heap) (hS : va_S A s.heap H locs) (hsize : ls.size = c.maxLocals)
    (d0 : decode cc pc = .ok (.new ik, 3)) (d3 : decode cc (pc + 3) = .ok (.dup, 1)) (d4 : decode cc (pc + 4) = .ok (.ldc_w is, 3)) (d7 : decode cc (pc + 7) = .ok (.invokespecial ic, 3)) (d10 : decode cc (pc + 10) = .ok (.athrow, 1))
    (hout : ∀ x ∈ c.exceptionTable.toList, covers x (pc + 10) = false)
    (hRframes : names.length + 3 < R.frames) (hRlocals : (rest.map fun v => v.category).sum + (13 * (names.length + 1) + 43) ≤ R.locals) (hRcells : cells + 1 ≤ R.cells) (hRslots : slots + 6 ≤ R.slots) (hlocks : meth.locks = false)
    (hx : ∀ t : State, s.vm.Alike t.vm → H.size ≤ t.heap.size → (∀ q : Nat, q < H.size → t.heap[q]? = H[q]?) → XC cls s t)
    (hf : ∀ z ∈ locs, free z.base) (hc : cells + 1 ≤ mc) (hs : slots + 6 ≤ ms) :
    W p l e R s m args below meth c H locs cells slots (vx_MQ below Qc XC args s mc ms free) (F0 m pc ls rest) := by
  intro T hT X
  have htr : e.platform.stackTraces = false := (show e.platform.stackTraces = l.stackTraces by rw [X.admits.platform]).trans hl
  have Y := vx_rebase X (R' := { frames := R.frames, locals := R.locals, cells := 1, slots := 6 }) (Nat.le_refl _) (Nat.le_refl _) hRcells hRslots
  obtain ⟨s', hA⟩ : ∃ z, z = (T.setVm s.vm).setFrames (.invoking m args :: below) := ⟨_, rfl⟩
  rw [← hA] at Y
  have hvm : s'.vm = s.vm := by rw [hA]; rfl
  have hhp : s'.heap = H := by rw [hA]; exact hT
  have hW0 : s.WarmedH s'.vm := by rw [hvm]; exact State.WarmedH.refl s
  have hat' : ∀ w ∈ vx_atS own ic cls names, w.before args s' = true := fun w hw => vx_ot_at hW0 hvm.symm (hgood w (List.mem_cons_of_mem _ (List.mem_cons_of_mem _ hw))) (hat w hw)
  have hk' : (Cond.classLink own ik cls).before args s' = true := vx_ot_at hW0 hvm.symm (hgood _ List.mem_cons_self) hk
  have hini' : (Cond.initialized cls).before args s' = true := vx_ot_at hW0 hvm.symm (hgood _ (List.mem_cons_of_mem _ List.mem_cons_self)) hini
  have hU' : vx_Zq Bundle.tN "UNASSIGNED_STACK" Bundle.steD A s' s'.heap := by rw [hhp]; exact vx_Zq.moved hW0.alike (hU.kept hS.2.1)
  have hN' : vx_Zq Bundle.tN "SUPPRESSED_SENTINEL" Bundle.listD A s' s'.heap := by rw [hhp]; exact vx_Zq.moved hW0.alike (hN.kept hS.2.1)
  have h : ∀ w ∈ Bundle.ownAtoms own ic cls names, w.before args s' = true := vx_own hat' (vx_isRefq hU'.1) (vx_isRefq hN'.1) hU'.2.word hN'.2.word
  have hown' : s'.vm.findClass own = some m.cls := by rw [hvm]; exact hown
  have hins : (Cond.instantiable cls 6).before args s' = true := h _ (by simp [Bundle.ownAtoms])
  obtain ⟨vm₁, cX, kX, hfX, hkX, -, -, X₁, st1⟩ := Y.newCold hexec (own := own) (C := cls) (index := ik) (n := 6) hown' hk' hins hini'
    (g := F0 m pc ls rest) rfl (by rw [hb]; exact d0) (Nat.le_refl _) (Nat.le_refl _)
  generalize hT1 : (T.setVm vm₁).pushCell { cls := cX, slots := kX.instanceTypes.map defaultValue, vm := .none } = T1 at X₁ st1
  have hcat : (Value.ref T.heap.size).category = 1 := rfl
  have hcellA : T1.heap[T.heap.size]? = some (freshCell cX kX) := by rw [← hT1]; exact State.heap_pushCell_size _ _
  have d3' : decode c.code (pc + 3) = .ok (.dup, 1) := by rw [hb]; exact d3
  have d4' : decode c.code (pc + 4) = .ok (.ldc_w is, 3) := by rw [hb]; exact d4
  have hstr' : vk_R own is text sa s' := vk_R.warm hW0 hstr
  obtain ⟨U, hsteps, hrun, hend, hW, hsame, ce, hce, hO⟩ := X₁.ctorThrowS hexec htr (own := own) (cls := cls) (names := names) (ic := ic) hown' hcls hnames h (fun x hx => nomatch hx) hfX hkX hcellA (by rw [hhp, hT]; exact Nat.le_refl _) (msg := .ref sa) rfl
    (g := { method := m, pc := pc + 7, locals := ls, stack := .ref sa :: .ref T.heap.size :: .ref T.heap.size :: rest, locked := none }) rfl hsize rfl rfl (rest := rest) rfl
    (by rw [hb]; exact d7) (by rw [hb]; exact d10) hout hRframes (by simp only [List.map_cons, List.sum_cons, hcat]; omega) hlocks
  obtain ⟨f1, f2⟩ := vx_frame hsame
  rw [hhp] at f1 f2
  have hWs : s.WarmedH U.vm := State.WarmedH.trans hW0 hW
  have hcl : s.vm.findClass cls = some ce.cls := by
    have h9 := hO.cls
    rw [hvm] at h9
    exact h9
  have hall : s.sameButNew ({ U with vm := s.vm } : State) locs mc ms := by
    subst hA
    obtain ⟨e1, e2⟩ := hsame
    rw [State.setFrames_setFrames] at e1
    have h2 : (T.setVm s.vm).sameButNew ({ U with vm := s.vm } : State) [] (0 + 1) (0 + 6) := ⟨e1, e2⟩
    have h3 := X.same.trans h2
    rw [List.append_nil] at h3
    exact h3.mono hc hs
  refine ⟨U, ?_, .threw T.heap.size, hrun, hend, Or.inr ⟨T.heap.size, rfl, cls, ce, locs, hx U hWs.alike f1 (fun q hq => f2 q hq (fun z hz => nomatch hz)), hce, hO.vm, hcl, hWs, hall, hf⟩⟩
  refine st1 _ ?_
  show Steps p.tables e below (T1.setTop { method := m, pc := pc + 3, locals := ls, stack := .ref T.heap.size :: rest, locked := none }) _
  jvm_step X₁.here [X₁.here.top, hexec, d3', Value.category]
  exact X₁.ldcStringW hexec (own := own) (text := text) (index := is) (a := sa) hown' hstr'.1 hstr'.2
    (g := { method := m, pc := pc + 4, locals := ls, stack := .ref T.heap.size :: .ref T.heap.size :: rest, locked := none }) rfl d4' _ hsteps
end Ends
section Bodies
variable {l : Launch}
theorem vx_ofW {y : MethodName} {ws ws' : List Cond} {rm : Room} {Pc : Array Value → State → Prop} {Qc : Array Value → State → Outcome → State → Prop} {XC : String → State → State → Prop} {mc ms : Nat} {free : Addr → Prop} {cc : ByteArray} {maxL : Nat} {ret : Option FieldType}
    (hy : plainName y.cls = true) (hw : ws = Cond.code y cc maxL ret :: ws')
    (body : ∀ p e s m args below meth c s₁, BodyLoose p l y (headSpec ws rm) cc maxL ret e s m args below meth c s₁ → c.maxLocals = maxL → (∀ x ∈ c.exceptionTable.toList, False) → Pc args s →
      W p l e (headSpec ws rm).room s m args below meth c s.heap [] 0 0 (vx_MQ below Qc XC args s mc ms free) (entryFrame m args maxL)) : vx_Met l y ws rm Pc Qc XC mc ms free := by
  refine MetFree.of_bodyS (code := cc) (maxLocals := maxL) (ret := ret) hy ?_ ?_
  · intro args s m h hn
    obtain ⟨meth, c, h1, h2, h3, h4, h5, h6, -, -⟩ := Cond.code_spec hn (atoms_spec (ws := ws) h _ (by rw [hw]; exact List.mem_cons_self))
    exact ⟨meth, c, h1, h2, h3, h4, h5, h6⟩
  · intro p e s m args below meth c s₁ B hml hP _
    have hh0 : s₁.heap = s.heap := by rw [B.state]; rfl
    have ht : ∀ x ∈ c.exceptionTable.toList, False := by
      obtain ⟨meth9, c9, h1, h2, -, -, -, -, h7, -⟩ := Cond.code_spec B.named (atoms_spec (ws := ws) B.pre _ (by rw [hw]; exact List.mem_cons_self))
      cases Option.some.inj (h1.symm.trans B.method)
      cases Option.some.inj (h2.symm.trans (Stand.of_body B).code)
      intro x hx
      rw [Array.isEmpty_iff.mp h7] at hx
      cases hx
    obtain ⟨t, a1, o, b1, b2, b3⟩ := body p e s m args below meth c s₁ B hml ht hP s₁ hh0 (Stand.of_body B)
    exact ⟨t, o, a1, b1, b2, b3⟩
/-- the table of a body with handlers -/
theorem vx_table {p : Program} {x y : MethodName} {S : Spec} {cc bytes : ByteArray} {maxL maxL' : Nat} {ret ret' : Option FieldType} {e : Env} {s s₁ : State} {m : MethodId} {args : Array Value} {below : List Frame} {meth : Method} {c : Code} {hh : List (Nat × Nat × Nat × Nat)}
    (B : BodyLoose p l y S cc maxL ret e s m args below meth c s₁) (h : (Cond.codeWith y bytes maxL' ret' hh).before args s = true) : c.exceptionTable.toList = tableOf hh := by
  obtain ⟨m9, meth9, c9, hn9, h1, h2, -, -, h6, -⟩ := Cond.codeWith_spec h
  cases Option.some.inj (hn9.symm.trans B.named)
  cases Option.some.inj (h1.symm.trans B.method)
  cases Option.some.inj (h2.symm.trans (Stand.of_body B).code)
  rw [← h6, table_eq]
end Bodies
end VXA
/-! ===== END ===== -/
/-! ===== BEGIN a static call of a method with an exception table ===== -/
section VXS
variable {p : Program} {l : Launch} {e : Env} {R : Room} {s : State} {m : MethodId} {args : Array Value} {below : List Frame} {meth : Method} {c : Code} {T : State} {H : Heap} {locs : List Loc} {cells slots : Nat}
abbrev vx_CSW (R : Room) (s : State) (args : Array Value) (own : String) (index : Nat) (y : MethodName) (bytes : ByteArray) (maxL : Nat) (ret : Option FieldType) (hh : List (Nat × Nat × Nat × Nat)) (ws : List Cond) (rm : Room) (mc ms n : Nat) : Prop :=
  (rm.cells = mc ∧ rm.slots = ms ∧ rm.frames + 1 ≤ R.frames ∧ 8 + (maxL + 11) + rm.locals ≤ R.locals ∧ (∀ w ∈ ws, ∀ (a' : Array Value) (U : State), s.WarmedH U.vm → w.before a' U = true) ∧ Cond.codeWith y bytes maxL ret hh ∈ ws) ∧
  (Cond.codeWith y bytes maxL ret hh).before args s = true ∧ (Cond.initialized y.cls).before args s = true ∧ (y.cls ≠ "java/lang/invoke/MethodHandle" ∧ y.cls ≠ "java/lang/invoke/VarHandle") ∧
  (∀ sig, parseMethodDescriptor y.desc = some sig → n = sig.parameters.length) ∧ (Cond.methodLink own index y).before args s = true ∧ (Cond.static y).before args s = true
theorem vx_cwSW {own : String} {index maxL mc ms : Nat} {y : MethodName} {bytes : ByteArray} {ret : Option FieldType} {hh : List (Nat × Nat × Nat × Nat)} {Ts ws ws' : List Cond} {rm : Room} (n : Nat) (ht : ∀ w ∈ Ts, w.before args s = true) (hT : GoodIn Ts (va_wsS own index y ws)) (hw : ws = Cond.codeWith y bytes maxL ret hh :: ws') (hrc : rm.cells = mc) (hrs : rm.slots = ms)
    (hd : y.cls ≠ "java/lang/invoke/MethodHandle" ∧ y.cls ≠ "java/lang/invoke/VarHandle" ∧ (parseMethodDescriptor y.desc).map (fun d => d.parameters.length) = some n) (hR : rm.frames + 1 ≤ R.frames ∧ 8 + (maxL + 11) + rm.locals ≤ R.locals) :
    vx_CSW R s args own index y bytes maxL ret hh ws rm mc ms n := by
  have ok : ∀ w ∈ va_wsS own index y ws, w.before args s = true := fun w h => ht w (hT w h).1
  have hG : GoodIn Ts ws := fun w h => hT w (by unfold va_wsS; exact List.mem_append_right _ h)
  have hc : Cond.codeWith y bytes maxL ret hh ∈ ws := by rw [hw]; exact List.mem_cons_self
  refine ⟨⟨hrc, hrs, hR.1, hR.2, pay_in ht hG, hc⟩, ht _ (hG _ hc).1, ok _ (by simp [va_wsS]), ⟨hd.1, hd.2.1⟩, fun sig h => ?_, ok _ (by simp [va_wsS]), ok _ (by simp [va_wsS])⟩
  have h2 := hd.2.2
  rw [h] at h2
  exact (Option.some.inj h2).symm
theorem vx_callSW (X : Stand p l e R s m args below meth c T locs cells slots) (hexec : p.tables.exec = Jvm.exec) {own : String} {index : Nat} {y : MethodName} {bytes : ByteArray} {maxL : Nat} {ret : Option FieldType} {hh : List (Nat × Nat × Nat × Nat)}
    (hown : s.vm.findClass own = some m.cls) (hlink : (Cond.methodLink own index y).before args s = true) (hstat : (Cond.static y).before args s = true) (hinit : (Cond.initialized y.cls).before args s = true)
    (hcode : (Cond.codeWith y bytes maxL ret hh).before args s = true) (hy : y.cls ≠ "java/lang/invoke/MethodHandle" ∧ y.cls ≠ "java/lang/invoke/VarHandle")
    {W9 : Nat} {Pre : Pt → Array Value → Prop} {Post : Pt → Array Value → Option Value → Pt → Prop} (hK : Back l R p e below s args y 3 W9 Pre Post)
    {g : JFrame} (hg : g.method = m) (hsize : g.locals.size = c.maxLocals) {argsL rest : List Value} (hlen : ∀ sig, parseMethodDescriptor y.desc = some sig → argsL.length = sig.parameters.length)
    (hstack : g.stack = argsL.reverse ++ rest) (hW : 2 * g.monitorRoom + (rest.map fun v => v.category).sum ≤ W9) (hdg : decode c.code g.pc = .ok (.invokestatic index, 3))
    (hpre : ∀ vm₁, s.WarmedH vm₁ → Pre ⟨T.setVm vm₁, locs, cells, slots⟩ argsL.toArray) :
    ∃ (v : Option Value) (vm₁ : Vm) (B : Pt), s.WarmedH vm₁ ∧ Stand p l e R s m args below meth c B.U B.locs B.cells B.slots ∧ Post ⟨T.setVm vm₁, locs, cells, slots⟩ argsL.toArray v B ∧
      ∀ target, Steps p.tables e below (B.U.setTop { g with pc := g.pc + 3, stack := v.toList ++ rest }) target → Steps p.tables e below (T.setTop g) target := by
  obtain ⟨mk, methM, cM, hnamed, hmethM, -, -, -, -, -, -, hsigM⟩ := Cond.codeWith_spec hcode
  have hstatic : methM.isStatic = true := Cond.static_spec hnamed hmethM hstat
  obtain ⟨kP, hkP, -⟩ := className_of_methodNamed hnamed
  have hinitP : kP.init = .initialized := Cond.initialized_spec (findClass_of_methodNamed hnamed) hkP hinit
  obtain ⟨vm₁, X₁, hstep₁⟩ := X.invokestatic hexec hown hlink hnamed hmethM hstatic hkP hinitP hy (g := g) hg (argsL := argsL) (rest := rest) (hlen _ hsigM) hstack hdg
  obtain ⟨v, B, X', hpost, hsteps⟩ := hK m meth c ⟨T.setVm vm₁, locs, cells, slots⟩ { g with stack := rest } (.invokestatic index) mk argsL.toArray X₁ hg hsize hdg hW (X₁.named hnamed) (hpre vm₁ X₁.warmed)
  exact ⟨v, vm₁, B, X₁.warmed, X', hpost, fun target h => hstep₁ _ fun acts => by rw [doInvoke_state]; exact hsteps.trans h⟩
theorem vx_runSW {y : MethodName} {bytes cc : ByteArray} {maxL nL mc ms n index : Nat} {ret : Option FieldType} {hh : List (Nat × Nat × Nat × Nat)} {ws : List Cond} {rm : Room} {Pc : Array Value → State → Prop} {Qc : Array Value → State → Outcome → State → Prop} {free : Addr → Prop} {Ts : List Cond} {own : String} {As rest : List Value} {g : JFrame}
    (S : CallFix p m c cc nL s args Ts own) (hM : Met l y ws rm Pc Qc mc ms free) (cw : vx_CSW R s args own index y bytes maxL ret hh ws rm mc ms n) (hp : PreS s H Pc As)
    (hg : g.method = m) (hn : As.length = n) (hsize : g.locals.size = nL) (hstack : g.stack = As.reverse ++ rest) (hW : 2 * g.monitorRoom + (rest.map fun v => v.category).sum ≤ 8) (hdg : decode cc g.pc = .ok (.invokestatic index, 3)) (hf : cells + mc ≤ R.cells ∧ slots + ms ≤ R.slots) :
    va_Run p l e R s m args below meth c H locs cells slots mc ms g rest (Qc As.toArray) (free) := by
  obtain ⟨⟨hrc, hrs, hfr, hlo, hws, hcw⟩, hcode, hini, hy, hlen, hl, hstt⟩ := cw
  have hK : Back l R p e below s args y 3 8 (PreOf R mc ms Pc) (PostOf Qc mc ms free) := va_backW (hh := hh) (bytes := bytes) (maxL := maxL) (ret := ret) hM hp.1 hrc hrs hfr hlo hws hcw (fun a' U hW => word_at hW (Or.inl (by first | rfl | simp [Cond.onTables, Cond.keeps, Cond.steady])) hini)
  obtain ⟨hx, hb, hml, ho, -⟩ := S
  intro T hT X
  obtain ⟨v, vm₁, ⟨U', l2, c2, s2⟩, hW₁, X', ⟨g', mk, t, L, e1, e2, hq, h1, hL, h2, h3⟩, st⟩ := vx_callSW X hx (hh := hh) (bytes := bytes) (maxL := maxL) (ret := ret) ho hl hstt hini hcode hy hK hg (hsize.trans hml.symm) (argsL := As) (rest := rest) (fun sig h => hn.trans (hlen sig h)) hstack hW (by rw [hb]; exact hdg)
    (fun vm₁ hW₁ => ⟨hf.1, hf.2, hp.2 (T.setVm vm₁) hT hW₁⟩)
  dsimp only [Pt.U, Pt.locs, Pt.cells, Pt.slots] at X' e1 e2 h1 h2 h3 st
  subst h1; subst h2; subst h3
  exact ⟨v, (T.setVm vm₁).calling g' mk As.toArray, t, U', L, hT, X', hL, e1, e2, hq, st⟩
/-- not caught here, past rows that name other classes: it goes on to the caller -/
theorem vx_outP {p : Program} {l : Launch} {e : Env} {R : Room} {s : State} {m : MethodId} {args : Array Value} {below : List Frame} {meth : Method} {c : Code} {H : Heap} {locs : List Loc} {cells slots : Nat} {free : Addr → Prop} {ls : Array Slot} {rest : List Value} {Qc : Array Value → State → Outcome → State → Prop} {XC : String → State → State → Prop}
    {pc : Nat} {own E : String} {ce : Cell} {q : Addr} {mc ms : Nat} (hown : s.vm.findClass own = some m.cls) (hlocks : meth.locks = false)
    (hpass : ∀ z ∈ c.exceptionTable.toList, covers z pc = false ∨ (z.catchType ≠ 0 ∧ ∃ nm : String, (Cond.classLink own z.catchType nm).before args s = true ∧ va_Nc E nm s)) (hcell : H[q]? = some ce) (hv : ce.vm = .none) (hcl : s.vm.findClass E = some ce.cls)
    (hx : ∀ t : State, t.heap = H → s.vm.Alike t.vm → XC E s t) (hf : ∀ z ∈ locs, free z.base) (hc : cells ≤ mc) (hs : slots ≤ ms) :
    vx_W p l e R s m args below meth c H locs cells slots (vx_MQ below Qc XC args s mc ms free) (F0 m pc ls rest) q := by
  intro T hT X
  have hpl : e.platform.magicAccessors = ({} : Platform).magicAccessors := by rw [X.admits.platform]
  obtain ⟨vm', hW', X', st⟩ := X.outThrough hlocks q (g := F0 m pc ls rest) rfl rfl rfl (cell := ce) (by rw [hT]; exact hcell) (by rw [hv]; rfl)
    (by obtain ⟨k9, h9, -⟩ := Vm.findClass_spec hcl; exact ⟨k9, h9⟩) (fun z hz => by
      rcases hpass z hz with h | ⟨hz0, nm, hl1, hn1⟩
      · exact Or.inl h
      · obtain ⟨c6, hc6, hcl6⟩ := Cond.classLink_spec hown hl1 e.platform hpl
        obtain ⟨a8, b8, h1, h2, h3⟩ := hn1
        cases Option.some.inj (h1.symm.trans hcl)
        cases Option.some.inj (h2.symm.trans hc6)
        exact Or.inr ⟨hz0, _, hcl6, h3⟩)
  obtain ⟨g₀, hfr⟩ := X'.frames_eq
  have hcell9 : ((T.setVm vm').setFrames (.throwing q :: below)).heap[q]? = some ce := by
    show T.heap[q]? = some ce
    rw [hT]; exact hcell
  have hend : Ended ((T.setVm vm').setFrames (.throwing q :: below)) below (.threw q) := State.frames_setFrames _ (State.cur_lt_of_frames hfr)
  refine ⟨(T.setVm vm').setFrames (.throwing q :: below), ?_, .threw q, X'.here.running, hend, Or.inr ⟨q, rfl, E, ce, locs, hx _ hT (X'.ends _).1.alike, hcell9, hv, hcl, (X'.ends _).1, (X'.ends _).2.mono hc hs, hf⟩⟩
  rw [X.pushThrowing_eq]
  exact st
/-- a thing of a world lies in the heap -/
theorem vx_lt {D : va_G} {cl : List vw_C} {ws : va_W} {H1 : Heap} (h : va_P D cl ws H1) {k : Nat} {q : Nat × va_E} (hk : ws[k]? = some q) : q.1 < H1.size := (h k q hk).lt
end VXS
/-! ===== END ===== -/
/-! ===== BEGIN methods with a table of their own: called by a name, returning or throwing ===== -/
section VXH
/-! vx_backW, vx_callVX, vx_callSX, vx_callVW, vx_runVW, vx_runVX, vx_runSX, vx_ofWH follow the same proofs as their sisters above (Free/Laws.lean, Shelf42/LK1.lean); vx_outP calls Shelf42/NT130.lean (outThrough). -/
section
variable {l : Launch} {R : Room} {p : Program} {e : Env} {below : List Frame} {s : State} {sargs : Array Value} {y : MethodName} {len W9 : Nat}
theorem vx_backW {ws : List Cond} {rm : Room} {Pc : Array Value → State → Prop} {Qc : Array Value → State → Outcome → State → Prop} {XC : String → State → State → Prop} {mc ms : Nat} {free : Addr → Prop} {bytes : ByteArray} {maxL : Nat} {ret : Option FieldType} {hh : List (Nat × Nat × Nat × Nat)}
    (hM : vx_Met l y ws rm Pc Qc XC mc ms free) (hblind : FrameBlind Pc) (hrc : rm.cells = mc) (hrs : rm.slots = ms)
    (hframes : rm.frames + 1 ≤ R.frames) (hlocals : W9 + (maxL + 11) + rm.locals ≤ R.locals)
    (hws : ∀ w ∈ ws, ∀ a' U, s.WarmedH U.vm → w.before a' U = true) (hcode : Cond.codeWith y bytes maxL ret hh ∈ ws) (hinit : ∀ a' U, s.WarmedH U.vm → (Cond.initialized y.cls).before a' U = true) :
    vx_Back l R p e below s sargs y len W9 (PreOf R mc ms Pc) (PostOf Qc mc ms free) (vx_Post XC mc ms free) := by
  intro m meth c A g ig mk a X hg hsize hdg hW hn hp
  have h1 : (headSpec ws rm).pre.before a A.U = true := atoms_intro fun w hw => hws w hw _ _ X.warmed
  have h2 : (Cond.codeWith y bytes maxL ret hh).before a A.U = true := hws _ hcode _ _ X.warmed
  have h3 : (Cond.initialized y.cls).before a A.U = true := hinit _ _ X.warmed
  have h4 : A.cells + (headSpec ws rm).room.cells ≤ R.cells := by rw [show (headSpec ws rm).room.cells = mc from hrc]; exact hp.1
  have h5 : A.slots + (headSpec ws rm).room.slots ≤ R.slots := by rw [show (headSpec ws rm).room.slots = ms from hrs]; exact hp.2.1
  have hPc : Pc a (A.U.calling g mk a) := hblind _ _ _ _ hp.2.2
  obtain ⟨U, Ls, c0, s0⟩ := A
  dsimp only [Pt.U, Pt.locs, Pt.cells, Pt.slots] at h1 h2 h3 h4 h5 X hn hPc ⊢
  obtain ⟨m9, methY, cY, hn9, hmY, hcY, -, hlY, -⟩ := Cond.codeWith_spec h2
  cases Option.some.inj (hn9.symm.trans hn)
  obtain ⟨kY, hkY, -⟩ := className_of_methodNamed hn
  have hinitY : kY.init = .initialized := Cond.initialized_spec (findClass_of_methodNamed hn) hkY h3
  have h : At U g.method c below := by rw [hg]; exact X.here
  have hlocals9 : W9 + (maxL + 11) + (headSpec ws rm).room.locals ≤ R.locals := hlocals
  have happ : (headSpec ws rm).appliesLoose y e.platform (U.calling g mk a) = true :=
    Spec.appliesLoose_calling (g := g) h hdg hn hkY hinitY
      (X.room_calling (g := g) (R' := (headSpec ws rm).room) hsize hmY hcY hframes (by rw [hlY]; omega) h4 h5) h1
  obtain ⟨mid, hmid⟩ := h.above
  have hfr : (U.setTop g).frames = (.java g :: mid) ++ below := by rw [State.frames_setTop' g h.top, hmid]; rfl
  obtain ⟨o, s₂, hsteps, -, hend, hq⟩ := Steps.callFree hM p X.admits X.cas X.clock (acts := []) hfr happ hPc trivial
  have hq' : vx_Q Qc XC mc ms free a (U.calling g mk a) o s₂ := hq
  rw [State.frames_setTop' g h.top] at hend
  obtain ⟨g₀, hg0⟩ := Option.isSome_iff_exists.mp h.top
  obtain ⟨r, hr⟩ := State.topJava?_eq_some.mp hg0
  have hr' : (({ U with heap := s₂.heap, slotsUsed := s₂.slotsUsed } : State).setVm s₂.vm).frames = .java g₀ :: r := hr
  rcases hq' with ⟨hqc, L, hfe, hL⟩ | ⟨q, rfl, E, ce, L, hx, hce, hcv, hcl, hW₂, hsm, hL⟩
  · obtain ⟨⟨v, rfl⟩, hW₂, e2, q2, q3, q4, q5, q6⟩ := id hfe
    have e3 : s₂ = ({ (U.calling g mk a).setFrames s₂.frames with heap := s₂.heap, slotsUsed := s₂.slotsUsed } : State).setVm s₂.vm := by
      have : s₂ = ({ s₂ with vm := (U.calling g mk a).vm } : State).setVm s₂.vm := rfl
      rw [e2] at this
      exact this
    obtain ⟨c₂, i₂, len₂, hc₂, hd₂, hf₂⟩ := hend
    have hW' : U.WarmedH s₂.vm := hW₂
    have hcc : c₂ = c := by
      have h1 : s₂.code? g.method = U.code? g.method := by
        rw [State.code?_eq, State.code?_eq, hW'.alike.method?]
      exact Option.some.inj (hc₂.symm.trans (h1.trans h.code))
    subst hcc
    have hlen : len₂ = len := by rw [hdg] at hd₂; cases hd₂; rfl
    subst hlen
    have hs₂ : s₂ = (({ U with heap := s₂.heap, slotsUsed := s₂.slotsUsed } : State).setVm s₂.vm).setTop { g with pc := g.pc + len₂, stack := v.toList ++ g.stack } := by
      refine e3.trans ?_
      rw [hf₂, State.calling_eq h.top, State.setFrames_setFrames, State.setTop_of_frames _ hr', hr]
      rfl
    have hsame : U.sameButNew ({ U with heap := s₂.heap, slotsUsed := s₂.slotsUsed } : State) L mc ms := by
      refine ⟨?_, q2, q3, q4, q5, q6⟩
      obtain ⟨t, ht, -⟩ := State.frames_cons hr
      show ({ U with heap := s₂.heap, slotsUsed := s₂.slotsUsed } : State) = { U.setFrames U.frames with heap := s₂.heap, slotsUsed := s₂.slotsUsed }
      rw [State.setFrames_self ht]
    subst hg
    refine Or.inl ⟨v, ⟨(({ U with heap := s₂.heap, slotsUsed := s₂.slotsUsed } : State).setVm s₂.vm), Ls ++ L, c0 + mc, s0 + ms⟩,
      ⟨X.admits, X.cas, X.clock, X.frames, X.room, X.hears, X.method, X.code, (X.here.setHeapUsed s₂.heap s₂.slotsUsed).setVm hW'.alike, X.tail, State.WarmedH.trans X.warmed hW', X.limits, X.bytes, X.same.trans (hsame.setVm s.vm)⟩,
      ⟨g, mk, s₂, L, rfl, rfl, hqc, rfl, hL, rfl, rfl⟩, ?_⟩
    show Steps p.tables e below _ ((({ U with heap := s₂.heap, slotsUsed := s₂.slotsUsed } : State).setVm s₂.vm).setTop { g with pc := g.pc + len₂, stack := v.toList ++ g.stack })
    rw [← hs₂]
    exact hsteps
  · obtain ⟨e2, q2, q3, q4, q5, q6⟩ := id hsm
    have e3 : s₂ = ({ (U.calling g mk a).setFrames s₂.frames with heap := s₂.heap, slotsUsed := s₂.slotsUsed } : State).setVm s₂.vm := by
      have : s₂ = ({ s₂ with vm := (U.calling g mk a).vm } : State).setVm s₂.vm := rfl
      rw [e2] at this
      exact this
    have hf₂ : s₂.frames = .throwing q :: .java g :: U.frames.tail := hend
    have hW' : U.WarmedH s₂.vm := hW₂
    have hs₂ : s₂ = ((({ U with heap := s₂.heap, slotsUsed := s₂.slotsUsed } : State).setVm s₂.vm).setTop g).pushFrame (.throwing q) := by
      refine e3.trans ?_
      rw [hf₂, State.calling_eq h.top, State.setFrames_setFrames, State.pushFrame, State.frames_setTop _ hr', State.setTop_of_frames _ hr', State.setFrames_setFrames, hr]
      rfl
    have hsame : U.sameButNew ({ U with heap := s₂.heap, slotsUsed := s₂.slotsUsed } : State) L mc ms := by
      refine ⟨?_, q2, q3, q4, q5, q6⟩
      obtain ⟨t, ht, -⟩ := State.frames_cons hr
      show ({ U with heap := s₂.heap, slotsUsed := s₂.slotsUsed } : State) = { U.setFrames U.frames with heap := s₂.heap, slotsUsed := s₂.slotsUsed }
      rw [State.setFrames_self ht]
    subst hg
    refine Or.inr ⟨q, ⟨(({ U with heap := s₂.heap, slotsUsed := s₂.slotsUsed } : State).setVm s₂.vm), Ls ++ L, c0 + mc, s0 + ms⟩,
      ⟨X.admits, X.cas, X.clock, X.frames, X.room, X.hears, X.method, X.code, (X.here.setHeapUsed s₂.heap s₂.slotsUsed).setVm hW'.alike, X.tail, State.WarmedH.trans X.warmed hW', X.limits, X.bytes, X.same.trans (hsame.setVm s.vm)⟩,
      ⟨g, mk, s₂, L, E, ce, rfl, rfl, hx, hce, hcv, hcl, rfl, hL, rfl, rfl⟩, ?_⟩
    show Steps p.tables e below _ (((({ U with heap := s₂.heap, slotsUsed := s₂.slotsUsed } : State).setVm s₂.vm).setTop g).pushFrame (.throwing q))
    rw [← hs₂]
    exact hsteps
end
variable {p : Program} {l : Launch} {e : Env} {R : Room} {s : State} {m : MethodId} {args : Array Value} {below : List Frame} {meth : Method} {c : Code} {T : State} {H : Heap} {locs : List Loc} {cells slots : Nat}
theorem vx_callVX (X : Stand p l e R s m args below meth c T locs cells slots) (hexec : p.tables.exec = Jvm.exec) {own C : String} {index : Nat} {y : MethodName} {bytes : ByteArray} {maxL : Nat} {ret : Option FieldType} {hh : List (Nat × Nat × Nat × Nat)}
    (hown : s.vm.findClass own = some m.cls) (hlink : (Cond.methodLink own index y).before args s = true) (hinst : (Cond.instanceMethod y).before args s = true) (hsel : (Cond.selects C y y).before args s = true)
    (hcode : (Cond.codeWith y bytes maxL ret hh).before args s = true) (hy : y.cls ≠ "java/lang/invoke/MethodHandle" ∧ y.cls ≠ "java/lang/invoke/VarHandle")
    {W9 : Nat} {Pre : Pt → Array Value → Prop} {Post : Pt → Array Value → Option Value → Pt → Prop} {PostX : Pt → Array Value → Addr → Pt → Prop} (hK : vx_Back l R p e below s args y 3 W9 Pre Post PostX)
    {b : Addr} {cellB : Cell} (hcell : T.heap[b]? = some cellB) (hobj : cellB.vm.isStatics = false) (hcls : s.vm.findClass C = some cellB.cls)
    {g : JFrame} (hg : g.method = m) (hsize : g.locals.size = c.maxLocals) {argsL rest : List Value} (hlen : ∀ sig, parseMethodDescriptor y.desc = some sig → argsL.length = sig.parameters.length)
    (hstack : g.stack = argsL.reverse ++ .ref b :: rest) (hW : 2 * g.monitorRoom + (rest.map fun v => v.category).sum ≤ W9) (hdg : decode c.code g.pc = .ok (.invokevirtual index, 3))
    (hpre : ∀ vm₁, s.WarmedH vm₁ → Pre ⟨T.setVm vm₁, locs, cells, slots⟩ (Value.ref b :: argsL).toArray) :
    (∃ (v : Option Value) (vm₁ : Vm) (B : Pt), s.WarmedH vm₁ ∧ Stand p l e R s m args below meth c B.U B.locs B.cells B.slots ∧ Post ⟨T.setVm vm₁, locs, cells, slots⟩ (Value.ref b :: argsL).toArray v B ∧
      ∀ target, Steps p.tables e below (B.U.setTop { g with pc := g.pc + 3, stack := v.toList ++ rest }) target → Steps p.tables e below (T.setTop g) target) ∨
    (∃ (q : Addr) (vm₁ : Vm) (B : Pt), s.WarmedH vm₁ ∧ Stand p l e R s m args below meth c B.U B.locs B.cells B.slots ∧ PostX ⟨T.setVm vm₁, locs, cells, slots⟩ (Value.ref b :: argsL).toArray q B ∧
      Steps p.tables e below (T.setTop g) ((B.U.setTop { g with stack := rest }).pushFrame (.throwing q))) := by
  obtain ⟨mk, methM, hnamed, hmethM, hstM, habM⟩ := Cond.instanceMethod_spec hinst
  obtain ⟨m8, methM', cM, hn8, hmethM', -, -, -, -, -, -, hsigM⟩ := Cond.codeWith_spec hcode
  cases Option.some.inj (hn8.symm.trans hnamed)
  cases hmethM.symm.trans hmethM'
  obtain ⟨c2, r2, m2, q1, q2, q3, q4, kP, hkP, hkPi⟩ := Cond.selects_spec hsel
  cases hcls.symm.trans q1
  cases (State.methodFound?_of_named hnamed hy).symm.trans q2
  cases hnamed.symm.trans q3
  have hselP : selectMethod e.platform s.vm cellB.cls mk = .method mk := by rw [Launch.admits_selectMethod X.admits]; exact q4
  obtain ⟨vm₁, X₁, hstep₁⟩ := X.invokevirtual hexec hown hlink hnamed hmethM hstM hkP hkPi hy (a := b) (cell := cellB) hcell
    (fun z h => by rw [h] at hobj; cases hobj) hselP hmethM habM hkP hkPi (g := g) hg (argsL := argsL) (rest := rest) (hlen _ hsigM) hstack hdg
  rcases hK m meth c ⟨T.setVm vm₁, locs, cells, slots⟩ { g with stack := rest } (.invokevirtual index) mk (Value.ref b :: argsL).toArray X₁ hg hsize hdg hW (X₁.named hnamed) (hpre vm₁ X₁.warmed) with ⟨v, B, X', hpost, hsteps⟩ | ⟨q, B, X', hpost, hsteps⟩
  · exact Or.inl ⟨v, vm₁, B, X₁.warmed, X', hpost, fun target h => hstep₁ _ fun acts => by rw [doInvoke_state]; exact hsteps.trans h⟩
  · exact Or.inr ⟨q, vm₁, B, X₁.warmed, X', hpost, hstep₁ _ fun acts => by rw [doInvoke_state]; exact hsteps⟩
theorem vx_callSX (X : Stand p l e R s m args below meth c T locs cells slots) (hexec : p.tables.exec = Jvm.exec) {own : String} {index : Nat} {y : MethodName} {bytes : ByteArray} {maxL : Nat} {ret : Option FieldType} {hh : List (Nat × Nat × Nat × Nat)}
    (hown : s.vm.findClass own = some m.cls) (hlink : (Cond.methodLink own index y).before args s = true) (hstat : (Cond.static y).before args s = true) (hinit : (Cond.initialized y.cls).before args s = true)
    (hcode : (Cond.codeWith y bytes maxL ret hh).before args s = true) (hy : y.cls ≠ "java/lang/invoke/MethodHandle" ∧ y.cls ≠ "java/lang/invoke/VarHandle")
    {W9 : Nat} {Pre : Pt → Array Value → Prop} {Post : Pt → Array Value → Option Value → Pt → Prop} {PostX : Pt → Array Value → Addr → Pt → Prop} (hK : vx_Back l R p e below s args y 3 W9 Pre Post PostX)
    {g : JFrame} (hg : g.method = m) (hsize : g.locals.size = c.maxLocals) {argsL rest : List Value} (hlen : ∀ sig, parseMethodDescriptor y.desc = some sig → argsL.length = sig.parameters.length)
    (hstack : g.stack = argsL.reverse ++ rest) (hW : 2 * g.monitorRoom + (rest.map fun v => v.category).sum ≤ W9) (hdg : decode c.code g.pc = .ok (.invokestatic index, 3))
    (hpre : ∀ vm₁, s.WarmedH vm₁ → Pre ⟨T.setVm vm₁, locs, cells, slots⟩ argsL.toArray) :
    (∃ (v : Option Value) (vm₁ : Vm) (B : Pt), s.WarmedH vm₁ ∧ Stand p l e R s m args below meth c B.U B.locs B.cells B.slots ∧ Post ⟨T.setVm vm₁, locs, cells, slots⟩ argsL.toArray v B ∧
      ∀ target, Steps p.tables e below (B.U.setTop { g with pc := g.pc + 3, stack := v.toList ++ rest }) target → Steps p.tables e below (T.setTop g) target) ∨
    (∃ (q : Addr) (vm₁ : Vm) (B : Pt), s.WarmedH vm₁ ∧ Stand p l e R s m args below meth c B.U B.locs B.cells B.slots ∧ PostX ⟨T.setVm vm₁, locs, cells, slots⟩ argsL.toArray q B ∧
      Steps p.tables e below (T.setTop g) ((B.U.setTop { g with stack := rest }).pushFrame (.throwing q))) := by
  obtain ⟨mk, methM, cM, hnamed, hmethM, -, -, -, -, -, -, hsigM⟩ := Cond.codeWith_spec hcode
  have hstatic : methM.isStatic = true := Cond.static_spec hnamed hmethM hstat
  obtain ⟨kP, hkP, -⟩ := className_of_methodNamed hnamed
  have hinitP : kP.init = .initialized := Cond.initialized_spec (findClass_of_methodNamed hnamed) hkP hinit
  obtain ⟨vm₁, X₁, hstep₁⟩ := X.invokestatic hexec hown hlink hnamed hmethM hstatic hkP hinitP hy (g := g) hg (argsL := argsL) (rest := rest) (hlen _ hsigM) hstack hdg
  rcases hK m meth c ⟨T.setVm vm₁, locs, cells, slots⟩ { g with stack := rest } (.invokestatic index) mk argsL.toArray X₁ hg hsize hdg hW (X₁.named hnamed) (hpre vm₁ X₁.warmed) with ⟨v, B, X', hpost, hsteps⟩ | ⟨q, B, X', hpost, hsteps⟩
  · exact Or.inl ⟨v, vm₁, B, X₁.warmed, X', hpost, fun target h => hstep₁ _ fun acts => by rw [doInvoke_state]; exact hsteps.trans h⟩
  · exact Or.inr ⟨q, vm₁, B, X₁.warmed, X', hpost, hstep₁ _ fun acts => by rw [doInvoke_state]; exact hsteps⟩
theorem vx_callVW (X : Stand p l e R s m args below meth c T locs cells slots) (hexec : p.tables.exec = Jvm.exec) {own C : String} {index : Nat} {y : MethodName} {bytes : ByteArray} {maxL : Nat} {ret : Option FieldType} {hh : List (Nat × Nat × Nat × Nat)}
    (hown : s.vm.findClass own = some m.cls) (hlink : (Cond.methodLink own index y).before args s = true) (hinst : (Cond.instanceMethod y).before args s = true) (hsel : (Cond.selects C y y).before args s = true)
    (hcode : (Cond.codeWith y bytes maxL ret hh).before args s = true) (hy : y.cls ≠ "java/lang/invoke/MethodHandle" ∧ y.cls ≠ "java/lang/invoke/VarHandle")
    {W9 : Nat} {Pre : Pt → Array Value → Prop} {Post : Pt → Array Value → Option Value → Pt → Prop} (hK : Back l R p e below s args y 3 W9 Pre Post)
    {b : Addr} {cellB : Cell} (hcell : T.heap[b]? = some cellB) (hobj : cellB.vm.isStatics = false) (hcls : s.vm.findClass C = some cellB.cls)
    {g : JFrame} (hg : g.method = m) (hsize : g.locals.size = c.maxLocals) {argsL rest : List Value} (hlen : ∀ sig, parseMethodDescriptor y.desc = some sig → argsL.length = sig.parameters.length)
    (hstack : g.stack = argsL.reverse ++ .ref b :: rest) (hW : 2 * g.monitorRoom + (rest.map fun v => v.category).sum ≤ W9) (hdg : decode c.code g.pc = .ok (.invokevirtual index, 3))
    (hpre : ∀ vm₁, s.WarmedH vm₁ → Pre ⟨T.setVm vm₁, locs, cells, slots⟩ (Value.ref b :: argsL).toArray) :
    ∃ (v : Option Value) (vm₁ : Vm) (B : Pt), s.WarmedH vm₁ ∧ Stand p l e R s m args below meth c B.U B.locs B.cells B.slots ∧ Post ⟨T.setVm vm₁, locs, cells, slots⟩ (Value.ref b :: argsL).toArray v B ∧
      ∀ target, Steps p.tables e below (B.U.setTop { g with pc := g.pc + 3, stack := v.toList ++ rest }) target → Steps p.tables e below (T.setTop g) target := by
  obtain ⟨mk, methM, hnamed, hmethM, hstM, habM⟩ := Cond.instanceMethod_spec hinst
  obtain ⟨m8, methM', cM, hn8, hmethM', -, -, -, -, -, -, hsigM⟩ := Cond.codeWith_spec hcode
  cases Option.some.inj (hn8.symm.trans hnamed)
  cases hmethM.symm.trans hmethM'
  obtain ⟨c2, r2, m2, q1, q2, q3, q4, kP, hkP, hkPi⟩ := Cond.selects_spec hsel
  cases hcls.symm.trans q1
  cases (State.methodFound?_of_named hnamed hy).symm.trans q2
  cases hnamed.symm.trans q3
  have hselP : selectMethod e.platform s.vm cellB.cls mk = .method mk := by rw [Launch.admits_selectMethod X.admits]; exact q4
  obtain ⟨vm₁, X₁, hstep₁⟩ := X.invokevirtual hexec hown hlink hnamed hmethM hstM hkP hkPi hy (a := b) (cell := cellB) hcell
    (fun z h => by rw [h] at hobj; cases hobj) hselP hmethM habM hkP hkPi (g := g) hg (argsL := argsL) (rest := rest) (hlen _ hsigM) hstack hdg
  obtain ⟨v, B, X', hpost, hsteps⟩ := hK m meth c ⟨T.setVm vm₁, locs, cells, slots⟩ { g with stack := rest } (.invokevirtual index) mk (Value.ref b :: argsL).toArray X₁ hg hsize hdg hW (X₁.named hnamed) (hpre vm₁ X₁.warmed)
  exact ⟨v, vm₁, B, X₁.warmed, X', hpost, fun target h => hstep₁ _ fun acts => by rw [doInvoke_state]; exact hsteps.trans h⟩
abbrev vx_CVW (R : Room) (s : State) (args : Array Value) (own C : String) (index : Nat) (y : MethodName) (bytes : ByteArray) (maxL : Nat) (ret : Option FieldType) (hh : List (Nat × Nat × Nat × Nat)) (ws : List Cond) (rm : Room) (mc ms n : Nat) : Prop :=
  (rm.cells = mc ∧ rm.slots = ms ∧ rm.frames + 1 ≤ R.frames ∧ 8 + (maxL + 11) + rm.locals ≤ R.locals ∧ (∀ w ∈ ws, ∀ (a' : Array Value) (U : State), s.WarmedH U.vm → w.before a' U = true) ∧ Cond.codeWith y bytes maxL ret hh ∈ ws) ∧
  (Cond.codeWith y bytes maxL ret hh).before args s = true ∧ (Cond.initialized y.cls).before args s = true ∧ (y.cls ≠ "java/lang/invoke/MethodHandle" ∧ y.cls ≠ "java/lang/invoke/VarHandle") ∧
  (∀ sig, parseMethodDescriptor y.desc = some sig → n = sig.parameters.length) ∧ (Cond.methodLink own index y).before args s = true ∧ (Cond.instanceMethod y).before args s = true ∧ (Cond.selects C y y).before args s = true
theorem vx_cwVW {own C : String} {index maxL mc ms : Nat} {y : MethodName} {bytes : ByteArray} {ret : Option FieldType} {hh : List (Nat × Nat × Nat × Nat)} {Ts ws ws' : List Cond} {rm : Room} (n : Nat) (ht : ∀ w ∈ Ts, w.before args s = true) (hT : GoodIn Ts (wsV own index C y ws)) (hw : ws = Cond.codeWith y bytes maxL ret hh :: ws') (hrc : rm.cells = mc) (hrs : rm.slots = ms)
    (hd : y.cls = C ∧ y.cls ≠ "java/lang/invoke/MethodHandle" ∧ y.cls ≠ "java/lang/invoke/VarHandle" ∧ (parseMethodDescriptor y.desc).map (fun d => d.parameters.length) = some n) (hR : rm.frames + 1 ≤ R.frames ∧ 8 + (maxL + 11) + rm.locals ≤ R.locals) :
    vx_CVW R s args own C index y bytes maxL ret hh ws rm mc ms n := by
  obtain ⟨hC, hd⟩ := hd
  subst hC
  have ok : ∀ w ∈ wsV own index y.cls y ws, w.before args s = true := fun w h => ht w (hT w h).1
  have hG : GoodIn Ts ws := fun w h => hT w (by unfold wsV; exact List.mem_append_right _ h)
  have hc : Cond.codeWith y bytes maxL ret hh ∈ ws := by rw [hw]; exact List.mem_cons_self
  refine ⟨⟨hrc, hrs, hR.1, hR.2, pay_in ht hG, hc⟩, ht _ (hG _ hc).1, ok _ (by simp [wsV]), ⟨hd.1, hd.2.1⟩, fun sig h => ?_, ok _ (by simp [wsV]), ok _ (by simp [wsV]), ok _ (by simp [wsV])⟩
  have h2 := hd.2.2
  rw [h] at h2
  exact (Option.some.inj h2).symm
theorem vx_runVW {y : MethodName} {bytes cc : ByteArray} {maxL nL mc ms n index : Nat} {ret : Option FieldType} {hh : List (Nat × Nat × Nat × Nat)} {ws : List Cond} {rm : Room} {Pc : Array Value → State → Prop} {Qc : Array Value → State → Outcome → State → Prop} {free : Addr → Prop} {Ts : List Cond} {own C : String} {b : Addr} {As rest : List Value} {g : JFrame}
    (S : CallFix p m c cc nL s args Ts own) (hM : Met l y ws rm Pc Qc mc ms free) (cw : vx_CVW R s args own C index y bytes maxL ret hh ws rm mc ms n) (hp : PreV s H C b Pc As)
    (hg : g.method = m) (hn : As.length = n) (hsize : g.locals.size = nL) (hstack : g.stack = As.reverse ++ .ref b :: rest) (hW : 2 * g.monitorRoom + (rest.map fun v => v.category).sum ≤ 8) (hdg : decode cc g.pc = .ok (.invokevirtual index, 3)) (hf : cells + mc ≤ R.cells ∧ slots + ms ≤ R.slots) :
    va_Run p l e R s m args below meth c H locs cells slots mc ms g rest (Qc (Value.ref b :: As).toArray) free := by
  obtain ⟨⟨hrc, hrs, hfr, hlo, hws, hcw⟩, hcode, hini, hy, hlen, hl, hin, hse⟩ := cw
  have hK : Back l R p e below s args y 3 8 (PreOf R mc ms Pc) (PostOf Qc mc ms free) := va_backW (hh := hh) (bytes := bytes) (maxL := maxL) (ret := ret) hM hp.1 hrc hrs hfr hlo hws hcw (fun a' U hW => word_at hW (Or.inl (by first | rfl | simp [Cond.onTables, Cond.keeps, Cond.steady])) hini)
  obtain ⟨hx, hb, hml, ho, -⟩ := S
  obtain ⟨-, ⟨cellB, hcB, hoB, hclB⟩, hPc⟩ := hp
  intro T hT X
  obtain ⟨v, vm₁, ⟨U', l2, c2, s2⟩, hW₁, X', ⟨g', mk, t, L, e1, e2, hq, h1, hL, h2, h3⟩, st⟩ := vx_callVW X hx (C := C) (hh := hh) (bytes := bytes) (maxL := maxL) (ret := ret) ho hl hin hse hcode hy hK (by rw [hT]; exact hcB) hoB hclB hg (hsize.trans hml.symm) (argsL := As) (rest := rest) (fun sig h => hn.trans (hlen sig h)) hstack hW (by rw [hb]; exact hdg)
    (fun vm₁ hW₁ => ⟨hf.1, hf.2, hPc (T.setVm vm₁) hT hW₁⟩)
  dsimp only [Pt.U, Pt.locs, Pt.cells, Pt.slots] at X' e1 e2 h1 h2 h3 st
  subst h1; subst h2; subst h3
  exact ⟨v, (T.setVm vm₁).calling g' mk (Value.ref b :: As).toArray, t, U', L, hT, X', hL, e1, e2, hq, st⟩
section
variable {y : MethodName} {bytes cc : ByteArray} {maxL nL mc ms n index : Nat} {ret : Option FieldType} {ws : List Cond} {rm : Room} {Pc : Array Value → State → Prop} {Qc : Array Value → State → Outcome → State → Prop} {XC : String → State → State → Prop} {free : Addr → Prop} {Ts : List Cond} {own C : String} {b : Addr} {As rest : List Value} {g : JFrame}
theorem vx_runVX {hh : List (Nat × Nat × Nat × Nat)} (S : CallFix p m c cc nL s args Ts own) (hM : vx_Met l y ws rm Pc Qc XC mc ms free) (cw : vx_CVW R s args own C index y bytes maxL ret hh ws rm mc ms n) (hp : PreV s H C b Pc As)
    (hg : g.method = m) (hn : As.length = n) (hsize : g.locals.size = nL) (hstack : g.stack = As.reverse ++ .ref b :: rest) (hW : 2 * g.monitorRoom + (rest.map fun v => v.category).sum ≤ 8) (hdg : decode cc g.pc = .ok (.invokevirtual index, 3)) (hf : cells + mc ≤ R.cells ∧ slots + ms ≤ R.slots) :
    vx_Run p l e R s m args below meth c H locs cells slots mc ms g rest (Qc (Value.ref b :: As).toArray) XC free := by
  obtain ⟨⟨hrc, hrs, hfr, hlo, hws, hcw⟩, hcode, hini, hy, hlen, hl, hin, hse⟩ := cw
  have hK : vx_Back l R p e below s args y 3 8 (PreOf R mc ms Pc) (PostOf Qc mc ms free) (vx_Post XC mc ms free) := vx_backW (hh := hh) (bytes := bytes) (maxL := maxL) (ret := ret) hM hp.1 hrc hrs hfr hlo hws hcw (fun a' U hW => word_at hW (Or.inl (by first | rfl | simp [Cond.onTables, Cond.keeps, Cond.steady])) hini)
  obtain ⟨hx, hb, hml, ho, -⟩ := S
  obtain ⟨-, ⟨cellB, hcB, hoB, hclB⟩, hPc⟩ := hp
  intro T hT X
  rcases vx_callVX X hx (C := C) (hh := hh) (bytes := bytes) (maxL := maxL) (ret := ret) ho hl hin hse hcode hy hK (by rw [hT]; exact hcB) hoB hclB hg (hsize.trans hml.symm) (argsL := As) (rest := rest) (fun sig h => hn.trans (hlen sig h)) hstack hW (by rw [hb]; exact hdg)
    (fun vm₁ hW₁ => ⟨hf.1, hf.2, hPc (T.setVm vm₁) hT hW₁⟩) with ⟨v, vm₁, ⟨U', l2, c2, s2⟩, hW₁, X', ⟨g', mk, t, L, e1, e2, hq, h1, hL, h2, h3⟩, st⟩ | ⟨q, vm₁, ⟨U', l2, c2, s2⟩, hW₁, X', ⟨g', mk, t, L, E, ce, e1, e2, hq, hce, hcv, hcl, h1, hL, h2, h3⟩, st⟩
  · dsimp only [Pt.U, Pt.locs, Pt.cells, Pt.slots] at X' e1 e2 h1 h2 h3 st
    subst h1; subst h2; subst h3
    exact Or.inl ⟨v, (T.setVm vm₁).calling g' mk (Value.ref b :: As).toArray, t, U', L, hT, X', hL, e1, e2, hq, st⟩
  · dsimp only [Pt.U, Pt.locs, Pt.cells, Pt.slots] at X' e1 e2 h1 h2 h3 st hcl
    subst h1; subst h2; subst h3
    exact Or.inr ⟨q, (T.setVm vm₁).calling g' mk (Value.ref b :: As).toArray, t, U', L, E, ce, hT, X', hL, e1, e2, hq, hce, hcv, vx_cls hW₁ hcl, st⟩
theorem vx_runSX {hh : List (Nat × Nat × Nat × Nat)} (S : CallFix p m c cc nL s args Ts own) (hM : vx_Met l y ws rm Pc Qc XC mc ms free) (cw : vx_CSW R s args own index y bytes maxL ret hh ws rm mc ms n) (hp : PreS s H Pc As)
    (hg : g.method = m) (hn : As.length = n) (hsize : g.locals.size = nL) (hstack : g.stack = As.reverse ++ rest) (hW : 2 * g.monitorRoom + (rest.map fun v => v.category).sum ≤ 8) (hdg : decode cc g.pc = .ok (.invokestatic index, 3)) (hf : cells + mc ≤ R.cells ∧ slots + ms ≤ R.slots) :
    vx_Run p l e R s m args below meth c H locs cells slots mc ms g rest (Qc As.toArray) XC free := by
  obtain ⟨⟨hrc, hrs, hfr, hlo, hws, hcw⟩, hcode, hini, hy, hlen, hl, hstt⟩ := cw
  have hK : vx_Back l R p e below s args y 3 8 (PreOf R mc ms Pc) (PostOf Qc mc ms free) (vx_Post XC mc ms free) := vx_backW (hh := hh) (bytes := bytes) (maxL := maxL) (ret := ret) hM hp.1 hrc hrs hfr hlo hws hcw (fun a' U hW => word_at hW (Or.inl (by first | rfl | simp [Cond.onTables, Cond.keeps, Cond.steady])) hini)
  obtain ⟨hx, hb, hml, ho, -⟩ := S
  intro T hT X
  rcases vx_callSX X hx (hh := hh) (bytes := bytes) (maxL := maxL) (ret := ret) ho hl hstt hini hcode hy hK hg (hsize.trans hml.symm) (argsL := As) (rest := rest) (fun sig h => hn.trans (hlen sig h)) hstack hW (by rw [hb]; exact hdg)
    (fun vm₁ hW₁ => ⟨hf.1, hf.2, hp.2 (T.setVm vm₁) hT hW₁⟩) with ⟨v, vm₁, ⟨U', l2, c2, s2⟩, hW₁, X', ⟨g', mk, t, L, e1, e2, hq, h1, hL, h2, h3⟩, st⟩ | ⟨q, vm₁, ⟨U', l2, c2, s2⟩, hW₁, X', ⟨g', mk, t, L, E, ce, e1, e2, hq, hce, hcv, hcl, h1, hL, h2, h3⟩, st⟩
  · dsimp only [Pt.U, Pt.locs, Pt.cells, Pt.slots] at X' e1 e2 h1 h2 h3 st
    subst h1; subst h2; subst h3
    exact Or.inl ⟨v, (T.setVm vm₁).calling g' mk As.toArray, t, U', L, hT, X', hL, e1, e2, hq, st⟩
  · dsimp only [Pt.U, Pt.locs, Pt.cells, Pt.slots] at X' e1 e2 h1 h2 h3 st hcl
    subst h1; subst h2; subst h3
    exact Or.inr ⟨q, (T.setVm vm₁).calling g' mk As.toArray, t, U', L, E, ce, hT, X', hL, e1, e2, hq, hce, hcv, vx_cls hW₁ hcl, st⟩
end
end VXH
theorem vx_ofWH {l : Launch} {y : MethodName} {ws ws' : List Cond} {rm : Room} {Pc : Array Value → State → Prop} {Qc : Array Value → State → Outcome → State → Prop} {XC : String → State → State → Prop} {mc ms : Nat} {free : Addr → Prop} {cc : ByteArray} {maxL : Nat} {ret : Option FieldType} {hh : List (Nat × Nat × Nat × Nat)}
    (hy : plainName y.cls = true) (hw : ws = Cond.codeWith y cc maxL ret hh :: ws')
    (body : ∀ p e s m args below meth c s₁, BodyLoose p l y (headSpec ws rm) cc maxL ret e s m args below meth c s₁ → c.maxLocals = maxL → Pc args s →
      W p l e (headSpec ws rm).room s m args below meth c s.heap [] 0 0 (vx_MQ below Qc XC args s mc ms free) (entryFrame m args maxL)) : vx_Met l y ws rm Pc Qc XC mc ms free := by
  refine MetFree.of_bodyS (code := cc) (maxLocals := maxL) (ret := ret) hy ?_ ?_
  · intro args s m h hn
    obtain ⟨m9, meth, c, hn9, h1, h2, h3, h4, -, h5, h6, -⟩ := Cond.codeWith_spec (atoms_spec (ws := ws) h _ (by rw [hw]; exact List.mem_cons_self))
    cases hn.symm.trans hn9
    exact ⟨meth, c, h1, h2, h3, h4, h5, h6⟩
  · intro p e s m args below meth c s₁ B hml hP _
    have hh0 : s₁.heap = s.heap := by rw [B.state]; rfl
    obtain ⟨t, a1, o, b1, b2, b3⟩ := body p e s m args below meth c s₁ B hml hP s₁ hh0 (Stand.of_body B)
    exact ⟨t, o, a1, b1, b2, b3⟩
/-! ===== END ===== -/
end
section
def RX0 : String := "ScrimshawKernel$Fields"
def TX0 : u_T := fun k => match k with
  | _ => ("ScrimshawKernel$Fields", "rows", "[J", true)
def tyX0 : Nat → FieldType := fun k => match k with
  | _ => .array .long
abbrev wsX00 : List Cond := u_ws RX0 TX0 1
theorem nmX0 : ∀ a, a < 1 → ∀ b, b < 1 → a ≠ b → (TX0 a).2.1 ≠ (TX0 b).2.1 := by decide +kernel
theorem tyX0_ok : ∀ k, k < 1 → parseFieldDescriptor (TX0 k).2.2.1 = some (tyX0 k) := by decide +kernel
abbrev cX0_init : ByteArray := prog_2_method_1_code
def yX0_init : MethodName := ⟨RX0, "<init>", "()V"⟩
abbrev cX0_row : ByteArray := prog_2_method_2_code
def yX0_row : MethodName := ⟨RX0, "row", "(I)J"⟩
abbrev cX0_putRow : ByteArray := prog_2_method_3_code
def yX0_putRow : MethodName := ⟨RX0, "putRow", "(IJ)V"⟩
abbrev cX0_holds : ByteArray := prog_2_method_4_code
def yX0_holds : MethodName := ⟨RX0, "holds", "(II)Z"⟩
abbrev cX0_add : ByteArray := prog_2_method_5_code
def yX0_add : MethodName := ⟨RX0, "add", "(II)V"⟩
abbrev cX0_empty : ByteArray := prog_2_method_6_code
def yX0_empty : MethodName := ⟨RX0, "empty", "()V"⟩
abbrev cX0_isEmpty : ByteArray := prog_2_method_7_code
def yX0_isEmpty : MethodName := ⟨RX0, "isEmpty", "()Z"⟩
abbrev cX0_copy : ByteArray := prog_2_method_8_code
def yX0_copy : MethodName := ⟨RX0, "copy", "(LScrimshawKernel$Fields;)V"⟩
abbrev cX0_isSame : ByteArray := prog_2_method_9_code
def yX0_isSame : MethodName := ⟨RX0, "isSame", "(LScrimshawKernel$Fields;)Z"⟩
abbrev cX0_meets : ByteArray := prog_2_method_10_code
def yX0_meets : MethodName := ⟨RX0, "meets", "(LScrimshawKernel$Fields;)Z"⟩
abbrev cX0_unite : ByteArray := prog_2_method_11_code
def yX0_unite : MethodName := ⟨RX0, "unite", "(LScrimshawKernel$Fields;)V"⟩
abbrev cX0_count : ByteArray := prog_2_method_12_code
def yX0_count : MethodName := ⟨RX0, "count", "()I"⟩
abbrev cX0_countEdges : ByteArray := prog_2_method_13_code
def yX0_countEdges : MethodName := ⟨RX0, "countEdges", "()I"⟩
abbrev cX0_sumOfX : ByteArray := prog_2_method_14_code
def yX0_sumOfX : MethodName := ⟨RX0, "sumOfX", "()I"⟩
abbrev cX0_columns : ByteArray := prog_2_method_15_code
def yX0_columns : MethodName := ⟨RX0, "columns", "()J"⟩
abbrev cX0_leastX : ByteArray := prog_2_method_16_code
def yX0_leastX : MethodName := ⟨RX0, "leastX", "()I"⟩
abbrev cX0_greatestX : ByteArray := prog_2_method_17_code
def yX0_greatestX : MethodName := ⟨RX0, "greatestX", "()I"⟩
abbrev cX0_leastY : ByteArray := prog_2_method_18_code
def yX0_leastY : MethodName := ⟨RX0, "leastY", "()I"⟩
abbrev cX0_greatestY : ByteArray := prog_2_method_19_code
def yX0_greatestY : MethodName := ⟨RX0, "greatestY", "()I"⟩
abbrev cX0_shift : ByteArray := prog_2_method_20_code
def yX0_shift : MethodName := ⟨RX0, "shift", "(II)V"⟩
abbrev cX0_shifted : ByteArray := prog_2_method_21_code
def yX0_shifted : MethodName := ⟨RX0, "shifted", "(JI)J"⟩
abbrev cX0_putTurned : ByteArray := prog_2_method_22_code
def yX0_putTurned : MethodName := ⟨RX0, "putTurned", "(LScrimshawKernel$Fields;)V"⟩
abbrev cX0_widen : ByteArray := prog_2_method_23_code
def yX0_widen : MethodName := ⟨RX0, "widen", "(I)V"⟩
abbrev cX0_narrow : ByteArray := prog_2_method_24_code
def yX0_narrow : MethodName := ⟨RX0, "narrow", "(I)V"⟩
def RX1 : String := "ScrimshawKernel$Flood"
def TX1 : u_T := fun k => match k with
  | 0 => ("ScrimshawKernel$Flood", "rest", "LScrimshawKernel$Fields;", true)
  | 1 => ("ScrimshawKernel$Flood", "found", "LScrimshawKernel$Fields;", true)
  | 2 => ("ScrimshawKernel$Flood", "low", "I", false)
  | _ => ("ScrimshawKernel$Flood", "high", "I", false)
def tyX1 : Nat → FieldType := fun k => match k with
  | 0 => .object "ScrimshawKernel$Fields"
  | 1 => .object "ScrimshawKernel$Fields"
  | 2 => .int
  | _ => .int
abbrev wsX10 : List Cond := u_ws RX1 TX1 4
theorem nmX1 : ∀ a, a < 4 → ∀ b, b < 4 → a ≠ b → (TX1 a).2.1 ≠ (TX1 b).2.1 := by decide +kernel
theorem tyX1_ok : ∀ k, k < 4 → parseFieldDescriptor (TX1 k).2.2.1 = some (tyX1 k) := by decide +kernel
abbrev cX1_init : ByteArray := prog_3_method_1_code
def yX1_init : MethodName := ⟨RX1, "<init>", "()V"⟩
abbrev cX1_countPieces : ByteArray := prog_3_method_2_code
def yX1_countPieces : MethodName := ⟨RX1, "countPieces", "(LScrimshawKernel$Fields;)I"⟩
abbrev cX1_countHoles : ByteArray := prog_3_method_3_code
def yX1_countHoles : MethodName := ⟨RX1, "countHoles", "(LScrimshawKernel$Fields;)I"⟩
abbrev cX1_fillHoles : ByteArray := prog_3_method_4_code
def yX1_fillHoles : MethodName := ⟨RX1, "fillHoles", "(LScrimshawKernel$Fields;)I"⟩
abbrev cX1_leavePiece : ByteArray := prog_3_method_5_code
def yX1_leavePiece : MethodName := ⟨RX1, "leavePiece", "(LScrimshawKernel$Fields;II)V"⟩
abbrev cX1_findHoles : ByteArray := prog_3_method_6_code
def yX1_findHoles : MethodName := ⟨RX1, "findHoles", "(LScrimshawKernel$Fields;)V"⟩
abbrev cX1_countParts : ByteArray := prog_3_method_7_code
def yX1_countParts : MethodName := ⟨RX1, "countParts", "(Z)I"⟩
abbrev cX1_take : ByteArray := prog_3_method_8_code
def yX1_take : MethodName := ⟨RX1, "take", "(IIZ)V"⟩
abbrev cX1_removeFound : ByteArray := prog_3_method_9_code
def yX1_removeFound : MethodName := ⟨RX1, "removeFound", "()V"⟩
abbrev cX1_spread : ByteArray := prog_3_method_10_code
def yX1_spread : MethodName := ⟨RX1, "spread", "(Z)V"⟩
abbrev cX1_spreadInto : ByteArray := prog_3_method_11_code
def yX1_spreadInto : MethodName := ⟨RX1, "spreadInto", "(IZ)Z"⟩
abbrev cX1_along : ByteArray := prog_3_method_12_code
def yX1_along : MethodName := ⟨RX1, "along", "(JJ)J"⟩
def RX2 : String := "ScrimshawKernel$History"
def TX2 : u_T := fun k => match k with
  | 0 => ("ScrimshawKernel$History", "kept", "[LScrimshawKernel$Fields;", true)
  | 1 => ("ScrimshawKernel$History", "keptRegions", "[I", true)
  | 2 => ("ScrimshawKernel$History", "latest", "I", false)
  | _ => ("ScrimshawKernel$History", "count", "I", false)
def tyX2 : Nat → FieldType := fun k => match k with
  | 0 => .array (.object "ScrimshawKernel$Fields")
  | 1 => .array .int
  | 2 => .int
  | _ => .int
abbrev wsX20 : List Cond := u_ws RX2 TX2 4
theorem nmX2 : ∀ a, a < 4 → ∀ b, b < 4 → a ≠ b → (TX2 a).2.1 ≠ (TX2 b).2.1 := by decide +kernel
theorem tyX2_ok : ∀ k, k < 4 → parseFieldDescriptor (TX2 k).2.2.1 = some (tyX2 k) := by decide +kernel
abbrev cX2_init : ByteArray := prog_4_method_1_code
def yX2_init : MethodName := ⟨RX2, "<init>", "()V"⟩
abbrev cX2_count : ByteArray := prog_4_method_2_code
def yX2_count : MethodName := ⟨RX2, "count", "()I"⟩
abbrev cX2_keep : ByteArray := prog_4_method_3_code
def yX2_keep : MethodName := ⟨RX2, "keep", "(ILScrimshawKernel$Fields;)V"⟩
abbrev cX2_latestRegion : ByteArray := prog_4_method_4_code
def yX2_latestRegion : MethodName := ⟨RX2, "latestRegion", "()I"⟩
abbrev cX2_takeBack : ByteArray := prog_4_method_5_code
def yX2_takeBack : MethodName := ⟨RX2, "takeBack", "(LScrimshawKernel$Fields;)V"⟩
abbrev cX2_isAt : ByteArray := prog_4_method_6_code
def yX2_isAt : MethodName := ⟨RX2, "isAt", "(I)Z"⟩
def RX3 : String := "ScrimshawKernel$Outline"
def TX3 : u_T := fun k => match k with
  | 0 => ("ScrimshawKernel$Outline", "region", "LScrimshawKernel$Fields;", true)
  | 1 => ("ScrimshawKernel$Outline", "walkedRight", "LScrimshawKernel$Fields;", true)
  | 2 => ("ScrimshawKernel$Outline", "walkedUp", "LScrimshawKernel$Fields;", true)
  | 3 => ("ScrimshawKernel$Outline", "fromY", "I", false)
  | 4 => ("ScrimshawKernel$Outline", "x", "I", false)
  | 5 => ("ScrimshawKernel$Outline", "y", "I", false)
  | 6 => ("ScrimshawKernel$Outline", "way", "I", false)
  | 7 => ("ScrimshawKernel$Outline", "cornerCount", "I", false)
  | 8 => ("ScrimshawKernel$Outline", "areaAround", "I", false)
  | 9 => ("ScrimshawKernel$Outline", "wanted", "I", false)
  | 10 => ("ScrimshawKernel$Outline", "wantedX", "I", false)
  | _ => ("ScrimshawKernel$Outline", "wantedY", "I", false)
def tyX3 : Nat → FieldType := fun k => match k with
  | 0 => .object "ScrimshawKernel$Fields"
  | 1 => .object "ScrimshawKernel$Fields"
  | 2 => .object "ScrimshawKernel$Fields"
  | 3 => .int
  | 4 => .int
  | 5 => .int
  | 6 => .int
  | 7 => .int
  | 8 => .int
  | 9 => .int
  | 10 => .int
  | _ => .int
abbrev wsX30 : List Cond := u_ws RX3 TX3 12
theorem nmX3 : ∀ a, a < 12 → ∀ b, b < 12 → a ≠ b → (TX3 a).2.1 ≠ (TX3 b).2.1 := by decide +kernel
theorem tyX3_ok : ∀ k, k < 12 → parseFieldDescriptor (TX3 k).2.2.1 = some (tyX3 k) := by decide +kernel
abbrev cX3_init : ByteArray := prog_5_method_1_code
def yX3_init : MethodName := ⟨RX3, "<init>", "()V"⟩
abbrev cX3_cornerCount : ByteArray := prog_5_method_2_code
def yX3_cornerCount : MethodName := ⟨RX3, "cornerCount", "()I"⟩
abbrev cX3_areaAround : ByteArray := prog_5_method_3_code
def yX3_areaAround : MethodName := ⟨RX3, "areaAround", "()I"⟩
abbrev cX3_wantedX : ByteArray := prog_5_method_4_code
def yX3_wantedX : MethodName := ⟨RX3, "wantedX", "()I"⟩
abbrev cX3_wantedY : ByteArray := prog_5_method_5_code
def yX3_wantedY : MethodName := ⟨RX3, "wantedY", "()I"⟩
abbrev cX3_countContours : ByteArray := prog_5_method_6_code
def yX3_countContours : MethodName := ⟨RX3, "countContours", "(LScrimshawKernel$Fields;)I"⟩
abbrev cX3_goTo : ByteArray := prog_5_method_7_code
def yX3_goTo : MethodName := ⟨RX3, "goTo", "(LScrimshawKernel$Fields;II)Z"⟩
abbrev cX3_begin : ByteArray := prog_5_method_8_code
def yX3_begin : MethodName := ⟨RX3, "begin", "(LScrimshawKernel$Fields;)V"⟩
abbrev cX3_next : ByteArray := prog_5_method_9_code
def yX3_next : MethodName := ⟨RX3, "next", "(I)Z"⟩
abbrev cX3_beginAt : ByteArray := prog_5_method_10_code
def yX3_beginAt : MethodName := ⟨RX3, "beginAt", "(II)V"⟩
abbrev cX3_walk : ByteArray := prog_5_method_11_code
def yX3_walk : MethodName := ⟨RX3, "walk", "()V"⟩
abbrev cX3_noteCorner : ByteArray := prog_5_method_12_code
def yX3_noteCorner : MethodName := ⟨RX3, "noteCorner", "()V"⟩
abbrev cX3_noteEdge : ByteArray := prog_5_method_13_code
def yX3_noteEdge : MethodName := ⟨RX3, "noteEdge", "()V"⟩
abbrev cX3_goOn : ByteArray := prog_5_method_14_code
def yX3_goOn : MethodName := ⟨RX3, "goOn", "()V"⟩
def RX4 : String := "ScrimshawKernel$Pen"
def TX4 : u_T := fun k => match k with
  | 0 => ("ScrimshawKernel$Pen", "xs", "[I", true)
  | 1 => ("ScrimshawKernel$Pen", "ys", "[I", true)
  | 2 => ("ScrimshawKernel$Pen", "length", "I", false)
  | 3 => ("ScrimshawKernel$Pen", "firstX", "I", false)
  | 4 => ("ScrimshawKernel$Pen", "firstY", "I", false)
  | 5 => ("ScrimshawKernel$Pen", "atX", "I", false)
  | 6 => ("ScrimshawKernel$Pen", "atY", "I", false)
  | _ => ("ScrimshawKernel$Pen", "crossings", "[I", true)
def tyX4 : Nat → FieldType := fun k => match k with
  | 0 => .array .int
  | 1 => .array .int
  | 2 => .int
  | 3 => .int
  | 4 => .int
  | 5 => .int
  | 6 => .int
  | _ => .array .int
abbrev wsX40 : List Cond := u_ws RX4 TX4 8
theorem nmX4 : ∀ a, a < 8 → ∀ b, b < 8 → a ≠ b → (TX4 a).2.1 ≠ (TX4 b).2.1 := by decide +kernel
theorem tyX4_ok : ∀ k, k < 8 → parseFieldDescriptor (TX4 k).2.2.1 = some (tyX4 k) := by decide +kernel
abbrev cX4_init : ByteArray := prog_6_method_1_code
def yX4_init : MethodName := ⟨RX4, "<init>", "()V"⟩
abbrev cX4_length : ByteArray := prog_6_method_2_code
def yX4_length : MethodName := ⟨RX4, "length", "()I"⟩
abbrev cX4_atX : ByteArray := prog_6_method_3_code
def yX4_atX : MethodName := ⟨RX4, "atX", "()I"⟩
abbrev cX4_atY : ByteArray := prog_6_method_4_code
def yX4_atY : MethodName := ⟨RX4, "atY", "()I"⟩
abbrev cX4_isFull : ByteArray := prog_6_method_5_code
def yX4_isFull : MethodName := ⟨RX4, "isFull", "()Z"⟩
abbrev cX4_begin : ByteArray := prog_6_method_6_code
def yX4_begin : MethodName := ⟨RX4, "begin", "(II)V"⟩
abbrev cX4_beginAnew : ByteArray := prog_6_method_7_code
def yX4_beginAnew : MethodName := ⟨RX4, "beginAnew", "()V"⟩
abbrev cX4_add : ByteArray := prog_6_method_8_code
def yX4_add : MethodName := ⟨RX4, "add", "(II)V"⟩
abbrev cX4_putInside : ByteArray := prog_6_method_9_code
def yX4_putInside : MethodName := ⟨RX4, "putInside", "(LScrimshawKernel$Fields;I)V"⟩
abbrev cX4_countCrossings : ByteArray := prog_6_method_10_code
def yX4_countCrossings : MethodName := ⟨RX4, "countCrossings", "(I)V"⟩
abbrev cX4_addCrossing : ByteArray := prog_6_method_11_code
def yX4_addCrossing : MethodName := ⟨RX4, "addCrossing", "(IIII)V"⟩
abbrev cX4_inside : ByteArray := prog_6_method_12_code
def yX4_inside : MethodName := ⟨RX4, "inside", "(I)J"⟩
def RX5 : String := "ScrimshawKernel$StripWalk"
def TX5 : u_T := fun k => match k with
  | 0 => ("ScrimshawKernel$StripWalk", "region", "LScrimshawKernel$Fields;", true)
  | 1 => ("ScrimshawKernel$StripWalk", "fromY", "I", false)
  | 2 => ("ScrimshawKernel$StripWalk", "toCome", "J", false)
  | 3 => ("ScrimshawKernel$StripWalk", "x", "I", false)
  | 4 => ("ScrimshawKernel$StripWalk", "y", "I", false)
  | 5 => ("ScrimshawKernel$StripWalk", "width", "I", false)
  | _ => ("ScrimshawKernel$StripWalk", "height", "I", false)
def tyX5 : Nat → FieldType := fun k => match k with
  | 0 => .object "ScrimshawKernel$Fields"
  | 1 => .int
  | 2 => .long
  | 3 => .int
  | 4 => .int
  | 5 => .int
  | _ => .int
abbrev wsX50 : List Cond := u_ws RX5 TX5 7
theorem nmX5 : ∀ a, a < 7 → ∀ b, b < 7 → a ≠ b → (TX5 a).2.1 ≠ (TX5 b).2.1 := by decide +kernel
theorem tyX5_ok : ∀ k, k < 7 → parseFieldDescriptor (TX5 k).2.2.1 = some (tyX5 k) := by decide +kernel
abbrev cX5_init : ByteArray := prog_7_method_1_code
def yX5_init : MethodName := ⟨RX5, "<init>", "()V"⟩
abbrev cX5_measure : ByteArray := prog_7_method_2_code
def yX5_measure : MethodName := ⟨RX5, "measure", "(I)I"⟩
abbrev cX5_countStrips : ByteArray := prog_7_method_3_code
def yX5_countStrips : MethodName := ⟨RX5, "countStrips", "(LScrimshawKernel$Fields;)I"⟩
abbrev cX5_goTo : ByteArray := prog_7_method_4_code
def yX5_goTo : MethodName := ⟨RX5, "goTo", "(LScrimshawKernel$Fields;I)Z"⟩
abbrev cX5_begin : ByteArray := prog_7_method_5_code
def yX5_begin : MethodName := ⟨RX5, "begin", "(LScrimshawKernel$Fields;)V"⟩
abbrev cX5_next : ByteArray := prog_7_method_6_code
def yX5_next : MethodName := ⟨RX5, "next", "()Z"⟩
abbrev cX5_take : ByteArray := prog_7_method_7_code
def yX5_take : MethodName := ⟨RX5, "take", "(J)V"⟩
abbrev cX5_isRunAt : ByteArray := prog_7_method_8_code
def yX5_isRunAt : MethodName := ⟨RX5, "isRunAt", "(IJ)Z"⟩
abbrev cX5_firstRun : ByteArray := prog_7_method_9_code
def yX5_firstRun : MethodName := ⟨RX5, "firstRun", "(J)J"⟩
def RX6 : String := "ScrimshawKernel"
def TX6 : u_T := fun k => match k with
  | 0 => ("ScrimshawKernel", "regions", "[LScrimshawKernel$Fields;", true)
  | 1 => ("ScrimshawKernel", "spare", "LScrimshawKernel$Fields;", true)
  | 2 => ("ScrimshawKernel", "pen", "LScrimshawKernel$Pen;", true)
  | 3 => ("ScrimshawKernel", "history", "LScrimshawKernel$History;", true)
  | 4 => ("ScrimshawKernel", "flood", "LScrimshawKernel$Flood;", true)
  | 5 => ("ScrimshawKernel", "outline", "LScrimshawKernel$Outline;", true)
  | _ => ("ScrimshawKernel", "stripWalk", "LScrimshawKernel$StripWalk;", true)
def tyX6 : Nat → FieldType := fun k => match k with
  | 0 => .array (.object "ScrimshawKernel$Fields")
  | 1 => .object "ScrimshawKernel$Fields"
  | 2 => .object "ScrimshawKernel$Pen"
  | 3 => .object "ScrimshawKernel$History"
  | 4 => .object "ScrimshawKernel$Flood"
  | 5 => .object "ScrimshawKernel$Outline"
  | _ => .object "ScrimshawKernel$StripWalk"
abbrev wsX60 : List Cond := u_ws RX6 TX6 7
theorem nmX6 : ∀ a, a < 7 → ∀ b, b < 7 → a ≠ b → (TX6 a).2.1 ≠ (TX6 b).2.1 := by decide +kernel
theorem tyX6_ok : ∀ k, k < 7 → parseFieldDescriptor (TX6 k).2.2.1 = some (tyX6 k) := by decide +kernel
abbrev cX6_init : ByteArray := prog_1_method_1_code
def yX6_init : MethodName := ⟨RX6, "<init>", "()V"⟩
abbrev cX6_moveTo : ByteArray := prog_1_method_2_code
def yX6_moveTo : MethodName := ⟨RX6, "moveTo", "(II)I"⟩
abbrev cX6_lineX : ByteArray := prog_1_method_3_code
def yX6_lineX : MethodName := ⟨RX6, "lineX", "(I)I"⟩
abbrev cX6_lineY : ByteArray := prog_1_method_4_code
def yX6_lineY : MethodName := ⟨RX6, "lineY", "(I)I"⟩
abbrev cX6_close : ByteArray := prog_1_method_5_code
def yX6_close : MethodName := ⟨RX6, "close", "(II)I"⟩
abbrev cX6_points : ByteArray := prog_1_method_6_code
def yX6_points : MethodName := ⟨RX6, "points", "()I"⟩
abbrev cX6_addRectangle : ByteArray := prog_1_method_7_code
def yX6_addRectangle : MethodName := ⟨RX6, "addRectangle", "(IIIII)I"⟩
abbrev cX6_combine : ByteArray := prog_1_method_8_code
def yX6_combine : MethodName := ⟨RX6, "combine", "(IIII)I"⟩
abbrev cX6_move : ByteArray := prog_1_method_9_code
def yX6_move : MethodName := ⟨RX6, "move", "(III)I"⟩
abbrev cX6_turn : ByteArray := prog_1_method_10_code
def yX6_turn : MethodName := ⟨RX6, "turn", "(II)I"⟩
abbrev cX6_mirror : ByteArray := prog_1_method_11_code
def yX6_mirror : MethodName := ⟨RX6, "mirror", "(I)I"⟩
abbrev cX6_grow : ByteArray := prog_1_method_12_code
def yX6_grow : MethodName := ⟨RX6, "grow", "(III)I"⟩
abbrev cX6_shrink : ByteArray := prog_1_method_13_code
def yX6_shrink : MethodName := ⟨RX6, "shrink", "(III)I"⟩
abbrev cX6_fill : ByteArray := prog_1_method_14_code
def yX6_fill : MethodName := ⟨RX6, "fill", "(I)I"⟩
abbrev cX6_keepPiece : ByteArray := prog_1_method_15_code
def yX6_keepPiece : MethodName := ⟨RX6, "keepPiece", "(III)I"⟩
abbrev cX6_clear : ByteArray := prog_1_method_16_code
def yX6_clear : MethodName := ⟨RX6, "clear", "(I)I"⟩
abbrev cX6_undo : ByteArray := prog_1_method_17_code
def yX6_undo : MethodName := ⟨RX6, "undo", "()I"⟩
abbrev cX6_area : ByteArray := prog_1_method_18_code
def yX6_area : MethodName := ⟨RX6, "area", "(I)I"⟩
abbrev cX6_edges : ByteArray := prog_1_method_19_code
def yX6_edges : MethodName := ⟨RX6, "edges", "(I)I"⟩
abbrev cX6_pieces : ByteArray := prog_1_method_20_code
def yX6_pieces : MethodName := ⟨RX6, "pieces", "(I)I"⟩
abbrev cX6_holes : ByteArray := prog_1_method_21_code
def yX6_holes : MethodName := ⟨RX6, "holes", "(I)I"⟩
abbrev cX6_has : ByteArray := prog_1_method_22_code
def yX6_has : MethodName := ⟨RX6, "has", "(III)Z"⟩
abbrev cX6_bound : ByteArray := prog_1_method_23_code
def yX6_bound : MethodName := ⟨RX6, "bound", "(II)I"⟩
abbrev cX6_contours : ByteArray := prog_1_method_24_code
def yX6_contours : MethodName := ⟨RX6, "contours", "(I)I"⟩
abbrev cX6_corners : ByteArray := prog_1_method_25_code
def yX6_corners : MethodName := ⟨RX6, "corners", "(II)I"⟩
abbrev cX6_cornerX : ByteArray := prog_1_method_26_code
def yX6_cornerX : MethodName := ⟨RX6, "cornerX", "(III)I"⟩
abbrev cX6_cornerY : ByteArray := prog_1_method_27_code
def yX6_cornerY : MethodName := ⟨RX6, "cornerY", "(III)I"⟩
abbrev cX6_areaOf : ByteArray := prog_1_method_28_code
def yX6_areaOf : MethodName := ⟨RX6, "areaOf", "(II)I"⟩
abbrev cX6_strips : ByteArray := prog_1_method_29_code
def yX6_strips : MethodName := ⟨RX6, "strips", "(I)I"⟩
abbrev cX6_strip : ByteArray := prog_1_method_30_code
def yX6_strip : MethodName := ⟨RX6, "strip", "(III)I"⟩
abbrev cX6_hatch : ByteArray := prog_1_method_31_code
def yX6_hatch : MethodName := ⟨RX6, "hatch", "(IIII)I"⟩
abbrev cX6_hatched : ByteArray := prog_1_method_32_code
def yX6_hatched : MethodName := ⟨RX6, "hatched", "(IIII)I"⟩
abbrev cX6_apart : ByteArray := prog_1_method_33_code
def yX6_apart : MethodName := ⟨RX6, "apart", "(II)I"⟩
abbrev cX6_isSameForm : ByteArray := prog_1_method_34_code
def yX6_isSameForm : MethodName := ⟨RX6, "isSameForm", "(II)Z"⟩
abbrev cX6_middleX : ByteArray := prog_1_method_35_code
def yX6_middleX : MethodName := ⟨RX6, "middleX", "(I)D"⟩
abbrev cX6_digest : ByteArray := prog_1_method_36_code
def yX6_digest : MethodName := ⟨RX6, "digest", "()J"⟩
abbrev cX6_regionAt : ByteArray := prog_1_method_37_code
def yX6_regionAt : MethodName := ⟨RX6, "regionAt", "(I)LScrimshawKernel$Fields;"⟩
abbrev cX6_checkLine : ByteArray := prog_1_method_38_code
def yX6_checkLine : MethodName := ⟨RX6, "checkLine", "(IJ)V"⟩
abbrev cX6_checkRoom : ByteArray := prog_1_method_39_code
def yX6_checkRoom : MethodName := ⟨RX6, "checkRoom", "(JJ)V"⟩
abbrev cX6_checkGrowth : ByteArray := prog_1_method_40_code
def yX6_checkGrowth : MethodName := ⟨RX6, "checkGrowth", "(II)V"⟩
abbrev cX6_checkHatching : ByteArray := prog_1_method_41_code
def yX6_checkHatching : MethodName := ⟨RX6, "checkHatching", "(III)V"⟩
abbrev cX6_walkTo : ByteArray := prog_1_method_42_code
def yX6_walkTo : MethodName := ⟨RX6, "walkTo", "(III)V"⟩
abbrev cX6_isInReach : ByteArray := prog_1_method_43_code
def yX6_isInReach : MethodName := ⟨RX6, "isInReach", "(J)Z"⟩
abbrev cX6_isFrom : ByteArray := prog_1_method_44_code
def yX6_isFrom : MethodName := ⟨RX6, "isFrom", "(III)Z"⟩
abbrev cX6_boundOf : ByteArray := prog_1_method_45_code
def yX6_boundOf : MethodName := ⟨RX6, "boundOf", "(LScrimshawKernel$Fields;I)I"⟩
abbrev cX6_combined : ByteArray := prog_1_method_46_code
def yX6_combined : MethodName := ⟨RX6, "combined", "(JJI)J"⟩
abbrev cX6_mirrored : ByteArray := prog_1_method_47_code
def yX6_mirrored : MethodName := ⟨RX6, "mirrored", "(J)J"⟩
abbrev cX6_fieldsBehind : ByteArray := prog_1_method_48_code
def yX6_fieldsBehind : MethodName := ⟨RX6, "fieldsBehind", "(LScrimshawKernel$Fields;II)J"⟩
abbrev cX6_fieldsOnLines : ByteArray := prog_1_method_49_code
def yX6_fieldsOnLines : MethodName := ⟨RX6, "fieldsOnLines", "(IIII)J"⟩
abbrev cX6_numberOfLine : ByteArray := prog_1_method_50_code
def yX6_numberOfLine : MethodName := ⟨RX6, "numberOfLine", "(III)I"⟩
abbrev cX6_mixed : ByteArray := prog_1_method_51_code
def yX6_mixed : MethodName := ⟨RX6, "mixed", "(JJ)J"⟩
abbrev cX6_digestOfContours : ByteArray := prog_1_method_52_code
def yX6_digestOfContours : MethodName := ⟨RX6, "digestOfContours", "(JLScrimshawKernel$Fields;)J"⟩
abbrev cX6_digestOfStrips : ByteArray := prog_1_method_53_code
def yX6_digestOfStrips : MethodName := ⟨RX6, "digestOfStrips", "(JLScrimshawKernel$Fields;)J"⟩
abbrev cX6_bit : ByteArray := prog_1_method_54_code
def yX6_bit : MethodName := ⟨RX6, "bit", "(I)J"⟩
abbrev cX6_lowestBit : ByteArray := prog_1_method_55_code
def yX6_lowestBit : MethodName := ⟨RX6, "lowestBit", "(J)I"⟩
def RX7 : String := "ScrimshawKernelModel"
def TX7 : u_T := fun k => match k with
  | 0 => ("ScrimshawKernelModel", "thrown", "I", false)
  | 1 => ("ScrimshawKernelModel", "fields", "[[Z", true)
  | 2 => ("ScrimshawKernelModel", "pathX", "[I", true)
  | 3 => ("ScrimshawKernelModel", "pathY", "[I", true)
  | 4 => ("ScrimshawKernelModel", "points", "I", false)
  | 5 => ("ScrimshawKernelModel", "kept", "I", false)
  | 6 => ("ScrimshawKernelModel", "keptRegion", "[I", true)
  | _ => ("ScrimshawKernelModel", "keptFields", "[[Z", true)
def tyX7 : Nat → FieldType := fun k => match k with
  | 0 => .int
  | 1 => .array (.array .boolean)
  | 2 => .array .int
  | 3 => .array .int
  | 4 => .int
  | 5 => .int
  | 6 => .array .int
  | _ => .array (.array .boolean)
abbrev wsX70 : List Cond := u_ws RX7 TX7 8
theorem nmX7 : ∀ a, a < 8 → ∀ b, b < 8 → a ≠ b → (TX7 a).2.1 ≠ (TX7 b).2.1 := by decide +kernel
theorem tyX7_ok : ∀ k, k < 8 → parseFieldDescriptor (TX7 k).2.2.1 = some (tyX7 k) := by decide +kernel
abbrev cX7_init : ByteArray := prog_9_method_1_code
def yX7_init : MethodName := ⟨RX7, "<init>", "()V"⟩
abbrev cX7_thrown : ByteArray := prog_9_method_2_code
def yX7_thrown : MethodName := ⟨RX7, "thrown", "()I"⟩
abbrev cX7_no : ByteArray := prog_9_method_3_code
def yX7_no : MethodName := ⟨RX7, "no", "(I)I"⟩
abbrev cX7_isIn : ByteArray := prog_9_method_4_code
def yX7_isIn : MethodName := ⟨RX7, "isIn", "(III)Z"⟩
abbrev cX7_isRegion : ByteArray := prog_9_method_5_code
def yX7_isRegion : MethodName := ⟨RX7, "isRegion", "(I)Z"⟩
abbrev cX7_isField : ByteArray := prog_9_method_6_code
def yX7_isField : MethodName := ⟨RX7, "isField", "(II)Z"⟩
abbrev cX7_at : ByteArray := prog_9_method_7_code
def yX7_at : MethodName := ⟨RX7, "at", "(II)I"⟩
abbrev cX7_has : ByteArray := prog_9_method_8_code
def yX7_has : MethodName := ⟨RX7, "has", "([ZII)Z"⟩
abbrev cX7_areaOf : ByteArray := prog_9_method_9_code
def yX7_areaOf : MethodName := ⟨RX7, "areaOf", "([Z)I"⟩
abbrev cX7_change : ByteArray := prog_9_method_10_code
def yX7_change : MethodName := ⟨RX7, "change", "(I[Z)I"⟩
abbrev cX7_moveTo : ByteArray := prog_9_method_11_code
def yX7_moveTo : MethodName := ⟨RX7, "moveTo", "(II)I"⟩
abbrev cX7_line : ByteArray := prog_9_method_12_code
def yX7_line : MethodName := ⟨RX7, "line", "(II)I"⟩
abbrev cX7_lineX : ByteArray := prog_9_method_13_code
def yX7_lineX : MethodName := ⟨RX7, "lineX", "(I)I"⟩
abbrev cX7_lineY : ByteArray := prog_9_method_14_code
def yX7_lineY : MethodName := ⟨RX7, "lineY", "(I)I"⟩
abbrev cX7_cross : ByteArray := prog_9_method_15_code
def yX7_cross : MethodName := ⟨RX7, "cross", "([I[IIII)V"⟩
abbrev cX7_close : ByteArray := prog_9_method_16_code
def yX7_close : MethodName := ⟨RX7, "close", "(II)I"⟩
abbrev cX7_points : ByteArray := prog_9_method_17_code
def yX7_points : MethodName := ⟨RX7, "points", "()I"⟩
abbrev cX7_addRectangle : ByteArray := prog_9_method_18_code
def yX7_addRectangle : MethodName := ⟨RX7, "addRectangle", "(IIIII)I"⟩
abbrev cX7_combine : ByteArray := prog_9_method_19_code
def yX7_combine : MethodName := ⟨RX7, "combine", "(IIII)I"⟩
abbrev cX7_move : ByteArray := prog_9_method_20_code
def yX7_move : MethodName := ⟨RX7, "move", "(III)I"⟩
abbrev cX7_turn : ByteArray := prog_9_method_21_code
def yX7_turn : MethodName := ⟨RX7, "turn", "(II)I"⟩
abbrev cX7_mirror : ByteArray := prog_9_method_22_code
def yX7_mirror : MethodName := ⟨RX7, "mirror", "(I)I"⟩
abbrev cX7_distance : ByteArray := prog_9_method_23_code
def yX7_distance : MethodName := ⟨RX7, "distance", "(III)I"⟩
abbrev cX7_grow : ByteArray := prog_9_method_24_code
def yX7_grow : MethodName := ⟨RX7, "grow", "(III)I"⟩
abbrev cX7_shrink : ByteArray := prog_9_method_25_code
def yX7_shrink : MethodName := ⟨RX7, "shrink", "(III)I"⟩
abbrev cX7_parts : ByteArray := prog_9_method_26_code
def yX7_parts : MethodName := ⟨RX7, "parts", "([ZZ)[I"⟩
abbrev cX7_most : ByteArray := prog_9_method_27_code
def yX7_most : MethodName := ⟨RX7, "most", "([I)I"⟩
abbrev cX7_partAt : ByteArray := prog_9_method_28_code
def yX7_partAt : MethodName := ⟨RX7, "partAt", "([III)I"⟩
abbrev cX7_holesNow : ByteArray := prog_9_method_29_code
def yX7_holesNow : MethodName := ⟨RX7, "holesNow", "(I)I"⟩
abbrev cX7_fill : ByteArray := prog_9_method_30_code
def yX7_fill : MethodName := ⟨RX7, "fill", "(I)I"⟩
abbrev cX7_keepPiece : ByteArray := prog_9_method_31_code
def yX7_keepPiece : MethodName := ⟨RX7, "keepPiece", "(III)I"⟩
abbrev cX7_clear : ByteArray := prog_9_method_32_code
def yX7_clear : MethodName := ⟨RX7, "clear", "(I)I"⟩
abbrev cX7_undo : ByteArray := prog_9_method_33_code
def yX7_undo : MethodName := ⟨RX7, "undo", "()I"⟩
abbrev cX7_area : ByteArray := prog_9_method_34_code
def yX7_area : MethodName := ⟨RX7, "area", "(I)I"⟩
abbrev cX7_edgesNow : ByteArray := prog_9_method_35_code
def yX7_edgesNow : MethodName := ⟨RX7, "edgesNow", "(I)I"⟩
abbrev cX7_edges : ByteArray := prog_9_method_36_code
def yX7_edges : MethodName := ⟨RX7, "edges", "(I)I"⟩
abbrev cX7_pieces : ByteArray := prog_9_method_37_code
def yX7_pieces : MethodName := ⟨RX7, "pieces", "(I)I"⟩
abbrev cX7_holes : ByteArray := prog_9_method_38_code
def yX7_holes : MethodName := ⟨RX7, "holes", "(I)I"⟩
abbrev cX7_has_ : ByteArray := prog_9_method_39_code
def yX7_has_ : MethodName := ⟨RX7, "has", "(III)Z"⟩
abbrev cX7_boundNow : ByteArray := prog_9_method_40_code
def yX7_boundNow : MethodName := ⟨RX7, "boundNow", "(II)I"⟩
abbrev cX7_bound : ByteArray := prog_9_method_41_code
def yX7_bound : MethodName := ⟨RX7, "bound", "(II)I"⟩
abbrev cX7_isEdge : ByteArray := prog_9_method_42_code
def yX7_isEdge : MethodName := ⟨RX7, "isEdge", "([ZIII)Z"⟩
abbrev cX7_stepX : ByteArray := prog_9_method_43_code
def yX7_stepX : MethodName := ⟨RX7, "stepX", "(I)I"⟩
abbrev cX7_stepY : ByteArray := prog_9_method_44_code
def yX7_stepY : MethodName := ⟨RX7, "stepY", "(I)I"⟩
abbrev cX7_contoursNow : ByteArray := prog_9_method_45_code
def yX7_contoursNow : MethodName := ⟨RX7, "contoursNow", "(I)[I"⟩
abbrev cX7_put : ByteArray := prog_9_method_46_code
def yX7_put : MethodName := ⟨RX7, "put", "([IIII)[I"⟩
abbrev cX7_headOf : ByteArray := prog_9_method_47_code
def yX7_headOf : MethodName := ⟨RX7, "headOf", "([II)I"⟩
abbrev cX7_contours : ByteArray := prog_9_method_48_code
def yX7_contours : MethodName := ⟨RX7, "contours", "(I)I"⟩
abbrev cX7_ofContour : ByteArray := prog_9_method_49_code
def yX7_ofContour : MethodName := ⟨RX7, "ofContour", "(III)I"⟩
abbrev cX7_corners : ByteArray := prog_9_method_50_code
def yX7_corners : MethodName := ⟨RX7, "corners", "(II)I"⟩
abbrev cX7_areaOf_ : ByteArray := prog_9_method_51_code
def yX7_areaOf_ : MethodName := ⟨RX7, "areaOf", "(II)I"⟩
abbrev cX7_corner : ByteArray := prog_9_method_52_code
def yX7_corner : MethodName := ⟨RX7, "corner", "(IIII)I"⟩
abbrev cX7_cornerX : ByteArray := prog_9_method_53_code
def yX7_cornerX : MethodName := ⟨RX7, "cornerX", "(III)I"⟩
abbrev cX7_cornerY : ByteArray := prog_9_method_54_code
def yX7_cornerY : MethodName := ⟨RX7, "cornerY", "(III)I"⟩
abbrev cX7_isRun : ByteArray := prog_9_method_55_code
def yX7_isRun : MethodName := ⟨RX7, "isRun", "([ZIII)Z"⟩
abbrev cX7_stripsNow : ByteArray := prog_9_method_56_code
def yX7_stripsNow : MethodName := ⟨RX7, "stripsNow", "(I)[I"⟩
abbrev cX7_strips : ByteArray := prog_9_method_57_code
def yX7_strips : MethodName := ⟨RX7, "strips", "(I)I"⟩
abbrev cX7_strip : ByteArray := prog_9_method_58_code
def yX7_strip : MethodName := ⟨RX7, "strip", "(III)I"⟩
abbrev cX7_isOnLine : ByteArray := prog_9_method_59_code
def yX7_isOnLine : MethodName := ⟨RX7, "isOnLine", "(IIIII)Z"⟩
abbrev cX7_hatching : ByteArray := prog_9_method_60_code
def yX7_hatching : MethodName := ⟨RX7, "hatching", "(IIIIZ)I"⟩
abbrev cX7_hatch : ByteArray := prog_9_method_61_code
def yX7_hatch : MethodName := ⟨RX7, "hatch", "(IIII)I"⟩
abbrev cX7_hatched : ByteArray := prog_9_method_62_code
def yX7_hatched : MethodName := ⟨RX7, "hatched", "(IIII)I"⟩
abbrev cX7_apart : ByteArray := prog_9_method_63_code
def yX7_apart : MethodName := ⟨RX7, "apart", "(II)I"⟩
abbrev cX7_isSameForm : ByteArray := prog_9_method_64_code
def yX7_isSameForm : MethodName := ⟨RX7, "isSameForm", "(II)Z"⟩
abbrev cX7_middleX : ByteArray := prog_9_method_65_code
def yX7_middleX : MethodName := ⟨RX7, "middleX", "(I)D"⟩
abbrev cX7_digest : ByteArray := prog_9_method_66_code
def yX7_digest : MethodName := ⟨RX7, "digest", "()J"⟩
def RJx145de : String := "java/io/Serializable"
def TJx145de : u_T := fun k => match k with
  | _ => ("", "", "", false)
def tyJx145de : Nat → FieldType := fun k => match k with
  | _ => .int
abbrev wsJx145de0 : List Cond := u_ws RJx145de TJx145de 0
theorem nmJx145de : ∀ a, a < 0 → ∀ b, b < 0 → a ≠ b → (TJx145de a).2.1 ≠ (TJx145de b).2.1 := by decide +kernel
theorem tyJx145de_ok : ∀ k, k < 0 → parseFieldDescriptor (TJx145de k).2.2.1 = some (tyJx145de k) := by decide +kernel
def RJ13 : String := "java/lang/Long"
def TJ13 : u_T := fun k => match k with
  | _ => ("", "", "", false)
def tyJ13 : Nat → FieldType := fun k => match k with
  | _ => .int
abbrev wsJ130 : List Cond := u_ws RJ13 TJ13 0
theorem nmJ13 : ∀ a, a < 0 → ∀ b, b < 0 → a ≠ b → (TJ13 a).2.1 ≠ (TJ13 b).2.1 := by decide +kernel
theorem tyJ13_ok : ∀ k, k < 0 → parseFieldDescriptor (TJ13 k).2.2.1 = some (tyJ13 k) := by decide +kernel
abbrev cJ13_bitCount_95d88 : ByteArray := prog_14_method_50_code
def yJ13_bitCount_95d88 : MethodName := ⟨RJ13, "bitCount", "(J)I"⟩
def RJ9 : String := "java/lang/Math"
def TJ9 : u_T := fun k => match k with
  | _ => ("", "", "", false)
def tyJ9 : Nat → FieldType := fun k => match k with
  | _ => .int
abbrev wsJ90 : List Cond := u_ws RJ9 TJ9 0
theorem nmJ9 : ∀ a, a < 0 → ∀ b, b < 0 → a ≠ b → (TJ9 a).2.1 ≠ (TJ9 b).2.1 := by decide +kernel
theorem tyJ9_ok : ∀ k, k < 0 → parseFieldDescriptor (TJ9 k).2.2.1 = some (tyJ9 k) := by decide +kernel
abbrev cJ9_abs_0f7a4 : ByteArray := prog_15_method_59_code
def yJ9_abs_0f7a4 : MethodName := ⟨RJ9, "abs", "(I)I"⟩
abbrev cJ9_max_7cf53 : ByteArray := prog_15_method_65_code
def yJ9_max_7cf53 : MethodName := ⟨RJ9, "max", "(II)I"⟩
abbrev cJ9_min_7cf53 : ByteArray := prog_15_method_69_code
def yJ9_min_7cf53 : MethodName := ⟨RJ9, "min", "(II)I"⟩
def RJ0 : String := "java/lang/String"
def TJ0 : u_T := fun k => match k with
  | _ => ("", "", "", false)
def tyJ0 : Nat → FieldType := fun k => match k with
  | _ => .int
abbrev wsJ00 : List Cond := u_ws RJ0 TJ0 0
theorem nmJ0 : ∀ a, a < 0 → ∀ b, b < 0 → a ≠ b → (TJ0 a).2.1 ≠ (TJ0 b).2.1 := by decide +kernel
theorem tyJ0_ok : ∀ k, k < 0 → parseFieldDescriptor (TJ0 k).2.2.1 = some (tyJ0 k) := by decide +kernel
def RJ10 : String := "java/lang/System"
def TJ10 : u_T := fun k => match k with
  | _ => ("", "", "", false)
def tyJ10 : Nat → FieldType := fun k => match k with
  | _ => .int
abbrev wsJ100 : List Cond := u_ws RJ10 TJ10 0
theorem nmJ10 : ∀ a, a < 0 → ∀ b, b < 0 → a ≠ b → (TJ10 a).2.1 ≠ (TJ10 b).2.1 := by decide +kernel
theorem tyJ10_ok : ∀ k, k < 0 → parseFieldDescriptor (TJ10 k).2.2.1 = some (tyJ10 k) := by decide +kernel
def RJ7 : String := "java/util/Arrays"
def TJ7 : u_T := fun k => match k with
  | _ => ("", "", "", false)
def tyJ7 : Nat → FieldType := fun k => match k with
  | _ => .int
abbrev wsJ70 : List Cond := u_ws RJ7 TJ7 0
theorem nmJ7 : ∀ a, a < 0 → ∀ b, b < 0 → a ≠ b → (TJ7 a).2.1 ≠ (TJ7 b).2.1 := by decide +kernel
theorem tyJ7_ok : ∀ k, k < 0 → parseFieldDescriptor (TJ7 k).2.2.1 = some (tyJ7 k) := by decide +kernel
abbrev cJ7_fill_d0a16 : ByteArray := prog_20_method_101_code
def yJ7_fill_d0a16 : MethodName := ⟨RJ7, "fill", "([JJ)V"⟩
abbrev cJ7_fill_53178 : ByteArray := prog_20_method_103_code
def yJ7_fill_53178 : MethodName := ⟨RJ7, "fill", "([II)V"⟩
def RL : String := "ScrimshawKernelLaw"
abbrev cL_moveTo : ByteArray := method_3_code
def yL_moveTo : MethodName := ⟨RL, "moveTo", "(LScrimshawKernel;II[J)I"⟩
abbrev cL_lineX : ByteArray := method_4_code
def yL_lineX : MethodName := ⟨RL, "lineX", "(LScrimshawKernel;I[J)I"⟩
abbrev cL_lineY : ByteArray := method_5_code
def yL_lineY : MethodName := ⟨RL, "lineY", "(LScrimshawKernel;I[J)I"⟩
abbrev cL_close : ByteArray := method_6_code
def yL_close : MethodName := ⟨RL, "close", "(LScrimshawKernel;II[J)I"⟩
abbrev cL_addRectangle : ByteArray := method_7_code
def yL_addRectangle : MethodName := ⟨RL, "addRectangle", "(LScrimshawKernel;IIIII[J)I"⟩
abbrev cL_combine : ByteArray := method_8_code
def yL_combine : MethodName := ⟨RL, "combine", "(LScrimshawKernel;IIII[J)I"⟩
abbrev cL_move : ByteArray := method_9_code
def yL_move : MethodName := ⟨RL, "move", "(LScrimshawKernel;III[J)I"⟩
abbrev cL_turn : ByteArray := method_10_code
def yL_turn : MethodName := ⟨RL, "turn", "(LScrimshawKernel;II[J)I"⟩
abbrev cL_mirror : ByteArray := method_11_code
def yL_mirror : MethodName := ⟨RL, "mirror", "(LScrimshawKernel;I[J)I"⟩
abbrev cL_grow : ByteArray := method_12_code
def yL_grow : MethodName := ⟨RL, "grow", "(LScrimshawKernel;III[J)I"⟩
abbrev cL_shrink : ByteArray := method_13_code
def yL_shrink : MethodName := ⟨RL, "shrink", "(LScrimshawKernel;III[J)I"⟩
abbrev cL_fill : ByteArray := method_14_code
def yL_fill : MethodName := ⟨RL, "fill", "(LScrimshawKernel;I[J)I"⟩
abbrev cL_keepPiece : ByteArray := method_15_code
def yL_keepPiece : MethodName := ⟨RL, "keepPiece", "(LScrimshawKernel;III[J)I"⟩
abbrev cL_clear : ByteArray := method_16_code
def yL_clear : MethodName := ⟨RL, "clear", "(LScrimshawKernel;I[J)I"⟩
abbrev cL_area : ByteArray := method_17_code
def yL_area : MethodName := ⟨RL, "area", "(LScrimshawKernel;I[J)I"⟩
abbrev cL_edges : ByteArray := method_18_code
def yL_edges : MethodName := ⟨RL, "edges", "(LScrimshawKernel;I[J)I"⟩
abbrev cL_pieces : ByteArray := method_19_code
def yL_pieces : MethodName := ⟨RL, "pieces", "(LScrimshawKernel;I[J)I"⟩
abbrev cL_holes : ByteArray := method_20_code
def yL_holes : MethodName := ⟨RL, "holes", "(LScrimshawKernel;I[J)I"⟩
abbrev cL_has : ByteArray := method_21_code
def yL_has : MethodName := ⟨RL, "has", "(LScrimshawKernel;III[J)I"⟩
abbrev cL_bound : ByteArray := method_22_code
def yL_bound : MethodName := ⟨RL, "bound", "(LScrimshawKernel;II[J)I"⟩
abbrev cL_contours : ByteArray := method_23_code
def yL_contours : MethodName := ⟨RL, "contours", "(LScrimshawKernel;I[J)I"⟩
abbrev cL_corners : ByteArray := method_24_code
def yL_corners : MethodName := ⟨RL, "corners", "(LScrimshawKernel;II[J)I"⟩
abbrev cL_cornerX : ByteArray := method_25_code
def yL_cornerX : MethodName := ⟨RL, "cornerX", "(LScrimshawKernel;III[J)I"⟩
abbrev cL_cornerY : ByteArray := method_26_code
def yL_cornerY : MethodName := ⟨RL, "cornerY", "(LScrimshawKernel;III[J)I"⟩
abbrev cL_areaOf : ByteArray := method_27_code
def yL_areaOf : MethodName := ⟨RL, "areaOf", "(LScrimshawKernel;II[J)I"⟩
abbrev cL_strips : ByteArray := method_28_code
def yL_strips : MethodName := ⟨RL, "strips", "(LScrimshawKernel;I[J)I"⟩
abbrev cL_strip : ByteArray := method_29_code
def yL_strip : MethodName := ⟨RL, "strip", "(LScrimshawKernel;III[J)I"⟩
abbrev cL_hatch : ByteArray := method_30_code
def yL_hatch : MethodName := ⟨RL, "hatch", "(LScrimshawKernel;IIII[J)I"⟩
abbrev cL_hatched : ByteArray := method_31_code
def yL_hatched : MethodName := ⟨RL, "hatched", "(LScrimshawKernel;IIII[J)I"⟩
abbrev cL_apart : ByteArray := method_32_code
def yL_apart : MethodName := ⟨RL, "apart", "(LScrimshawKernel;II[J)I"⟩
abbrev cL_isSameForm : ByteArray := method_33_code
def yL_isSameForm : MethodName := ⟨RL, "isSameForm", "(LScrimshawKernel;II[J)I"⟩
abbrev cL_middleX : ByteArray := method_34_code
def yL_middleX : MethodName := ⟨RL, "middleX", "(LScrimshawKernel;I[D)I"⟩
abbrev cL_law : ByteArray := code
def yL_law : MethodName := ⟨RL, "law", "([I)Z"⟩
abbrev vwCl : List vw_C := [(RX0, TX0, 1), (RX1, TX1, 4), (RX2, TX2, 4), (RX3, TX3, 12), (RX4, TX4, 8), (RX5, TX5, 7), (RX6, TX6, 7), (RX7, TX7, 8)]
end
section
theorem dX0_init_0 : decode cX0_init 0 = .ok (.aload_n 0, 1) := by decide +kernel
theorem dX0_init_1 : decode cX0_init 1 = .ok (.invokespecial 3, 3) := by decide +kernel
theorem dX0_init_4 : decode cX0_init 4 = .ok (.aload_n 0, 1) := by decide +kernel
theorem dX0_init_5 : decode cX0_init 5 = .ok (.bipush 64, 2) := by decide +kernel
theorem dX0_init_7 : decode cX0_init 7 = .ok (.newarray .long, 2) := by decide +kernel
theorem dX0_init_9 : decode cX0_init 9 = .ok (.putfield 9, 3) := by decide +kernel
theorem dX0_init_12 : decode cX0_init 12 = .ok (.return_, 1) := by decide +kernel
theorem dX0_row_0 : decode cX0_row 0 = .ok (.iload_n 1, 1) := by decide +kernel
theorem dX0_row_1 : decode cX0_row 1 = .ok (.bipush (-32), 2) := by decide +kernel
theorem dX0_row_3 : decode cX0_row 3 = .ok (.isub, 1) := by decide +kernel
theorem dX0_row_4 : decode cX0_row 4 = .ok (.istore_n 2, 1) := by decide +kernel
theorem dX0_row_5 : decode cX0_row 5 = .ok (.iload_n 2, 1) := by decide +kernel
theorem dX0_row_6 : decode cX0_row 6 = .ok (.ifCond .lt 21, 3) := by decide +kernel
theorem dX0_row_9 : decode cX0_row 9 = .ok (.iload_n 2, 1) := by decide +kernel
theorem dX0_row_10 : decode cX0_row 10 = .ok (.aload_n 0, 1) := by decide +kernel
theorem dX0_row_11 : decode cX0_row 11 = .ok (.getfield 9, 3) := by decide +kernel
theorem dX0_row_14 : decode cX0_row 14 = .ok (.arraylength, 1) := by decide +kernel
theorem dX0_row_15 : decode cX0_row 15 = .ok (.if_icmp .ge 12, 3) := by decide +kernel
theorem dX0_row_18 : decode cX0_row 18 = .ok (.aload_n 0, 1) := by decide +kernel
theorem dX0_row_19 : decode cX0_row 19 = .ok (.getfield 9, 3) := by decide +kernel
theorem dX0_row_22 : decode cX0_row 22 = .ok (.iload_n 2, 1) := by decide +kernel
theorem dX0_row_23 : decode cX0_row 23 = .ok (.laload, 1) := by decide +kernel
theorem dX0_row_24 : decode cX0_row 24 = .ok (.goto 4, 3) := by decide +kernel
theorem dX0_row_27 : decode cX0_row 27 = .ok (.lconst 0, 1) := by decide +kernel
theorem dX0_row_28 : decode cX0_row 28 = .ok (.lreturn, 1) := by decide +kernel
theorem dX0_putRow_0 : decode cX0_putRow 0 = .ok (.iload_n 1, 1) := by decide +kernel
theorem dX0_putRow_1 : decode cX0_putRow 1 = .ok (.bipush (-32), 2) := by decide +kernel
theorem dX0_putRow_3 : decode cX0_putRow 3 = .ok (.isub, 1) := by decide +kernel
theorem dX0_putRow_4 : decode cX0_putRow 4 = .ok (.istore 4, 2) := by decide +kernel
theorem dX0_putRow_6 : decode cX0_putRow 6 = .ok (.iload 4, 2) := by decide +kernel
theorem dX0_putRow_8 : decode cX0_putRow 8 = .ok (.ifCond .lt 21, 3) := by decide +kernel
theorem dX0_putRow_11 : decode cX0_putRow 11 = .ok (.iload 4, 2) := by decide +kernel
theorem dX0_putRow_13 : decode cX0_putRow 13 = .ok (.aload_n 0, 1) := by decide +kernel
theorem dX0_putRow_14 : decode cX0_putRow 14 = .ok (.getfield 9, 3) := by decide +kernel
theorem dX0_putRow_17 : decode cX0_putRow 17 = .ok (.arraylength, 1) := by decide +kernel
theorem dX0_putRow_18 : decode cX0_putRow 18 = .ok (.if_icmp .ge 11, 3) := by decide +kernel
theorem dX0_putRow_21 : decode cX0_putRow 21 = .ok (.aload_n 0, 1) := by decide +kernel
theorem dX0_putRow_22 : decode cX0_putRow 22 = .ok (.getfield 9, 3) := by decide +kernel
theorem dX0_putRow_25 : decode cX0_putRow 25 = .ok (.iload 4, 2) := by decide +kernel
theorem dX0_putRow_27 : decode cX0_putRow 27 = .ok (.lload_n 2, 1) := by decide +kernel
theorem dX0_putRow_28 : decode cX0_putRow 28 = .ok (.lastore, 1) := by decide +kernel
theorem dX0_putRow_29 : decode cX0_putRow 29 = .ok (.return_, 1) := by decide +kernel
theorem dX0_holds_0 : decode cX0_holds 0 = .ok (.iload_n 2, 1) := by decide +kernel
theorem dX0_holds_1 : decode cX0_holds 1 = .ok (.bipush (-32), 2) := by decide +kernel
theorem dX0_holds_3 : decode cX0_holds 3 = .ok (.isub, 1) := by decide +kernel
theorem dX0_holds_4 : decode cX0_holds 4 = .ok (.istore_n 3, 1) := by decide +kernel
theorem dX0_holds_5 : decode cX0_holds 5 = .ok (.iload_n 3, 1) := by decide +kernel
theorem dX0_holds_6 : decode cX0_holds 6 = .ok (.ifCond .lt 28, 3) := by decide +kernel
theorem dX0_holds_9 : decode cX0_holds 9 = .ok (.iload_n 3, 1) := by decide +kernel
theorem dX0_holds_10 : decode cX0_holds 10 = .ok (.aload_n 0, 1) := by decide +kernel
theorem dX0_holds_11 : decode cX0_holds 11 = .ok (.getfield 9, 3) := by decide +kernel
theorem dX0_holds_14 : decode cX0_holds 14 = .ok (.arraylength, 1) := by decide +kernel
theorem dX0_holds_15 : decode cX0_holds 15 = .ok (.if_icmp .ge 19, 3) := by decide +kernel
theorem dX0_holds_18 : decode cX0_holds 18 = .ok (.iload_n 1, 1) := by decide +kernel
theorem dX0_holds_19 : decode cX0_holds 19 = .ok (.bipush (-32), 2) := by decide +kernel
theorem dX0_holds_21 : decode cX0_holds 21 = .ok (.if_icmp .lt 13, 3) := by decide +kernel
theorem dX0_holds_24 : decode cX0_holds 24 = .ok (.iload_n 1, 1) := by decide +kernel
theorem dX0_holds_25 : decode cX0_holds 25 = .ok (.bipush 31, 2) := by decide +kernel
theorem dX0_holds_27 : decode cX0_holds 27 = .ok (.if_icmp .gt 7, 3) := by decide +kernel
theorem dX0_holds_30 : decode cX0_holds 30 = .ok (.iconst 1, 1) := by decide +kernel
theorem dX0_holds_31 : decode cX0_holds 31 = .ok (.goto 4, 3) := by decide +kernel
theorem dX0_holds_34 : decode cX0_holds 34 = .ok (.iconst 0, 1) := by decide +kernel
theorem dX0_holds_35 : decode cX0_holds 35 = .ok (.istore 4, 2) := by decide +kernel
theorem dX0_holds_37 : decode cX0_holds 37 = .ok (.iload 4, 2) := by decide +kernel
theorem dX0_holds_39 : decode cX0_holds 39 = .ok (.ifCond .eq 25, 3) := by decide +kernel
theorem dX0_holds_42 : decode cX0_holds 42 = .ok (.aload_n 0, 1) := by decide +kernel
theorem dX0_holds_43 : decode cX0_holds 43 = .ok (.getfield 9, 3) := by decide +kernel
theorem dX0_holds_46 : decode cX0_holds 46 = .ok (.iload_n 3, 1) := by decide +kernel
theorem dX0_holds_47 : decode cX0_holds 47 = .ok (.laload, 1) := by decide +kernel
theorem dX0_holds_48 : decode cX0_holds 48 = .ok (.iload_n 1, 1) := by decide +kernel
theorem dX0_holds_49 : decode cX0_holds 49 = .ok (.bipush (-32), 2) := by decide +kernel
theorem dX0_holds_51 : decode cX0_holds 51 = .ok (.isub, 1) := by decide +kernel
theorem dX0_holds_52 : decode cX0_holds 52 = .ok (.lushr, 1) := by decide +kernel
theorem dX0_holds_53 : decode cX0_holds 53 = .ok (.lconst 1, 1) := by decide +kernel
theorem dX0_holds_54 : decode cX0_holds 54 = .ok (.land, 1) := by decide +kernel
theorem dX0_holds_55 : decode cX0_holds 55 = .ok (.lconst 0, 1) := by decide +kernel
theorem dX0_holds_56 : decode cX0_holds 56 = .ok (.lcmp, 1) := by decide +kernel
theorem dX0_holds_57 : decode cX0_holds 57 = .ok (.ifCond .eq 7, 3) := by decide +kernel
theorem dX0_holds_60 : decode cX0_holds 60 = .ok (.iconst 1, 1) := by decide +kernel
theorem dX0_holds_61 : decode cX0_holds 61 = .ok (.goto 4, 3) := by decide +kernel
theorem dX0_holds_64 : decode cX0_holds 64 = .ok (.iconst 0, 1) := by decide +kernel
theorem dX0_holds_65 : decode cX0_holds 65 = .ok (.ireturn, 1) := by decide +kernel
theorem dX0_add_0 : decode cX0_add 0 = .ok (.iload_n 2, 1) := by decide +kernel
theorem dX0_add_1 : decode cX0_add 1 = .ok (.bipush (-32), 2) := by decide +kernel
theorem dX0_add_3 : decode cX0_add 3 = .ok (.isub, 1) := by decide +kernel
theorem dX0_add_4 : decode cX0_add 4 = .ok (.istore_n 3, 1) := by decide +kernel
theorem dX0_add_5 : decode cX0_add 5 = .ok (.iload_n 3, 1) := by decide +kernel
theorem dX0_add_6 : decode cX0_add 6 = .ok (.ifCond .lt 39, 3) := by decide +kernel
theorem dX0_add_9 : decode cX0_add 9 = .ok (.iload_n 3, 1) := by decide +kernel
theorem dX0_add_10 : decode cX0_add 10 = .ok (.aload_n 0, 1) := by decide +kernel
theorem dX0_add_11 : decode cX0_add 11 = .ok (.getfield 9, 3) := by decide +kernel
theorem dX0_add_14 : decode cX0_add 14 = .ok (.arraylength, 1) := by decide +kernel
theorem dX0_add_15 : decode cX0_add 15 = .ok (.if_icmp .ge 30, 3) := by decide +kernel
theorem dX0_add_18 : decode cX0_add 18 = .ok (.iload_n 1, 1) := by decide +kernel
theorem dX0_add_19 : decode cX0_add 19 = .ok (.bipush (-32), 2) := by decide +kernel
theorem dX0_add_21 : decode cX0_add 21 = .ok (.if_icmp .lt 24, 3) := by decide +kernel
theorem dX0_add_24 : decode cX0_add 24 = .ok (.iload_n 1, 1) := by decide +kernel
theorem dX0_add_25 : decode cX0_add 25 = .ok (.bipush 31, 2) := by decide +kernel
theorem dX0_add_27 : decode cX0_add 27 = .ok (.if_icmp .gt 18, 3) := by decide +kernel
theorem dX0_add_30 : decode cX0_add 30 = .ok (.aload_n 0, 1) := by decide +kernel
theorem dX0_add_31 : decode cX0_add 31 = .ok (.getfield 9, 3) := by decide +kernel
theorem dX0_add_34 : decode cX0_add 34 = .ok (.iload_n 3, 1) := by decide +kernel
theorem dX0_add_35 : decode cX0_add 35 = .ok (.dup2, 1) := by decide +kernel
theorem dX0_add_36 : decode cX0_add 36 = .ok (.laload, 1) := by decide +kernel
theorem dX0_add_37 : decode cX0_add 37 = .ok (.lconst 1, 1) := by decide +kernel
theorem dX0_add_38 : decode cX0_add 38 = .ok (.iload_n 1, 1) := by decide +kernel
theorem dX0_add_39 : decode cX0_add 39 = .ok (.bipush (-32), 2) := by decide +kernel
theorem dX0_add_41 : decode cX0_add 41 = .ok (.isub, 1) := by decide +kernel
theorem dX0_add_42 : decode cX0_add 42 = .ok (.lshl, 1) := by decide +kernel
theorem dX0_add_43 : decode cX0_add 43 = .ok (.lor, 1) := by decide +kernel
theorem dX0_add_44 : decode cX0_add 44 = .ok (.lastore, 1) := by decide +kernel
theorem dX0_add_45 : decode cX0_add 45 = .ok (.return_, 1) := by decide +kernel
theorem dX0_empty_0 : decode cX0_empty 0 = .ok (.aload_n 0, 1) := by decide +kernel
theorem dX0_empty_1 : decode cX0_empty 1 = .ok (.getfield 9, 3) := by decide +kernel
theorem dX0_empty_4 : decode cX0_empty 4 = .ok (.lconst 0, 1) := by decide +kernel
theorem dX0_empty_5 : decode cX0_empty 5 = .ok (.invokestatic 15, 3) := by decide +kernel
theorem dX0_empty_8 : decode cX0_empty 8 = .ok (.return_, 1) := by decide +kernel
theorem dX0_isEmpty_0 : decode cX0_isEmpty 0 = .ok (.aload_n 0, 1) := by decide +kernel
theorem dX0_isEmpty_1 : decode cX0_isEmpty 1 = .ok (.invokevirtual 21, 3) := by decide +kernel
theorem dX0_isEmpty_4 : decode cX0_isEmpty 4 = .ok (.lconst 0, 1) := by decide +kernel
theorem dX0_isEmpty_5 : decode cX0_isEmpty 5 = .ok (.lcmp, 1) := by decide +kernel
theorem dX0_isEmpty_6 : decode cX0_isEmpty 6 = .ok (.ifCond .ne 7, 3) := by decide +kernel
theorem dX0_isEmpty_9 : decode cX0_isEmpty 9 = .ok (.iconst 1, 1) := by decide +kernel
theorem dX0_isEmpty_10 : decode cX0_isEmpty 10 = .ok (.goto 4, 3) := by decide +kernel
theorem dX0_isEmpty_13 : decode cX0_isEmpty 13 = .ok (.iconst 0, 1) := by decide +kernel
theorem dX0_isEmpty_14 : decode cX0_isEmpty 14 = .ok (.ireturn, 1) := by decide +kernel
theorem dX0_copy_0 : decode cX0_copy 0 = .ok (.bipush (-32), 2) := by decide +kernel
theorem dX0_copy_2 : decode cX0_copy 2 = .ok (.istore_n 2, 1) := by decide +kernel
theorem dX0_copy_3 : decode cX0_copy 3 = .ok (.iload_n 2, 1) := by decide +kernel
theorem dX0_copy_4 : decode cX0_copy 4 = .ok (.bipush 31, 2) := by decide +kernel
theorem dX0_copy_6 : decode cX0_copy 6 = .ok (.if_icmp .gt 19, 3) := by decide +kernel
theorem dX0_copy_9 : decode cX0_copy 9 = .ok (.aload_n 0, 1) := by decide +kernel
theorem dX0_copy_10 : decode cX0_copy 10 = .ok (.iload_n 2, 1) := by decide +kernel
theorem dX0_copy_11 : decode cX0_copy 11 = .ok (.aload_n 1, 1) := by decide +kernel
theorem dX0_copy_12 : decode cX0_copy 12 = .ok (.iload_n 2, 1) := by decide +kernel
theorem dX0_copy_13 : decode cX0_copy 13 = .ok (.invokevirtual 25, 3) := by decide +kernel
theorem dX0_copy_16 : decode cX0_copy 16 = .ok (.invokevirtual 29, 3) := by decide +kernel
theorem dX0_copy_19 : decode cX0_copy 19 = .ok (.iinc 2 1, 3) := by decide +kernel
theorem dX0_copy_22 : decode cX0_copy 22 = .ok (.goto (-19), 3) := by decide +kernel
theorem dX0_copy_25 : decode cX0_copy 25 = .ok (.return_, 1) := by decide +kernel
theorem dX0_isSame_0 : decode cX0_isSame 0 = .ok (.bipush (-32), 2) := by decide +kernel
theorem dX0_isSame_2 : decode cX0_isSame 2 = .ok (.istore_n 2, 1) := by decide +kernel
theorem dX0_isSame_3 : decode cX0_isSame 3 = .ok (.iload_n 2, 1) := by decide +kernel
theorem dX0_isSame_4 : decode cX0_isSame 4 = .ok (.bipush 31, 2) := by decide +kernel
theorem dX0_isSame_6 : decode cX0_isSame 6 = .ok (.if_icmp .gt 25, 3) := by decide +kernel
theorem dX0_isSame_9 : decode cX0_isSame 9 = .ok (.aload_n 0, 1) := by decide +kernel
theorem dX0_isSame_10 : decode cX0_isSame 10 = .ok (.iload_n 2, 1) := by decide +kernel
theorem dX0_isSame_11 : decode cX0_isSame 11 = .ok (.invokevirtual 25, 3) := by decide +kernel
theorem dX0_isSame_14 : decode cX0_isSame 14 = .ok (.aload_n 1, 1) := by decide +kernel
theorem dX0_isSame_15 : decode cX0_isSame 15 = .ok (.iload_n 2, 1) := by decide +kernel
theorem dX0_isSame_16 : decode cX0_isSame 16 = .ok (.invokevirtual 25, 3) := by decide +kernel
theorem dX0_isSame_19 : decode cX0_isSame 19 = .ok (.lcmp, 1) := by decide +kernel
theorem dX0_isSame_20 : decode cX0_isSame 20 = .ok (.ifCond .eq 5, 3) := by decide +kernel
theorem dX0_isSame_23 : decode cX0_isSame 23 = .ok (.iconst 0, 1) := by decide +kernel
theorem dX0_isSame_24 : decode cX0_isSame 24 = .ok (.ireturn, 1) := by decide +kernel
theorem dX0_isSame_25 : decode cX0_isSame 25 = .ok (.iinc 2 1, 3) := by decide +kernel
theorem dX0_isSame_28 : decode cX0_isSame 28 = .ok (.goto (-25), 3) := by decide +kernel
theorem dX0_isSame_31 : decode cX0_isSame 31 = .ok (.iconst 1, 1) := by decide +kernel
theorem dX0_isSame_32 : decode cX0_isSame 32 = .ok (.ireturn, 1) := by decide +kernel
theorem dX0_meets_0 : decode cX0_meets 0 = .ok (.bipush (-32), 2) := by decide +kernel
theorem dX0_meets_2 : decode cX0_meets 2 = .ok (.istore_n 2, 1) := by decide +kernel
theorem dX0_meets_3 : decode cX0_meets 3 = .ok (.iload_n 2, 1) := by decide +kernel
theorem dX0_meets_4 : decode cX0_meets 4 = .ok (.bipush 31, 2) := by decide +kernel
theorem dX0_meets_6 : decode cX0_meets 6 = .ok (.if_icmp .gt 27, 3) := by decide +kernel
theorem dX0_meets_9 : decode cX0_meets 9 = .ok (.aload_n 0, 1) := by decide +kernel
theorem dX0_meets_10 : decode cX0_meets 10 = .ok (.iload_n 2, 1) := by decide +kernel
theorem dX0_meets_11 : decode cX0_meets 11 = .ok (.invokevirtual 25, 3) := by decide +kernel
theorem dX0_meets_14 : decode cX0_meets 14 = .ok (.aload_n 1, 1) := by decide +kernel
theorem dX0_meets_15 : decode cX0_meets 15 = .ok (.iload_n 2, 1) := by decide +kernel
theorem dX0_meets_16 : decode cX0_meets 16 = .ok (.invokevirtual 25, 3) := by decide +kernel
theorem dX0_meets_19 : decode cX0_meets 19 = .ok (.land, 1) := by decide +kernel
theorem dX0_meets_20 : decode cX0_meets 20 = .ok (.lconst 0, 1) := by decide +kernel
theorem dX0_meets_21 : decode cX0_meets 21 = .ok (.lcmp, 1) := by decide +kernel
theorem dX0_meets_22 : decode cX0_meets 22 = .ok (.ifCond .eq 5, 3) := by decide +kernel
theorem dX0_meets_25 : decode cX0_meets 25 = .ok (.iconst 1, 1) := by decide +kernel
theorem dX0_meets_26 : decode cX0_meets 26 = .ok (.ireturn, 1) := by decide +kernel
theorem dX0_meets_27 : decode cX0_meets 27 = .ok (.iinc 2 1, 3) := by decide +kernel
theorem dX0_meets_30 : decode cX0_meets 30 = .ok (.goto (-27), 3) := by decide +kernel
theorem dX0_meets_33 : decode cX0_meets 33 = .ok (.iconst 0, 1) := by decide +kernel
theorem dX0_meets_34 : decode cX0_meets 34 = .ok (.ireturn, 1) := by decide +kernel
theorem dX0_unite_0 : decode cX0_unite 0 = .ok (.bipush (-32), 2) := by decide +kernel
theorem dX0_unite_2 : decode cX0_unite 2 = .ok (.istore_n 2, 1) := by decide +kernel
theorem dX0_unite_3 : decode cX0_unite 3 = .ok (.iload_n 2, 1) := by decide +kernel
theorem dX0_unite_4 : decode cX0_unite 4 = .ok (.bipush 31, 2) := by decide +kernel
theorem dX0_unite_6 : decode cX0_unite 6 = .ok (.if_icmp .gt 25, 3) := by decide +kernel
theorem dX0_unite_9 : decode cX0_unite 9 = .ok (.aload_n 0, 1) := by decide +kernel
theorem dX0_unite_10 : decode cX0_unite 10 = .ok (.iload_n 2, 1) := by decide +kernel
theorem dX0_unite_11 : decode cX0_unite 11 = .ok (.aload_n 0, 1) := by decide +kernel
theorem dX0_unite_12 : decode cX0_unite 12 = .ok (.iload_n 2, 1) := by decide +kernel
theorem dX0_unite_13 : decode cX0_unite 13 = .ok (.invokevirtual 25, 3) := by decide +kernel
theorem dX0_unite_16 : decode cX0_unite 16 = .ok (.aload_n 1, 1) := by decide +kernel
theorem dX0_unite_17 : decode cX0_unite 17 = .ok (.iload_n 2, 1) := by decide +kernel
theorem dX0_unite_18 : decode cX0_unite 18 = .ok (.invokevirtual 25, 3) := by decide +kernel
theorem dX0_unite_21 : decode cX0_unite 21 = .ok (.lor, 1) := by decide +kernel
theorem dX0_unite_22 : decode cX0_unite 22 = .ok (.invokevirtual 29, 3) := by decide +kernel
theorem dX0_unite_25 : decode cX0_unite 25 = .ok (.iinc 2 1, 3) := by decide +kernel
theorem dX0_unite_28 : decode cX0_unite 28 = .ok (.goto (-25), 3) := by decide +kernel
theorem dX0_unite_31 : decode cX0_unite 31 = .ok (.return_, 1) := by decide +kernel
theorem dX0_count_0 : decode cX0_count 0 = .ok (.iconst 0, 1) := by decide +kernel
theorem dX0_count_1 : decode cX0_count 1 = .ok (.istore_n 1, 1) := by decide +kernel
theorem dX0_count_2 : decode cX0_count 2 = .ok (.bipush (-32), 2) := by decide +kernel
theorem dX0_count_4 : decode cX0_count 4 = .ok (.istore_n 2, 1) := by decide +kernel
theorem dX0_count_5 : decode cX0_count 5 = .ok (.iload_n 2, 1) := by decide +kernel
theorem dX0_count_6 : decode cX0_count 6 = .ok (.bipush 31, 2) := by decide +kernel
theorem dX0_count_8 : decode cX0_count 8 = .ok (.if_icmp .gt 20, 3) := by decide +kernel
theorem dX0_count_11 : decode cX0_count 11 = .ok (.iload_n 1, 1) := by decide +kernel
theorem dX0_count_12 : decode cX0_count 12 = .ok (.aload_n 0, 1) := by decide +kernel
theorem dX0_count_13 : decode cX0_count 13 = .ok (.iload_n 2, 1) := by decide +kernel
theorem dX0_count_14 : decode cX0_count 14 = .ok (.invokevirtual 25, 3) := by decide +kernel
theorem dX0_count_17 : decode cX0_count 17 = .ok (.invokestatic 33, 3) := by decide +kernel
theorem dX0_count_20 : decode cX0_count 20 = .ok (.iadd, 1) := by decide +kernel
theorem dX0_count_21 : decode cX0_count 21 = .ok (.istore_n 1, 1) := by decide +kernel
theorem dX0_count_22 : decode cX0_count 22 = .ok (.iinc 2 1, 3) := by decide +kernel
theorem dX0_count_25 : decode cX0_count 25 = .ok (.goto (-20), 3) := by decide +kernel
theorem dX0_count_28 : decode cX0_count 28 = .ok (.iload_n 1, 1) := by decide +kernel
theorem dX0_count_29 : decode cX0_count 29 = .ok (.ireturn, 1) := by decide +kernel
theorem dX0_countEdges_0 : decode cX0_countEdges 0 = .ok (.iconst 0, 1) := by decide +kernel
theorem dX0_countEdges_1 : decode cX0_countEdges 1 = .ok (.istore_n 1, 1) := by decide +kernel
theorem dX0_countEdges_2 : decode cX0_countEdges 2 = .ok (.bipush (-32), 2) := by decide +kernel
theorem dX0_countEdges_4 : decode cX0_countEdges 4 = .ok (.istore_n 2, 1) := by decide +kernel
theorem dX0_countEdges_5 : decode cX0_countEdges 5 = .ok (.iload_n 2, 1) := by decide +kernel
theorem dX0_countEdges_6 : decode cX0_countEdges 6 = .ok (.bipush 32, 2) := by decide +kernel
theorem dX0_countEdges_8 : decode cX0_countEdges 8 = .ok (.if_icmp .gt 53, 3) := by decide +kernel
theorem dX0_countEdges_11 : decode cX0_countEdges 11 = .ok (.aload_n 0, 1) := by decide +kernel
theorem dX0_countEdges_12 : decode cX0_countEdges 12 = .ok (.iload_n 2, 1) := by decide +kernel
theorem dX0_countEdges_13 : decode cX0_countEdges 13 = .ok (.invokevirtual 25, 3) := by decide +kernel
theorem dX0_countEdges_16 : decode cX0_countEdges 16 = .ok (.aload_n 0, 1) := by decide +kernel
theorem dX0_countEdges_17 : decode cX0_countEdges 17 = .ok (.iload_n 2, 1) := by decide +kernel
theorem dX0_countEdges_18 : decode cX0_countEdges 18 = .ok (.invokevirtual 25, 3) := by decide +kernel
theorem dX0_countEdges_21 : decode cX0_countEdges 21 = .ok (.iconst 1, 1) := by decide +kernel
theorem dX0_countEdges_22 : decode cX0_countEdges 22 = .ok (.lshl, 1) := by decide +kernel
theorem dX0_countEdges_23 : decode cX0_countEdges 23 = .ok (.ldc2_w 39, 3) := by decide +kernel
theorem dX0_countEdges_26 : decode cX0_countEdges 26 = .ok (.lxor, 1) := by decide +kernel
theorem dX0_countEdges_27 : decode cX0_countEdges 27 = .ok (.land, 1) := by decide +kernel
theorem dX0_countEdges_28 : decode cX0_countEdges 28 = .ok (.lstore_n 3, 1) := by decide +kernel
theorem dX0_countEdges_29 : decode cX0_countEdges 29 = .ok (.iload_n 1, 1) := by decide +kernel
theorem dX0_countEdges_30 : decode cX0_countEdges 30 = .ok (.iconst 2, 1) := by decide +kernel
theorem dX0_countEdges_31 : decode cX0_countEdges 31 = .ok (.lload_n 3, 1) := by decide +kernel
theorem dX0_countEdges_32 : decode cX0_countEdges 32 = .ok (.invokestatic 33, 3) := by decide +kernel
theorem dX0_countEdges_35 : decode cX0_countEdges 35 = .ok (.imul, 1) := by decide +kernel
theorem dX0_countEdges_36 : decode cX0_countEdges 36 = .ok (.aload_n 0, 1) := by decide +kernel
theorem dX0_countEdges_37 : decode cX0_countEdges 37 = .ok (.iload_n 2, 1) := by decide +kernel
theorem dX0_countEdges_38 : decode cX0_countEdges 38 = .ok (.invokevirtual 25, 3) := by decide +kernel
theorem dX0_countEdges_41 : decode cX0_countEdges 41 = .ok (.aload_n 0, 1) := by decide +kernel
theorem dX0_countEdges_42 : decode cX0_countEdges 42 = .ok (.iload_n 2, 1) := by decide +kernel
theorem dX0_countEdges_43 : decode cX0_countEdges 43 = .ok (.iconst 1, 1) := by decide +kernel
theorem dX0_countEdges_44 : decode cX0_countEdges 44 = .ok (.isub, 1) := by decide +kernel
theorem dX0_countEdges_45 : decode cX0_countEdges 45 = .ok (.invokevirtual 25, 3) := by decide +kernel
theorem dX0_countEdges_48 : decode cX0_countEdges 48 = .ok (.lxor, 1) := by decide +kernel
theorem dX0_countEdges_49 : decode cX0_countEdges 49 = .ok (.invokestatic 33, 3) := by decide +kernel
theorem dX0_countEdges_52 : decode cX0_countEdges 52 = .ok (.iadd, 1) := by decide +kernel
theorem dX0_countEdges_53 : decode cX0_countEdges 53 = .ok (.iadd, 1) := by decide +kernel
theorem dX0_countEdges_54 : decode cX0_countEdges 54 = .ok (.istore_n 1, 1) := by decide +kernel
theorem dX0_countEdges_55 : decode cX0_countEdges 55 = .ok (.iinc 2 1, 3) := by decide +kernel
theorem dX0_countEdges_58 : decode cX0_countEdges 58 = .ok (.goto (-53), 3) := by decide +kernel
theorem dX0_countEdges_61 : decode cX0_countEdges 61 = .ok (.iload_n 1, 1) := by decide +kernel
theorem dX0_countEdges_62 : decode cX0_countEdges 62 = .ok (.ireturn, 1) := by decide +kernel
theorem dX0_sumOfX_0 : decode cX0_sumOfX 0 = .ok (.iconst 0, 1) := by decide +kernel
theorem dX0_sumOfX_1 : decode cX0_sumOfX 1 = .ok (.istore_n 1, 1) := by decide +kernel
theorem dX0_sumOfX_2 : decode cX0_sumOfX 2 = .ok (.bipush (-32), 2) := by decide +kernel
theorem dX0_sumOfX_4 : decode cX0_sumOfX 4 = .ok (.istore_n 2, 1) := by decide +kernel
theorem dX0_sumOfX_5 : decode cX0_sumOfX 5 = .ok (.iload_n 2, 1) := by decide +kernel
theorem dX0_sumOfX_6 : decode cX0_sumOfX 6 = .ok (.bipush 31, 2) := by decide +kernel
theorem dX0_sumOfX_8 : decode cX0_sumOfX 8 = .ok (.if_icmp .gt 37, 3) := by decide +kernel
theorem dX0_sumOfX_11 : decode cX0_sumOfX 11 = .ok (.bipush (-32), 2) := by decide +kernel
theorem dX0_sumOfX_13 : decode cX0_sumOfX 13 = .ok (.istore_n 3, 1) := by decide +kernel
theorem dX0_sumOfX_14 : decode cX0_sumOfX 14 = .ok (.iload_n 3, 1) := by decide +kernel
theorem dX0_sumOfX_15 : decode cX0_sumOfX 15 = .ok (.bipush 31, 2) := by decide +kernel
theorem dX0_sumOfX_17 : decode cX0_sumOfX 17 = .ok (.if_icmp .gt 22, 3) := by decide +kernel
theorem dX0_sumOfX_20 : decode cX0_sumOfX 20 = .ok (.aload_n 0, 1) := by decide +kernel
theorem dX0_sumOfX_21 : decode cX0_sumOfX 21 = .ok (.iload_n 2, 1) := by decide +kernel
theorem dX0_sumOfX_22 : decode cX0_sumOfX 22 = .ok (.iload_n 3, 1) := by decide +kernel
theorem dX0_sumOfX_23 : decode cX0_sumOfX 23 = .ok (.invokevirtual 41, 3) := by decide +kernel
theorem dX0_sumOfX_26 : decode cX0_sumOfX 26 = .ok (.ifCond .eq 7, 3) := by decide +kernel
theorem dX0_sumOfX_29 : decode cX0_sumOfX 29 = .ok (.iload_n 1, 1) := by decide +kernel
theorem dX0_sumOfX_30 : decode cX0_sumOfX 30 = .ok (.iload_n 2, 1) := by decide +kernel
theorem dX0_sumOfX_31 : decode cX0_sumOfX 31 = .ok (.iadd, 1) := by decide +kernel
theorem dX0_sumOfX_32 : decode cX0_sumOfX 32 = .ok (.istore_n 1, 1) := by decide +kernel
theorem dX0_sumOfX_33 : decode cX0_sumOfX 33 = .ok (.iinc 3 1, 3) := by decide +kernel
theorem dX0_sumOfX_36 : decode cX0_sumOfX 36 = .ok (.goto (-22), 3) := by decide +kernel
theorem dX0_sumOfX_39 : decode cX0_sumOfX 39 = .ok (.iinc 2 1, 3) := by decide +kernel
theorem dX0_sumOfX_42 : decode cX0_sumOfX 42 = .ok (.goto (-37), 3) := by decide +kernel
theorem dX0_sumOfX_45 : decode cX0_sumOfX 45 = .ok (.iload_n 1, 1) := by decide +kernel
theorem dX0_sumOfX_46 : decode cX0_sumOfX 46 = .ok (.ireturn, 1) := by decide +kernel
theorem dX0_columns_0 : decode cX0_columns 0 = .ok (.lconst 0, 1) := by decide +kernel
theorem dX0_columns_1 : decode cX0_columns 1 = .ok (.lstore_n 1, 1) := by decide +kernel
theorem dX0_columns_2 : decode cX0_columns 2 = .ok (.bipush (-32), 2) := by decide +kernel
theorem dX0_columns_4 : decode cX0_columns 4 = .ok (.istore_n 3, 1) := by decide +kernel
theorem dX0_columns_5 : decode cX0_columns 5 = .ok (.iload_n 3, 1) := by decide +kernel
theorem dX0_columns_6 : decode cX0_columns 6 = .ok (.bipush 31, 2) := by decide +kernel
theorem dX0_columns_8 : decode cX0_columns 8 = .ok (.if_icmp .gt 17, 3) := by decide +kernel
theorem dX0_columns_11 : decode cX0_columns 11 = .ok (.lload_n 1, 1) := by decide +kernel
theorem dX0_columns_12 : decode cX0_columns 12 = .ok (.aload_n 0, 1) := by decide +kernel
theorem dX0_columns_13 : decode cX0_columns 13 = .ok (.iload_n 3, 1) := by decide +kernel
theorem dX0_columns_14 : decode cX0_columns 14 = .ok (.invokevirtual 25, 3) := by decide +kernel
theorem dX0_columns_17 : decode cX0_columns 17 = .ok (.lor, 1) := by decide +kernel
theorem dX0_columns_18 : decode cX0_columns 18 = .ok (.lstore_n 1, 1) := by decide +kernel
theorem dX0_columns_19 : decode cX0_columns 19 = .ok (.iinc 3 1, 3) := by decide +kernel
theorem dX0_columns_22 : decode cX0_columns 22 = .ok (.goto (-17), 3) := by decide +kernel
theorem dX0_columns_25 : decode cX0_columns 25 = .ok (.lload_n 1, 1) := by decide +kernel
theorem dX0_columns_26 : decode cX0_columns 26 = .ok (.lreturn, 1) := by decide +kernel
theorem dX0_leastX_0 : decode cX0_leastX 0 = .ok (.aload_n 0, 1) := by decide +kernel
theorem dX0_leastX_1 : decode cX0_leastX 1 = .ok (.invokevirtual 21, 3) := by decide +kernel
theorem dX0_leastX_4 : decode cX0_leastX 4 = .ok (.lstore_n 1, 1) := by decide +kernel
theorem dX0_leastX_5 : decode cX0_leastX 5 = .ok (.lload_n 1, 1) := by decide +kernel
theorem dX0_leastX_6 : decode cX0_leastX 6 = .ok (.lconst 0, 1) := by decide +kernel
theorem dX0_leastX_7 : decode cX0_leastX 7 = .ok (.lcmp, 1) := by decide +kernel
theorem dX0_leastX_8 : decode cX0_leastX 8 = .ok (.ifCond .ne 7, 3) := by decide +kernel
theorem dX0_leastX_11 : decode cX0_leastX 11 = .ok (.iconst 0, 1) := by decide +kernel
theorem dX0_leastX_12 : decode cX0_leastX 12 = .ok (.goto 10, 3) := by decide +kernel
theorem dX0_leastX_15 : decode cX0_leastX 15 = .ok (.bipush (-32), 2) := by decide +kernel
theorem dX0_leastX_17 : decode cX0_leastX 17 = .ok (.lload_n 1, 1) := by decide +kernel
theorem dX0_leastX_18 : decode cX0_leastX 18 = .ok (.invokestatic 45, 3) := by decide +kernel
theorem dX0_leastX_21 : decode cX0_leastX 21 = .ok (.iadd, 1) := by decide +kernel
theorem dX0_leastX_22 : decode cX0_leastX 22 = .ok (.ireturn, 1) := by decide +kernel
theorem dX0_greatestX_0 : decode cX0_greatestX 0 = .ok (.aload_n 0, 1) := by decide +kernel
theorem dX0_greatestX_1 : decode cX0_greatestX 1 = .ok (.invokevirtual 21, 3) := by decide +kernel
theorem dX0_greatestX_4 : decode cX0_greatestX 4 = .ok (.lstore_n 1, 1) := by decide +kernel
theorem dX0_greatestX_5 : decode cX0_greatestX 5 = .ok (.bipush 31, 2) := by decide +kernel
theorem dX0_greatestX_7 : decode cX0_greatestX 7 = .ok (.istore_n 3, 1) := by decide +kernel
theorem dX0_greatestX_8 : decode cX0_greatestX 8 = .ok (.iload_n 3, 1) := by decide +kernel
theorem dX0_greatestX_9 : decode cX0_greatestX 9 = .ok (.bipush (-32), 2) := by decide +kernel
theorem dX0_greatestX_11 : decode cX0_greatestX 11 = .ok (.if_icmp .lt 22, 3) := by decide +kernel
theorem dX0_greatestX_14 : decode cX0_greatestX 14 = .ok (.lload_n 1, 1) := by decide +kernel
theorem dX0_greatestX_15 : decode cX0_greatestX 15 = .ok (.iload_n 3, 1) := by decide +kernel
theorem dX0_greatestX_16 : decode cX0_greatestX 16 = .ok (.invokestatic 48, 3) := by decide +kernel
theorem dX0_greatestX_19 : decode cX0_greatestX 19 = .ok (.land, 1) := by decide +kernel
theorem dX0_greatestX_20 : decode cX0_greatestX 20 = .ok (.lconst 0, 1) := by decide +kernel
theorem dX0_greatestX_21 : decode cX0_greatestX 21 = .ok (.lcmp, 1) := by decide +kernel
theorem dX0_greatestX_22 : decode cX0_greatestX 22 = .ok (.ifCond .eq 5, 3) := by decide +kernel
theorem dX0_greatestX_25 : decode cX0_greatestX 25 = .ok (.iload_n 3, 1) := by decide +kernel
theorem dX0_greatestX_26 : decode cX0_greatestX 26 = .ok (.ireturn, 1) := by decide +kernel
theorem dX0_greatestX_27 : decode cX0_greatestX 27 = .ok (.iinc 3 (-1), 3) := by decide +kernel
theorem dX0_greatestX_30 : decode cX0_greatestX 30 = .ok (.goto (-22), 3) := by decide +kernel
theorem dX0_greatestX_33 : decode cX0_greatestX 33 = .ok (.iconst 0, 1) := by decide +kernel
theorem dX0_greatestX_34 : decode cX0_greatestX 34 = .ok (.ireturn, 1) := by decide +kernel
theorem dX0_leastY_0 : decode cX0_leastY 0 = .ok (.bipush (-32), 2) := by decide +kernel
theorem dX0_leastY_2 : decode cX0_leastY 2 = .ok (.istore_n 1, 1) := by decide +kernel
theorem dX0_leastY_3 : decode cX0_leastY 3 = .ok (.iload_n 1, 1) := by decide +kernel
theorem dX0_leastY_4 : decode cX0_leastY 4 = .ok (.bipush 31, 2) := by decide +kernel
theorem dX0_leastY_6 : decode cX0_leastY 6 = .ok (.if_icmp .gt 21, 3) := by decide +kernel
theorem dX0_leastY_9 : decode cX0_leastY 9 = .ok (.aload_n 0, 1) := by decide +kernel
theorem dX0_leastY_10 : decode cX0_leastY 10 = .ok (.iload_n 1, 1) := by decide +kernel
theorem dX0_leastY_11 : decode cX0_leastY 11 = .ok (.invokevirtual 25, 3) := by decide +kernel
theorem dX0_leastY_14 : decode cX0_leastY 14 = .ok (.lconst 0, 1) := by decide +kernel
theorem dX0_leastY_15 : decode cX0_leastY 15 = .ok (.lcmp, 1) := by decide +kernel
theorem dX0_leastY_16 : decode cX0_leastY 16 = .ok (.ifCond .eq 5, 3) := by decide +kernel
theorem dX0_leastY_19 : decode cX0_leastY 19 = .ok (.iload_n 1, 1) := by decide +kernel
theorem dX0_leastY_20 : decode cX0_leastY 20 = .ok (.ireturn, 1) := by decide +kernel
theorem dX0_leastY_21 : decode cX0_leastY 21 = .ok (.iinc 1 1, 3) := by decide +kernel
theorem dX0_leastY_24 : decode cX0_leastY 24 = .ok (.goto (-21), 3) := by decide +kernel
theorem dX0_leastY_27 : decode cX0_leastY 27 = .ok (.iconst 0, 1) := by decide +kernel
theorem dX0_leastY_28 : decode cX0_leastY 28 = .ok (.ireturn, 1) := by decide +kernel
theorem dX0_greatestY_0 : decode cX0_greatestY 0 = .ok (.bipush 31, 2) := by decide +kernel
theorem dX0_greatestY_2 : decode cX0_greatestY 2 = .ok (.istore_n 1, 1) := by decide +kernel
theorem dX0_greatestY_3 : decode cX0_greatestY 3 = .ok (.iload_n 1, 1) := by decide +kernel
theorem dX0_greatestY_4 : decode cX0_greatestY 4 = .ok (.bipush (-32), 2) := by decide +kernel
theorem dX0_greatestY_6 : decode cX0_greatestY 6 = .ok (.if_icmp .lt 21, 3) := by decide +kernel
theorem dX0_greatestY_9 : decode cX0_greatestY 9 = .ok (.aload_n 0, 1) := by decide +kernel
theorem dX0_greatestY_10 : decode cX0_greatestY 10 = .ok (.iload_n 1, 1) := by decide +kernel
theorem dX0_greatestY_11 : decode cX0_greatestY 11 = .ok (.invokevirtual 25, 3) := by decide +kernel
theorem dX0_greatestY_14 : decode cX0_greatestY 14 = .ok (.lconst 0, 1) := by decide +kernel
theorem dX0_greatestY_15 : decode cX0_greatestY 15 = .ok (.lcmp, 1) := by decide +kernel
theorem dX0_greatestY_16 : decode cX0_greatestY 16 = .ok (.ifCond .eq 5, 3) := by decide +kernel
theorem dX0_greatestY_19 : decode cX0_greatestY 19 = .ok (.iload_n 1, 1) := by decide +kernel
theorem dX0_greatestY_20 : decode cX0_greatestY 20 = .ok (.ireturn, 1) := by decide +kernel
theorem dX0_greatestY_21 : decode cX0_greatestY 21 = .ok (.iinc 1 (-1), 3) := by decide +kernel
theorem dX0_greatestY_24 : decode cX0_greatestY 24 = .ok (.goto (-21), 3) := by decide +kernel
theorem dX0_greatestY_27 : decode cX0_greatestY 27 = .ok (.iconst 0, 1) := by decide +kernel
theorem dX0_greatestY_28 : decode cX0_greatestY 28 = .ok (.ireturn, 1) := by decide +kernel
theorem dX0_shift_0 : decode cX0_shift 0 = .ok (.iconst 0, 1) := by decide +kernel
theorem dX0_shift_1 : decode cX0_shift 1 = .ok (.istore_n 3, 1) := by decide +kernel
theorem dX0_shift_2 : decode cX0_shift 2 = .ok (.iload_n 3, 1) := by decide +kernel
theorem dX0_shift_3 : decode cX0_shift 3 = .ok (.bipush 64, 2) := by decide +kernel
theorem dX0_shift_5 : decode cX0_shift 5 = .ok (.if_icmp .ge 44, 3) := by decide +kernel
theorem dX0_shift_8 : decode cX0_shift 8 = .ok (.iload_n 2, 1) := by decide +kernel
theorem dX0_shift_9 : decode cX0_shift 9 = .ok (.ifCond .le 10, 3) := by decide +kernel
theorem dX0_shift_12 : decode cX0_shift 12 = .ok (.bipush 31, 2) := by decide +kernel
theorem dX0_shift_14 : decode cX0_shift 14 = .ok (.iload_n 3, 1) := by decide +kernel
theorem dX0_shift_15 : decode cX0_shift 15 = .ok (.isub, 1) := by decide +kernel
theorem dX0_shift_16 : decode cX0_shift 16 = .ok (.goto 7, 3) := by decide +kernel
theorem dX0_shift_19 : decode cX0_shift 19 = .ok (.bipush (-32), 2) := by decide +kernel
theorem dX0_shift_21 : decode cX0_shift 21 = .ok (.iload_n 3, 1) := by decide +kernel
theorem dX0_shift_22 : decode cX0_shift 22 = .ok (.iadd, 1) := by decide +kernel
theorem dX0_shift_23 : decode cX0_shift 23 = .ok (.istore 4, 2) := by decide +kernel
theorem dX0_shift_25 : decode cX0_shift 25 = .ok (.aload_n 0, 1) := by decide +kernel
theorem dX0_shift_26 : decode cX0_shift 26 = .ok (.iload 4, 2) := by decide +kernel
theorem dX0_shift_28 : decode cX0_shift 28 = .ok (.aload_n 0, 1) := by decide +kernel
theorem dX0_shift_29 : decode cX0_shift 29 = .ok (.iload 4, 2) := by decide +kernel
theorem dX0_shift_31 : decode cX0_shift 31 = .ok (.iload_n 2, 1) := by decide +kernel
theorem dX0_shift_32 : decode cX0_shift 32 = .ok (.isub, 1) := by decide +kernel
theorem dX0_shift_33 : decode cX0_shift 33 = .ok (.invokevirtual 25, 3) := by decide +kernel
theorem dX0_shift_36 : decode cX0_shift 36 = .ok (.iload_n 1, 1) := by decide +kernel
theorem dX0_shift_37 : decode cX0_shift 37 = .ok (.invokestatic 51, 3) := by decide +kernel
theorem dX0_shift_40 : decode cX0_shift 40 = .ok (.invokevirtual 29, 3) := by decide +kernel
theorem dX0_shift_43 : decode cX0_shift 43 = .ok (.iinc 3 1, 3) := by decide +kernel
theorem dX0_shift_46 : decode cX0_shift 46 = .ok (.goto (-44), 3) := by decide +kernel
theorem dX0_shift_49 : decode cX0_shift 49 = .ok (.return_, 1) := by decide +kernel
theorem dX0_shifted_0 : decode cX0_shifted 0 = .ok (.iload_n 2, 1) := by decide +kernel
theorem dX0_shifted_1 : decode cX0_shifted 1 = .ok (.bipush (-64), 2) := by decide +kernel
theorem dX0_shifted_3 : decode cX0_shifted 3 = .ok (.if_icmp .le 9, 3) := by decide +kernel
theorem dX0_shifted_6 : decode cX0_shifted 6 = .ok (.iload_n 2, 1) := by decide +kernel
theorem dX0_shifted_7 : decode cX0_shifted 7 = .ok (.bipush 64, 2) := by decide +kernel
theorem dX0_shifted_9 : decode cX0_shifted 9 = .ok (.if_icmp .lt 5, 3) := by decide +kernel
theorem dX0_shifted_12 : decode cX0_shifted 12 = .ok (.lconst 0, 1) := by decide +kernel
theorem dX0_shifted_13 : decode cX0_shifted 13 = .ok (.lreturn, 1) := by decide +kernel
theorem dX0_shifted_14 : decode cX0_shifted 14 = .ok (.iload_n 2, 1) := by decide +kernel
theorem dX0_shifted_15 : decode cX0_shifted 15 = .ok (.ifCond .lt 9, 3) := by decide +kernel
theorem dX0_shifted_18 : decode cX0_shifted 18 = .ok (.lload_n 0, 1) := by decide +kernel
theorem dX0_shifted_19 : decode cX0_shifted 19 = .ok (.iload_n 2, 1) := by decide +kernel
theorem dX0_shifted_20 : decode cX0_shifted 20 = .ok (.lshl, 1) := by decide +kernel
theorem dX0_shifted_21 : decode cX0_shifted 21 = .ok (.goto 7, 3) := by decide +kernel
theorem dX0_shifted_24 : decode cX0_shifted 24 = .ok (.lload_n 0, 1) := by decide +kernel
theorem dX0_shifted_25 : decode cX0_shifted 25 = .ok (.iload_n 2, 1) := by decide +kernel
theorem dX0_shifted_26 : decode cX0_shifted 26 = .ok (.ineg, 1) := by decide +kernel
theorem dX0_shifted_27 : decode cX0_shifted 27 = .ok (.lushr, 1) := by decide +kernel
theorem dX0_shifted_28 : decode cX0_shifted 28 = .ok (.lreturn, 1) := by decide +kernel
theorem dX0_putTurned_0 : decode cX0_putTurned 0 = .ok (.bipush (-32), 2) := by decide +kernel
theorem dX0_putTurned_2 : decode cX0_putTurned 2 = .ok (.istore_n 2, 1) := by decide +kernel
theorem dX0_putTurned_3 : decode cX0_putTurned 3 = .ok (.iload_n 2, 1) := by decide +kernel
theorem dX0_putTurned_4 : decode cX0_putTurned 4 = .ok (.bipush 31, 2) := by decide +kernel
theorem dX0_putTurned_6 : decode cX0_putTurned 6 = .ok (.if_icmp .gt 55, 3) := by decide +kernel
theorem dX0_putTurned_9 : decode cX0_putTurned 9 = .ok (.lconst 0, 1) := by decide +kernel
theorem dX0_putTurned_10 : decode cX0_putTurned 10 = .ok (.lstore_n 3, 1) := by decide +kernel
theorem dX0_putTurned_11 : decode cX0_putTurned 11 = .ok (.bipush (-32), 2) := by decide +kernel
theorem dX0_putTurned_13 : decode cX0_putTurned 13 = .ok (.istore 5, 2) := by decide +kernel
theorem dX0_putTurned_15 : decode cX0_putTurned 15 = .ok (.iload 5, 2) := by decide +kernel
theorem dX0_putTurned_17 : decode cX0_putTurned 17 = .ok (.bipush 31, 2) := by decide +kernel
theorem dX0_putTurned_19 : decode cX0_putTurned 19 = .ok (.if_icmp .gt 30, 3) := by decide +kernel
theorem dX0_putTurned_22 : decode cX0_putTurned 22 = .ok (.aload_n 1, 1) := by decide +kernel
theorem dX0_putTurned_23 : decode cX0_putTurned 23 = .ok (.iload_n 2, 1) := by decide +kernel
theorem dX0_putTurned_24 : decode cX0_putTurned 24 = .ok (.iload 5, 2) := by decide +kernel
theorem dX0_putTurned_26 : decode cX0_putTurned 26 = .ok (.ineg, 1) := by decide +kernel
theorem dX0_putTurned_27 : decode cX0_putTurned 27 = .ok (.iconst 1, 1) := by decide +kernel
theorem dX0_putTurned_28 : decode cX0_putTurned 28 = .ok (.isub, 1) := by decide +kernel
theorem dX0_putTurned_29 : decode cX0_putTurned 29 = .ok (.invokevirtual 41, 3) := by decide +kernel
theorem dX0_putTurned_32 : decode cX0_putTurned 32 = .ok (.ifCond .eq 11, 3) := by decide +kernel
theorem dX0_putTurned_35 : decode cX0_putTurned 35 = .ok (.lload_n 3, 1) := by decide +kernel
theorem dX0_putTurned_36 : decode cX0_putTurned 36 = .ok (.iload 5, 2) := by decide +kernel
theorem dX0_putTurned_38 : decode cX0_putTurned 38 = .ok (.invokestatic 48, 3) := by decide +kernel
theorem dX0_putTurned_41 : decode cX0_putTurned 41 = .ok (.lor, 1) := by decide +kernel
theorem dX0_putTurned_42 : decode cX0_putTurned 42 = .ok (.lstore_n 3, 1) := by decide +kernel
theorem dX0_putTurned_43 : decode cX0_putTurned 43 = .ok (.iinc 5 1, 3) := by decide +kernel
theorem dX0_putTurned_46 : decode cX0_putTurned 46 = .ok (.goto (-31), 3) := by decide +kernel
theorem dX0_putTurned_49 : decode cX0_putTurned 49 = .ok (.aload_n 0, 1) := by decide +kernel
theorem dX0_putTurned_50 : decode cX0_putTurned 50 = .ok (.iload_n 2, 1) := by decide +kernel
theorem dX0_putTurned_51 : decode cX0_putTurned 51 = .ok (.lload_n 3, 1) := by decide +kernel
theorem dX0_putTurned_52 : decode cX0_putTurned 52 = .ok (.invokevirtual 29, 3) := by decide +kernel
theorem dX0_putTurned_55 : decode cX0_putTurned 55 = .ok (.iinc 2 1, 3) := by decide +kernel
theorem dX0_putTurned_58 : decode cX0_putTurned 58 = .ok (.goto (-55), 3) := by decide +kernel
theorem dX0_putTurned_61 : decode cX0_putTurned 61 = .ok (.return_, 1) := by decide +kernel
theorem dX0_widen_0 : decode cX0_widen 0 = .ok (.lconst 0, 1) := by decide +kernel
theorem dX0_widen_1 : decode cX0_widen 1 = .ok (.lstore_n 2, 1) := by decide +kernel
theorem dX0_widen_2 : decode cX0_widen 2 = .ok (.bipush (-32), 2) := by decide +kernel
theorem dX0_widen_4 : decode cX0_widen 4 = .ok (.istore 4, 2) := by decide +kernel
theorem dX0_widen_6 : decode cX0_widen 6 = .ok (.iload 4, 2) := by decide +kernel
theorem dX0_widen_8 : decode cX0_widen 8 = .ok (.bipush 31, 2) := by decide +kernel
theorem dX0_widen_10 : decode cX0_widen 10 = .ok (.if_icmp .gt 71, 3) := by decide +kernel
theorem dX0_widen_13 : decode cX0_widen 13 = .ok (.aload_n 0, 1) := by decide +kernel
theorem dX0_widen_14 : decode cX0_widen 14 = .ok (.iload 4, 2) := by decide +kernel
theorem dX0_widen_16 : decode cX0_widen 16 = .ok (.invokevirtual 25, 3) := by decide +kernel
theorem dX0_widen_19 : decode cX0_widen 19 = .ok (.lstore 5, 2) := by decide +kernel
theorem dX0_widen_21 : decode cX0_widen 21 = .ok (.lload_n 2, 1) := by decide +kernel
theorem dX0_widen_22 : decode cX0_widen 22 = .ok (.aload_n 0, 1) := by decide +kernel
theorem dX0_widen_23 : decode cX0_widen 23 = .ok (.iload 4, 2) := by decide +kernel
theorem dX0_widen_25 : decode cX0_widen 25 = .ok (.iconst 1, 1) := by decide +kernel
theorem dX0_widen_26 : decode cX0_widen 26 = .ok (.iadd, 1) := by decide +kernel
theorem dX0_widen_27 : decode cX0_widen 27 = .ok (.invokevirtual 25, 3) := by decide +kernel
theorem dX0_widen_30 : decode cX0_widen 30 = .ok (.lor, 1) := by decide +kernel
theorem dX0_widen_31 : decode cX0_widen 31 = .ok (.lstore 7, 2) := by decide +kernel
theorem dX0_widen_33 : decode cX0_widen 33 = .ok (.iload_n 1, 1) := by decide +kernel
theorem dX0_widen_34 : decode cX0_widen 34 = .ok (.ifCond .ne 17, 3) := by decide +kernel
theorem dX0_widen_37 : decode cX0_widen 37 = .ok (.lload 7, 2) := by decide +kernel
theorem dX0_widen_39 : decode cX0_widen 39 = .ok (.lload 7, 2) := by decide +kernel
theorem dX0_widen_41 : decode cX0_widen 41 = .ok (.iconst 1, 1) := by decide +kernel
theorem dX0_widen_42 : decode cX0_widen 42 = .ok (.lshl, 1) := by decide +kernel
theorem dX0_widen_43 : decode cX0_widen 43 = .ok (.lload 7, 2) := by decide +kernel
theorem dX0_widen_45 : decode cX0_widen 45 = .ok (.iconst 1, 1) := by decide +kernel
theorem dX0_widen_46 : decode cX0_widen 46 = .ok (.lushr, 1) := by decide +kernel
theorem dX0_widen_47 : decode cX0_widen 47 = .ok (.lor, 1) := by decide +kernel
theorem dX0_widen_48 : decode cX0_widen 48 = .ok (.lor, 1) := by decide +kernel
theorem dX0_widen_49 : decode cX0_widen 49 = .ok (.lstore 7, 2) := by decide +kernel
theorem dX0_widen_51 : decode cX0_widen 51 = .ok (.aload_n 0, 1) := by decide +kernel
theorem dX0_widen_52 : decode cX0_widen 52 = .ok (.iload 4, 2) := by decide +kernel
theorem dX0_widen_54 : decode cX0_widen 54 = .ok (.lload 5, 2) := by decide +kernel
theorem dX0_widen_56 : decode cX0_widen 56 = .ok (.lload 5, 2) := by decide +kernel
theorem dX0_widen_58 : decode cX0_widen 58 = .ok (.iconst 1, 1) := by decide +kernel
theorem dX0_widen_59 : decode cX0_widen 59 = .ok (.lshl, 1) := by decide +kernel
theorem dX0_widen_60 : decode cX0_widen 60 = .ok (.lor, 1) := by decide +kernel
theorem dX0_widen_61 : decode cX0_widen 61 = .ok (.lload 5, 2) := by decide +kernel
theorem dX0_widen_63 : decode cX0_widen 63 = .ok (.iconst 1, 1) := by decide +kernel
theorem dX0_widen_64 : decode cX0_widen 64 = .ok (.lushr, 1) := by decide +kernel
theorem dX0_widen_65 : decode cX0_widen 65 = .ok (.lor, 1) := by decide +kernel
theorem dX0_widen_66 : decode cX0_widen 66 = .ok (.lload 7, 2) := by decide +kernel
theorem dX0_widen_68 : decode cX0_widen 68 = .ok (.lor, 1) := by decide +kernel
theorem dX0_widen_69 : decode cX0_widen 69 = .ok (.invokevirtual 29, 3) := by decide +kernel
theorem dX0_widen_72 : decode cX0_widen 72 = .ok (.lload 5, 2) := by decide +kernel
theorem dX0_widen_74 : decode cX0_widen 74 = .ok (.lstore_n 2, 1) := by decide +kernel
theorem dX0_widen_75 : decode cX0_widen 75 = .ok (.iinc 4 1, 3) := by decide +kernel
theorem dX0_widen_78 : decode cX0_widen 78 = .ok (.goto (-72), 3) := by decide +kernel
theorem dX0_widen_81 : decode cX0_widen 81 = .ok (.return_, 1) := by decide +kernel
theorem dX0_narrow_0 : decode cX0_narrow 0 = .ok (.lconst 0, 1) := by decide +kernel
theorem dX0_narrow_1 : decode cX0_narrow 1 = .ok (.lstore_n 2, 1) := by decide +kernel
theorem dX0_narrow_2 : decode cX0_narrow 2 = .ok (.bipush (-32), 2) := by decide +kernel
theorem dX0_narrow_4 : decode cX0_narrow 4 = .ok (.istore 4, 2) := by decide +kernel
theorem dX0_narrow_6 : decode cX0_narrow 6 = .ok (.iload 4, 2) := by decide +kernel
theorem dX0_narrow_8 : decode cX0_narrow 8 = .ok (.bipush 31, 2) := by decide +kernel
theorem dX0_narrow_10 : decode cX0_narrow 10 = .ok (.if_icmp .gt 71, 3) := by decide +kernel
theorem dX0_narrow_13 : decode cX0_narrow 13 = .ok (.aload_n 0, 1) := by decide +kernel
theorem dX0_narrow_14 : decode cX0_narrow 14 = .ok (.iload 4, 2) := by decide +kernel
theorem dX0_narrow_16 : decode cX0_narrow 16 = .ok (.invokevirtual 25, 3) := by decide +kernel
theorem dX0_narrow_19 : decode cX0_narrow 19 = .ok (.lstore 5, 2) := by decide +kernel
theorem dX0_narrow_21 : decode cX0_narrow 21 = .ok (.lload_n 2, 1) := by decide +kernel
theorem dX0_narrow_22 : decode cX0_narrow 22 = .ok (.aload_n 0, 1) := by decide +kernel
theorem dX0_narrow_23 : decode cX0_narrow 23 = .ok (.iload 4, 2) := by decide +kernel
theorem dX0_narrow_25 : decode cX0_narrow 25 = .ok (.iconst 1, 1) := by decide +kernel
theorem dX0_narrow_26 : decode cX0_narrow 26 = .ok (.iadd, 1) := by decide +kernel
theorem dX0_narrow_27 : decode cX0_narrow 27 = .ok (.invokevirtual 25, 3) := by decide +kernel
theorem dX0_narrow_30 : decode cX0_narrow 30 = .ok (.land, 1) := by decide +kernel
theorem dX0_narrow_31 : decode cX0_narrow 31 = .ok (.lstore 7, 2) := by decide +kernel
theorem dX0_narrow_33 : decode cX0_narrow 33 = .ok (.iload_n 1, 1) := by decide +kernel
theorem dX0_narrow_34 : decode cX0_narrow 34 = .ok (.ifCond .ne 17, 3) := by decide +kernel
theorem dX0_narrow_37 : decode cX0_narrow 37 = .ok (.lload 7, 2) := by decide +kernel
theorem dX0_narrow_39 : decode cX0_narrow 39 = .ok (.lload 7, 2) := by decide +kernel
theorem dX0_narrow_41 : decode cX0_narrow 41 = .ok (.iconst 1, 1) := by decide +kernel
theorem dX0_narrow_42 : decode cX0_narrow 42 = .ok (.lshl, 1) := by decide +kernel
theorem dX0_narrow_43 : decode cX0_narrow 43 = .ok (.lload 7, 2) := by decide +kernel
theorem dX0_narrow_45 : decode cX0_narrow 45 = .ok (.iconst 1, 1) := by decide +kernel
theorem dX0_narrow_46 : decode cX0_narrow 46 = .ok (.lushr, 1) := by decide +kernel
theorem dX0_narrow_47 : decode cX0_narrow 47 = .ok (.land, 1) := by decide +kernel
theorem dX0_narrow_48 : decode cX0_narrow 48 = .ok (.land, 1) := by decide +kernel
theorem dX0_narrow_49 : decode cX0_narrow 49 = .ok (.lstore 7, 2) := by decide +kernel
theorem dX0_narrow_51 : decode cX0_narrow 51 = .ok (.aload_n 0, 1) := by decide +kernel
theorem dX0_narrow_52 : decode cX0_narrow 52 = .ok (.iload 4, 2) := by decide +kernel
theorem dX0_narrow_54 : decode cX0_narrow 54 = .ok (.lload 5, 2) := by decide +kernel
theorem dX0_narrow_56 : decode cX0_narrow 56 = .ok (.lload 5, 2) := by decide +kernel
theorem dX0_narrow_58 : decode cX0_narrow 58 = .ok (.iconst 1, 1) := by decide +kernel
theorem dX0_narrow_59 : decode cX0_narrow 59 = .ok (.lshl, 1) := by decide +kernel
theorem dX0_narrow_60 : decode cX0_narrow 60 = .ok (.land, 1) := by decide +kernel
theorem dX0_narrow_61 : decode cX0_narrow 61 = .ok (.lload 5, 2) := by decide +kernel
theorem dX0_narrow_63 : decode cX0_narrow 63 = .ok (.iconst 1, 1) := by decide +kernel
theorem dX0_narrow_64 : decode cX0_narrow 64 = .ok (.lushr, 1) := by decide +kernel
theorem dX0_narrow_65 : decode cX0_narrow 65 = .ok (.land, 1) := by decide +kernel
theorem dX0_narrow_66 : decode cX0_narrow 66 = .ok (.lload 7, 2) := by decide +kernel
theorem dX0_narrow_68 : decode cX0_narrow 68 = .ok (.land, 1) := by decide +kernel
theorem dX0_narrow_69 : decode cX0_narrow 69 = .ok (.invokevirtual 29, 3) := by decide +kernel
theorem dX0_narrow_72 : decode cX0_narrow 72 = .ok (.lload 5, 2) := by decide +kernel
theorem dX0_narrow_74 : decode cX0_narrow 74 = .ok (.lstore_n 2, 1) := by decide +kernel
theorem dX0_narrow_75 : decode cX0_narrow 75 = .ok (.iinc 4 1, 3) := by decide +kernel
theorem dX0_narrow_78 : decode cX0_narrow 78 = .ok (.goto (-72), 3) := by decide +kernel
theorem dX0_narrow_81 : decode cX0_narrow 81 = .ok (.return_, 1) := by decide +kernel
theorem dX1_init_0 : decode cX1_init 0 = .ok (.aload_n 0, 1) := by decide +kernel
theorem dX1_init_1 : decode cX1_init 1 = .ok (.invokespecial 3, 3) := by decide +kernel
theorem dX1_init_4 : decode cX1_init 4 = .ok (.aload_n 0, 1) := by decide +kernel
theorem dX1_init_5 : decode cX1_init 5 = .ok (.new 9, 3) := by decide +kernel
theorem dX1_init_8 : decode cX1_init 8 = .ok (.dup, 1) := by decide +kernel
theorem dX1_init_9 : decode cX1_init 9 = .ok (.invokespecial 11, 3) := by decide +kernel
theorem dX1_init_12 : decode cX1_init 12 = .ok (.putfield 12, 3) := by decide +kernel
theorem dX1_init_15 : decode cX1_init 15 = .ok (.aload_n 0, 1) := by decide +kernel
theorem dX1_init_16 : decode cX1_init 16 = .ok (.new 9, 3) := by decide +kernel
theorem dX1_init_19 : decode cX1_init 19 = .ok (.dup, 1) := by decide +kernel
theorem dX1_init_20 : decode cX1_init 20 = .ok (.invokespecial 11, 3) := by decide +kernel
theorem dX1_init_23 : decode cX1_init 23 = .ok (.putfield 18, 3) := by decide +kernel
theorem dX1_init_26 : decode cX1_init 26 = .ok (.return_, 1) := by decide +kernel
theorem dX1_countPieces_0 : decode cX1_countPieces 0 = .ok (.aload_n 0, 1) := by decide +kernel
theorem dX1_countPieces_1 : decode cX1_countPieces 1 = .ok (.getfield 12, 3) := by decide +kernel
theorem dX1_countPieces_4 : decode cX1_countPieces 4 = .ok (.aload_n 1, 1) := by decide +kernel
theorem dX1_countPieces_5 : decode cX1_countPieces 5 = .ok (.invokevirtual 21, 3) := by decide +kernel
theorem dX1_countPieces_8 : decode cX1_countPieces 8 = .ok (.aload_n 0, 1) := by decide +kernel
theorem dX1_countPieces_9 : decode cX1_countPieces 9 = .ok (.iconst 0, 1) := by decide +kernel
theorem dX1_countPieces_10 : decode cX1_countPieces 10 = .ok (.invokevirtual 25, 3) := by decide +kernel
theorem dX1_countPieces_13 : decode cX1_countPieces 13 = .ok (.ireturn, 1) := by decide +kernel
theorem dX1_countHoles_0 : decode cX1_countHoles 0 = .ok (.aload_n 0, 1) := by decide +kernel
theorem dX1_countHoles_1 : decode cX1_countHoles 1 = .ok (.aload_n 1, 1) := by decide +kernel
theorem dX1_countHoles_2 : decode cX1_countHoles 2 = .ok (.invokevirtual 29, 3) := by decide +kernel
theorem dX1_countHoles_5 : decode cX1_countHoles 5 = .ok (.aload_n 0, 1) := by decide +kernel
theorem dX1_countHoles_6 : decode cX1_countHoles 6 = .ok (.iconst 1, 1) := by decide +kernel
theorem dX1_countHoles_7 : decode cX1_countHoles 7 = .ok (.invokevirtual 25, 3) := by decide +kernel
theorem dX1_countHoles_10 : decode cX1_countHoles 10 = .ok (.ireturn, 1) := by decide +kernel
theorem dX1_fillHoles_0 : decode cX1_fillHoles 0 = .ok (.aload_n 0, 1) := by decide +kernel
theorem dX1_fillHoles_1 : decode cX1_fillHoles 1 = .ok (.aload_n 1, 1) := by decide +kernel
theorem dX1_fillHoles_2 : decode cX1_fillHoles 2 = .ok (.invokevirtual 29, 3) := by decide +kernel
theorem dX1_fillHoles_5 : decode cX1_fillHoles 5 = .ok (.aload_n 1, 1) := by decide +kernel
theorem dX1_fillHoles_6 : decode cX1_fillHoles 6 = .ok (.aload_n 0, 1) := by decide +kernel
theorem dX1_fillHoles_7 : decode cX1_fillHoles 7 = .ok (.getfield 12, 3) := by decide +kernel
theorem dX1_fillHoles_10 : decode cX1_fillHoles 10 = .ok (.invokevirtual 32, 3) := by decide +kernel
theorem dX1_fillHoles_13 : decode cX1_fillHoles 13 = .ok (.aload_n 0, 1) := by decide +kernel
theorem dX1_fillHoles_14 : decode cX1_fillHoles 14 = .ok (.iconst 1, 1) := by decide +kernel
theorem dX1_fillHoles_15 : decode cX1_fillHoles 15 = .ok (.invokevirtual 25, 3) := by decide +kernel
theorem dX1_fillHoles_18 : decode cX1_fillHoles 18 = .ok (.ireturn, 1) := by decide +kernel
theorem dX1_leavePiece_0 : decode cX1_leavePiece 0 = .ok (.aload_n 0, 1) := by decide +kernel
theorem dX1_leavePiece_1 : decode cX1_leavePiece 1 = .ok (.getfield 12, 3) := by decide +kernel
theorem dX1_leavePiece_4 : decode cX1_leavePiece 4 = .ok (.aload_n 1, 1) := by decide +kernel
theorem dX1_leavePiece_5 : decode cX1_leavePiece 5 = .ok (.invokevirtual 21, 3) := by decide +kernel
theorem dX1_leavePiece_8 : decode cX1_leavePiece 8 = .ok (.aload_n 0, 1) := by decide +kernel
theorem dX1_leavePiece_9 : decode cX1_leavePiece 9 = .ok (.getfield 18, 3) := by decide +kernel
theorem dX1_leavePiece_12 : decode cX1_leavePiece 12 = .ok (.invokevirtual 35, 3) := by decide +kernel
theorem dX1_leavePiece_15 : decode cX1_leavePiece 15 = .ok (.aload_n 0, 1) := by decide +kernel
theorem dX1_leavePiece_16 : decode cX1_leavePiece 16 = .ok (.getfield 12, 3) := by decide +kernel
theorem dX1_leavePiece_19 : decode cX1_leavePiece 19 = .ok (.iload_n 2, 1) := by decide +kernel
theorem dX1_leavePiece_20 : decode cX1_leavePiece 20 = .ok (.iload_n 3, 1) := by decide +kernel
theorem dX1_leavePiece_21 : decode cX1_leavePiece 21 = .ok (.invokevirtual 38, 3) := by decide +kernel
theorem dX1_leavePiece_24 : decode cX1_leavePiece 24 = .ok (.ifCond .eq 10, 3) := by decide +kernel
theorem dX1_leavePiece_27 : decode cX1_leavePiece 27 = .ok (.aload_n 0, 1) := by decide +kernel
theorem dX1_leavePiece_28 : decode cX1_leavePiece 28 = .ok (.iload_n 2, 1) := by decide +kernel
theorem dX1_leavePiece_29 : decode cX1_leavePiece 29 = .ok (.iload_n 3, 1) := by decide +kernel
theorem dX1_leavePiece_30 : decode cX1_leavePiece 30 = .ok (.iconst 0, 1) := by decide +kernel
theorem dX1_leavePiece_31 : decode cX1_leavePiece 31 = .ok (.invokevirtual 42, 3) := by decide +kernel
theorem dX1_leavePiece_34 : decode cX1_leavePiece 34 = .ok (.aload_n 1, 1) := by decide +kernel
theorem dX1_leavePiece_35 : decode cX1_leavePiece 35 = .ok (.aload_n 0, 1) := by decide +kernel
theorem dX1_leavePiece_36 : decode cX1_leavePiece 36 = .ok (.getfield 18, 3) := by decide +kernel
theorem dX1_leavePiece_39 : decode cX1_leavePiece 39 = .ok (.invokevirtual 21, 3) := by decide +kernel
theorem dX1_leavePiece_42 : decode cX1_leavePiece 42 = .ok (.return_, 1) := by decide +kernel
theorem dX1_findHoles_0 : decode cX1_findHoles 0 = .ok (.bipush (-32), 2) := by decide +kernel
theorem dX1_findHoles_2 : decode cX1_findHoles 2 = .ok (.istore_n 2, 1) := by decide +kernel
theorem dX1_findHoles_3 : decode cX1_findHoles 3 = .ok (.iload_n 2, 1) := by decide +kernel
theorem dX1_findHoles_4 : decode cX1_findHoles 4 = .ok (.bipush 31, 2) := by decide +kernel
theorem dX1_findHoles_6 : decode cX1_findHoles 6 = .ok (.if_icmp .gt 87, 3) := by decide +kernel
theorem dX1_findHoles_9 : decode cX1_findHoles 9 = .ok (.iload_n 2, 1) := by decide +kernel
theorem dX1_findHoles_10 : decode cX1_findHoles 10 = .ok (.bipush (-32), 2) := by decide +kernel
theorem dX1_findHoles_12 : decode cX1_findHoles 12 = .ok (.if_icmp .eq 9, 3) := by decide +kernel
theorem dX1_findHoles_15 : decode cX1_findHoles 15 = .ok (.iload_n 2, 1) := by decide +kernel
theorem dX1_findHoles_16 : decode cX1_findHoles 16 = .ok (.bipush 31, 2) := by decide +kernel
theorem dX1_findHoles_18 : decode cX1_findHoles 18 = .ok (.if_icmp .ne 7, 3) := by decide +kernel
theorem dX1_findHoles_21 : decode cX1_findHoles 21 = .ok (.iconst 1, 1) := by decide +kernel
theorem dX1_findHoles_22 : decode cX1_findHoles 22 = .ok (.goto 4, 3) := by decide +kernel
theorem dX1_findHoles_25 : decode cX1_findHoles 25 = .ok (.iconst 0, 1) := by decide +kernel
theorem dX1_findHoles_26 : decode cX1_findHoles 26 = .ok (.istore_n 3, 1) := by decide +kernel
theorem dX1_findHoles_27 : decode cX1_findHoles 27 = .ok (.iload_n 3, 1) := by decide +kernel
theorem dX1_findHoles_28 : decode cX1_findHoles 28 = .ok (.ifCond .eq 9, 3) := by decide +kernel
theorem dX1_findHoles_31 : decode cX1_findHoles 31 = .ok (.ldc2_w 46, 3) := by decide +kernel
theorem dX1_findHoles_34 : decode cX1_findHoles 34 = .ok (.goto 14, 3) := by decide +kernel
theorem dX1_findHoles_37 : decode cX1_findHoles 37 = .ok (.bipush (-32), 2) := by decide +kernel
theorem dX1_findHoles_39 : decode cX1_findHoles 39 = .ok (.invokestatic 48, 3) := by decide +kernel
theorem dX1_findHoles_42 : decode cX1_findHoles 42 = .ok (.bipush 31, 2) := by decide +kernel
theorem dX1_findHoles_44 : decode cX1_findHoles 44 = .ok (.invokestatic 48, 3) := by decide +kernel
theorem dX1_findHoles_47 : decode cX1_findHoles 47 = .ok (.lor, 1) := by decide +kernel
theorem dX1_findHoles_48 : decode cX1_findHoles 48 = .ok (.lstore 4, 2) := by decide +kernel
theorem dX1_findHoles_50 : decode cX1_findHoles 50 = .ok (.aload_n 0, 1) := by decide +kernel
theorem dX1_findHoles_51 : decode cX1_findHoles 51 = .ok (.getfield 12, 3) := by decide +kernel
theorem dX1_findHoles_54 : decode cX1_findHoles 54 = .ok (.iload_n 2, 1) := by decide +kernel
theorem dX1_findHoles_55 : decode cX1_findHoles 55 = .ok (.aload_n 1, 1) := by decide +kernel
theorem dX1_findHoles_56 : decode cX1_findHoles 56 = .ok (.iload_n 2, 1) := by decide +kernel
theorem dX1_findHoles_57 : decode cX1_findHoles 57 = .ok (.invokevirtual 52, 3) := by decide +kernel
theorem dX1_findHoles_60 : decode cX1_findHoles 60 = .ok (.ldc2_w 46, 3) := by decide +kernel
theorem dX1_findHoles_63 : decode cX1_findHoles 63 = .ok (.lxor, 1) := by decide +kernel
theorem dX1_findHoles_64 : decode cX1_findHoles 64 = .ok (.invokevirtual 55, 3) := by decide +kernel
theorem dX1_findHoles_67 : decode cX1_findHoles 67 = .ok (.aload_n 0, 1) := by decide +kernel
theorem dX1_findHoles_68 : decode cX1_findHoles 68 = .ok (.getfield 18, 3) := by decide +kernel
theorem dX1_findHoles_71 : decode cX1_findHoles 71 = .ok (.iload_n 2, 1) := by decide +kernel
theorem dX1_findHoles_72 : decode cX1_findHoles 72 = .ok (.aload_n 1, 1) := by decide +kernel
theorem dX1_findHoles_73 : decode cX1_findHoles 73 = .ok (.iload_n 2, 1) := by decide +kernel
theorem dX1_findHoles_74 : decode cX1_findHoles 74 = .ok (.invokevirtual 52, 3) := by decide +kernel
theorem dX1_findHoles_77 : decode cX1_findHoles 77 = .ok (.ldc2_w 46, 3) := by decide +kernel
theorem dX1_findHoles_80 : decode cX1_findHoles 80 = .ok (.lxor, 1) := by decide +kernel
theorem dX1_findHoles_81 : decode cX1_findHoles 81 = .ok (.lload 4, 2) := by decide +kernel
theorem dX1_findHoles_83 : decode cX1_findHoles 83 = .ok (.land, 1) := by decide +kernel
theorem dX1_findHoles_84 : decode cX1_findHoles 84 = .ok (.invokevirtual 55, 3) := by decide +kernel
theorem dX1_findHoles_87 : decode cX1_findHoles 87 = .ok (.iinc 2 1, 3) := by decide +kernel
theorem dX1_findHoles_90 : decode cX1_findHoles 90 = .ok (.goto (-87), 3) := by decide +kernel
theorem dX1_findHoles_93 : decode cX1_findHoles 93 = .ok (.aload_n 0, 1) := by decide +kernel
theorem dX1_findHoles_94 : decode cX1_findHoles 94 = .ok (.bipush (-32), 2) := by decide +kernel
theorem dX1_findHoles_96 : decode cX1_findHoles 96 = .ok (.putfield 59, 3) := by decide +kernel
theorem dX1_findHoles_99 : decode cX1_findHoles 99 = .ok (.aload_n 0, 1) := by decide +kernel
theorem dX1_findHoles_100 : decode cX1_findHoles 100 = .ok (.bipush 31, 2) := by decide +kernel
theorem dX1_findHoles_102 : decode cX1_findHoles 102 = .ok (.putfield 63, 3) := by decide +kernel
theorem dX1_findHoles_105 : decode cX1_findHoles 105 = .ok (.aload_n 0, 1) := by decide +kernel
theorem dX1_findHoles_106 : decode cX1_findHoles 106 = .ok (.iconst 1, 1) := by decide +kernel
theorem dX1_findHoles_107 : decode cX1_findHoles 107 = .ok (.invokevirtual 66, 3) := by decide +kernel
theorem dX1_findHoles_110 : decode cX1_findHoles 110 = .ok (.aload_n 0, 1) := by decide +kernel
theorem dX1_findHoles_111 : decode cX1_findHoles 111 = .ok (.invokevirtual 70, 3) := by decide +kernel
theorem dX1_findHoles_114 : decode cX1_findHoles 114 = .ok (.return_, 1) := by decide +kernel
theorem dX1_countParts_0 : decode cX1_countParts 0 = .ok (.iconst 0, 1) := by decide +kernel
theorem dX1_countParts_1 : decode cX1_countParts 1 = .ok (.istore_n 2, 1) := by decide +kernel
theorem dX1_countParts_2 : decode cX1_countParts 2 = .ok (.bipush (-32), 2) := by decide +kernel
theorem dX1_countParts_4 : decode cX1_countParts 4 = .ok (.istore_n 3, 1) := by decide +kernel
theorem dX1_countParts_5 : decode cX1_countParts 5 = .ok (.iload_n 3, 1) := by decide +kernel
theorem dX1_countParts_6 : decode cX1_countParts 6 = .ok (.bipush 31, 2) := by decide +kernel
theorem dX1_countParts_8 : decode cX1_countParts 8 = .ok (.if_icmp .gt 61, 3) := by decide +kernel
theorem dX1_countParts_11 : decode cX1_countParts 11 = .ok (.iconst 0, 1) := by decide +kernel
theorem dX1_countParts_12 : decode cX1_countParts 12 = .ok (.istore 4, 2) := by decide +kernel
theorem dX1_countParts_14 : decode cX1_countParts 14 = .ok (.iload 4, 2) := by decide +kernel
theorem dX1_countParts_16 : decode cX1_countParts 16 = .ok (.bipush 64, 2) := by decide +kernel
theorem dX1_countParts_18 : decode cX1_countParts 18 = .ok (.if_icmp .ge 45, 3) := by decide +kernel
theorem dX1_countParts_21 : decode cX1_countParts 21 = .ok (.aload_n 0, 1) := by decide +kernel
theorem dX1_countParts_22 : decode cX1_countParts 22 = .ok (.getfield 12, 3) := by decide +kernel
theorem dX1_countParts_25 : decode cX1_countParts 25 = .ok (.iload_n 3, 1) := by decide +kernel
theorem dX1_countParts_26 : decode cX1_countParts 26 = .ok (.invokevirtual 52, 3) := by decide +kernel
theorem dX1_countParts_29 : decode cX1_countParts 29 = .ok (.lconst 0, 1) := by decide +kernel
theorem dX1_countParts_30 : decode cX1_countParts 30 = .ok (.lcmp, 1) := by decide +kernel
theorem dX1_countParts_31 : decode cX1_countParts 31 = .ok (.ifCond .eq 32, 3) := by decide +kernel
theorem dX1_countParts_34 : decode cX1_countParts 34 = .ok (.aload_n 0, 1) := by decide +kernel
theorem dX1_countParts_35 : decode cX1_countParts 35 = .ok (.bipush (-32), 2) := by decide +kernel
theorem dX1_countParts_37 : decode cX1_countParts 37 = .ok (.aload_n 0, 1) := by decide +kernel
theorem dX1_countParts_38 : decode cX1_countParts 38 = .ok (.getfield 12, 3) := by decide +kernel
theorem dX1_countParts_41 : decode cX1_countParts 41 = .ok (.iload_n 3, 1) := by decide +kernel
theorem dX1_countParts_42 : decode cX1_countParts 42 = .ok (.invokevirtual 52, 3) := by decide +kernel
theorem dX1_countParts_45 : decode cX1_countParts 45 = .ok (.invokestatic 73, 3) := by decide +kernel
theorem dX1_countParts_48 : decode cX1_countParts 48 = .ok (.iadd, 1) := by decide +kernel
theorem dX1_countParts_49 : decode cX1_countParts 49 = .ok (.iload_n 3, 1) := by decide +kernel
theorem dX1_countParts_50 : decode cX1_countParts 50 = .ok (.iload_n 1, 1) := by decide +kernel
theorem dX1_countParts_51 : decode cX1_countParts 51 = .ok (.invokevirtual 42, 3) := by decide +kernel
theorem dX1_countParts_54 : decode cX1_countParts 54 = .ok (.iinc 2 1, 3) := by decide +kernel
theorem dX1_countParts_57 : decode cX1_countParts 57 = .ok (.iinc 4 1, 3) := by decide +kernel
theorem dX1_countParts_60 : decode cX1_countParts 60 = .ok (.goto (-46), 3) := by decide +kernel
theorem dX1_countParts_63 : decode cX1_countParts 63 = .ok (.iinc 3 1, 3) := by decide +kernel
theorem dX1_countParts_66 : decode cX1_countParts 66 = .ok (.goto (-61), 3) := by decide +kernel
theorem dX1_countParts_69 : decode cX1_countParts 69 = .ok (.iload_n 2, 1) := by decide +kernel
theorem dX1_countParts_70 : decode cX1_countParts 70 = .ok (.ireturn, 1) := by decide +kernel
theorem dX1_take_0 : decode cX1_take 0 = .ok (.aload_n 0, 1) := by decide +kernel
theorem dX1_take_1 : decode cX1_take 1 = .ok (.getfield 18, 3) := by decide +kernel
theorem dX1_take_4 : decode cX1_take 4 = .ok (.invokevirtual 35, 3) := by decide +kernel
theorem dX1_take_7 : decode cX1_take 7 = .ok (.aload_n 0, 1) := by decide +kernel
theorem dX1_take_8 : decode cX1_take 8 = .ok (.getfield 18, 3) := by decide +kernel
theorem dX1_take_11 : decode cX1_take 11 = .ok (.iload_n 1, 1) := by decide +kernel
theorem dX1_take_12 : decode cX1_take 12 = .ok (.iload_n 2, 1) := by decide +kernel
theorem dX1_take_13 : decode cX1_take 13 = .ok (.invokevirtual 77, 3) := by decide +kernel
theorem dX1_take_16 : decode cX1_take 16 = .ok (.aload_n 0, 1) := by decide +kernel
theorem dX1_take_17 : decode cX1_take 17 = .ok (.iload_n 2, 1) := by decide +kernel
theorem dX1_take_18 : decode cX1_take 18 = .ok (.putfield 59, 3) := by decide +kernel
theorem dX1_take_21 : decode cX1_take 21 = .ok (.aload_n 0, 1) := by decide +kernel
theorem dX1_take_22 : decode cX1_take 22 = .ok (.iload_n 2, 1) := by decide +kernel
theorem dX1_take_23 : decode cX1_take 23 = .ok (.putfield 63, 3) := by decide +kernel
theorem dX1_take_26 : decode cX1_take 26 = .ok (.aload_n 0, 1) := by decide +kernel
theorem dX1_take_27 : decode cX1_take 27 = .ok (.iload_n 3, 1) := by decide +kernel
theorem dX1_take_28 : decode cX1_take 28 = .ok (.invokevirtual 66, 3) := by decide +kernel
theorem dX1_take_31 : decode cX1_take 31 = .ok (.aload_n 0, 1) := by decide +kernel
theorem dX1_take_32 : decode cX1_take 32 = .ok (.invokevirtual 70, 3) := by decide +kernel
theorem dX1_take_35 : decode cX1_take 35 = .ok (.return_, 1) := by decide +kernel
theorem dX1_removeFound_0 : decode cX1_removeFound 0 = .ok (.aload_n 0, 1) := by decide +kernel
theorem dX1_removeFound_1 : decode cX1_removeFound 1 = .ok (.getfield 59, 3) := by decide +kernel
theorem dX1_removeFound_4 : decode cX1_removeFound 4 = .ok (.istore_n 1, 1) := by decide +kernel
theorem dX1_removeFound_5 : decode cX1_removeFound 5 = .ok (.iload_n 1, 1) := by decide +kernel
theorem dX1_removeFound_6 : decode cX1_removeFound 6 = .ok (.aload_n 0, 1) := by decide +kernel
theorem dX1_removeFound_7 : decode cX1_removeFound 7 = .ok (.getfield 63, 3) := by decide +kernel
theorem dX1_removeFound_10 : decode cX1_removeFound 10 = .ok (.if_icmp .gt 38, 3) := by decide +kernel
theorem dX1_removeFound_13 : decode cX1_removeFound 13 = .ok (.aload_n 0, 1) := by decide +kernel
theorem dX1_removeFound_14 : decode cX1_removeFound 14 = .ok (.getfield 12, 3) := by decide +kernel
theorem dX1_removeFound_17 : decode cX1_removeFound 17 = .ok (.iload_n 1, 1) := by decide +kernel
theorem dX1_removeFound_18 : decode cX1_removeFound 18 = .ok (.aload_n 0, 1) := by decide +kernel
theorem dX1_removeFound_19 : decode cX1_removeFound 19 = .ok (.getfield 12, 3) := by decide +kernel
theorem dX1_removeFound_22 : decode cX1_removeFound 22 = .ok (.iload_n 1, 1) := by decide +kernel
theorem dX1_removeFound_23 : decode cX1_removeFound 23 = .ok (.invokevirtual 52, 3) := by decide +kernel
theorem dX1_removeFound_26 : decode cX1_removeFound 26 = .ok (.aload_n 0, 1) := by decide +kernel
theorem dX1_removeFound_27 : decode cX1_removeFound 27 = .ok (.getfield 18, 3) := by decide +kernel
theorem dX1_removeFound_30 : decode cX1_removeFound 30 = .ok (.iload_n 1, 1) := by decide +kernel
theorem dX1_removeFound_31 : decode cX1_removeFound 31 = .ok (.invokevirtual 52, 3) := by decide +kernel
theorem dX1_removeFound_34 : decode cX1_removeFound 34 = .ok (.ldc2_w 46, 3) := by decide +kernel
theorem dX1_removeFound_37 : decode cX1_removeFound 37 = .ok (.lxor, 1) := by decide +kernel
theorem dX1_removeFound_38 : decode cX1_removeFound 38 = .ok (.land, 1) := by decide +kernel
theorem dX1_removeFound_39 : decode cX1_removeFound 39 = .ok (.invokevirtual 55, 3) := by decide +kernel
theorem dX1_removeFound_42 : decode cX1_removeFound 42 = .ok (.iinc 1 1, 3) := by decide +kernel
theorem dX1_removeFound_45 : decode cX1_removeFound 45 = .ok (.goto (-40), 3) := by decide +kernel
theorem dX1_removeFound_48 : decode cX1_removeFound 48 = .ok (.return_, 1) := by decide +kernel
theorem dX1_spread_0 : decode cX1_spread 0 = .ok (.iconst 1, 1) := by decide +kernel
theorem dX1_spread_1 : decode cX1_spread 1 = .ok (.istore_n 2, 1) := by decide +kernel
theorem dX1_spread_2 : decode cX1_spread 2 = .ok (.iconst 0, 1) := by decide +kernel
theorem dX1_spread_3 : decode cX1_spread 3 = .ok (.istore_n 3, 1) := by decide +kernel
theorem dX1_spread_4 : decode cX1_spread 4 = .ok (.iload_n 3, 1) := by decide +kernel
theorem dX1_spread_5 : decode cX1_spread 5 = .ok (.sipush 4096, 3) := by decide +kernel
theorem dX1_spread_8 : decode cX1_spread 8 = .ok (.if_icmp .gt 95, 3) := by decide +kernel
theorem dX1_spread_11 : decode cX1_spread 11 = .ok (.iload_n 2, 1) := by decide +kernel
theorem dX1_spread_12 : decode cX1_spread 12 = .ok (.ifCond .eq 91, 3) := by decide +kernel
theorem dX1_spread_15 : decode cX1_spread 15 = .ok (.iconst 0, 1) := by decide +kernel
theorem dX1_spread_16 : decode cX1_spread 16 = .ok (.istore_n 2, 1) := by decide +kernel
theorem dX1_spread_17 : decode cX1_spread 17 = .ok (.aload_n 0, 1) := by decide +kernel
theorem dX1_spread_18 : decode cX1_spread 18 = .ok (.getfield 59, 3) := by decide +kernel
theorem dX1_spread_21 : decode cX1_spread 21 = .ok (.istore 4, 2) := by decide +kernel
theorem dX1_spread_23 : decode cX1_spread 23 = .ok (.iload 4, 2) := by decide +kernel
theorem dX1_spread_25 : decode cX1_spread 25 = .ok (.bipush 31, 2) := by decide +kernel
theorem dX1_spread_27 : decode cX1_spread 27 = .ok (.if_icmp .gt 30, 3) := by decide +kernel
theorem dX1_spread_30 : decode cX1_spread 30 = .ok (.iload 4, 2) := by decide +kernel
theorem dX1_spread_32 : decode cX1_spread 32 = .ok (.aload_n 0, 1) := by decide +kernel
theorem dX1_spread_33 : decode cX1_spread 33 = .ok (.getfield 63, 3) := by decide +kernel
theorem dX1_spread_36 : decode cX1_spread 36 = .ok (.iconst 1, 1) := by decide +kernel
theorem dX1_spread_37 : decode cX1_spread 37 = .ok (.iadd, 1) := by decide +kernel
theorem dX1_spread_38 : decode cX1_spread 38 = .ok (.if_icmp .gt 19, 3) := by decide +kernel
theorem dX1_spread_41 : decode cX1_spread 41 = .ok (.iload_n 2, 1) := by decide +kernel
theorem dX1_spread_42 : decode cX1_spread 42 = .ok (.aload_n 0, 1) := by decide +kernel
theorem dX1_spread_43 : decode cX1_spread 43 = .ok (.iload 4, 2) := by decide +kernel
theorem dX1_spread_45 : decode cX1_spread 45 = .ok (.iload_n 1, 1) := by decide +kernel
theorem dX1_spread_46 : decode cX1_spread 46 = .ok (.invokevirtual 81, 3) := by decide +kernel
theorem dX1_spread_49 : decode cX1_spread 49 = .ok (.ior, 1) := by decide +kernel
theorem dX1_spread_50 : decode cX1_spread 50 = .ok (.istore_n 2, 1) := by decide +kernel
theorem dX1_spread_51 : decode cX1_spread 51 = .ok (.iinc 4 1, 3) := by decide +kernel
theorem dX1_spread_54 : decode cX1_spread 54 = .ok (.goto (-31), 3) := by decide +kernel
theorem dX1_spread_57 : decode cX1_spread 57 = .ok (.aload_n 0, 1) := by decide +kernel
theorem dX1_spread_58 : decode cX1_spread 58 = .ok (.getfield 63, 3) := by decide +kernel
theorem dX1_spread_61 : decode cX1_spread 61 = .ok (.istore 4, 2) := by decide +kernel
theorem dX1_spread_63 : decode cX1_spread 63 = .ok (.iload 4, 2) := by decide +kernel
theorem dX1_spread_65 : decode cX1_spread 65 = .ok (.bipush (-32), 2) := by decide +kernel
theorem dX1_spread_67 : decode cX1_spread 67 = .ok (.if_icmp .lt 30, 3) := by decide +kernel
theorem dX1_spread_70 : decode cX1_spread 70 = .ok (.iload 4, 2) := by decide +kernel
theorem dX1_spread_72 : decode cX1_spread 72 = .ok (.aload_n 0, 1) := by decide +kernel
theorem dX1_spread_73 : decode cX1_spread 73 = .ok (.getfield 59, 3) := by decide +kernel
theorem dX1_spread_76 : decode cX1_spread 76 = .ok (.iconst 1, 1) := by decide +kernel
theorem dX1_spread_77 : decode cX1_spread 77 = .ok (.isub, 1) := by decide +kernel
theorem dX1_spread_78 : decode cX1_spread 78 = .ok (.if_icmp .lt 19, 3) := by decide +kernel
theorem dX1_spread_81 : decode cX1_spread 81 = .ok (.iload_n 2, 1) := by decide +kernel
theorem dX1_spread_82 : decode cX1_spread 82 = .ok (.aload_n 0, 1) := by decide +kernel
theorem dX1_spread_83 : decode cX1_spread 83 = .ok (.iload 4, 2) := by decide +kernel
theorem dX1_spread_85 : decode cX1_spread 85 = .ok (.iload_n 1, 1) := by decide +kernel
theorem dX1_spread_86 : decode cX1_spread 86 = .ok (.invokevirtual 81, 3) := by decide +kernel
theorem dX1_spread_89 : decode cX1_spread 89 = .ok (.ior, 1) := by decide +kernel
theorem dX1_spread_90 : decode cX1_spread 90 = .ok (.istore_n 2, 1) := by decide +kernel
theorem dX1_spread_91 : decode cX1_spread 91 = .ok (.iinc 4 (-1), 3) := by decide +kernel
theorem dX1_spread_94 : decode cX1_spread 94 = .ok (.goto (-31), 3) := by decide +kernel
theorem dX1_spread_97 : decode cX1_spread 97 = .ok (.iinc 3 1, 3) := by decide +kernel
theorem dX1_spread_100 : decode cX1_spread 100 = .ok (.goto (-96), 3) := by decide +kernel
theorem dX1_spread_103 : decode cX1_spread 103 = .ok (.return_, 1) := by decide +kernel
theorem dX1_spreadInto_0 : decode cX1_spreadInto 0 = .ok (.aload_n 0, 1) := by decide +kernel
theorem dX1_spreadInto_1 : decode cX1_spreadInto 1 = .ok (.getfield 18, 3) := by decide +kernel
theorem dX1_spreadInto_4 : decode cX1_spreadInto 4 = .ok (.iload_n 1, 1) := by decide +kernel
theorem dX1_spreadInto_5 : decode cX1_spreadInto 5 = .ok (.iconst 1, 1) := by decide +kernel
theorem dX1_spreadInto_6 : decode cX1_spreadInto 6 = .ok (.isub, 1) := by decide +kernel
theorem dX1_spreadInto_7 : decode cX1_spreadInto 7 = .ok (.invokevirtual 52, 3) := by decide +kernel
theorem dX1_spreadInto_10 : decode cX1_spreadInto 10 = .ok (.aload_n 0, 1) := by decide +kernel
theorem dX1_spreadInto_11 : decode cX1_spreadInto 11 = .ok (.getfield 18, 3) := by decide +kernel
theorem dX1_spreadInto_14 : decode cX1_spreadInto 14 = .ok (.iload_n 1, 1) := by decide +kernel
theorem dX1_spreadInto_15 : decode cX1_spreadInto 15 = .ok (.iconst 1, 1) := by decide +kernel
theorem dX1_spreadInto_16 : decode cX1_spreadInto 16 = .ok (.iadd, 1) := by decide +kernel
theorem dX1_spreadInto_17 : decode cX1_spreadInto 17 = .ok (.invokevirtual 52, 3) := by decide +kernel
theorem dX1_spreadInto_20 : decode cX1_spreadInto 20 = .ok (.lor, 1) := by decide +kernel
theorem dX1_spreadInto_21 : decode cX1_spreadInto 21 = .ok (.lstore_n 3, 1) := by decide +kernel
theorem dX1_spreadInto_22 : decode cX1_spreadInto 22 = .ok (.iload_n 2, 1) := by decide +kernel
theorem dX1_spreadInto_23 : decode cX1_spreadInto 23 = .ok (.ifCond .eq 13, 3) := by decide +kernel
theorem dX1_spreadInto_26 : decode cX1_spreadInto 26 = .ok (.lload_n 3, 1) := by decide +kernel
theorem dX1_spreadInto_27 : decode cX1_spreadInto 27 = .ok (.lload_n 3, 1) := by decide +kernel
theorem dX1_spreadInto_28 : decode cX1_spreadInto 28 = .ok (.iconst 1, 1) := by decide +kernel
theorem dX1_spreadInto_29 : decode cX1_spreadInto 29 = .ok (.lshl, 1) := by decide +kernel
theorem dX1_spreadInto_30 : decode cX1_spreadInto 30 = .ok (.lload_n 3, 1) := by decide +kernel
theorem dX1_spreadInto_31 : decode cX1_spreadInto 31 = .ok (.iconst 1, 1) := by decide +kernel
theorem dX1_spreadInto_32 : decode cX1_spreadInto 32 = .ok (.lushr, 1) := by decide +kernel
theorem dX1_spreadInto_33 : decode cX1_spreadInto 33 = .ok (.lor, 1) := by decide +kernel
theorem dX1_spreadInto_34 : decode cX1_spreadInto 34 = .ok (.lor, 1) := by decide +kernel
theorem dX1_spreadInto_35 : decode cX1_spreadInto 35 = .ok (.lstore_n 3, 1) := by decide +kernel
theorem dX1_spreadInto_36 : decode cX1_spreadInto 36 = .ok (.aload_n 0, 1) := by decide +kernel
theorem dX1_spreadInto_37 : decode cX1_spreadInto 37 = .ok (.getfield 12, 3) := by decide +kernel
theorem dX1_spreadInto_40 : decode cX1_spreadInto 40 = .ok (.iload_n 1, 1) := by decide +kernel
theorem dX1_spreadInto_41 : decode cX1_spreadInto 41 = .ok (.invokevirtual 52, 3) := by decide +kernel
theorem dX1_spreadInto_44 : decode cX1_spreadInto 44 = .ok (.lstore 5, 2) := by decide +kernel
theorem dX1_spreadInto_46 : decode cX1_spreadInto 46 = .ok (.aload_n 0, 1) := by decide +kernel
theorem dX1_spreadInto_47 : decode cX1_spreadInto 47 = .ok (.getfield 18, 3) := by decide +kernel
theorem dX1_spreadInto_50 : decode cX1_spreadInto 50 = .ok (.iload_n 1, 1) := by decide +kernel
theorem dX1_spreadInto_51 : decode cX1_spreadInto 51 = .ok (.invokevirtual 52, 3) := by decide +kernel
theorem dX1_spreadInto_54 : decode cX1_spreadInto 54 = .ok (.lstore 7, 2) := by decide +kernel
theorem dX1_spreadInto_56 : decode cX1_spreadInto 56 = .ok (.lload 5, 2) := by decide +kernel
theorem dX1_spreadInto_58 : decode cX1_spreadInto 58 = .ok (.lload 7, 2) := by decide +kernel
theorem dX1_spreadInto_60 : decode cX1_spreadInto 60 = .ok (.lload_n 3, 1) := by decide +kernel
theorem dX1_spreadInto_61 : decode cX1_spreadInto 61 = .ok (.lor, 1) := by decide +kernel
theorem dX1_spreadInto_62 : decode cX1_spreadInto 62 = .ok (.land, 1) := by decide +kernel
theorem dX1_spreadInto_63 : decode cX1_spreadInto 63 = .ok (.lload 5, 2) := by decide +kernel
theorem dX1_spreadInto_65 : decode cX1_spreadInto 65 = .ok (.invokestatic 85, 3) := by decide +kernel
theorem dX1_spreadInto_68 : decode cX1_spreadInto 68 = .ok (.lstore 9, 2) := by decide +kernel
theorem dX1_spreadInto_70 : decode cX1_spreadInto 70 = .ok (.lload 9, 2) := by decide +kernel
theorem dX1_spreadInto_72 : decode cX1_spreadInto 72 = .ok (.lload 7, 2) := by decide +kernel
theorem dX1_spreadInto_74 : decode cX1_spreadInto 74 = .ok (.lcmp, 1) := by decide +kernel
theorem dX1_spreadInto_75 : decode cX1_spreadInto 75 = .ok (.ifCond .ne 5, 3) := by decide +kernel
theorem dX1_spreadInto_78 : decode cX1_spreadInto 78 = .ok (.iconst 0, 1) := by decide +kernel
theorem dX1_spreadInto_79 : decode cX1_spreadInto 79 = .ok (.ireturn, 1) := by decide +kernel
theorem dX1_spreadInto_80 : decode cX1_spreadInto 80 = .ok (.aload_n 0, 1) := by decide +kernel
theorem dX1_spreadInto_81 : decode cX1_spreadInto 81 = .ok (.getfield 18, 3) := by decide +kernel
theorem dX1_spreadInto_84 : decode cX1_spreadInto 84 = .ok (.iload_n 1, 1) := by decide +kernel
theorem dX1_spreadInto_85 : decode cX1_spreadInto 85 = .ok (.lload 9, 2) := by decide +kernel
theorem dX1_spreadInto_87 : decode cX1_spreadInto 87 = .ok (.invokevirtual 55, 3) := by decide +kernel
theorem dX1_spreadInto_90 : decode cX1_spreadInto 90 = .ok (.aload_n 0, 1) := by decide +kernel
theorem dX1_spreadInto_91 : decode cX1_spreadInto 91 = .ok (.aload_n 0, 1) := by decide +kernel
theorem dX1_spreadInto_92 : decode cX1_spreadInto 92 = .ok (.getfield 59, 3) := by decide +kernel
theorem dX1_spreadInto_95 : decode cX1_spreadInto 95 = .ok (.iload_n 1, 1) := by decide +kernel
theorem dX1_spreadInto_96 : decode cX1_spreadInto 96 = .ok (.invokestatic 89, 3) := by decide +kernel
theorem dX1_spreadInto_99 : decode cX1_spreadInto 99 = .ok (.putfield 59, 3) := by decide +kernel
theorem dX1_spreadInto_102 : decode cX1_spreadInto 102 = .ok (.aload_n 0, 1) := by decide +kernel
theorem dX1_spreadInto_103 : decode cX1_spreadInto 103 = .ok (.aload_n 0, 1) := by decide +kernel
theorem dX1_spreadInto_104 : decode cX1_spreadInto 104 = .ok (.getfield 63, 3) := by decide +kernel
theorem dX1_spreadInto_107 : decode cX1_spreadInto 107 = .ok (.iload_n 1, 1) := by decide +kernel
theorem dX1_spreadInto_108 : decode cX1_spreadInto 108 = .ok (.invokestatic 95, 3) := by decide +kernel
theorem dX1_spreadInto_111 : decode cX1_spreadInto 111 = .ok (.putfield 63, 3) := by decide +kernel
theorem dX1_spreadInto_114 : decode cX1_spreadInto 114 = .ok (.iconst 1, 1) := by decide +kernel
theorem dX1_spreadInto_115 : decode cX1_spreadInto 115 = .ok (.ireturn, 1) := by decide +kernel
theorem dX1_along_0 : decode cX1_along 0 = .ok (.lload_n 0, 1) := by decide +kernel
theorem dX1_along_1 : decode cX1_along 1 = .ok (.lstore 4, 2) := by decide +kernel
theorem dX1_along_3 : decode cX1_along 3 = .ok (.lload_n 2, 1) := by decide +kernel
theorem dX1_along_4 : decode cX1_along 4 = .ok (.lstore 6, 2) := by decide +kernel
theorem dX1_along_6 : decode cX1_along 6 = .ok (.lload_n 0, 1) := by decide +kernel
theorem dX1_along_7 : decode cX1_along 7 = .ok (.lstore 8, 2) := by decide +kernel
theorem dX1_along_9 : decode cX1_along 9 = .ok (.lload_n 2, 1) := by decide +kernel
theorem dX1_along_10 : decode cX1_along 10 = .ok (.lstore 10, 2) := by decide +kernel
theorem dX1_along_12 : decode cX1_along 12 = .ok (.iconst 1, 1) := by decide +kernel
theorem dX1_along_13 : decode cX1_along 13 = .ok (.istore 12, 2) := by decide +kernel
theorem dX1_along_15 : decode cX1_along 15 = .ok (.iload 12, 2) := by decide +kernel
theorem dX1_along_17 : decode cX1_along 17 = .ok (.bipush 64, 2) := by decide +kernel
theorem dX1_along_19 : decode cX1_along 19 = .ok (.if_icmp .ge 58, 3) := by decide +kernel
theorem dX1_along_22 : decode cX1_along 22 = .ok (.lload 4, 2) := by decide +kernel
theorem dX1_along_24 : decode cX1_along 24 = .ok (.lload 6, 2) := by decide +kernel
theorem dX1_along_26 : decode cX1_along 26 = .ok (.lload 4, 2) := by decide +kernel
theorem dX1_along_28 : decode cX1_along 28 = .ok (.iload 12, 2) := by decide +kernel
theorem dX1_along_30 : decode cX1_along 30 = .ok (.lshl, 1) := by decide +kernel
theorem dX1_along_31 : decode cX1_along 31 = .ok (.land, 1) := by decide +kernel
theorem dX1_along_32 : decode cX1_along 32 = .ok (.lor, 1) := by decide +kernel
theorem dX1_along_33 : decode cX1_along 33 = .ok (.lstore 4, 2) := by decide +kernel
theorem dX1_along_35 : decode cX1_along 35 = .ok (.lload 6, 2) := by decide +kernel
theorem dX1_along_37 : decode cX1_along 37 = .ok (.lload 6, 2) := by decide +kernel
theorem dX1_along_39 : decode cX1_along 39 = .ok (.iload 12, 2) := by decide +kernel
theorem dX1_along_41 : decode cX1_along 41 = .ok (.lshl, 1) := by decide +kernel
theorem dX1_along_42 : decode cX1_along 42 = .ok (.land, 1) := by decide +kernel
theorem dX1_along_43 : decode cX1_along 43 = .ok (.lstore 6, 2) := by decide +kernel
theorem dX1_along_45 : decode cX1_along 45 = .ok (.lload 8, 2) := by decide +kernel
theorem dX1_along_47 : decode cX1_along 47 = .ok (.lload 10, 2) := by decide +kernel
theorem dX1_along_49 : decode cX1_along 49 = .ok (.lload 8, 2) := by decide +kernel
theorem dX1_along_51 : decode cX1_along 51 = .ok (.iload 12, 2) := by decide +kernel
theorem dX1_along_53 : decode cX1_along 53 = .ok (.lushr, 1) := by decide +kernel
theorem dX1_along_54 : decode cX1_along 54 = .ok (.land, 1) := by decide +kernel
theorem dX1_along_55 : decode cX1_along 55 = .ok (.lor, 1) := by decide +kernel
theorem dX1_along_56 : decode cX1_along 56 = .ok (.lstore 8, 2) := by decide +kernel
theorem dX1_along_58 : decode cX1_along 58 = .ok (.lload 10, 2) := by decide +kernel
theorem dX1_along_60 : decode cX1_along 60 = .ok (.lload 10, 2) := by decide +kernel
theorem dX1_along_62 : decode cX1_along 62 = .ok (.iload 12, 2) := by decide +kernel
theorem dX1_along_64 : decode cX1_along 64 = .ok (.lushr, 1) := by decide +kernel
theorem dX1_along_65 : decode cX1_along 65 = .ok (.land, 1) := by decide +kernel
theorem dX1_along_66 : decode cX1_along 66 = .ok (.lstore 10, 2) := by decide +kernel
theorem dX1_along_68 : decode cX1_along 68 = .ok (.iload 12, 2) := by decide +kernel
theorem dX1_along_70 : decode cX1_along 70 = .ok (.iconst 2, 1) := by decide +kernel
theorem dX1_along_71 : decode cX1_along 71 = .ok (.imul, 1) := by decide +kernel
theorem dX1_along_72 : decode cX1_along 72 = .ok (.istore 12, 2) := by decide +kernel
theorem dX1_along_74 : decode cX1_along 74 = .ok (.goto (-59), 3) := by decide +kernel
theorem dX1_along_77 : decode cX1_along 77 = .ok (.lload 4, 2) := by decide +kernel
theorem dX1_along_79 : decode cX1_along 79 = .ok (.lload 8, 2) := by decide +kernel
theorem dX1_along_81 : decode cX1_along 81 = .ok (.lor, 1) := by decide +kernel
theorem dX1_along_82 : decode cX1_along 82 = .ok (.lreturn, 1) := by decide +kernel
theorem dX2_init_0 : decode cX2_init 0 = .ok (.aload_n 0, 1) := by decide +kernel
theorem dX2_init_1 : decode cX2_init 1 = .ok (.invokespecial 3, 3) := by decide +kernel
theorem dX2_init_4 : decode cX2_init 4 = .ok (.aload_n 0, 1) := by decide +kernel
theorem dX2_init_5 : decode cX2_init 5 = .ok (.bipush 12, 2) := by decide +kernel
theorem dX2_init_7 : decode cX2_init 7 = .ok (.anewarray 9, 3) := by decide +kernel
theorem dX2_init_10 : decode cX2_init 10 = .ok (.putfield 11, 3) := by decide +kernel
theorem dX2_init_13 : decode cX2_init 13 = .ok (.aload_n 0, 1) := by decide +kernel
theorem dX2_init_14 : decode cX2_init 14 = .ok (.bipush 12, 2) := by decide +kernel
theorem dX2_init_16 : decode cX2_init 16 = .ok (.newarray .int, 2) := by decide +kernel
theorem dX2_init_18 : decode cX2_init 18 = .ok (.putfield 17, 3) := by decide +kernel
theorem dX2_init_21 : decode cX2_init 21 = .ok (.iconst 0, 1) := by decide +kernel
theorem dX2_init_22 : decode cX2_init 22 = .ok (.istore_n 1, 1) := by decide +kernel
theorem dX2_init_23 : decode cX2_init 23 = .ok (.iload_n 1, 1) := by decide +kernel
theorem dX2_init_24 : decode cX2_init 24 = .ok (.aload_n 0, 1) := by decide +kernel
theorem dX2_init_25 : decode cX2_init 25 = .ok (.getfield 11, 3) := by decide +kernel
theorem dX2_init_28 : decode cX2_init 28 = .ok (.arraylength, 1) := by decide +kernel
theorem dX2_init_29 : decode cX2_init 29 = .ok (.if_icmp .ge 22, 3) := by decide +kernel
theorem dX2_init_32 : decode cX2_init 32 = .ok (.aload_n 0, 1) := by decide +kernel
theorem dX2_init_33 : decode cX2_init 33 = .ok (.getfield 11, 3) := by decide +kernel
theorem dX2_init_36 : decode cX2_init 36 = .ok (.iload_n 1, 1) := by decide +kernel
theorem dX2_init_37 : decode cX2_init 37 = .ok (.new 9, 3) := by decide +kernel
theorem dX2_init_40 : decode cX2_init 40 = .ok (.dup, 1) := by decide +kernel
theorem dX2_init_41 : decode cX2_init 41 = .ok (.invokespecial 21, 3) := by decide +kernel
theorem dX2_init_44 : decode cX2_init 44 = .ok (.aastore, 1) := by decide +kernel
theorem dX2_init_45 : decode cX2_init 45 = .ok (.iinc 1 1, 3) := by decide +kernel
theorem dX2_init_48 : decode cX2_init 48 = .ok (.goto (-25), 3) := by decide +kernel
theorem dX2_init_51 : decode cX2_init 51 = .ok (.return_, 1) := by decide +kernel
theorem dX2_count_0 : decode cX2_count 0 = .ok (.aload_n 0, 1) := by decide +kernel
theorem dX2_count_1 : decode cX2_count 1 = .ok (.getfield 22, 3) := by decide +kernel
theorem dX2_count_4 : decode cX2_count 4 = .ok (.ireturn, 1) := by decide +kernel
theorem dX2_keep_0 : decode cX2_keep 0 = .ok (.aload_n 0, 1) := by decide +kernel
theorem dX2_keep_1 : decode cX2_keep 1 = .ok (.aload_n 0, 1) := by decide +kernel
theorem dX2_keep_2 : decode cX2_keep 2 = .ok (.getfield 26, 3) := by decide +kernel
theorem dX2_keep_5 : decode cX2_keep 5 = .ok (.iconst 1, 1) := by decide +kernel
theorem dX2_keep_6 : decode cX2_keep 6 = .ok (.iadd, 1) := by decide +kernel
theorem dX2_keep_7 : decode cX2_keep 7 = .ok (.bipush 12, 2) := by decide +kernel
theorem dX2_keep_9 : decode cX2_keep 9 = .ok (.if_icmp .ge 12, 3) := by decide +kernel
theorem dX2_keep_12 : decode cX2_keep 12 = .ok (.aload_n 0, 1) := by decide +kernel
theorem dX2_keep_13 : decode cX2_keep 13 = .ok (.getfield 26, 3) := by decide +kernel
theorem dX2_keep_16 : decode cX2_keep 16 = .ok (.iconst 1, 1) := by decide +kernel
theorem dX2_keep_17 : decode cX2_keep 17 = .ok (.iadd, 1) := by decide +kernel
theorem dX2_keep_18 : decode cX2_keep 18 = .ok (.goto 4, 3) := by decide +kernel
theorem dX2_keep_21 : decode cX2_keep 21 = .ok (.iconst 0, 1) := by decide +kernel
theorem dX2_keep_22 : decode cX2_keep 22 = .ok (.putfield 26, 3) := by decide +kernel
theorem dX2_keep_25 : decode cX2_keep 25 = .ok (.aload_n 0, 1) := by decide +kernel
theorem dX2_keep_26 : decode cX2_keep 26 = .ok (.aload_n 0, 1) := by decide +kernel
theorem dX2_keep_27 : decode cX2_keep 27 = .ok (.getfield 22, 3) := by decide +kernel
theorem dX2_keep_30 : decode cX2_keep 30 = .ok (.iconst 1, 1) := by decide +kernel
theorem dX2_keep_31 : decode cX2_keep 31 = .ok (.iadd, 1) := by decide +kernel
theorem dX2_keep_32 : decode cX2_keep 32 = .ok (.bipush 12, 2) := by decide +kernel
theorem dX2_keep_34 : decode cX2_keep 34 = .ok (.invokestatic 29, 3) := by decide +kernel
theorem dX2_keep_37 : decode cX2_keep 37 = .ok (.putfield 22, 3) := by decide +kernel
theorem dX2_keep_40 : decode cX2_keep 40 = .ok (.aload_n 0, 1) := by decide +kernel
theorem dX2_keep_41 : decode cX2_keep 41 = .ok (.aload_n 0, 1) := by decide +kernel
theorem dX2_keep_42 : decode cX2_keep 42 = .ok (.getfield 26, 3) := by decide +kernel
theorem dX2_keep_45 : decode cX2_keep 45 = .ok (.invokevirtual 35, 3) := by decide +kernel
theorem dX2_keep_48 : decode cX2_keep 48 = .ok (.ifCond .eq 26, 3) := by decide +kernel
theorem dX2_keep_51 : decode cX2_keep 51 = .ok (.aload_n 0, 1) := by decide +kernel
theorem dX2_keep_52 : decode cX2_keep 52 = .ok (.getfield 11, 3) := by decide +kernel
theorem dX2_keep_55 : decode cX2_keep 55 = .ok (.aload_n 0, 1) := by decide +kernel
theorem dX2_keep_56 : decode cX2_keep 56 = .ok (.getfield 26, 3) := by decide +kernel
theorem dX2_keep_59 : decode cX2_keep 59 = .ok (.aaload, 1) := by decide +kernel
theorem dX2_keep_60 : decode cX2_keep 60 = .ok (.aload_n 2, 1) := by decide +kernel
theorem dX2_keep_61 : decode cX2_keep 61 = .ok (.invokevirtual 39, 3) := by decide +kernel
theorem dX2_keep_64 : decode cX2_keep 64 = .ok (.aload_n 0, 1) := by decide +kernel
theorem dX2_keep_65 : decode cX2_keep 65 = .ok (.getfield 17, 3) := by decide +kernel
theorem dX2_keep_68 : decode cX2_keep 68 = .ok (.aload_n 0, 1) := by decide +kernel
theorem dX2_keep_69 : decode cX2_keep 69 = .ok (.getfield 26, 3) := by decide +kernel
theorem dX2_keep_72 : decode cX2_keep 72 = .ok (.iload_n 1, 1) := by decide +kernel
theorem dX2_keep_73 : decode cX2_keep 73 = .ok (.iastore, 1) := by decide +kernel
theorem dX2_keep_74 : decode cX2_keep 74 = .ok (.return_, 1) := by decide +kernel
theorem dX2_latestRegion_0 : decode cX2_latestRegion 0 = .ok (.aload_n 0, 1) := by decide +kernel
theorem dX2_latestRegion_1 : decode cX2_latestRegion 1 = .ok (.getfield 22, 3) := by decide +kernel
theorem dX2_latestRegion_4 : decode cX2_latestRegion 4 = .ok (.ifCond .le 26, 3) := by decide +kernel
theorem dX2_latestRegion_7 : decode cX2_latestRegion 7 = .ok (.aload_n 0, 1) := by decide +kernel
theorem dX2_latestRegion_8 : decode cX2_latestRegion 8 = .ok (.aload_n 0, 1) := by decide +kernel
theorem dX2_latestRegion_9 : decode cX2_latestRegion 9 = .ok (.getfield 26, 3) := by decide +kernel
theorem dX2_latestRegion_12 : decode cX2_latestRegion 12 = .ok (.invokevirtual 35, 3) := by decide +kernel
theorem dX2_latestRegion_15 : decode cX2_latestRegion 15 = .ok (.ifCond .eq 15, 3) := by decide +kernel
theorem dX2_latestRegion_18 : decode cX2_latestRegion 18 = .ok (.aload_n 0, 1) := by decide +kernel
theorem dX2_latestRegion_19 : decode cX2_latestRegion 19 = .ok (.getfield 17, 3) := by decide +kernel
theorem dX2_latestRegion_22 : decode cX2_latestRegion 22 = .ok (.aload_n 0, 1) := by decide +kernel
theorem dX2_latestRegion_23 : decode cX2_latestRegion 23 = .ok (.getfield 26, 3) := by decide +kernel
theorem dX2_latestRegion_26 : decode cX2_latestRegion 26 = .ok (.iaload, 1) := by decide +kernel
theorem dX2_latestRegion_27 : decode cX2_latestRegion 27 = .ok (.goto 4, 3) := by decide +kernel
theorem dX2_latestRegion_30 : decode cX2_latestRegion 30 = .ok (.iconst (-1), 1) := by decide +kernel
theorem dX2_latestRegion_31 : decode cX2_latestRegion 31 = .ok (.ireturn, 1) := by decide +kernel
theorem dX2_takeBack_0 : decode cX2_takeBack 0 = .ok (.aload_n 0, 1) := by decide +kernel
theorem dX2_takeBack_1 : decode cX2_takeBack 1 = .ok (.getfield 22, 3) := by decide +kernel
theorem dX2_takeBack_4 : decode cX2_takeBack 4 = .ok (.ifCond .le 59, 3) := by decide +kernel
theorem dX2_takeBack_7 : decode cX2_takeBack 7 = .ok (.aload_n 0, 1) := by decide +kernel
theorem dX2_takeBack_8 : decode cX2_takeBack 8 = .ok (.aload_n 0, 1) := by decide +kernel
theorem dX2_takeBack_9 : decode cX2_takeBack 9 = .ok (.getfield 26, 3) := by decide +kernel
theorem dX2_takeBack_12 : decode cX2_takeBack 12 = .ok (.invokevirtual 35, 3) := by decide +kernel
theorem dX2_takeBack_15 : decode cX2_takeBack 15 = .ok (.ifCond .eq 48, 3) := by decide +kernel
theorem dX2_takeBack_18 : decode cX2_takeBack 18 = .ok (.aload_n 1, 1) := by decide +kernel
theorem dX2_takeBack_19 : decode cX2_takeBack 19 = .ok (.aload_n 0, 1) := by decide +kernel
theorem dX2_takeBack_20 : decode cX2_takeBack 20 = .ok (.getfield 11, 3) := by decide +kernel
theorem dX2_takeBack_23 : decode cX2_takeBack 23 = .ok (.aload_n 0, 1) := by decide +kernel
theorem dX2_takeBack_24 : decode cX2_takeBack 24 = .ok (.getfield 26, 3) := by decide +kernel
theorem dX2_takeBack_27 : decode cX2_takeBack 27 = .ok (.aaload, 1) := by decide +kernel
theorem dX2_takeBack_28 : decode cX2_takeBack 28 = .ok (.invokevirtual 39, 3) := by decide +kernel
theorem dX2_takeBack_31 : decode cX2_takeBack 31 = .ok (.aload_n 0, 1) := by decide +kernel
theorem dX2_takeBack_32 : decode cX2_takeBack 32 = .ok (.aload_n 0, 1) := by decide +kernel
theorem dX2_takeBack_33 : decode cX2_takeBack 33 = .ok (.getfield 26, 3) := by decide +kernel
theorem dX2_takeBack_36 : decode cX2_takeBack 36 = .ok (.ifCond .le 12, 3) := by decide +kernel
theorem dX2_takeBack_39 : decode cX2_takeBack 39 = .ok (.aload_n 0, 1) := by decide +kernel
theorem dX2_takeBack_40 : decode cX2_takeBack 40 = .ok (.getfield 26, 3) := by decide +kernel
theorem dX2_takeBack_43 : decode cX2_takeBack 43 = .ok (.iconst 1, 1) := by decide +kernel
theorem dX2_takeBack_44 : decode cX2_takeBack 44 = .ok (.isub, 1) := by decide +kernel
theorem dX2_takeBack_45 : decode cX2_takeBack 45 = .ok (.goto 5, 3) := by decide +kernel
theorem dX2_takeBack_48 : decode cX2_takeBack 48 = .ok (.bipush 11, 2) := by decide +kernel
theorem dX2_takeBack_50 : decode cX2_takeBack 50 = .ok (.putfield 26, 3) := by decide +kernel
theorem dX2_takeBack_53 : decode cX2_takeBack 53 = .ok (.aload_n 0, 1) := by decide +kernel
theorem dX2_takeBack_54 : decode cX2_takeBack 54 = .ok (.dup, 1) := by decide +kernel
theorem dX2_takeBack_55 : decode cX2_takeBack 55 = .ok (.getfield 22, 3) := by decide +kernel
theorem dX2_takeBack_58 : decode cX2_takeBack 58 = .ok (.iconst 1, 1) := by decide +kernel
theorem dX2_takeBack_59 : decode cX2_takeBack 59 = .ok (.isub, 1) := by decide +kernel
theorem dX2_takeBack_60 : decode cX2_takeBack 60 = .ok (.putfield 22, 3) := by decide +kernel
theorem dX2_takeBack_63 : decode cX2_takeBack 63 = .ok (.return_, 1) := by decide +kernel
theorem dX2_isAt_0 : decode cX2_isAt 0 = .ok (.iload_n 1, 1) := by decide +kernel
theorem dX2_isAt_1 : decode cX2_isAt 1 = .ok (.ifCond .lt 25, 3) := by decide +kernel
theorem dX2_isAt_4 : decode cX2_isAt 4 = .ok (.iload_n 1, 1) := by decide +kernel
theorem dX2_isAt_5 : decode cX2_isAt 5 = .ok (.aload_n 0, 1) := by decide +kernel
theorem dX2_isAt_6 : decode cX2_isAt 6 = .ok (.getfield 11, 3) := by decide +kernel
theorem dX2_isAt_9 : decode cX2_isAt 9 = .ok (.arraylength, 1) := by decide +kernel
theorem dX2_isAt_10 : decode cX2_isAt 10 = .ok (.if_icmp .ge 16, 3) := by decide +kernel
theorem dX2_isAt_13 : decode cX2_isAt 13 = .ok (.iload_n 1, 1) := by decide +kernel
theorem dX2_isAt_14 : decode cX2_isAt 14 = .ok (.aload_n 0, 1) := by decide +kernel
theorem dX2_isAt_15 : decode cX2_isAt 15 = .ok (.getfield 17, 3) := by decide +kernel
theorem dX2_isAt_18 : decode cX2_isAt 18 = .ok (.arraylength, 1) := by decide +kernel
theorem dX2_isAt_19 : decode cX2_isAt 19 = .ok (.if_icmp .ge 7, 3) := by decide +kernel
theorem dX2_isAt_22 : decode cX2_isAt 22 = .ok (.iconst 1, 1) := by decide +kernel
theorem dX2_isAt_23 : decode cX2_isAt 23 = .ok (.goto 4, 3) := by decide +kernel
theorem dX2_isAt_26 : decode cX2_isAt 26 = .ok (.iconst 0, 1) := by decide +kernel
theorem dX2_isAt_27 : decode cX2_isAt 27 = .ok (.ireturn, 1) := by decide +kernel
theorem dX3_init_0 : decode cX3_init 0 = .ok (.aload_n 0, 1) := by decide +kernel
theorem dX3_init_1 : decode cX3_init 1 = .ok (.invokespecial 3, 3) := by decide +kernel
theorem dX3_init_4 : decode cX3_init 4 = .ok (.aload_n 0, 1) := by decide +kernel
theorem dX3_init_5 : decode cX3_init 5 = .ok (.new 9, 3) := by decide +kernel
theorem dX3_init_8 : decode cX3_init 8 = .ok (.dup, 1) := by decide +kernel
theorem dX3_init_9 : decode cX3_init 9 = .ok (.invokespecial 11, 3) := by decide +kernel
theorem dX3_init_12 : decode cX3_init 12 = .ok (.putfield 12, 3) := by decide +kernel
theorem dX3_init_15 : decode cX3_init 15 = .ok (.aload_n 0, 1) := by decide +kernel
theorem dX3_init_16 : decode cX3_init 16 = .ok (.new 9, 3) := by decide +kernel
theorem dX3_init_19 : decode cX3_init 19 = .ok (.dup, 1) := by decide +kernel
theorem dX3_init_20 : decode cX3_init 20 = .ok (.invokespecial 11, 3) := by decide +kernel
theorem dX3_init_23 : decode cX3_init 23 = .ok (.putfield 18, 3) := by decide +kernel
theorem dX3_init_26 : decode cX3_init 26 = .ok (.aload_n 0, 1) := by decide +kernel
theorem dX3_init_27 : decode cX3_init 27 = .ok (.new 9, 3) := by decide +kernel
theorem dX3_init_30 : decode cX3_init 30 = .ok (.dup, 1) := by decide +kernel
theorem dX3_init_31 : decode cX3_init 31 = .ok (.invokespecial 11, 3) := by decide +kernel
theorem dX3_init_34 : decode cX3_init 34 = .ok (.putfield 21, 3) := by decide +kernel
theorem dX3_init_37 : decode cX3_init 37 = .ok (.return_, 1) := by decide +kernel
theorem dX3_cornerCount_0 : decode cX3_cornerCount 0 = .ok (.aload_n 0, 1) := by decide +kernel
theorem dX3_cornerCount_1 : decode cX3_cornerCount 1 = .ok (.getfield 24, 3) := by decide +kernel
theorem dX3_cornerCount_4 : decode cX3_cornerCount 4 = .ok (.ireturn, 1) := by decide +kernel
theorem dX3_areaAround_0 : decode cX3_areaAround 0 = .ok (.aload_n 0, 1) := by decide +kernel
theorem dX3_areaAround_1 : decode cX3_areaAround 1 = .ok (.getfield 28, 3) := by decide +kernel
theorem dX3_areaAround_4 : decode cX3_areaAround 4 = .ok (.ireturn, 1) := by decide +kernel
theorem dX3_wantedX_0 : decode cX3_wantedX 0 = .ok (.aload_n 0, 1) := by decide +kernel
theorem dX3_wantedX_1 : decode cX3_wantedX 1 = .ok (.getfield 31, 3) := by decide +kernel
theorem dX3_wantedX_4 : decode cX3_wantedX 4 = .ok (.ireturn, 1) := by decide +kernel
theorem dX3_wantedY_0 : decode cX3_wantedY 0 = .ok (.aload_n 0, 1) := by decide +kernel
theorem dX3_wantedY_1 : decode cX3_wantedY 1 = .ok (.getfield 34, 3) := by decide +kernel
theorem dX3_wantedY_4 : decode cX3_wantedY 4 = .ok (.ireturn, 1) := by decide +kernel
theorem dX3_countContours_0 : decode cX3_countContours 0 = .ok (.aload_n 0, 1) := by decide +kernel
theorem dX3_countContours_1 : decode cX3_countContours 1 = .ok (.aload_n 1, 1) := by decide +kernel
theorem dX3_countContours_2 : decode cX3_countContours 2 = .ok (.invokevirtual 37, 3) := by decide +kernel
theorem dX3_countContours_5 : decode cX3_countContours 5 = .ok (.iconst 0, 1) := by decide +kernel
theorem dX3_countContours_6 : decode cX3_countContours 6 = .ok (.istore_n 2, 1) := by decide +kernel
theorem dX3_countContours_7 : decode cX3_countContours 7 = .ok (.iload_n 2, 1) := by decide +kernel
theorem dX3_countContours_8 : decode cX3_countContours 8 = .ok (.sipush 16384, 3) := by decide +kernel
theorem dX3_countContours_11 : decode cX3_countContours 11 = .ok (.if_icmp .ge 17, 3) := by decide +kernel
theorem dX3_countContours_14 : decode cX3_countContours 14 = .ok (.aload_n 0, 1) := by decide +kernel
theorem dX3_countContours_15 : decode cX3_countContours 15 = .ok (.iconst 0, 1) := by decide +kernel
theorem dX3_countContours_16 : decode cX3_countContours 16 = .ok (.invokevirtual 41, 3) := by decide +kernel
theorem dX3_countContours_19 : decode cX3_countContours 19 = .ok (.ifCond .eq 9, 3) := by decide +kernel
theorem dX3_countContours_22 : decode cX3_countContours 22 = .ok (.iinc 2 1, 3) := by decide +kernel
theorem dX3_countContours_25 : decode cX3_countContours 25 = .ok (.goto (-18), 3) := by decide +kernel
theorem dX3_countContours_28 : decode cX3_countContours 28 = .ok (.iload_n 2, 1) := by decide +kernel
theorem dX3_countContours_29 : decode cX3_countContours 29 = .ok (.ireturn, 1) := by decide +kernel
theorem dX3_goTo_0 : decode cX3_goTo 0 = .ok (.aload_n 0, 1) := by decide +kernel
theorem dX3_goTo_1 : decode cX3_goTo 1 = .ok (.aload_n 1, 1) := by decide +kernel
theorem dX3_goTo_2 : decode cX3_goTo 2 = .ok (.invokevirtual 37, 3) := by decide +kernel
theorem dX3_goTo_5 : decode cX3_goTo 5 = .ok (.iload_n 2, 1) := by decide +kernel
theorem dX3_goTo_6 : decode cX3_goTo 6 = .ok (.ifCond .lt 7, 3) := by decide +kernel
theorem dX3_goTo_9 : decode cX3_goTo 9 = .ok (.iconst 1, 1) := by decide +kernel
theorem dX3_goTo_10 : decode cX3_goTo 10 = .ok (.goto 4, 3) := by decide +kernel
theorem dX3_goTo_13 : decode cX3_goTo 13 = .ok (.iconst 0, 1) := by decide +kernel
theorem dX3_goTo_14 : decode cX3_goTo 14 = .ok (.istore 4, 2) := by decide +kernel
theorem dX3_goTo_16 : decode cX3_goTo 16 = .ok (.iconst 0, 1) := by decide +kernel
theorem dX3_goTo_17 : decode cX3_goTo 17 = .ok (.istore 5, 2) := by decide +kernel
theorem dX3_goTo_19 : decode cX3_goTo 19 = .ok (.iload 5, 2) := by decide +kernel
theorem dX3_goTo_21 : decode cX3_goTo 21 = .ok (.iload_n 2, 1) := by decide +kernel
theorem dX3_goTo_22 : decode cX3_goTo 22 = .ok (.if_icmp .gt 29, 3) := by decide +kernel
theorem dX3_goTo_25 : decode cX3_goTo 25 = .ok (.iload 5, 2) := by decide +kernel
theorem dX3_goTo_27 : decode cX3_goTo 27 = .ok (.sipush 16384, 3) := by decide +kernel
theorem dX3_goTo_30 : decode cX3_goTo 30 = .ok (.if_icmp .ge 21, 3) := by decide +kernel
theorem dX3_goTo_33 : decode cX3_goTo 33 = .ok (.iload 4, 2) := by decide +kernel
theorem dX3_goTo_35 : decode cX3_goTo 35 = .ok (.ifCond .eq 16, 3) := by decide +kernel
theorem dX3_goTo_38 : decode cX3_goTo 38 = .ok (.aload_n 0, 1) := by decide +kernel
theorem dX3_goTo_39 : decode cX3_goTo 39 = .ok (.iload_n 3, 1) := by decide +kernel
theorem dX3_goTo_40 : decode cX3_goTo 40 = .ok (.invokevirtual 41, 3) := by decide +kernel
theorem dX3_goTo_43 : decode cX3_goTo 43 = .ok (.istore 4, 2) := by decide +kernel
theorem dX3_goTo_45 : decode cX3_goTo 45 = .ok (.iinc 5 1, 3) := by decide +kernel
theorem dX3_goTo_48 : decode cX3_goTo 48 = .ok (.goto (-29), 3) := by decide +kernel
theorem dX3_goTo_51 : decode cX3_goTo 51 = .ok (.iload 4, 2) := by decide +kernel
theorem dX3_goTo_53 : decode cX3_goTo 53 = .ok (.ifCond .eq 14, 3) := by decide +kernel
theorem dX3_goTo_56 : decode cX3_goTo 56 = .ok (.iload_n 2, 1) := by decide +kernel
theorem dX3_goTo_57 : decode cX3_goTo 57 = .ok (.sipush 16384, 3) := by decide +kernel
theorem dX3_goTo_60 : decode cX3_goTo 60 = .ok (.if_icmp .ge 7, 3) := by decide +kernel
theorem dX3_goTo_63 : decode cX3_goTo 63 = .ok (.iconst 1, 1) := by decide +kernel
theorem dX3_goTo_64 : decode cX3_goTo 64 = .ok (.goto 4, 3) := by decide +kernel
theorem dX3_goTo_67 : decode cX3_goTo 67 = .ok (.iconst 0, 1) := by decide +kernel
theorem dX3_goTo_68 : decode cX3_goTo 68 = .ok (.ireturn, 1) := by decide +kernel
theorem dX3_begin_0 : decode cX3_begin 0 = .ok (.aload_n 0, 1) := by decide +kernel
theorem dX3_begin_1 : decode cX3_begin 1 = .ok (.getfield 12, 3) := by decide +kernel
theorem dX3_begin_4 : decode cX3_begin 4 = .ok (.aload_n 1, 1) := by decide +kernel
theorem dX3_begin_5 : decode cX3_begin 5 = .ok (.invokevirtual 45, 3) := by decide +kernel
theorem dX3_begin_8 : decode cX3_begin 8 = .ok (.aload_n 0, 1) := by decide +kernel
theorem dX3_begin_9 : decode cX3_begin 9 = .ok (.getfield 18, 3) := by decide +kernel
theorem dX3_begin_12 : decode cX3_begin 12 = .ok (.invokevirtual 48, 3) := by decide +kernel
theorem dX3_begin_15 : decode cX3_begin 15 = .ok (.aload_n 0, 1) := by decide +kernel
theorem dX3_begin_16 : decode cX3_begin 16 = .ok (.getfield 21, 3) := by decide +kernel
theorem dX3_begin_19 : decode cX3_begin 19 = .ok (.invokevirtual 48, 3) := by decide +kernel
theorem dX3_begin_22 : decode cX3_begin 22 = .ok (.aload_n 0, 1) := by decide +kernel
theorem dX3_begin_23 : decode cX3_begin 23 = .ok (.bipush (-32), 2) := by decide +kernel
theorem dX3_begin_25 : decode cX3_begin 25 = .ok (.putfield 51, 3) := by decide +kernel
theorem dX3_begin_28 : decode cX3_begin 28 = .ok (.return_, 1) := by decide +kernel
theorem dX3_next_0 : decode cX3_next 0 = .ok (.aload_n 0, 1) := by decide +kernel
theorem dX3_next_1 : decode cX3_next 1 = .ok (.iload_n 1, 1) := by decide +kernel
theorem dX3_next_2 : decode cX3_next 2 = .ok (.putfield 54, 3) := by decide +kernel
theorem dX3_next_5 : decode cX3_next 5 = .ok (.aload_n 0, 1) := by decide +kernel
theorem dX3_next_6 : decode cX3_next 6 = .ok (.getfield 51, 3) := by decide +kernel
theorem dX3_next_9 : decode cX3_next 9 = .ok (.bipush 31, 2) := by decide +kernel
theorem dX3_next_11 : decode cX3_next 11 = .ok (.if_icmp .gt 122, 3) := by decide +kernel
theorem dX3_next_14 : decode cX3_next 14 = .ok (.aload_n 0, 1) := by decide +kernel
theorem dX3_next_15 : decode cX3_next 15 = .ok (.getfield 12, 3) := by decide +kernel
theorem dX3_next_18 : decode cX3_next 18 = .ok (.aload_n 0, 1) := by decide +kernel
theorem dX3_next_19 : decode cX3_next 19 = .ok (.getfield 51, 3) := by decide +kernel
theorem dX3_next_22 : decode cX3_next 22 = .ok (.invokevirtual 57, 3) := by decide +kernel
theorem dX3_next_25 : decode cX3_next 25 = .ok (.lstore_n 2, 1) := by decide +kernel
theorem dX3_next_26 : decode cX3_next 26 = .ok (.lload_n 2, 1) := by decide +kernel
theorem dX3_next_27 : decode cX3_next 27 = .ok (.aload_n 0, 1) := by decide +kernel
theorem dX3_next_28 : decode cX3_next 28 = .ok (.getfield 12, 3) := by decide +kernel
theorem dX3_next_31 : decode cX3_next 31 = .ok (.aload_n 0, 1) := by decide +kernel
theorem dX3_next_32 : decode cX3_next 32 = .ok (.getfield 51, 3) := by decide +kernel
theorem dX3_next_35 : decode cX3_next 35 = .ok (.iconst 1, 1) := by decide +kernel
theorem dX3_next_36 : decode cX3_next 36 = .ok (.isub, 1) := by decide +kernel
theorem dX3_next_37 : decode cX3_next 37 = .ok (.invokevirtual 57, 3) := by decide +kernel
theorem dX3_next_40 : decode cX3_next 40 = .ok (.ldc2_w 61, 3) := by decide +kernel
theorem dX3_next_43 : decode cX3_next 43 = .ok (.lxor, 1) := by decide +kernel
theorem dX3_next_44 : decode cX3_next 44 = .ok (.land, 1) := by decide +kernel
theorem dX3_next_45 : decode cX3_next 45 = .ok (.aload_n 0, 1) := by decide +kernel
theorem dX3_next_46 : decode cX3_next 46 = .ok (.getfield 18, 3) := by decide +kernel
theorem dX3_next_49 : decode cX3_next 49 = .ok (.aload_n 0, 1) := by decide +kernel
theorem dX3_next_50 : decode cX3_next 50 = .ok (.getfield 51, 3) := by decide +kernel
theorem dX3_next_53 : decode cX3_next 53 = .ok (.invokevirtual 57, 3) := by decide +kernel
theorem dX3_next_56 : decode cX3_next 56 = .ok (.ldc2_w 61, 3) := by decide +kernel
theorem dX3_next_59 : decode cX3_next 59 = .ok (.lxor, 1) := by decide +kernel
theorem dX3_next_60 : decode cX3_next 60 = .ok (.land, 1) := by decide +kernel
theorem dX3_next_61 : decode cX3_next 61 = .ok (.lstore 4, 2) := by decide +kernel
theorem dX3_next_63 : decode cX3_next 63 = .ok (.lload_n 2, 1) := by decide +kernel
theorem dX3_next_64 : decode cX3_next 64 = .ok (.lload_n 2, 1) := by decide +kernel
theorem dX3_next_65 : decode cX3_next 65 = .ok (.iconst 1, 1) := by decide +kernel
theorem dX3_next_66 : decode cX3_next 66 = .ok (.lushr, 1) := by decide +kernel
theorem dX3_next_67 : decode cX3_next 67 = .ok (.ldc2_w 61, 3) := by decide +kernel
theorem dX3_next_70 : decode cX3_next 70 = .ok (.lxor, 1) := by decide +kernel
theorem dX3_next_71 : decode cX3_next 71 = .ok (.land, 1) := by decide +kernel
theorem dX3_next_72 : decode cX3_next 72 = .ok (.aload_n 0, 1) := by decide +kernel
theorem dX3_next_73 : decode cX3_next 73 = .ok (.getfield 21, 3) := by decide +kernel
theorem dX3_next_76 : decode cX3_next 76 = .ok (.aload_n 0, 1) := by decide +kernel
theorem dX3_next_77 : decode cX3_next 77 = .ok (.getfield 51, 3) := by decide +kernel
theorem dX3_next_80 : decode cX3_next 80 = .ok (.invokevirtual 57, 3) := by decide +kernel
theorem dX3_next_83 : decode cX3_next 83 = .ok (.ldc2_w 61, 3) := by decide +kernel
theorem dX3_next_86 : decode cX3_next 86 = .ok (.lxor, 1) := by decide +kernel
theorem dX3_next_87 : decode cX3_next 87 = .ok (.land, 1) := by decide +kernel
theorem dX3_next_88 : decode cX3_next 88 = .ok (.lstore 6, 2) := by decide +kernel
theorem dX3_next_90 : decode cX3_next 90 = .ok (.lload 4, 2) := by decide +kernel
theorem dX3_next_92 : decode cX3_next 92 = .ok (.lload 6, 2) := by decide +kernel
theorem dX3_next_94 : decode cX3_next 94 = .ok (.lor, 1) := by decide +kernel
theorem dX3_next_95 : decode cX3_next 95 = .ok (.lconst 0, 1) := by decide +kernel
theorem dX3_next_96 : decode cX3_next 96 = .ok (.lcmp, 1) := by decide +kernel
theorem dX3_next_97 : decode cX3_next 97 = .ok (.ifCond .eq 23, 3) := by decide +kernel
theorem dX3_next_100 : decode cX3_next 100 = .ok (.aload_n 0, 1) := by decide +kernel
theorem dX3_next_101 : decode cX3_next 101 = .ok (.lload 4, 2) := by decide +kernel
theorem dX3_next_103 : decode cX3_next 103 = .ok (.invokestatic 63, 3) := by decide +kernel
theorem dX3_next_106 : decode cX3_next 106 = .ok (.lload 6, 2) := by decide +kernel
theorem dX3_next_108 : decode cX3_next 108 = .ok (.invokestatic 63, 3) := by decide +kernel
theorem dX3_next_111 : decode cX3_next 111 = .ok (.invokevirtual 67, 3) := by decide +kernel
theorem dX3_next_114 : decode cX3_next 114 = .ok (.aload_n 0, 1) := by decide +kernel
theorem dX3_next_115 : decode cX3_next 115 = .ok (.invokevirtual 71, 3) := by decide +kernel
theorem dX3_next_118 : decode cX3_next 118 = .ok (.iconst 1, 1) := by decide +kernel
theorem dX3_next_119 : decode cX3_next 119 = .ok (.ireturn, 1) := by decide +kernel
theorem dX3_next_120 : decode cX3_next 120 = .ok (.aload_n 0, 1) := by decide +kernel
theorem dX3_next_121 : decode cX3_next 121 = .ok (.dup, 1) := by decide +kernel
theorem dX3_next_122 : decode cX3_next 122 = .ok (.getfield 51, 3) := by decide +kernel
theorem dX3_next_125 : decode cX3_next 125 = .ok (.iconst 1, 1) := by decide +kernel
theorem dX3_next_126 : decode cX3_next 126 = .ok (.iadd, 1) := by decide +kernel
theorem dX3_next_127 : decode cX3_next 127 = .ok (.putfield 51, 3) := by decide +kernel
theorem dX3_next_130 : decode cX3_next 130 = .ok (.goto (-125), 3) := by decide +kernel
theorem dX3_next_133 : decode cX3_next 133 = .ok (.iconst 0, 1) := by decide +kernel
theorem dX3_next_134 : decode cX3_next 134 = .ok (.ireturn, 1) := by decide +kernel
theorem dX3_beginAt_0 : decode cX3_beginAt 0 = .ok (.aload_n 0, 1) := by decide +kernel
theorem dX3_beginAt_1 : decode cX3_beginAt 1 = .ok (.iload_n 1, 1) := by decide +kernel
theorem dX3_beginAt_2 : decode cX3_beginAt 2 = .ok (.iload_n 2, 1) := by decide +kernel
theorem dX3_beginAt_3 : decode cX3_beginAt 3 = .ok (.if_icmp .gt 7, 3) := by decide +kernel
theorem dX3_beginAt_6 : decode cX3_beginAt 6 = .ok (.iconst 0, 1) := by decide +kernel
theorem dX3_beginAt_7 : decode cX3_beginAt 7 = .ok (.goto 4, 3) := by decide +kernel
theorem dX3_beginAt_10 : decode cX3_beginAt 10 = .ok (.iconst 1, 1) := by decide +kernel
theorem dX3_beginAt_11 : decode cX3_beginAt 11 = .ok (.putfield 74, 3) := by decide +kernel
theorem dX3_beginAt_14 : decode cX3_beginAt 14 = .ok (.aload_n 0, 1) := by decide +kernel
theorem dX3_beginAt_15 : decode cX3_beginAt 15 = .ok (.bipush (-32), 2) := by decide +kernel
theorem dX3_beginAt_17 : decode cX3_beginAt 17 = .ok (.iload_n 1, 1) := by decide +kernel
theorem dX3_beginAt_18 : decode cX3_beginAt 18 = .ok (.iload_n 2, 1) := by decide +kernel
theorem dX3_beginAt_19 : decode cX3_beginAt 19 = .ok (.invokestatic 77, 3) := by decide +kernel
theorem dX3_beginAt_22 : decode cX3_beginAt 22 = .ok (.iadd, 1) := by decide +kernel
theorem dX3_beginAt_23 : decode cX3_beginAt 23 = .ok (.putfield 83, 3) := by decide +kernel
theorem dX3_beginAt_26 : decode cX3_beginAt 26 = .ok (.aload_n 0, 1) := by decide +kernel
theorem dX3_beginAt_27 : decode cX3_beginAt 27 = .ok (.aload_n 0, 1) := by decide +kernel
theorem dX3_beginAt_28 : decode cX3_beginAt 28 = .ok (.getfield 51, 3) := by decide +kernel
theorem dX3_beginAt_31 : decode cX3_beginAt 31 = .ok (.putfield 86, 3) := by decide +kernel
theorem dX3_beginAt_34 : decode cX3_beginAt 34 = .ok (.return_, 1) := by decide +kernel
theorem dX3_walk_0 : decode cX3_walk 0 = .ok (.aload_n 0, 1) := by decide +kernel
theorem dX3_walk_1 : decode cX3_walk 1 = .ok (.getfield 83, 3) := by decide +kernel
theorem dX3_walk_4 : decode cX3_walk 4 = .ok (.istore_n 1, 1) := by decide +kernel
theorem dX3_walk_5 : decode cX3_walk 5 = .ok (.aload_n 0, 1) := by decide +kernel
theorem dX3_walk_6 : decode cX3_walk 6 = .ok (.getfield 86, 3) := by decide +kernel
theorem dX3_walk_9 : decode cX3_walk 9 = .ok (.istore_n 2, 1) := by decide +kernel
theorem dX3_walk_10 : decode cX3_walk 10 = .ok (.aload_n 0, 1) := by decide +kernel
theorem dX3_walk_11 : decode cX3_walk 11 = .ok (.getfield 74, 3) := by decide +kernel
theorem dX3_walk_14 : decode cX3_walk 14 = .ok (.istore_n 3, 1) := by decide +kernel
theorem dX3_walk_15 : decode cX3_walk 15 = .ok (.aload_n 0, 1) := by decide +kernel
theorem dX3_walk_16 : decode cX3_walk 16 = .ok (.iconst 0, 1) := by decide +kernel
theorem dX3_walk_17 : decode cX3_walk 17 = .ok (.putfield 24, 3) := by decide +kernel
theorem dX3_walk_20 : decode cX3_walk 20 = .ok (.aload_n 0, 1) := by decide +kernel
theorem dX3_walk_21 : decode cX3_walk 21 = .ok (.iconst 0, 1) := by decide +kernel
theorem dX3_walk_22 : decode cX3_walk 22 = .ok (.putfield 28, 3) := by decide +kernel
theorem dX3_walk_25 : decode cX3_walk 25 = .ok (.aload_n 0, 1) := by decide +kernel
theorem dX3_walk_26 : decode cX3_walk 26 = .ok (.invokevirtual 89, 3) := by decide +kernel
theorem dX3_walk_29 : decode cX3_walk 29 = .ok (.iconst 0, 1) := by decide +kernel
theorem dX3_walk_30 : decode cX3_walk 30 = .ok (.istore 4, 2) := by decide +kernel
theorem dX3_walk_32 : decode cX3_walk 32 = .ok (.iload 4, 2) := by decide +kernel
theorem dX3_walk_34 : decode cX3_walk 34 = .ok (.sipush 16384, 3) := by decide +kernel
theorem dX3_walk_37 : decode cX3_walk 37 = .ok (.if_icmp .ge 61, 3) := by decide +kernel
theorem dX3_walk_40 : decode cX3_walk 40 = .ok (.aload_n 0, 1) := by decide +kernel
theorem dX3_walk_41 : decode cX3_walk 41 = .ok (.invokevirtual 92, 3) := by decide +kernel
theorem dX3_walk_44 : decode cX3_walk 44 = .ok (.aload_n 0, 1) := by decide +kernel
theorem dX3_walk_45 : decode cX3_walk 45 = .ok (.getfield 74, 3) := by decide +kernel
theorem dX3_walk_48 : decode cX3_walk 48 = .ok (.istore 5, 2) := by decide +kernel
theorem dX3_walk_50 : decode cX3_walk 50 = .ok (.aload_n 0, 1) := by decide +kernel
theorem dX3_walk_51 : decode cX3_walk 51 = .ok (.invokevirtual 95, 3) := by decide +kernel
theorem dX3_walk_54 : decode cX3_walk 54 = .ok (.aload_n 0, 1) := by decide +kernel
theorem dX3_walk_55 : decode cX3_walk 55 = .ok (.getfield 83, 3) := by decide +kernel
theorem dX3_walk_58 : decode cX3_walk 58 = .ok (.iload_n 1, 1) := by decide +kernel
theorem dX3_walk_59 : decode cX3_walk 59 = .ok (.if_icmp .ne 20, 3) := by decide +kernel
theorem dX3_walk_62 : decode cX3_walk 62 = .ok (.aload_n 0, 1) := by decide +kernel
theorem dX3_walk_63 : decode cX3_walk 63 = .ok (.getfield 86, 3) := by decide +kernel
theorem dX3_walk_66 : decode cX3_walk 66 = .ok (.iload_n 2, 1) := by decide +kernel
theorem dX3_walk_67 : decode cX3_walk 67 = .ok (.if_icmp .ne 12, 3) := by decide +kernel
theorem dX3_walk_70 : decode cX3_walk 70 = .ok (.aload_n 0, 1) := by decide +kernel
theorem dX3_walk_71 : decode cX3_walk 71 = .ok (.getfield 74, 3) := by decide +kernel
theorem dX3_walk_74 : decode cX3_walk 74 = .ok (.iload_n 3, 1) := by decide +kernel
theorem dX3_walk_75 : decode cX3_walk 75 = .ok (.if_icmp .ne 4, 3) := by decide +kernel
theorem dX3_walk_78 : decode cX3_walk 78 = .ok (.return_, 1) := by decide +kernel
theorem dX3_walk_79 : decode cX3_walk 79 = .ok (.aload_n 0, 1) := by decide +kernel
theorem dX3_walk_80 : decode cX3_walk 80 = .ok (.getfield 74, 3) := by decide +kernel
theorem dX3_walk_83 : decode cX3_walk 83 = .ok (.iload 5, 2) := by decide +kernel
theorem dX3_walk_85 : decode cX3_walk 85 = .ok (.if_icmp .eq 7, 3) := by decide +kernel
theorem dX3_walk_88 : decode cX3_walk 88 = .ok (.aload_n 0, 1) := by decide +kernel
theorem dX3_walk_89 : decode cX3_walk 89 = .ok (.invokevirtual 89, 3) := by decide +kernel
theorem dX3_walk_92 : decode cX3_walk 92 = .ok (.iinc 4 1, 3) := by decide +kernel
theorem dX3_walk_95 : decode cX3_walk 95 = .ok (.goto (-63), 3) := by decide +kernel
theorem dX3_walk_98 : decode cX3_walk 98 = .ok (.return_, 1) := by decide +kernel
theorem dX3_noteCorner_0 : decode cX3_noteCorner 0 = .ok (.aload_n 0, 1) := by decide +kernel
theorem dX3_noteCorner_1 : decode cX3_noteCorner 1 = .ok (.getfield 24, 3) := by decide +kernel
theorem dX3_noteCorner_4 : decode cX3_noteCorner 4 = .ok (.aload_n 0, 1) := by decide +kernel
theorem dX3_noteCorner_5 : decode cX3_noteCorner 5 = .ok (.getfield 54, 3) := by decide +kernel
theorem dX3_noteCorner_8 : decode cX3_noteCorner 8 = .ok (.if_icmp .ne 69, 3) := by decide +kernel
theorem dX3_noteCorner_11 : decode cX3_noteCorner 11 = .ok (.aload_n 0, 1) := by decide +kernel
theorem dX3_noteCorner_12 : decode cX3_noteCorner 12 = .ok (.aload_n 0, 1) := by decide +kernel
theorem dX3_noteCorner_13 : decode cX3_noteCorner 13 = .ok (.getfield 74, 3) := by decide +kernel
theorem dX3_noteCorner_16 : decode cX3_noteCorner 16 = .ok (.iconst 1, 1) := by decide +kernel
theorem dX3_noteCorner_17 : decode cX3_noteCorner 17 = .ok (.if_icmp .eq 11, 3) := by decide +kernel
theorem dX3_noteCorner_20 : decode cX3_noteCorner 20 = .ok (.aload_n 0, 1) := by decide +kernel
theorem dX3_noteCorner_21 : decode cX3_noteCorner 21 = .ok (.getfield 74, 3) := by decide +kernel
theorem dX3_noteCorner_24 : decode cX3_noteCorner 24 = .ok (.iconst 2, 1) := by decide +kernel
theorem dX3_noteCorner_25 : decode cX3_noteCorner 25 = .ok (.if_icmp .ne 12, 3) := by decide +kernel
theorem dX3_noteCorner_28 : decode cX3_noteCorner 28 = .ok (.aload_n 0, 1) := by decide +kernel
theorem dX3_noteCorner_29 : decode cX3_noteCorner 29 = .ok (.getfield 83, 3) := by decide +kernel
theorem dX3_noteCorner_32 : decode cX3_noteCorner 32 = .ok (.iconst 1, 1) := by decide +kernel
theorem dX3_noteCorner_33 : decode cX3_noteCorner 33 = .ok (.iadd, 1) := by decide +kernel
theorem dX3_noteCorner_34 : decode cX3_noteCorner 34 = .ok (.goto 7, 3) := by decide +kernel
theorem dX3_noteCorner_37 : decode cX3_noteCorner 37 = .ok (.aload_n 0, 1) := by decide +kernel
theorem dX3_noteCorner_38 : decode cX3_noteCorner 38 = .ok (.getfield 83, 3) := by decide +kernel
theorem dX3_noteCorner_41 : decode cX3_noteCorner 41 = .ok (.putfield 31, 3) := by decide +kernel
theorem dX3_noteCorner_44 : decode cX3_noteCorner 44 = .ok (.aload_n 0, 1) := by decide +kernel
theorem dX3_noteCorner_45 : decode cX3_noteCorner 45 = .ok (.aload_n 0, 1) := by decide +kernel
theorem dX3_noteCorner_46 : decode cX3_noteCorner 46 = .ok (.getfield 74, 3) := by decide +kernel
theorem dX3_noteCorner_49 : decode cX3_noteCorner 49 = .ok (.iconst 2, 1) := by decide +kernel
theorem dX3_noteCorner_50 : decode cX3_noteCorner 50 = .ok (.if_icmp .eq 11, 3) := by decide +kernel
theorem dX3_noteCorner_53 : decode cX3_noteCorner 53 = .ok (.aload_n 0, 1) := by decide +kernel
theorem dX3_noteCorner_54 : decode cX3_noteCorner 54 = .ok (.getfield 74, 3) := by decide +kernel
theorem dX3_noteCorner_57 : decode cX3_noteCorner 57 = .ok (.iconst 3, 1) := by decide +kernel
theorem dX3_noteCorner_58 : decode cX3_noteCorner 58 = .ok (.if_icmp .ne 12, 3) := by decide +kernel
theorem dX3_noteCorner_61 : decode cX3_noteCorner 61 = .ok (.aload_n 0, 1) := by decide +kernel
theorem dX3_noteCorner_62 : decode cX3_noteCorner 62 = .ok (.getfield 86, 3) := by decide +kernel
theorem dX3_noteCorner_65 : decode cX3_noteCorner 65 = .ok (.iconst 1, 1) := by decide +kernel
theorem dX3_noteCorner_66 : decode cX3_noteCorner 66 = .ok (.iadd, 1) := by decide +kernel
theorem dX3_noteCorner_67 : decode cX3_noteCorner 67 = .ok (.goto 7, 3) := by decide +kernel
theorem dX3_noteCorner_70 : decode cX3_noteCorner 70 = .ok (.aload_n 0, 1) := by decide +kernel
theorem dX3_noteCorner_71 : decode cX3_noteCorner 71 = .ok (.getfield 86, 3) := by decide +kernel
theorem dX3_noteCorner_74 : decode cX3_noteCorner 74 = .ok (.putfield 34, 3) := by decide +kernel
theorem dX3_noteCorner_77 : decode cX3_noteCorner 77 = .ok (.aload_n 0, 1) := by decide +kernel
theorem dX3_noteCorner_78 : decode cX3_noteCorner 78 = .ok (.dup, 1) := by decide +kernel
theorem dX3_noteCorner_79 : decode cX3_noteCorner 79 = .ok (.getfield 24, 3) := by decide +kernel
theorem dX3_noteCorner_82 : decode cX3_noteCorner 82 = .ok (.iconst 1, 1) := by decide +kernel
theorem dX3_noteCorner_83 : decode cX3_noteCorner 83 = .ok (.iadd, 1) := by decide +kernel
theorem dX3_noteCorner_84 : decode cX3_noteCorner 84 = .ok (.putfield 24, 3) := by decide +kernel
theorem dX3_noteCorner_87 : decode cX3_noteCorner 87 = .ok (.return_, 1) := by decide +kernel
theorem dX3_noteEdge_0 : decode cX3_noteEdge 0 = .ok (.aload_n 0, 1) := by decide +kernel
theorem dX3_noteEdge_1 : decode cX3_noteEdge 1 = .ok (.getfield 74, 3) := by decide +kernel
theorem dX3_noteEdge_4 : decode cX3_noteEdge 4 = .ok (.tableswitch 99 0 3 #[32, 50, 99, 83], 32) := by decide +kernel
theorem dX3_noteEdge_36 : decode cX3_noteEdge 36 = .ok (.aload_n 0, 1) := by decide +kernel
theorem dX3_noteEdge_37 : decode cX3_noteEdge 37 = .ok (.getfield 18, 3) := by decide +kernel
theorem dX3_noteEdge_40 : decode cX3_noteEdge 40 = .ok (.aload_n 0, 1) := by decide +kernel
theorem dX3_noteEdge_41 : decode cX3_noteEdge 41 = .ok (.getfield 83, 3) := by decide +kernel
theorem dX3_noteEdge_44 : decode cX3_noteEdge 44 = .ok (.aload_n 0, 1) := by decide +kernel
theorem dX3_noteEdge_45 : decode cX3_noteEdge 45 = .ok (.getfield 86, 3) := by decide +kernel
theorem dX3_noteEdge_48 : decode cX3_noteEdge 48 = .ok (.invokevirtual 98, 3) := by decide +kernel
theorem dX3_noteEdge_51 : decode cX3_noteEdge 51 = .ok (.goto 52, 3) := by decide +kernel
theorem dX3_noteEdge_54 : decode cX3_noteEdge 54 = .ok (.aload_n 0, 1) := by decide +kernel
theorem dX3_noteEdge_55 : decode cX3_noteEdge 55 = .ok (.getfield 21, 3) := by decide +kernel
theorem dX3_noteEdge_58 : decode cX3_noteEdge 58 = .ok (.aload_n 0, 1) := by decide +kernel
theorem dX3_noteEdge_59 : decode cX3_noteEdge 59 = .ok (.getfield 83, 3) := by decide +kernel
theorem dX3_noteEdge_62 : decode cX3_noteEdge 62 = .ok (.aload_n 0, 1) := by decide +kernel
theorem dX3_noteEdge_63 : decode cX3_noteEdge 63 = .ok (.getfield 86, 3) := by decide +kernel
theorem dX3_noteEdge_66 : decode cX3_noteEdge 66 = .ok (.invokevirtual 98, 3) := by decide +kernel
theorem dX3_noteEdge_69 : decode cX3_noteEdge 69 = .ok (.aload_n 0, 1) := by decide +kernel
theorem dX3_noteEdge_70 : decode cX3_noteEdge 70 = .ok (.dup, 1) := by decide +kernel
theorem dX3_noteEdge_71 : decode cX3_noteEdge 71 = .ok (.getfield 28, 3) := by decide +kernel
theorem dX3_noteEdge_74 : decode cX3_noteEdge 74 = .ok (.aload_n 0, 1) := by decide +kernel
theorem dX3_noteEdge_75 : decode cX3_noteEdge 75 = .ok (.getfield 83, 3) := by decide +kernel
theorem dX3_noteEdge_78 : decode cX3_noteEdge 78 = .ok (.iconst 1, 1) := by decide +kernel
theorem dX3_noteEdge_79 : decode cX3_noteEdge 79 = .ok (.iadd, 1) := by decide +kernel
theorem dX3_noteEdge_80 : decode cX3_noteEdge 80 = .ok (.iadd, 1) := by decide +kernel
theorem dX3_noteEdge_81 : decode cX3_noteEdge 81 = .ok (.putfield 28, 3) := by decide +kernel
theorem dX3_noteEdge_84 : decode cX3_noteEdge 84 = .ok (.goto 19, 3) := by decide +kernel
theorem dX3_noteEdge_87 : decode cX3_noteEdge 87 = .ok (.aload_n 0, 1) := by decide +kernel
theorem dX3_noteEdge_88 : decode cX3_noteEdge 88 = .ok (.dup, 1) := by decide +kernel
theorem dX3_noteEdge_89 : decode cX3_noteEdge 89 = .ok (.getfield 28, 3) := by decide +kernel
theorem dX3_noteEdge_92 : decode cX3_noteEdge 92 = .ok (.aload_n 0, 1) := by decide +kernel
theorem dX3_noteEdge_93 : decode cX3_noteEdge 93 = .ok (.getfield 83, 3) := by decide +kernel
theorem dX3_noteEdge_96 : decode cX3_noteEdge 96 = .ok (.isub, 1) := by decide +kernel
theorem dX3_noteEdge_97 : decode cX3_noteEdge 97 = .ok (.putfield 28, 3) := by decide +kernel
theorem dX3_noteEdge_100 : decode cX3_noteEdge 100 = .ok (.goto 3, 3) := by decide +kernel
theorem dX3_noteEdge_103 : decode cX3_noteEdge 103 = .ok (.return_, 1) := by decide +kernel
theorem dX3_goOn_0 : decode cX3_goOn 0 = .ok (.aload_n 0, 1) := by decide +kernel
theorem dX3_goOn_1 : decode cX3_goOn 1 = .ok (.getfield 74, 3) := by decide +kernel
theorem dX3_goOn_4 : decode cX3_goOn 4 = .ok (.ifCond .ne 7, 3) := by decide +kernel
theorem dX3_goOn_7 : decode cX3_goOn 7 = .ok (.iconst 1, 1) := by decide +kernel
theorem dX3_goOn_8 : decode cX3_goOn 8 = .ok (.goto 16, 3) := by decide +kernel
theorem dX3_goOn_11 : decode cX3_goOn 11 = .ok (.aload_n 0, 1) := by decide +kernel
theorem dX3_goOn_12 : decode cX3_goOn 12 = .ok (.getfield 74, 3) := by decide +kernel
theorem dX3_goOn_15 : decode cX3_goOn 15 = .ok (.iconst 2, 1) := by decide +kernel
theorem dX3_goOn_16 : decode cX3_goOn 16 = .ok (.if_icmp .ne 7, 3) := by decide +kernel
theorem dX3_goOn_19 : decode cX3_goOn 19 = .ok (.iconst (-1), 1) := by decide +kernel
theorem dX3_goOn_20 : decode cX3_goOn 20 = .ok (.goto 4, 3) := by decide +kernel
theorem dX3_goOn_23 : decode cX3_goOn 23 = .ok (.iconst 0, 1) := by decide +kernel
theorem dX3_goOn_24 : decode cX3_goOn 24 = .ok (.istore_n 1, 1) := by decide +kernel
theorem dX3_goOn_25 : decode cX3_goOn 25 = .ok (.aload_n 0, 1) := by decide +kernel
theorem dX3_goOn_26 : decode cX3_goOn 26 = .ok (.getfield 74, 3) := by decide +kernel
theorem dX3_goOn_29 : decode cX3_goOn 29 = .ok (.iconst 1, 1) := by decide +kernel
theorem dX3_goOn_30 : decode cX3_goOn 30 = .ok (.if_icmp .ne 7, 3) := by decide +kernel
theorem dX3_goOn_33 : decode cX3_goOn 33 = .ok (.iconst 1, 1) := by decide +kernel
theorem dX3_goOn_34 : decode cX3_goOn 34 = .ok (.goto 16, 3) := by decide +kernel
theorem dX3_goOn_37 : decode cX3_goOn 37 = .ok (.aload_n 0, 1) := by decide +kernel
theorem dX3_goOn_38 : decode cX3_goOn 38 = .ok (.getfield 74, 3) := by decide +kernel
theorem dX3_goOn_41 : decode cX3_goOn 41 = .ok (.iconst 3, 1) := by decide +kernel
theorem dX3_goOn_42 : decode cX3_goOn 42 = .ok (.if_icmp .ne 7, 3) := by decide +kernel
theorem dX3_goOn_45 : decode cX3_goOn 45 = .ok (.iconst (-1), 1) := by decide +kernel
theorem dX3_goOn_46 : decode cX3_goOn 46 = .ok (.goto 4, 3) := by decide +kernel
theorem dX3_goOn_49 : decode cX3_goOn 49 = .ok (.iconst 0, 1) := by decide +kernel
theorem dX3_goOn_50 : decode cX3_goOn 50 = .ok (.istore_n 2, 1) := by decide +kernel
theorem dX3_goOn_51 : decode cX3_goOn 51 = .ok (.aload_n 0, 1) := by decide +kernel
theorem dX3_goOn_52 : decode cX3_goOn 52 = .ok (.getfield 12, 3) := by decide +kernel
theorem dX3_goOn_55 : decode cX3_goOn 55 = .ok (.aload_n 0, 1) := by decide +kernel
theorem dX3_goOn_56 : decode cX3_goOn 56 = .ok (.getfield 83, 3) := by decide +kernel
theorem dX3_goOn_59 : decode cX3_goOn 59 = .ok (.iload_n 1, 1) := by decide +kernel
theorem dX3_goOn_60 : decode cX3_goOn 60 = .ok (.iadd, 1) := by decide +kernel
theorem dX3_goOn_61 : decode cX3_goOn 61 = .ok (.aload_n 0, 1) := by decide +kernel
theorem dX3_goOn_62 : decode cX3_goOn 62 = .ok (.getfield 86, 3) := by decide +kernel
theorem dX3_goOn_65 : decode cX3_goOn 65 = .ok (.iload_n 2, 1) := by decide +kernel
theorem dX3_goOn_66 : decode cX3_goOn 66 = .ok (.iadd, 1) := by decide +kernel
theorem dX3_goOn_67 : decode cX3_goOn 67 = .ok (.invokevirtual 101, 3) := by decide +kernel
theorem dX3_goOn_70 : decode cX3_goOn 70 = .ok (.ifCond .ne 16, 3) := by decide +kernel
theorem dX3_goOn_73 : decode cX3_goOn 73 = .ok (.aload_n 0, 1) := by decide +kernel
theorem dX3_goOn_74 : decode cX3_goOn 74 = .ok (.aload_n 0, 1) := by decide +kernel
theorem dX3_goOn_75 : decode cX3_goOn 75 = .ok (.getfield 74, 3) := by decide +kernel
theorem dX3_goOn_78 : decode cX3_goOn 78 = .ok (.iconst 1, 1) := by decide +kernel
theorem dX3_goOn_79 : decode cX3_goOn 79 = .ok (.iadd, 1) := by decide +kernel
theorem dX3_goOn_80 : decode cX3_goOn 80 = .ok (.iconst 3, 1) := by decide +kernel
theorem dX3_goOn_81 : decode cX3_goOn 81 = .ok (.iand, 1) := by decide +kernel
theorem dX3_goOn_82 : decode cX3_goOn 82 = .ok (.putfield 74, 3) := by decide +kernel
theorem dX3_goOn_85 : decode cX3_goOn 85 = .ok (.return_, 1) := by decide +kernel
theorem dX3_goOn_86 : decode cX3_goOn 86 = .ok (.aload_n 0, 1) := by decide +kernel
theorem dX3_goOn_87 : decode cX3_goOn 87 = .ok (.dup, 1) := by decide +kernel
theorem dX3_goOn_88 : decode cX3_goOn 88 = .ok (.getfield 83, 3) := by decide +kernel
theorem dX3_goOn_91 : decode cX3_goOn 91 = .ok (.iload_n 1, 1) := by decide +kernel
theorem dX3_goOn_92 : decode cX3_goOn 92 = .ok (.iadd, 1) := by decide +kernel
theorem dX3_goOn_93 : decode cX3_goOn 93 = .ok (.putfield 83, 3) := by decide +kernel
theorem dX3_goOn_96 : decode cX3_goOn 96 = .ok (.aload_n 0, 1) := by decide +kernel
theorem dX3_goOn_97 : decode cX3_goOn 97 = .ok (.dup, 1) := by decide +kernel
theorem dX3_goOn_98 : decode cX3_goOn 98 = .ok (.getfield 86, 3) := by decide +kernel
theorem dX3_goOn_101 : decode cX3_goOn 101 = .ok (.iload_n 2, 1) := by decide +kernel
theorem dX3_goOn_102 : decode cX3_goOn 102 = .ok (.iadd, 1) := by decide +kernel
theorem dX3_goOn_103 : decode cX3_goOn 103 = .ok (.putfield 86, 3) := by decide +kernel
theorem dX3_goOn_106 : decode cX3_goOn 106 = .ok (.aload_n 0, 1) := by decide +kernel
theorem dX3_goOn_107 : decode cX3_goOn 107 = .ok (.getfield 12, 3) := by decide +kernel
theorem dX3_goOn_110 : decode cX3_goOn 110 = .ok (.aload_n 0, 1) := by decide +kernel
theorem dX3_goOn_111 : decode cX3_goOn 111 = .ok (.getfield 83, 3) := by decide +kernel
theorem dX3_goOn_114 : decode cX3_goOn 114 = .ok (.iload_n 2, 1) := by decide +kernel
theorem dX3_goOn_115 : decode cX3_goOn 115 = .ok (.iadd, 1) := by decide +kernel
theorem dX3_goOn_116 : decode cX3_goOn 116 = .ok (.aload_n 0, 1) := by decide +kernel
theorem dX3_goOn_117 : decode cX3_goOn 117 = .ok (.getfield 86, 3) := by decide +kernel
theorem dX3_goOn_120 : decode cX3_goOn 120 = .ok (.iload_n 1, 1) := by decide +kernel
theorem dX3_goOn_121 : decode cX3_goOn 121 = .ok (.isub, 1) := by decide +kernel
theorem dX3_goOn_122 : decode cX3_goOn 122 = .ok (.invokevirtual 101, 3) := by decide +kernel
theorem dX3_goOn_125 : decode cX3_goOn 125 = .ok (.ifCond .eq 35, 3) := by decide +kernel
theorem dX3_goOn_128 : decode cX3_goOn 128 = .ok (.aload_n 0, 1) := by decide +kernel
theorem dX3_goOn_129 : decode cX3_goOn 129 = .ok (.dup, 1) := by decide +kernel
theorem dX3_goOn_130 : decode cX3_goOn 130 = .ok (.getfield 83, 3) := by decide +kernel
theorem dX3_goOn_133 : decode cX3_goOn 133 = .ok (.iload_n 2, 1) := by decide +kernel
theorem dX3_goOn_134 : decode cX3_goOn 134 = .ok (.iadd, 1) := by decide +kernel
theorem dX3_goOn_135 : decode cX3_goOn 135 = .ok (.putfield 83, 3) := by decide +kernel
theorem dX3_goOn_138 : decode cX3_goOn 138 = .ok (.aload_n 0, 1) := by decide +kernel
theorem dX3_goOn_139 : decode cX3_goOn 139 = .ok (.dup, 1) := by decide +kernel
theorem dX3_goOn_140 : decode cX3_goOn 140 = .ok (.getfield 86, 3) := by decide +kernel
theorem dX3_goOn_143 : decode cX3_goOn 143 = .ok (.iload_n 1, 1) := by decide +kernel
theorem dX3_goOn_144 : decode cX3_goOn 144 = .ok (.isub, 1) := by decide +kernel
theorem dX3_goOn_145 : decode cX3_goOn 145 = .ok (.putfield 86, 3) := by decide +kernel
theorem dX3_goOn_148 : decode cX3_goOn 148 = .ok (.aload_n 0, 1) := by decide +kernel
theorem dX3_goOn_149 : decode cX3_goOn 149 = .ok (.aload_n 0, 1) := by decide +kernel
theorem dX3_goOn_150 : decode cX3_goOn 150 = .ok (.getfield 74, 3) := by decide +kernel
theorem dX3_goOn_153 : decode cX3_goOn 153 = .ok (.iconst 3, 1) := by decide +kernel
theorem dX3_goOn_154 : decode cX3_goOn 154 = .ok (.iadd, 1) := by decide +kernel
theorem dX3_goOn_155 : decode cX3_goOn 155 = .ok (.iconst 3, 1) := by decide +kernel
theorem dX3_goOn_156 : decode cX3_goOn 156 = .ok (.iand, 1) := by decide +kernel
theorem dX3_goOn_157 : decode cX3_goOn 157 = .ok (.putfield 74, 3) := by decide +kernel
theorem dX3_goOn_160 : decode cX3_goOn 160 = .ok (.return_, 1) := by decide +kernel
theorem dX4_init_0 : decode cX4_init 0 = .ok (.aload_n 0, 1) := by decide +kernel
theorem dX4_init_1 : decode cX4_init 1 = .ok (.invokespecial 3, 3) := by decide +kernel
theorem dX4_init_4 : decode cX4_init 4 = .ok (.aload_n 0, 1) := by decide +kernel
theorem dX4_init_5 : decode cX4_init 5 = .ok (.bipush 60, 2) := by decide +kernel
theorem dX4_init_7 : decode cX4_init 7 = .ok (.newarray .int, 2) := by decide +kernel
theorem dX4_init_9 : decode cX4_init 9 = .ok (.putfield 9, 3) := by decide +kernel
theorem dX4_init_12 : decode cX4_init 12 = .ok (.aload_n 0, 1) := by decide +kernel
theorem dX4_init_13 : decode cX4_init 13 = .ok (.bipush 60, 2) := by decide +kernel
theorem dX4_init_15 : decode cX4_init 15 = .ok (.newarray .int, 2) := by decide +kernel
theorem dX4_init_17 : decode cX4_init 17 = .ok (.putfield 15, 3) := by decide +kernel
theorem dX4_init_20 : decode cX4_init 20 = .ok (.aload_n 0, 1) := by decide +kernel
theorem dX4_init_21 : decode cX4_init 21 = .ok (.iconst 1, 1) := by decide +kernel
theorem dX4_init_22 : decode cX4_init 22 = .ok (.putfield 18, 3) := by decide +kernel
theorem dX4_init_25 : decode cX4_init 25 = .ok (.aload_n 0, 1) := by decide +kernel
theorem dX4_init_26 : decode cX4_init 26 = .ok (.bipush 64, 2) := by decide +kernel
theorem dX4_init_28 : decode cX4_init 28 = .ok (.newarray .int, 2) := by decide +kernel
theorem dX4_init_30 : decode cX4_init 30 = .ok (.putfield 22, 3) := by decide +kernel
theorem dX4_init_33 : decode cX4_init 33 = .ok (.return_, 1) := by decide +kernel
theorem dX4_length_0 : decode cX4_length 0 = .ok (.aload_n 0, 1) := by decide +kernel
theorem dX4_length_1 : decode cX4_length 1 = .ok (.getfield 18, 3) := by decide +kernel
theorem dX4_length_4 : decode cX4_length 4 = .ok (.ireturn, 1) := by decide +kernel
theorem dX4_atX_0 : decode cX4_atX 0 = .ok (.aload_n 0, 1) := by decide +kernel
theorem dX4_atX_1 : decode cX4_atX 1 = .ok (.getfield 25, 3) := by decide +kernel
theorem dX4_atX_4 : decode cX4_atX 4 = .ok (.ireturn, 1) := by decide +kernel
theorem dX4_atY_0 : decode cX4_atY 0 = .ok (.aload_n 0, 1) := by decide +kernel
theorem dX4_atY_1 : decode cX4_atY 1 = .ok (.getfield 28, 3) := by decide +kernel
theorem dX4_atY_4 : decode cX4_atY 4 = .ok (.ireturn, 1) := by decide +kernel
theorem dX4_isFull_0 : decode cX4_isFull 0 = .ok (.aload_n 0, 1) := by decide +kernel
theorem dX4_isFull_1 : decode cX4_isFull 1 = .ok (.getfield 18, 3) := by decide +kernel
theorem dX4_isFull_4 : decode cX4_isFull 4 = .ok (.bipush 60, 2) := by decide +kernel
theorem dX4_isFull_6 : decode cX4_isFull 6 = .ok (.if_icmp .lt 7, 3) := by decide +kernel
theorem dX4_isFull_9 : decode cX4_isFull 9 = .ok (.iconst 1, 1) := by decide +kernel
theorem dX4_isFull_10 : decode cX4_isFull 10 = .ok (.goto 4, 3) := by decide +kernel
theorem dX4_isFull_13 : decode cX4_isFull 13 = .ok (.iconst 0, 1) := by decide +kernel
theorem dX4_isFull_14 : decode cX4_isFull 14 = .ok (.ireturn, 1) := by decide +kernel
theorem dX4_begin_0 : decode cX4_begin 0 = .ok (.aload_n 0, 1) := by decide +kernel
theorem dX4_begin_1 : decode cX4_begin 1 = .ok (.iconst 0, 1) := by decide +kernel
theorem dX4_begin_2 : decode cX4_begin 2 = .ok (.putfield 18, 3) := by decide +kernel
theorem dX4_begin_5 : decode cX4_begin 5 = .ok (.aload_n 0, 1) := by decide +kernel
theorem dX4_begin_6 : decode cX4_begin 6 = .ok (.iload_n 1, 1) := by decide +kernel
theorem dX4_begin_7 : decode cX4_begin 7 = .ok (.putfield 31, 3) := by decide +kernel
theorem dX4_begin_10 : decode cX4_begin 10 = .ok (.aload_n 0, 1) := by decide +kernel
theorem dX4_begin_11 : decode cX4_begin 11 = .ok (.iload_n 2, 1) := by decide +kernel
theorem dX4_begin_12 : decode cX4_begin 12 = .ok (.putfield 34, 3) := by decide +kernel
theorem dX4_begin_15 : decode cX4_begin 15 = .ok (.aload_n 0, 1) := by decide +kernel
theorem dX4_begin_16 : decode cX4_begin 16 = .ok (.iload_n 1, 1) := by decide +kernel
theorem dX4_begin_17 : decode cX4_begin 17 = .ok (.iload_n 2, 1) := by decide +kernel
theorem dX4_begin_18 : decode cX4_begin 18 = .ok (.invokevirtual 37, 3) := by decide +kernel
theorem dX4_begin_21 : decode cX4_begin 21 = .ok (.return_, 1) := by decide +kernel
theorem dX4_beginAnew_0 : decode cX4_beginAnew 0 = .ok (.aload_n 0, 1) := by decide +kernel
theorem dX4_beginAnew_1 : decode cX4_beginAnew 1 = .ok (.aload_n 0, 1) := by decide +kernel
theorem dX4_beginAnew_2 : decode cX4_beginAnew 2 = .ok (.getfield 31, 3) := by decide +kernel
theorem dX4_beginAnew_5 : decode cX4_beginAnew 5 = .ok (.aload_n 0, 1) := by decide +kernel
theorem dX4_beginAnew_6 : decode cX4_beginAnew 6 = .ok (.getfield 34, 3) := by decide +kernel
theorem dX4_beginAnew_9 : decode cX4_beginAnew 9 = .ok (.invokevirtual 41, 3) := by decide +kernel
theorem dX4_beginAnew_12 : decode cX4_beginAnew 12 = .ok (.return_, 1) := by decide +kernel
theorem dX4_add_0 : decode cX4_add 0 = .ok (.aload_n 0, 1) := by decide +kernel
theorem dX4_add_1 : decode cX4_add 1 = .ok (.getfield 18, 3) := by decide +kernel
theorem dX4_add_4 : decode cX4_add 4 = .ok (.aload_n 0, 1) := by decide +kernel
theorem dX4_add_5 : decode cX4_add 5 = .ok (.getfield 9, 3) := by decide +kernel
theorem dX4_add_8 : decode cX4_add 8 = .ok (.arraylength, 1) := by decide +kernel
theorem dX4_add_9 : decode cX4_add 9 = .ok (.if_icmp .ge 55, 3) := by decide +kernel
theorem dX4_add_12 : decode cX4_add 12 = .ok (.aload_n 0, 1) := by decide +kernel
theorem dX4_add_13 : decode cX4_add 13 = .ok (.getfield 18, 3) := by decide +kernel
theorem dX4_add_16 : decode cX4_add 16 = .ok (.aload_n 0, 1) := by decide +kernel
theorem dX4_add_17 : decode cX4_add 17 = .ok (.getfield 15, 3) := by decide +kernel
theorem dX4_add_20 : decode cX4_add 20 = .ok (.arraylength, 1) := by decide +kernel
theorem dX4_add_21 : decode cX4_add 21 = .ok (.if_icmp .ge 43, 3) := by decide +kernel
theorem dX4_add_24 : decode cX4_add 24 = .ok (.aload_n 0, 1) := by decide +kernel
theorem dX4_add_25 : decode cX4_add 25 = .ok (.getfield 9, 3) := by decide +kernel
theorem dX4_add_28 : decode cX4_add 28 = .ok (.aload_n 0, 1) := by decide +kernel
theorem dX4_add_29 : decode cX4_add 29 = .ok (.getfield 18, 3) := by decide +kernel
theorem dX4_add_32 : decode cX4_add 32 = .ok (.iload_n 1, 1) := by decide +kernel
theorem dX4_add_33 : decode cX4_add 33 = .ok (.iastore, 1) := by decide +kernel
theorem dX4_add_34 : decode cX4_add 34 = .ok (.aload_n 0, 1) := by decide +kernel
theorem dX4_add_35 : decode cX4_add 35 = .ok (.getfield 15, 3) := by decide +kernel
theorem dX4_add_38 : decode cX4_add 38 = .ok (.aload_n 0, 1) := by decide +kernel
theorem dX4_add_39 : decode cX4_add 39 = .ok (.getfield 18, 3) := by decide +kernel
theorem dX4_add_42 : decode cX4_add 42 = .ok (.iload_n 2, 1) := by decide +kernel
theorem dX4_add_43 : decode cX4_add 43 = .ok (.iastore, 1) := by decide +kernel
theorem dX4_add_44 : decode cX4_add 44 = .ok (.aload_n 0, 1) := by decide +kernel
theorem dX4_add_45 : decode cX4_add 45 = .ok (.dup, 1) := by decide +kernel
theorem dX4_add_46 : decode cX4_add 46 = .ok (.getfield 18, 3) := by decide +kernel
theorem dX4_add_49 : decode cX4_add 49 = .ok (.iconst 1, 1) := by decide +kernel
theorem dX4_add_50 : decode cX4_add 50 = .ok (.iadd, 1) := by decide +kernel
theorem dX4_add_51 : decode cX4_add 51 = .ok (.putfield 18, 3) := by decide +kernel
theorem dX4_add_54 : decode cX4_add 54 = .ok (.aload_n 0, 1) := by decide +kernel
theorem dX4_add_55 : decode cX4_add 55 = .ok (.iload_n 1, 1) := by decide +kernel
theorem dX4_add_56 : decode cX4_add 56 = .ok (.putfield 25, 3) := by decide +kernel
theorem dX4_add_59 : decode cX4_add 59 = .ok (.aload_n 0, 1) := by decide +kernel
theorem dX4_add_60 : decode cX4_add 60 = .ok (.iload_n 2, 1) := by decide +kernel
theorem dX4_add_61 : decode cX4_add 61 = .ok (.putfield 28, 3) := by decide +kernel
theorem dX4_add_64 : decode cX4_add 64 = .ok (.return_, 1) := by decide +kernel
theorem dX4_putInside_0 : decode cX4_putInside 0 = .ok (.bipush (-32), 2) := by decide +kernel
theorem dX4_putInside_2 : decode cX4_putInside 2 = .ok (.istore_n 3, 1) := by decide +kernel
theorem dX4_putInside_3 : decode cX4_putInside 3 = .ok (.iload_n 3, 1) := by decide +kernel
theorem dX4_putInside_4 : decode cX4_putInside 4 = .ok (.bipush 31, 2) := by decide +kernel
theorem dX4_putInside_6 : decode cX4_putInside 6 = .ok (.if_icmp .gt 24, 3) := by decide +kernel
theorem dX4_putInside_9 : decode cX4_putInside 9 = .ok (.aload_n 0, 1) := by decide +kernel
theorem dX4_putInside_10 : decode cX4_putInside 10 = .ok (.iload_n 3, 1) := by decide +kernel
theorem dX4_putInside_11 : decode cX4_putInside 11 = .ok (.invokevirtual 44, 3) := by decide +kernel
theorem dX4_putInside_14 : decode cX4_putInside 14 = .ok (.aload_n 1, 1) := by decide +kernel
theorem dX4_putInside_15 : decode cX4_putInside 15 = .ok (.iload_n 3, 1) := by decide +kernel
theorem dX4_putInside_16 : decode cX4_putInside 16 = .ok (.aload_n 0, 1) := by decide +kernel
theorem dX4_putInside_17 : decode cX4_putInside 17 = .ok (.iload_n 2, 1) := by decide +kernel
theorem dX4_putInside_18 : decode cX4_putInside 18 = .ok (.invokevirtual 48, 3) := by decide +kernel
theorem dX4_putInside_21 : decode cX4_putInside 21 = .ok (.invokevirtual 52, 3) := by decide +kernel
theorem dX4_putInside_24 : decode cX4_putInside 24 = .ok (.iinc 3 1, 3) := by decide +kernel
theorem dX4_putInside_27 : decode cX4_putInside 27 = .ok (.goto (-24), 3) := by decide +kernel
theorem dX4_putInside_30 : decode cX4_putInside 30 = .ok (.return_, 1) := by decide +kernel
theorem dX4_countCrossings_0 : decode cX4_countCrossings 0 = .ok (.aload_n 0, 1) := by decide +kernel
theorem dX4_countCrossings_1 : decode cX4_countCrossings 1 = .ok (.getfield 22, 3) := by decide +kernel
theorem dX4_countCrossings_4 : decode cX4_countCrossings 4 = .ok (.iconst 0, 1) := by decide +kernel
theorem dX4_countCrossings_5 : decode cX4_countCrossings 5 = .ok (.invokestatic 58, 3) := by decide +kernel
theorem dX4_countCrossings_8 : decode cX4_countCrossings 8 = .ok (.iconst 1, 1) := by decide +kernel
theorem dX4_countCrossings_9 : decode cX4_countCrossings 9 = .ok (.istore_n 2, 1) := by decide +kernel
theorem dX4_countCrossings_10 : decode cX4_countCrossings 10 = .ok (.iload_n 2, 1) := by decide +kernel
theorem dX4_countCrossings_11 : decode cX4_countCrossings 11 = .ok (.aload_n 0, 1) := by decide +kernel
theorem dX4_countCrossings_12 : decode cX4_countCrossings 12 = .ok (.getfield 18, 3) := by decide +kernel
theorem dX4_countCrossings_15 : decode cX4_countCrossings 15 = .ok (.if_icmp .ge 52, 3) := by decide +kernel
theorem dX4_countCrossings_18 : decode cX4_countCrossings 18 = .ok (.iload_n 2, 1) := by decide +kernel
theorem dX4_countCrossings_19 : decode cX4_countCrossings 19 = .ok (.aload_n 0, 1) := by decide +kernel
theorem dX4_countCrossings_20 : decode cX4_countCrossings 20 = .ok (.getfield 9, 3) := by decide +kernel
theorem dX4_countCrossings_23 : decode cX4_countCrossings 23 = .ok (.arraylength, 1) := by decide +kernel
theorem dX4_countCrossings_24 : decode cX4_countCrossings 24 = .ok (.if_icmp .ge 43, 3) := by decide +kernel
theorem dX4_countCrossings_27 : decode cX4_countCrossings 27 = .ok (.iload_n 2, 1) := by decide +kernel
theorem dX4_countCrossings_28 : decode cX4_countCrossings 28 = .ok (.aload_n 0, 1) := by decide +kernel
theorem dX4_countCrossings_29 : decode cX4_countCrossings 29 = .ok (.getfield 15, 3) := by decide +kernel
theorem dX4_countCrossings_32 : decode cX4_countCrossings 32 = .ok (.arraylength, 1) := by decide +kernel
theorem dX4_countCrossings_33 : decode cX4_countCrossings 33 = .ok (.if_icmp .ge 34, 3) := by decide +kernel
theorem dX4_countCrossings_36 : decode cX4_countCrossings 36 = .ok (.aload_n 0, 1) := by decide +kernel
theorem dX4_countCrossings_37 : decode cX4_countCrossings 37 = .ok (.iload_n 1, 1) := by decide +kernel
theorem dX4_countCrossings_38 : decode cX4_countCrossings 38 = .ok (.aload_n 0, 1) := by decide +kernel
theorem dX4_countCrossings_39 : decode cX4_countCrossings 39 = .ok (.getfield 9, 3) := by decide +kernel
theorem dX4_countCrossings_42 : decode cX4_countCrossings 42 = .ok (.iload_n 2, 1) := by decide +kernel
theorem dX4_countCrossings_43 : decode cX4_countCrossings 43 = .ok (.iaload, 1) := by decide +kernel
theorem dX4_countCrossings_44 : decode cX4_countCrossings 44 = .ok (.aload_n 0, 1) := by decide +kernel
theorem dX4_countCrossings_45 : decode cX4_countCrossings 45 = .ok (.getfield 15, 3) := by decide +kernel
theorem dX4_countCrossings_48 : decode cX4_countCrossings 48 = .ok (.iload_n 2, 1) := by decide +kernel
theorem dX4_countCrossings_49 : decode cX4_countCrossings 49 = .ok (.iconst 1, 1) := by decide +kernel
theorem dX4_countCrossings_50 : decode cX4_countCrossings 50 = .ok (.isub, 1) := by decide +kernel
theorem dX4_countCrossings_51 : decode cX4_countCrossings 51 = .ok (.iaload, 1) := by decide +kernel
theorem dX4_countCrossings_52 : decode cX4_countCrossings 52 = .ok (.aload_n 0, 1) := by decide +kernel
theorem dX4_countCrossings_53 : decode cX4_countCrossings 53 = .ok (.getfield 15, 3) := by decide +kernel
theorem dX4_countCrossings_56 : decode cX4_countCrossings 56 = .ok (.iload_n 2, 1) := by decide +kernel
theorem dX4_countCrossings_57 : decode cX4_countCrossings 57 = .ok (.iaload, 1) := by decide +kernel
theorem dX4_countCrossings_58 : decode cX4_countCrossings 58 = .ok (.invokevirtual 64, 3) := by decide +kernel
theorem dX4_countCrossings_61 : decode cX4_countCrossings 61 = .ok (.iinc 2 1, 3) := by decide +kernel
theorem dX4_countCrossings_64 : decode cX4_countCrossings 64 = .ok (.goto (-54), 3) := by decide +kernel
theorem dX4_countCrossings_67 : decode cX4_countCrossings 67 = .ok (.aload_n 0, 1) := by decide +kernel
theorem dX4_countCrossings_68 : decode cX4_countCrossings 68 = .ok (.iload_n 1, 1) := by decide +kernel
theorem dX4_countCrossings_69 : decode cX4_countCrossings 69 = .ok (.aload_n 0, 1) := by decide +kernel
theorem dX4_countCrossings_70 : decode cX4_countCrossings 70 = .ok (.getfield 31, 3) := by decide +kernel
theorem dX4_countCrossings_73 : decode cX4_countCrossings 73 = .ok (.aload_n 0, 1) := by decide +kernel
theorem dX4_countCrossings_74 : decode cX4_countCrossings 74 = .ok (.getfield 28, 3) := by decide +kernel
theorem dX4_countCrossings_77 : decode cX4_countCrossings 77 = .ok (.aload_n 0, 1) := by decide +kernel
theorem dX4_countCrossings_78 : decode cX4_countCrossings 78 = .ok (.getfield 34, 3) := by decide +kernel
theorem dX4_countCrossings_81 : decode cX4_countCrossings 81 = .ok (.invokevirtual 64, 3) := by decide +kernel
theorem dX4_countCrossings_84 : decode cX4_countCrossings 84 = .ok (.return_, 1) := by decide +kernel
theorem dX4_addCrossing_0 : decode cX4_addCrossing 0 = .ok (.iload_n 2, 1) := by decide +kernel
theorem dX4_addCrossing_1 : decode cX4_addCrossing 1 = .ok (.bipush (-32), 2) := by decide +kernel
theorem dX4_addCrossing_3 : decode cX4_addCrossing 3 = .ok (.isub, 1) := by decide +kernel
theorem dX4_addCrossing_4 : decode cX4_addCrossing 4 = .ok (.istore 5, 2) := by decide +kernel
theorem dX4_addCrossing_6 : decode cX4_addCrossing 6 = .ok (.iload 5, 2) := by decide +kernel
theorem dX4_addCrossing_8 : decode cX4_addCrossing 8 = .ok (.ifCond .lt 13, 3) := by decide +kernel
theorem dX4_addCrossing_11 : decode cX4_addCrossing 11 = .ok (.iload 5, 2) := by decide +kernel
theorem dX4_addCrossing_13 : decode cX4_addCrossing 13 = .ok (.aload_n 0, 1) := by decide +kernel
theorem dX4_addCrossing_14 : decode cX4_addCrossing 14 = .ok (.getfield 22, 3) := by decide +kernel
theorem dX4_addCrossing_17 : decode cX4_addCrossing 17 = .ok (.arraylength, 1) := by decide +kernel
theorem dX4_addCrossing_18 : decode cX4_addCrossing 18 = .ok (.if_icmp .lt 4, 3) := by decide +kernel
theorem dX4_addCrossing_21 : decode cX4_addCrossing 21 = .ok (.return_, 1) := by decide +kernel
theorem dX4_addCrossing_22 : decode cX4_addCrossing 22 = .ok (.iload_n 3, 1) := by decide +kernel
theorem dX4_addCrossing_23 : decode cX4_addCrossing 23 = .ok (.iload_n 1, 1) := by decide +kernel
theorem dX4_addCrossing_24 : decode cX4_addCrossing 24 = .ok (.if_icmp .gt 20, 3) := by decide +kernel
theorem dX4_addCrossing_27 : decode cX4_addCrossing 27 = .ok (.iload_n 1, 1) := by decide +kernel
theorem dX4_addCrossing_28 : decode cX4_addCrossing 28 = .ok (.iload 4, 2) := by decide +kernel
theorem dX4_addCrossing_30 : decode cX4_addCrossing 30 = .ok (.if_icmp .ge 14, 3) := by decide +kernel
theorem dX4_addCrossing_33 : decode cX4_addCrossing 33 = .ok (.aload_n 0, 1) := by decide +kernel
theorem dX4_addCrossing_34 : decode cX4_addCrossing 34 = .ok (.getfield 22, 3) := by decide +kernel
theorem dX4_addCrossing_37 : decode cX4_addCrossing 37 = .ok (.iload 5, 2) := by decide +kernel
theorem dX4_addCrossing_39 : decode cX4_addCrossing 39 = .ok (.dup2, 1) := by decide +kernel
theorem dX4_addCrossing_40 : decode cX4_addCrossing 40 = .ok (.iaload, 1) := by decide +kernel
theorem dX4_addCrossing_41 : decode cX4_addCrossing 41 = .ok (.iconst 1, 1) := by decide +kernel
theorem dX4_addCrossing_42 : decode cX4_addCrossing 42 = .ok (.iadd, 1) := by decide +kernel
theorem dX4_addCrossing_43 : decode cX4_addCrossing 43 = .ok (.iastore, 1) := by decide +kernel
theorem dX4_addCrossing_44 : decode cX4_addCrossing 44 = .ok (.iload 4, 2) := by decide +kernel
theorem dX4_addCrossing_46 : decode cX4_addCrossing 46 = .ok (.iload_n 1, 1) := by decide +kernel
theorem dX4_addCrossing_47 : decode cX4_addCrossing 47 = .ok (.if_icmp .gt 19, 3) := by decide +kernel
theorem dX4_addCrossing_50 : decode cX4_addCrossing 50 = .ok (.iload_n 1, 1) := by decide +kernel
theorem dX4_addCrossing_51 : decode cX4_addCrossing 51 = .ok (.iload_n 3, 1) := by decide +kernel
theorem dX4_addCrossing_52 : decode cX4_addCrossing 52 = .ok (.if_icmp .ge 14, 3) := by decide +kernel
theorem dX4_addCrossing_55 : decode cX4_addCrossing 55 = .ok (.aload_n 0, 1) := by decide +kernel
theorem dX4_addCrossing_56 : decode cX4_addCrossing 56 = .ok (.getfield 22, 3) := by decide +kernel
theorem dX4_addCrossing_59 : decode cX4_addCrossing 59 = .ok (.iload 5, 2) := by decide +kernel
theorem dX4_addCrossing_61 : decode cX4_addCrossing 61 = .ok (.dup2, 1) := by decide +kernel
theorem dX4_addCrossing_62 : decode cX4_addCrossing 62 = .ok (.iaload, 1) := by decide +kernel
theorem dX4_addCrossing_63 : decode cX4_addCrossing 63 = .ok (.iconst 1, 1) := by decide +kernel
theorem dX4_addCrossing_64 : decode cX4_addCrossing 64 = .ok (.isub, 1) := by decide +kernel
theorem dX4_addCrossing_65 : decode cX4_addCrossing 65 = .ok (.iastore, 1) := by decide +kernel
theorem dX4_addCrossing_66 : decode cX4_addCrossing 66 = .ok (.return_, 1) := by decide +kernel
theorem dX4_inside_0 : decode cX4_inside 0 = .ok (.lconst 0, 1) := by decide +kernel
theorem dX4_inside_1 : decode cX4_inside 1 = .ok (.lstore_n 2, 1) := by decide +kernel
theorem dX4_inside_2 : decode cX4_inside 2 = .ok (.iconst 0, 1) := by decide +kernel
theorem dX4_inside_3 : decode cX4_inside 3 = .ok (.istore 4, 2) := by decide +kernel
theorem dX4_inside_5 : decode cX4_inside 5 = .ok (.aload_n 0, 1) := by decide +kernel
theorem dX4_inside_6 : decode cX4_inside 6 = .ok (.getfield 22, 3) := by decide +kernel
theorem dX4_inside_9 : decode cX4_inside 9 = .ok (.arraylength, 1) := by decide +kernel
theorem dX4_inside_10 : decode cX4_inside 10 = .ok (.iconst 1, 1) := by decide +kernel
theorem dX4_inside_11 : decode cX4_inside 11 = .ok (.isub, 1) := by decide +kernel
theorem dX4_inside_12 : decode cX4_inside 12 = .ok (.istore 5, 2) := by decide +kernel
theorem dX4_inside_14 : decode cX4_inside 14 = .ok (.iload 5, 2) := by decide +kernel
theorem dX4_inside_16 : decode cX4_inside 16 = .ok (.ifCond .le 49, 3) := by decide +kernel
theorem dX4_inside_19 : decode cX4_inside 19 = .ok (.iload 4, 2) := by decide +kernel
theorem dX4_inside_21 : decode cX4_inside 21 = .ok (.aload_n 0, 1) := by decide +kernel
theorem dX4_inside_22 : decode cX4_inside 22 = .ok (.getfield 22, 3) := by decide +kernel
theorem dX4_inside_25 : decode cX4_inside 25 = .ok (.iload 5, 2) := by decide +kernel
theorem dX4_inside_27 : decode cX4_inside 27 = .ok (.iaload, 1) := by decide +kernel
theorem dX4_inside_28 : decode cX4_inside 28 = .ok (.iadd, 1) := by decide +kernel
theorem dX4_inside_29 : decode cX4_inside 29 = .ok (.istore 4, 2) := by decide +kernel
theorem dX4_inside_31 : decode cX4_inside 31 = .ok (.iload_n 1, 1) := by decide +kernel
theorem dX4_inside_32 : decode cX4_inside 32 = .ok (.ifCond .ne 13, 3) := by decide +kernel
theorem dX4_inside_35 : decode cX4_inside 35 = .ok (.iload 4, 2) := by decide +kernel
theorem dX4_inside_37 : decode cX4_inside 37 = .ok (.iconst 1, 1) := by decide +kernel
theorem dX4_inside_38 : decode cX4_inside 38 = .ok (.iand, 1) := by decide +kernel
theorem dX4_inside_39 : decode cX4_inside 39 = .ok (.ifCond .eq 20, 3) := by decide +kernel
theorem dX4_inside_42 : decode cX4_inside 42 = .ok (.goto 8, 3) := by decide +kernel
theorem dX4_inside_45 : decode cX4_inside 45 = .ok (.iload 4, 2) := by decide +kernel
theorem dX4_inside_47 : decode cX4_inside 47 = .ok (.ifCond .eq 12, 3) := by decide +kernel
theorem dX4_inside_50 : decode cX4_inside 50 = .ok (.lload_n 2, 1) := by decide +kernel
theorem dX4_inside_51 : decode cX4_inside 51 = .ok (.lconst 1, 1) := by decide +kernel
theorem dX4_inside_52 : decode cX4_inside 52 = .ok (.iload 5, 2) := by decide +kernel
theorem dX4_inside_54 : decode cX4_inside 54 = .ok (.iconst 1, 1) := by decide +kernel
theorem dX4_inside_55 : decode cX4_inside 55 = .ok (.isub, 1) := by decide +kernel
theorem dX4_inside_56 : decode cX4_inside 56 = .ok (.lshl, 1) := by decide +kernel
theorem dX4_inside_57 : decode cX4_inside 57 = .ok (.lor, 1) := by decide +kernel
theorem dX4_inside_58 : decode cX4_inside 58 = .ok (.lstore_n 2, 1) := by decide +kernel
theorem dX4_inside_59 : decode cX4_inside 59 = .ok (.iinc 5 (-1), 3) := by decide +kernel
theorem dX4_inside_62 : decode cX4_inside 62 = .ok (.goto (-48), 3) := by decide +kernel
theorem dX4_inside_65 : decode cX4_inside 65 = .ok (.lload_n 2, 1) := by decide +kernel
theorem dX4_inside_66 : decode cX4_inside 66 = .ok (.lreturn, 1) := by decide +kernel
theorem dX5_init_0 : decode cX5_init 0 = .ok (.aload_n 0, 1) := by decide +kernel
theorem dX5_init_1 : decode cX5_init 1 = .ok (.invokespecial 3, 3) := by decide +kernel
theorem dX5_init_4 : decode cX5_init 4 = .ok (.aload_n 0, 1) := by decide +kernel
theorem dX5_init_5 : decode cX5_init 5 = .ok (.new 9, 3) := by decide +kernel
theorem dX5_init_8 : decode cX5_init 8 = .ok (.dup, 1) := by decide +kernel
theorem dX5_init_9 : decode cX5_init 9 = .ok (.invokespecial 11, 3) := by decide +kernel
theorem dX5_init_12 : decode cX5_init 12 = .ok (.putfield 12, 3) := by decide +kernel
theorem dX5_init_15 : decode cX5_init 15 = .ok (.return_, 1) := by decide +kernel
theorem dX5_measure_0 : decode cX5_measure 0 = .ok (.iload_n 1, 1) := by decide +kernel
theorem dX5_measure_1 : decode cX5_measure 1 = .ok (.tableswitch 42 0 2 #[27, 32, 37], 27) := by decide +kernel
theorem dX5_measure_28 : decode cX5_measure 28 = .ok (.aload_n 0, 1) := by decide +kernel
theorem dX5_measure_29 : decode cX5_measure 29 = .ok (.getfield 18, 3) := by decide +kernel
theorem dX5_measure_32 : decode cX5_measure 32 = .ok (.ireturn, 1) := by decide +kernel
theorem dX5_measure_33 : decode cX5_measure 33 = .ok (.aload_n 0, 1) := by decide +kernel
theorem dX5_measure_34 : decode cX5_measure 34 = .ok (.getfield 22, 3) := by decide +kernel
theorem dX5_measure_37 : decode cX5_measure 37 = .ok (.ireturn, 1) := by decide +kernel
theorem dX5_measure_38 : decode cX5_measure 38 = .ok (.aload_n 0, 1) := by decide +kernel
theorem dX5_measure_39 : decode cX5_measure 39 = .ok (.getfield 25, 3) := by decide +kernel
theorem dX5_measure_42 : decode cX5_measure 42 = .ok (.ireturn, 1) := by decide +kernel
theorem dX5_measure_43 : decode cX5_measure 43 = .ok (.aload_n 0, 1) := by decide +kernel
theorem dX5_measure_44 : decode cX5_measure 44 = .ok (.getfield 28, 3) := by decide +kernel
theorem dX5_measure_47 : decode cX5_measure 47 = .ok (.ireturn, 1) := by decide +kernel
theorem dX5_countStrips_0 : decode cX5_countStrips 0 = .ok (.aload_n 0, 1) := by decide +kernel
theorem dX5_countStrips_1 : decode cX5_countStrips 1 = .ok (.aload_n 1, 1) := by decide +kernel
theorem dX5_countStrips_2 : decode cX5_countStrips 2 = .ok (.invokevirtual 31, 3) := by decide +kernel
theorem dX5_countStrips_5 : decode cX5_countStrips 5 = .ok (.iconst 0, 1) := by decide +kernel
theorem dX5_countStrips_6 : decode cX5_countStrips 6 = .ok (.istore_n 2, 1) := by decide +kernel
theorem dX5_countStrips_7 : decode cX5_countStrips 7 = .ok (.iload_n 2, 1) := by decide +kernel
theorem dX5_countStrips_8 : decode cX5_countStrips 8 = .ok (.sipush 16384, 3) := by decide +kernel
theorem dX5_countStrips_11 : decode cX5_countStrips 11 = .ok (.if_icmp .ge 16, 3) := by decide +kernel
theorem dX5_countStrips_14 : decode cX5_countStrips 14 = .ok (.aload_n 0, 1) := by decide +kernel
theorem dX5_countStrips_15 : decode cX5_countStrips 15 = .ok (.invokevirtual 35, 3) := by decide +kernel
theorem dX5_countStrips_18 : decode cX5_countStrips 18 = .ok (.ifCond .eq 9, 3) := by decide +kernel
theorem dX5_countStrips_21 : decode cX5_countStrips 21 = .ok (.iinc 2 1, 3) := by decide +kernel
theorem dX5_countStrips_24 : decode cX5_countStrips 24 = .ok (.goto (-17), 3) := by decide +kernel
theorem dX5_countStrips_27 : decode cX5_countStrips 27 = .ok (.iload_n 2, 1) := by decide +kernel
theorem dX5_countStrips_28 : decode cX5_countStrips 28 = .ok (.ireturn, 1) := by decide +kernel
theorem dX5_goTo_0 : decode cX5_goTo 0 = .ok (.aload_n 0, 1) := by decide +kernel
theorem dX5_goTo_1 : decode cX5_goTo 1 = .ok (.aload_n 1, 1) := by decide +kernel
theorem dX5_goTo_2 : decode cX5_goTo 2 = .ok (.invokevirtual 31, 3) := by decide +kernel
theorem dX5_goTo_5 : decode cX5_goTo 5 = .ok (.iload_n 2, 1) := by decide +kernel
theorem dX5_goTo_6 : decode cX5_goTo 6 = .ok (.ifCond .lt 7, 3) := by decide +kernel
theorem dX5_goTo_9 : decode cX5_goTo 9 = .ok (.iconst 1, 1) := by decide +kernel
theorem dX5_goTo_10 : decode cX5_goTo 10 = .ok (.goto 4, 3) := by decide +kernel
theorem dX5_goTo_13 : decode cX5_goTo 13 = .ok (.iconst 0, 1) := by decide +kernel
theorem dX5_goTo_14 : decode cX5_goTo 14 = .ok (.istore_n 3, 1) := by decide +kernel
theorem dX5_goTo_15 : decode cX5_goTo 15 = .ok (.iconst 0, 1) := by decide +kernel
theorem dX5_goTo_16 : decode cX5_goTo 16 = .ok (.istore 4, 2) := by decide +kernel
theorem dX5_goTo_18 : decode cX5_goTo 18 = .ok (.iload 4, 2) := by decide +kernel
theorem dX5_goTo_20 : decode cX5_goTo 20 = .ok (.iload_n 2, 1) := by decide +kernel
theorem dX5_goTo_21 : decode cX5_goTo 21 = .ok (.if_icmp .gt 26, 3) := by decide +kernel
theorem dX5_goTo_24 : decode cX5_goTo 24 = .ok (.iload 4, 2) := by decide +kernel
theorem dX5_goTo_26 : decode cX5_goTo 26 = .ok (.sipush 16384, 3) := by decide +kernel
theorem dX5_goTo_29 : decode cX5_goTo 29 = .ok (.if_icmp .ge 18, 3) := by decide +kernel
theorem dX5_goTo_32 : decode cX5_goTo 32 = .ok (.iload_n 3, 1) := by decide +kernel
theorem dX5_goTo_33 : decode cX5_goTo 33 = .ok (.ifCond .eq 14, 3) := by decide +kernel
theorem dX5_goTo_36 : decode cX5_goTo 36 = .ok (.aload_n 0, 1) := by decide +kernel
theorem dX5_goTo_37 : decode cX5_goTo 37 = .ok (.invokevirtual 35, 3) := by decide +kernel
theorem dX5_goTo_40 : decode cX5_goTo 40 = .ok (.istore_n 3, 1) := by decide +kernel
theorem dX5_goTo_41 : decode cX5_goTo 41 = .ok (.iinc 4 1, 3) := by decide +kernel
theorem dX5_goTo_44 : decode cX5_goTo 44 = .ok (.goto (-26), 3) := by decide +kernel
theorem dX5_goTo_47 : decode cX5_goTo 47 = .ok (.iload_n 3, 1) := by decide +kernel
theorem dX5_goTo_48 : decode cX5_goTo 48 = .ok (.ifCond .eq 14, 3) := by decide +kernel
theorem dX5_goTo_51 : decode cX5_goTo 51 = .ok (.iload_n 2, 1) := by decide +kernel
theorem dX5_goTo_52 : decode cX5_goTo 52 = .ok (.sipush 16384, 3) := by decide +kernel
theorem dX5_goTo_55 : decode cX5_goTo 55 = .ok (.if_icmp .ge 7, 3) := by decide +kernel
theorem dX5_goTo_58 : decode cX5_goTo 58 = .ok (.iconst 1, 1) := by decide +kernel
theorem dX5_goTo_59 : decode cX5_goTo 59 = .ok (.goto 4, 3) := by decide +kernel
theorem dX5_goTo_62 : decode cX5_goTo 62 = .ok (.iconst 0, 1) := by decide +kernel
theorem dX5_goTo_63 : decode cX5_goTo 63 = .ok (.ireturn, 1) := by decide +kernel
theorem dX5_begin_0 : decode cX5_begin 0 = .ok (.aload_n 0, 1) := by decide +kernel
theorem dX5_begin_1 : decode cX5_begin 1 = .ok (.getfield 12, 3) := by decide +kernel
theorem dX5_begin_4 : decode cX5_begin 4 = .ok (.aload_n 1, 1) := by decide +kernel
theorem dX5_begin_5 : decode cX5_begin 5 = .ok (.invokevirtual 39, 3) := by decide +kernel
theorem dX5_begin_8 : decode cX5_begin 8 = .ok (.aload_n 0, 1) := by decide +kernel
theorem dX5_begin_9 : decode cX5_begin 9 = .ok (.bipush (-32), 2) := by decide +kernel
theorem dX5_begin_11 : decode cX5_begin 11 = .ok (.putfield 42, 3) := by decide +kernel
theorem dX5_begin_14 : decode cX5_begin 14 = .ok (.aload_n 0, 1) := by decide +kernel
theorem dX5_begin_15 : decode cX5_begin 15 = .ok (.aload_n 0, 1) := by decide +kernel
theorem dX5_begin_16 : decode cX5_begin 16 = .ok (.getfield 12, 3) := by decide +kernel
theorem dX5_begin_19 : decode cX5_begin 19 = .ok (.aload_n 0, 1) := by decide +kernel
theorem dX5_begin_20 : decode cX5_begin 20 = .ok (.getfield 42, 3) := by decide +kernel
theorem dX5_begin_23 : decode cX5_begin 23 = .ok (.invokevirtual 45, 3) := by decide +kernel
theorem dX5_begin_26 : decode cX5_begin 26 = .ok (.putfield 49, 3) := by decide +kernel
theorem dX5_begin_29 : decode cX5_begin 29 = .ok (.return_, 1) := by decide +kernel
theorem dX5_next_0 : decode cX5_next 0 = .ok (.aload_n 0, 1) := by decide +kernel
theorem dX5_next_1 : decode cX5_next 1 = .ok (.getfield 42, 3) := by decide +kernel
theorem dX5_next_4 : decode cX5_next 4 = .ok (.bipush 31, 2) := by decide +kernel
theorem dX5_next_6 : decode cX5_next 6 = .ok (.if_icmp .gt 97, 3) := by decide +kernel
theorem dX5_next_9 : decode cX5_next 9 = .ok (.iconst 0, 1) := by decide +kernel
theorem dX5_next_10 : decode cX5_next 10 = .ok (.istore_n 1, 1) := by decide +kernel
theorem dX5_next_11 : decode cX5_next 11 = .ok (.iload_n 1, 1) := by decide +kernel
theorem dX5_next_12 : decode cX5_next 12 = .ok (.bipush 64, 2) := by decide +kernel
theorem dX5_next_14 : decode cX5_next 14 = .ok (.if_icmp .ge 61, 3) := by decide +kernel
theorem dX5_next_17 : decode cX5_next 17 = .ok (.aload_n 0, 1) := by decide +kernel
theorem dX5_next_18 : decode cX5_next 18 = .ok (.getfield 49, 3) := by decide +kernel
theorem dX5_next_21 : decode cX5_next 21 = .ok (.lconst 0, 1) := by decide +kernel
theorem dX5_next_22 : decode cX5_next 22 = .ok (.lcmp, 1) := by decide +kernel
theorem dX5_next_23 : decode cX5_next 23 = .ok (.ifCond .eq 52, 3) := by decide +kernel
theorem dX5_next_26 : decode cX5_next 26 = .ok (.aload_n 0, 1) := by decide +kernel
theorem dX5_next_27 : decode cX5_next 27 = .ok (.getfield 49, 3) := by decide +kernel
theorem dX5_next_30 : decode cX5_next 30 = .ok (.invokestatic 53, 3) := by decide +kernel
theorem dX5_next_33 : decode cX5_next 33 = .ok (.lstore_n 2, 1) := by decide +kernel
theorem dX5_next_34 : decode cX5_next 34 = .ok (.aload_n 0, 1) := by decide +kernel
theorem dX5_next_35 : decode cX5_next 35 = .ok (.dup, 1) := by decide +kernel
theorem dX5_next_36 : decode cX5_next 36 = .ok (.getfield 49, 3) := by decide +kernel
theorem dX5_next_39 : decode cX5_next 39 = .ok (.lload_n 2, 1) := by decide +kernel
theorem dX5_next_40 : decode cX5_next 40 = .ok (.ldc2_w 57, 3) := by decide +kernel
theorem dX5_next_43 : decode cX5_next 43 = .ok (.lxor, 1) := by decide +kernel
theorem dX5_next_44 : decode cX5_next 44 = .ok (.land, 1) := by decide +kernel
theorem dX5_next_45 : decode cX5_next 45 = .ok (.putfield 49, 3) := by decide +kernel
theorem dX5_next_48 : decode cX5_next 48 = .ok (.aload_n 0, 1) := by decide +kernel
theorem dX5_next_49 : decode cX5_next 49 = .ok (.aload_n 0, 1) := by decide +kernel
theorem dX5_next_50 : decode cX5_next 50 = .ok (.getfield 42, 3) := by decide +kernel
theorem dX5_next_53 : decode cX5_next 53 = .ok (.iconst 1, 1) := by decide +kernel
theorem dX5_next_54 : decode cX5_next 54 = .ok (.isub, 1) := by decide +kernel
theorem dX5_next_55 : decode cX5_next 55 = .ok (.lload_n 2, 1) := by decide +kernel
theorem dX5_next_56 : decode cX5_next 56 = .ok (.invokevirtual 59, 3) := by decide +kernel
theorem dX5_next_59 : decode cX5_next 59 = .ok (.ifCond .ne 10, 3) := by decide +kernel
theorem dX5_next_62 : decode cX5_next 62 = .ok (.aload_n 0, 1) := by decide +kernel
theorem dX5_next_63 : decode cX5_next 63 = .ok (.lload_n 2, 1) := by decide +kernel
theorem dX5_next_64 : decode cX5_next 64 = .ok (.invokevirtual 63, 3) := by decide +kernel
theorem dX5_next_67 : decode cX5_next 67 = .ok (.iconst 1, 1) := by decide +kernel
theorem dX5_next_68 : decode cX5_next 68 = .ok (.ireturn, 1) := by decide +kernel
theorem dX5_next_69 : decode cX5_next 69 = .ok (.iinc 1 1, 3) := by decide +kernel
theorem dX5_next_72 : decode cX5_next 72 = .ok (.goto (-61), 3) := by decide +kernel
theorem dX5_next_75 : decode cX5_next 75 = .ok (.aload_n 0, 1) := by decide +kernel
theorem dX5_next_76 : decode cX5_next 76 = .ok (.dup, 1) := by decide +kernel
theorem dX5_next_77 : decode cX5_next 77 = .ok (.getfield 42, 3) := by decide +kernel
theorem dX5_next_80 : decode cX5_next 80 = .ok (.iconst 1, 1) := by decide +kernel
theorem dX5_next_81 : decode cX5_next 81 = .ok (.iadd, 1) := by decide +kernel
theorem dX5_next_82 : decode cX5_next 82 = .ok (.putfield 42, 3) := by decide +kernel
theorem dX5_next_85 : decode cX5_next 85 = .ok (.aload_n 0, 1) := by decide +kernel
theorem dX5_next_86 : decode cX5_next 86 = .ok (.aload_n 0, 1) := by decide +kernel
theorem dX5_next_87 : decode cX5_next 87 = .ok (.getfield 12, 3) := by decide +kernel
theorem dX5_next_90 : decode cX5_next 90 = .ok (.aload_n 0, 1) := by decide +kernel
theorem dX5_next_91 : decode cX5_next 91 = .ok (.getfield 42, 3) := by decide +kernel
theorem dX5_next_94 : decode cX5_next 94 = .ok (.invokevirtual 45, 3) := by decide +kernel
theorem dX5_next_97 : decode cX5_next 97 = .ok (.putfield 49, 3) := by decide +kernel
theorem dX5_next_100 : decode cX5_next 100 = .ok (.goto (-100), 3) := by decide +kernel
theorem dX5_next_103 : decode cX5_next 103 = .ok (.iconst 0, 1) := by decide +kernel
theorem dX5_next_104 : decode cX5_next 104 = .ok (.ireturn, 1) := by decide +kernel
theorem dX5_take_0 : decode cX5_take 0 = .ok (.aload_n 0, 1) := by decide +kernel
theorem dX5_take_1 : decode cX5_take 1 = .ok (.bipush (-32), 2) := by decide +kernel
theorem dX5_take_3 : decode cX5_take 3 = .ok (.lload_n 1, 1) := by decide +kernel
theorem dX5_take_4 : decode cX5_take 4 = .ok (.invokestatic 67, 3) := by decide +kernel
theorem dX5_take_7 : decode cX5_take 7 = .ok (.iadd, 1) := by decide +kernel
theorem dX5_take_8 : decode cX5_take 8 = .ok (.putfield 18, 3) := by decide +kernel
theorem dX5_take_11 : decode cX5_take 11 = .ok (.aload_n 0, 1) := by decide +kernel
theorem dX5_take_12 : decode cX5_take 12 = .ok (.aload_n 0, 1) := by decide +kernel
theorem dX5_take_13 : decode cX5_take 13 = .ok (.getfield 42, 3) := by decide +kernel
theorem dX5_take_16 : decode cX5_take 16 = .ok (.putfield 22, 3) := by decide +kernel
theorem dX5_take_19 : decode cX5_take 19 = .ok (.aload_n 0, 1) := by decide +kernel
theorem dX5_take_20 : decode cX5_take 20 = .ok (.lload_n 1, 1) := by decide +kernel
theorem dX5_take_21 : decode cX5_take 21 = .ok (.invokestatic 71, 3) := by decide +kernel
theorem dX5_take_24 : decode cX5_take 24 = .ok (.putfield 25, 3) := by decide +kernel
theorem dX5_take_27 : decode cX5_take 27 = .ok (.aload_n 0, 1) := by decide +kernel
theorem dX5_take_28 : decode cX5_take 28 = .ok (.iconst 1, 1) := by decide +kernel
theorem dX5_take_29 : decode cX5_take 29 = .ok (.putfield 28, 3) := by decide +kernel
theorem dX5_take_32 : decode cX5_take 32 = .ok (.aload_n 0, 1) := by decide +kernel
theorem dX5_take_33 : decode cX5_take 33 = .ok (.getfield 28, 3) := by decide +kernel
theorem dX5_take_36 : decode cX5_take 36 = .ok (.bipush 64, 2) := by decide +kernel
theorem dX5_take_38 : decode cX5_take 38 = .ok (.if_icmp .ge 33, 3) := by decide +kernel
theorem dX5_take_41 : decode cX5_take 41 = .ok (.aload_n 0, 1) := by decide +kernel
theorem dX5_take_42 : decode cX5_take 42 = .ok (.aload_n 0, 1) := by decide +kernel
theorem dX5_take_43 : decode cX5_take 43 = .ok (.getfield 42, 3) := by decide +kernel
theorem dX5_take_46 : decode cX5_take 46 = .ok (.aload_n 0, 1) := by decide +kernel
theorem dX5_take_47 : decode cX5_take 47 = .ok (.getfield 28, 3) := by decide +kernel
theorem dX5_take_50 : decode cX5_take 50 = .ok (.iadd, 1) := by decide +kernel
theorem dX5_take_51 : decode cX5_take 51 = .ok (.lload_n 1, 1) := by decide +kernel
theorem dX5_take_52 : decode cX5_take 52 = .ok (.invokevirtual 59, 3) := by decide +kernel
theorem dX5_take_55 : decode cX5_take 55 = .ok (.ifCond .eq 16, 3) := by decide +kernel
theorem dX5_take_58 : decode cX5_take 58 = .ok (.aload_n 0, 1) := by decide +kernel
theorem dX5_take_59 : decode cX5_take 59 = .ok (.dup, 1) := by decide +kernel
theorem dX5_take_60 : decode cX5_take 60 = .ok (.getfield 28, 3) := by decide +kernel
theorem dX5_take_63 : decode cX5_take 63 = .ok (.iconst 1, 1) := by decide +kernel
theorem dX5_take_64 : decode cX5_take 64 = .ok (.iadd, 1) := by decide +kernel
theorem dX5_take_65 : decode cX5_take 65 = .ok (.putfield 28, 3) := by decide +kernel
theorem dX5_take_68 : decode cX5_take 68 = .ok (.goto (-36), 3) := by decide +kernel
theorem dX5_take_71 : decode cX5_take 71 = .ok (.return_, 1) := by decide +kernel
theorem dX5_isRunAt_0 : decode cX5_isRunAt 0 = .ok (.aload_n 0, 1) := by decide +kernel
theorem dX5_isRunAt_1 : decode cX5_isRunAt 1 = .ok (.getfield 12, 3) := by decide +kernel
theorem dX5_isRunAt_4 : decode cX5_isRunAt 4 = .ok (.iload_n 1, 1) := by decide +kernel
theorem dX5_isRunAt_5 : decode cX5_isRunAt 5 = .ok (.invokevirtual 45, 3) := by decide +kernel
theorem dX5_isRunAt_8 : decode cX5_isRunAt 8 = .ok (.lload_n 2, 1) := by decide +kernel
theorem dX5_isRunAt_9 : decode cX5_isRunAt 9 = .ok (.lload_n 2, 1) := by decide +kernel
theorem dX5_isRunAt_10 : decode cX5_isRunAt 10 = .ok (.iconst 1, 1) := by decide +kernel
theorem dX5_isRunAt_11 : decode cX5_isRunAt 11 = .ok (.lshl, 1) := by decide +kernel
theorem dX5_isRunAt_12 : decode cX5_isRunAt 12 = .ok (.lor, 1) := by decide +kernel
theorem dX5_isRunAt_13 : decode cX5_isRunAt 13 = .ok (.lload_n 2, 1) := by decide +kernel
theorem dX5_isRunAt_14 : decode cX5_isRunAt 14 = .ok (.iconst 1, 1) := by decide +kernel
theorem dX5_isRunAt_15 : decode cX5_isRunAt 15 = .ok (.lushr, 1) := by decide +kernel
theorem dX5_isRunAt_16 : decode cX5_isRunAt 16 = .ok (.lor, 1) := by decide +kernel
theorem dX5_isRunAt_17 : decode cX5_isRunAt 17 = .ok (.land, 1) := by decide +kernel
theorem dX5_isRunAt_18 : decode cX5_isRunAt 18 = .ok (.lload_n 2, 1) := by decide +kernel
theorem dX5_isRunAt_19 : decode cX5_isRunAt 19 = .ok (.lcmp, 1) := by decide +kernel
theorem dX5_isRunAt_20 : decode cX5_isRunAt 20 = .ok (.ifCond .ne 7, 3) := by decide +kernel
theorem dX5_isRunAt_23 : decode cX5_isRunAt 23 = .ok (.iconst 1, 1) := by decide +kernel
theorem dX5_isRunAt_24 : decode cX5_isRunAt 24 = .ok (.goto 4, 3) := by decide +kernel
theorem dX5_isRunAt_27 : decode cX5_isRunAt 27 = .ok (.iconst 0, 1) := by decide +kernel
theorem dX5_isRunAt_28 : decode cX5_isRunAt 28 = .ok (.ireturn, 1) := by decide +kernel
theorem dX5_firstRun_0 : decode cX5_firstRun 0 = .ok (.lload_n 0, 1) := by decide +kernel
theorem dX5_firstRun_1 : decode cX5_firstRun 1 = .ok (.lload_n 0, 1) := by decide +kernel
theorem dX5_firstRun_2 : decode cX5_firstRun 2 = .ok (.lload_n 0, 1) := by decide +kernel
theorem dX5_firstRun_3 : decode cX5_firstRun 3 = .ok (.lload_n 0, 1) := by decide +kernel
theorem dX5_firstRun_4 : decode cX5_firstRun 4 = .ok (.lneg, 1) := by decide +kernel
theorem dX5_firstRun_5 : decode cX5_firstRun 5 = .ok (.land, 1) := by decide +kernel
theorem dX5_firstRun_6 : decode cX5_firstRun 6 = .ok (.ladd, 1) := by decide +kernel
theorem dX5_firstRun_7 : decode cX5_firstRun 7 = .ok (.ldc2_w 57, 3) := by decide +kernel
theorem dX5_firstRun_10 : decode cX5_firstRun 10 = .ok (.lxor, 1) := by decide +kernel
theorem dX5_firstRun_11 : decode cX5_firstRun 11 = .ok (.land, 1) := by decide +kernel
theorem dX5_firstRun_12 : decode cX5_firstRun 12 = .ok (.lreturn, 1) := by decide +kernel
theorem dX6_init_0 : decode cX6_init 0 = .ok (.aload_n 0, 1) := by decide +kernel
theorem dX6_init_1 : decode cX6_init 1 = .ok (.invokespecial 3, 3) := by decide +kernel
theorem dX6_init_4 : decode cX6_init 4 = .ok (.aload_n 0, 1) := by decide +kernel
theorem dX6_init_5 : decode cX6_init 5 = .ok (.bipush 8, 2) := by decide +kernel
theorem dX6_init_7 : decode cX6_init 7 = .ok (.anewarray 9, 3) := by decide +kernel
theorem dX6_init_10 : decode cX6_init 10 = .ok (.putfield 11, 3) := by decide +kernel
theorem dX6_init_13 : decode cX6_init 13 = .ok (.aload_n 0, 1) := by decide +kernel
theorem dX6_init_14 : decode cX6_init 14 = .ok (.new 9, 3) := by decide +kernel
theorem dX6_init_17 : decode cX6_init 17 = .ok (.dup, 1) := by decide +kernel
theorem dX6_init_18 : decode cX6_init 18 = .ok (.invokespecial 15, 3) := by decide +kernel
theorem dX6_init_21 : decode cX6_init 21 = .ok (.putfield 16, 3) := by decide +kernel
theorem dX6_init_24 : decode cX6_init 24 = .ok (.aload_n 0, 1) := by decide +kernel
theorem dX6_init_25 : decode cX6_init 25 = .ok (.new 20, 3) := by decide +kernel
theorem dX6_init_28 : decode cX6_init 28 = .ok (.dup, 1) := by decide +kernel
theorem dX6_init_29 : decode cX6_init 29 = .ok (.invokespecial 22, 3) := by decide +kernel
theorem dX6_init_32 : decode cX6_init 32 = .ok (.putfield 23, 3) := by decide +kernel
theorem dX6_init_35 : decode cX6_init 35 = .ok (.aload_n 0, 1) := by decide +kernel
theorem dX6_init_36 : decode cX6_init 36 = .ok (.new 27, 3) := by decide +kernel
theorem dX6_init_39 : decode cX6_init 39 = .ok (.dup, 1) := by decide +kernel
theorem dX6_init_40 : decode cX6_init 40 = .ok (.invokespecial 29, 3) := by decide +kernel
theorem dX6_init_43 : decode cX6_init 43 = .ok (.putfield 30, 3) := by decide +kernel
theorem dX6_init_46 : decode cX6_init 46 = .ok (.aload_n 0, 1) := by decide +kernel
theorem dX6_init_47 : decode cX6_init 47 = .ok (.new 34, 3) := by decide +kernel
theorem dX6_init_50 : decode cX6_init 50 = .ok (.dup, 1) := by decide +kernel
theorem dX6_init_51 : decode cX6_init 51 = .ok (.invokespecial 36, 3) := by decide +kernel
theorem dX6_init_54 : decode cX6_init 54 = .ok (.putfield 37, 3) := by decide +kernel
theorem dX6_init_57 : decode cX6_init 57 = .ok (.aload_n 0, 1) := by decide +kernel
theorem dX6_init_58 : decode cX6_init 58 = .ok (.new 41, 3) := by decide +kernel
theorem dX6_init_61 : decode cX6_init 61 = .ok (.dup, 1) := by decide +kernel
theorem dX6_init_62 : decode cX6_init 62 = .ok (.invokespecial 43, 3) := by decide +kernel
theorem dX6_init_65 : decode cX6_init 65 = .ok (.putfield 44, 3) := by decide +kernel
theorem dX6_init_68 : decode cX6_init 68 = .ok (.aload_n 0, 1) := by decide +kernel
theorem dX6_init_69 : decode cX6_init 69 = .ok (.new 48, 3) := by decide +kernel
theorem dX6_init_72 : decode cX6_init 72 = .ok (.dup, 1) := by decide +kernel
theorem dX6_init_73 : decode cX6_init 73 = .ok (.invokespecial 50, 3) := by decide +kernel
theorem dX6_init_76 : decode cX6_init 76 = .ok (.putfield 51, 3) := by decide +kernel
theorem dX6_init_79 : decode cX6_init 79 = .ok (.iconst 0, 1) := by decide +kernel
theorem dX6_init_80 : decode cX6_init 80 = .ok (.istore_n 1, 1) := by decide +kernel
theorem dX6_init_81 : decode cX6_init 81 = .ok (.iload_n 1, 1) := by decide +kernel
theorem dX6_init_82 : decode cX6_init 82 = .ok (.aload_n 0, 1) := by decide +kernel
theorem dX6_init_83 : decode cX6_init 83 = .ok (.getfield 11, 3) := by decide +kernel
theorem dX6_init_86 : decode cX6_init 86 = .ok (.arraylength, 1) := by decide +kernel
theorem dX6_init_87 : decode cX6_init 87 = .ok (.if_icmp .ge 22, 3) := by decide +kernel
theorem dX6_init_90 : decode cX6_init 90 = .ok (.aload_n 0, 1) := by decide +kernel
theorem dX6_init_91 : decode cX6_init 91 = .ok (.getfield 11, 3) := by decide +kernel
theorem dX6_init_94 : decode cX6_init 94 = .ok (.iload_n 1, 1) := by decide +kernel
theorem dX6_init_95 : decode cX6_init 95 = .ok (.new 9, 3) := by decide +kernel
theorem dX6_init_98 : decode cX6_init 98 = .ok (.dup, 1) := by decide +kernel
theorem dX6_init_99 : decode cX6_init 99 = .ok (.invokespecial 15, 3) := by decide +kernel
theorem dX6_init_102 : decode cX6_init 102 = .ok (.aastore, 1) := by decide +kernel
theorem dX6_init_103 : decode cX6_init 103 = .ok (.iinc 1 1, 3) := by decide +kernel
theorem dX6_init_106 : decode cX6_init 106 = .ok (.goto (-25), 3) := by decide +kernel
theorem dX6_init_109 : decode cX6_init 109 = .ok (.return_, 1) := by decide +kernel
theorem dX6_moveTo_0 : decode cX6_moveTo 0 = .ok (.iload_n 1, 1) := by decide +kernel
theorem dX6_moveTo_1 : decode cX6_moveTo 1 = .ok (.i2l, 1) := by decide +kernel
theorem dX6_moveTo_2 : decode cX6_moveTo 2 = .ok (.invokestatic 55, 3) := by decide +kernel
theorem dX6_moveTo_5 : decode cX6_moveTo 5 = .ok (.ifCond .eq 11, 3) := by decide +kernel
theorem dX6_moveTo_8 : decode cX6_moveTo 8 = .ok (.iload_n 2, 1) := by decide +kernel
theorem dX6_moveTo_9 : decode cX6_moveTo 9 = .ok (.i2l, 1) := by decide +kernel
theorem dX6_moveTo_10 : decode cX6_moveTo 10 = .ok (.invokestatic 55, 3) := by decide +kernel
theorem dX6_moveTo_13 : decode cX6_moveTo 13 = .ok (.ifCond .ne 13, 3) := by decide +kernel
theorem dX6_moveTo_16 : decode cX6_moveTo 16 = .ok (.new 59, 3) := by decide +kernel
theorem dX6_moveTo_19 : decode cX6_moveTo 19 = .ok (.dup, 1) := by decide +kernel
theorem dX6_moveTo_20 : decode cX6_moveTo 20 = .ok (.ldc 61, 2) := by decide +kernel
theorem dX6_moveTo_22 : decode cX6_moveTo 22 = .ok (.invokespecial 63, 3) := by decide +kernel
theorem dX6_moveTo_25 : decode cX6_moveTo 25 = .ok (.athrow, 1) := by decide +kernel
theorem dX6_moveTo_26 : decode cX6_moveTo 26 = .ok (.aload_n 0, 1) := by decide +kernel
theorem dX6_moveTo_27 : decode cX6_moveTo 27 = .ok (.getfield 23, 3) := by decide +kernel
theorem dX6_moveTo_30 : decode cX6_moveTo 30 = .ok (.invokevirtual 66, 3) := by decide +kernel
theorem dX6_moveTo_33 : decode cX6_moveTo 33 = .ok (.istore_n 3, 1) := by decide +kernel
theorem dX6_moveTo_34 : decode cX6_moveTo 34 = .ok (.aload_n 0, 1) := by decide +kernel
theorem dX6_moveTo_35 : decode cX6_moveTo 35 = .ok (.getfield 23, 3) := by decide +kernel
theorem dX6_moveTo_38 : decode cX6_moveTo 38 = .ok (.iload_n 1, 1) := by decide +kernel
theorem dX6_moveTo_39 : decode cX6_moveTo 39 = .ok (.iload_n 2, 1) := by decide +kernel
theorem dX6_moveTo_40 : decode cX6_moveTo 40 = .ok (.invokevirtual 70, 3) := by decide +kernel
theorem dX6_moveTo_43 : decode cX6_moveTo 43 = .ok (.iload_n 3, 1) := by decide +kernel
theorem dX6_moveTo_44 : decode cX6_moveTo 44 = .ok (.ireturn, 1) := by decide +kernel
theorem dX6_lineX_0 : decode cX6_lineX 0 = .ok (.aload_n 0, 1) := by decide +kernel
theorem dX6_lineX_1 : decode cX6_lineX 1 = .ok (.getfield 23, 3) := by decide +kernel
theorem dX6_lineX_4 : decode cX6_lineX 4 = .ok (.invokevirtual 74, 3) := by decide +kernel
theorem dX6_lineX_7 : decode cX6_lineX 7 = .ok (.i2l, 1) := by decide +kernel
theorem dX6_lineX_8 : decode cX6_lineX 8 = .ok (.iload_n 1, 1) := by decide +kernel
theorem dX6_lineX_9 : decode cX6_lineX 9 = .ok (.i2l, 1) := by decide +kernel
theorem dX6_lineX_10 : decode cX6_lineX 10 = .ok (.ladd, 1) := by decide +kernel
theorem dX6_lineX_11 : decode cX6_lineX 11 = .ok (.lstore_n 2, 1) := by decide +kernel
theorem dX6_lineX_12 : decode cX6_lineX 12 = .ok (.aload_n 0, 1) := by decide +kernel
theorem dX6_lineX_13 : decode cX6_lineX 13 = .ok (.iload_n 1, 1) := by decide +kernel
theorem dX6_lineX_14 : decode cX6_lineX 14 = .ok (.lload_n 2, 1) := by decide +kernel
theorem dX6_lineX_15 : decode cX6_lineX 15 = .ok (.invokevirtual 77, 3) := by decide +kernel
theorem dX6_lineX_18 : decode cX6_lineX 18 = .ok (.iload_n 1, 1) := by decide +kernel
theorem dX6_lineX_19 : decode cX6_lineX 19 = .ok (.ifCond .eq 19, 3) := by decide +kernel
theorem dX6_lineX_22 : decode cX6_lineX 22 = .ok (.aload_n 0, 1) := by decide +kernel
theorem dX6_lineX_23 : decode cX6_lineX 23 = .ok (.getfield 23, 3) := by decide +kernel
theorem dX6_lineX_26 : decode cX6_lineX 26 = .ok (.lload_n 2, 1) := by decide +kernel
theorem dX6_lineX_27 : decode cX6_lineX 27 = .ok (.l2i, 1) := by decide +kernel
theorem dX6_lineX_28 : decode cX6_lineX 28 = .ok (.aload_n 0, 1) := by decide +kernel
theorem dX6_lineX_29 : decode cX6_lineX 29 = .ok (.getfield 23, 3) := by decide +kernel
theorem dX6_lineX_32 : decode cX6_lineX 32 = .ok (.invokevirtual 81, 3) := by decide +kernel
theorem dX6_lineX_35 : decode cX6_lineX 35 = .ok (.invokevirtual 84, 3) := by decide +kernel
theorem dX6_lineX_38 : decode cX6_lineX 38 = .ok (.aload_n 0, 1) := by decide +kernel
theorem dX6_lineX_39 : decode cX6_lineX 39 = .ok (.getfield 23, 3) := by decide +kernel
theorem dX6_lineX_42 : decode cX6_lineX 42 = .ok (.invokevirtual 74, 3) := by decide +kernel
theorem dX6_lineX_45 : decode cX6_lineX 45 = .ok (.ireturn, 1) := by decide +kernel
theorem dX6_lineY_0 : decode cX6_lineY 0 = .ok (.aload_n 0, 1) := by decide +kernel
theorem dX6_lineY_1 : decode cX6_lineY 1 = .ok (.getfield 23, 3) := by decide +kernel
theorem dX6_lineY_4 : decode cX6_lineY 4 = .ok (.invokevirtual 81, 3) := by decide +kernel
theorem dX6_lineY_7 : decode cX6_lineY 7 = .ok (.i2l, 1) := by decide +kernel
theorem dX6_lineY_8 : decode cX6_lineY 8 = .ok (.iload_n 1, 1) := by decide +kernel
theorem dX6_lineY_9 : decode cX6_lineY 9 = .ok (.i2l, 1) := by decide +kernel
theorem dX6_lineY_10 : decode cX6_lineY 10 = .ok (.ladd, 1) := by decide +kernel
theorem dX6_lineY_11 : decode cX6_lineY 11 = .ok (.lstore_n 2, 1) := by decide +kernel
theorem dX6_lineY_12 : decode cX6_lineY 12 = .ok (.aload_n 0, 1) := by decide +kernel
theorem dX6_lineY_13 : decode cX6_lineY 13 = .ok (.iload_n 1, 1) := by decide +kernel
theorem dX6_lineY_14 : decode cX6_lineY 14 = .ok (.lload_n 2, 1) := by decide +kernel
theorem dX6_lineY_15 : decode cX6_lineY 15 = .ok (.invokevirtual 77, 3) := by decide +kernel
theorem dX6_lineY_18 : decode cX6_lineY 18 = .ok (.iload_n 1, 1) := by decide +kernel
theorem dX6_lineY_19 : decode cX6_lineY 19 = .ok (.ifCond .eq 19, 3) := by decide +kernel
theorem dX6_lineY_22 : decode cX6_lineY 22 = .ok (.aload_n 0, 1) := by decide +kernel
theorem dX6_lineY_23 : decode cX6_lineY 23 = .ok (.getfield 23, 3) := by decide +kernel
theorem dX6_lineY_26 : decode cX6_lineY 26 = .ok (.aload_n 0, 1) := by decide +kernel
theorem dX6_lineY_27 : decode cX6_lineY 27 = .ok (.getfield 23, 3) := by decide +kernel
theorem dX6_lineY_30 : decode cX6_lineY 30 = .ok (.invokevirtual 74, 3) := by decide +kernel
theorem dX6_lineY_33 : decode cX6_lineY 33 = .ok (.lload_n 2, 1) := by decide +kernel
theorem dX6_lineY_34 : decode cX6_lineY 34 = .ok (.l2i, 1) := by decide +kernel
theorem dX6_lineY_35 : decode cX6_lineY 35 = .ok (.invokevirtual 84, 3) := by decide +kernel
theorem dX6_lineY_38 : decode cX6_lineY 38 = .ok (.aload_n 0, 1) := by decide +kernel
theorem dX6_lineY_39 : decode cX6_lineY 39 = .ok (.getfield 23, 3) := by decide +kernel
theorem dX6_lineY_42 : decode cX6_lineY 42 = .ok (.invokevirtual 81, 3) := by decide +kernel
theorem dX6_lineY_45 : decode cX6_lineY 45 = .ok (.ireturn, 1) := by decide +kernel
theorem dX6_close_0 : decode cX6_close 0 = .ok (.aload_n 0, 1) := by decide +kernel
theorem dX6_close_1 : decode cX6_close 1 = .ok (.iload_n 1, 1) := by decide +kernel
theorem dX6_close_2 : decode cX6_close 2 = .ok (.invokevirtual 87, 3) := by decide +kernel
theorem dX6_close_5 : decode cX6_close 5 = .ok (.astore_n 3, 1) := by decide +kernel
theorem dX6_close_6 : decode cX6_close 6 = .ok (.iconst 0, 1) := by decide +kernel
theorem dX6_close_7 : decode cX6_close 7 = .ok (.iload_n 2, 1) := by decide +kernel
theorem dX6_close_8 : decode cX6_close 8 = .ok (.iconst 1, 1) := by decide +kernel
theorem dX6_close_9 : decode cX6_close 9 = .ok (.invokestatic 91, 3) := by decide +kernel
theorem dX6_close_12 : decode cX6_close 12 = .ok (.ifCond .ne 13, 3) := by decide +kernel
theorem dX6_close_15 : decode cX6_close 15 = .ok (.new 59, 3) := by decide +kernel
theorem dX6_close_18 : decode cX6_close 18 = .ok (.dup, 1) := by decide +kernel
theorem dX6_close_19 : decode cX6_close 19 = .ok (.ldc 95, 2) := by decide +kernel
theorem dX6_close_21 : decode cX6_close 21 = .ok (.invokespecial 63, 3) := by decide +kernel
theorem dX6_close_24 : decode cX6_close 24 = .ok (.athrow, 1) := by decide +kernel
theorem dX6_close_25 : decode cX6_close 25 = .ok (.aload_n 0, 1) := by decide +kernel
theorem dX6_close_26 : decode cX6_close 26 = .ok (.getfield 30, 3) := by decide +kernel
theorem dX6_close_29 : decode cX6_close 29 = .ok (.iload_n 1, 1) := by decide +kernel
theorem dX6_close_30 : decode cX6_close 30 = .ok (.aload_n 3, 1) := by decide +kernel
theorem dX6_close_31 : decode cX6_close 31 = .ok (.invokevirtual 97, 3) := by decide +kernel
theorem dX6_close_34 : decode cX6_close 34 = .ok (.aload_n 0, 1) := by decide +kernel
theorem dX6_close_35 : decode cX6_close 35 = .ok (.getfield 23, 3) := by decide +kernel
theorem dX6_close_38 : decode cX6_close 38 = .ok (.aload_n 3, 1) := by decide +kernel
theorem dX6_close_39 : decode cX6_close 39 = .ok (.iload_n 2, 1) := by decide +kernel
theorem dX6_close_40 : decode cX6_close 40 = .ok (.invokevirtual 101, 3) := by decide +kernel
theorem dX6_close_43 : decode cX6_close 43 = .ok (.aload_n 0, 1) := by decide +kernel
theorem dX6_close_44 : decode cX6_close 44 = .ok (.getfield 23, 3) := by decide +kernel
theorem dX6_close_47 : decode cX6_close 47 = .ok (.invokevirtual 105, 3) := by decide +kernel
theorem dX6_close_50 : decode cX6_close 50 = .ok (.aload_n 3, 1) := by decide +kernel
theorem dX6_close_51 : decode cX6_close 51 = .ok (.invokevirtual 108, 3) := by decide +kernel
theorem dX6_close_54 : decode cX6_close 54 = .ok (.ireturn, 1) := by decide +kernel
theorem dX6_points_0 : decode cX6_points 0 = .ok (.aload_n 0, 1) := by decide +kernel
theorem dX6_points_1 : decode cX6_points 1 = .ok (.getfield 23, 3) := by decide +kernel
theorem dX6_points_4 : decode cX6_points 4 = .ok (.invokevirtual 66, 3) := by decide +kernel
theorem dX6_points_7 : decode cX6_points 7 = .ok (.ireturn, 1) := by decide +kernel
theorem dX6_addRectangle_0 : decode cX6_addRectangle 0 = .ok (.aload_n 0, 1) := by decide +kernel
theorem dX6_addRectangle_1 : decode cX6_addRectangle 1 = .ok (.iload_n 1, 1) := by decide +kernel
theorem dX6_addRectangle_2 : decode cX6_addRectangle 2 = .ok (.invokevirtual 87, 3) := by decide +kernel
theorem dX6_addRectangle_5 : decode cX6_addRectangle 5 = .ok (.astore 6, 2) := by decide +kernel
theorem dX6_addRectangle_7 : decode cX6_addRectangle 7 = .ok (.iconst 1, 1) := by decide +kernel
theorem dX6_addRectangle_8 : decode cX6_addRectangle 8 = .ok (.iload 4, 2) := by decide +kernel
theorem dX6_addRectangle_10 : decode cX6_addRectangle 10 = .ok (.bipush 64, 2) := by decide +kernel
theorem dX6_addRectangle_12 : decode cX6_addRectangle 12 = .ok (.invokestatic 91, 3) := by decide +kernel
theorem dX6_addRectangle_15 : decode cX6_addRectangle 15 = .ok (.ifCond .eq 14, 3) := by decide +kernel
theorem dX6_addRectangle_18 : decode cX6_addRectangle 18 = .ok (.iconst 1, 1) := by decide +kernel
theorem dX6_addRectangle_19 : decode cX6_addRectangle 19 = .ok (.iload 5, 2) := by decide +kernel
theorem dX6_addRectangle_21 : decode cX6_addRectangle 21 = .ok (.bipush 64, 2) := by decide +kernel
theorem dX6_addRectangle_23 : decode cX6_addRectangle 23 = .ok (.invokestatic 91, 3) := by decide +kernel
theorem dX6_addRectangle_26 : decode cX6_addRectangle 26 = .ok (.ifCond .ne 13, 3) := by decide +kernel
theorem dX6_addRectangle_29 : decode cX6_addRectangle 29 = .ok (.new 59, 3) := by decide +kernel
theorem dX6_addRectangle_32 : decode cX6_addRectangle 32 = .ok (.dup, 1) := by decide +kernel
theorem dX6_addRectangle_33 : decode cX6_addRectangle 33 = .ok (.ldc 111, 2) := by decide +kernel
theorem dX6_addRectangle_35 : decode cX6_addRectangle 35 = .ok (.invokespecial 63, 3) := by decide +kernel
theorem dX6_addRectangle_38 : decode cX6_addRectangle 38 = .ok (.athrow, 1) := by decide +kernel
theorem dX6_addRectangle_39 : decode cX6_addRectangle 39 = .ok (.iload_n 2, 1) := by decide +kernel
theorem dX6_addRectangle_40 : decode cX6_addRectangle 40 = .ok (.i2l, 1) := by decide +kernel
theorem dX6_addRectangle_41 : decode cX6_addRectangle 41 = .ok (.iload_n 2, 1) := by decide +kernel
theorem dX6_addRectangle_42 : decode cX6_addRectangle 42 = .ok (.i2l, 1) := by decide +kernel
theorem dX6_addRectangle_43 : decode cX6_addRectangle 43 = .ok (.iload 4, 2) := by decide +kernel
theorem dX6_addRectangle_45 : decode cX6_addRectangle 45 = .ok (.i2l, 1) := by decide +kernel
theorem dX6_addRectangle_46 : decode cX6_addRectangle 46 = .ok (.ladd, 1) := by decide +kernel
theorem dX6_addRectangle_47 : decode cX6_addRectangle 47 = .ok (.lconst 1, 1) := by decide +kernel
theorem dX6_addRectangle_48 : decode cX6_addRectangle 48 = .ok (.lsub, 1) := by decide +kernel
theorem dX6_addRectangle_49 : decode cX6_addRectangle 49 = .ok (.invokestatic 113, 3) := by decide +kernel
theorem dX6_addRectangle_52 : decode cX6_addRectangle 52 = .ok (.iload_n 3, 1) := by decide +kernel
theorem dX6_addRectangle_53 : decode cX6_addRectangle 53 = .ok (.i2l, 1) := by decide +kernel
theorem dX6_addRectangle_54 : decode cX6_addRectangle 54 = .ok (.iload_n 3, 1) := by decide +kernel
theorem dX6_addRectangle_55 : decode cX6_addRectangle 55 = .ok (.i2l, 1) := by decide +kernel
theorem dX6_addRectangle_56 : decode cX6_addRectangle 56 = .ok (.iload 5, 2) := by decide +kernel
theorem dX6_addRectangle_58 : decode cX6_addRectangle 58 = .ok (.i2l, 1) := by decide +kernel
theorem dX6_addRectangle_59 : decode cX6_addRectangle 59 = .ok (.ladd, 1) := by decide +kernel
theorem dX6_addRectangle_60 : decode cX6_addRectangle 60 = .ok (.lconst 1, 1) := by decide +kernel
theorem dX6_addRectangle_61 : decode cX6_addRectangle 61 = .ok (.lsub, 1) := by decide +kernel
theorem dX6_addRectangle_62 : decode cX6_addRectangle 62 = .ok (.invokestatic 113, 3) := by decide +kernel
theorem dX6_addRectangle_65 : decode cX6_addRectangle 65 = .ok (.aload_n 0, 1) := by decide +kernel
theorem dX6_addRectangle_66 : decode cX6_addRectangle 66 = .ok (.getfield 30, 3) := by decide +kernel
theorem dX6_addRectangle_69 : decode cX6_addRectangle 69 = .ok (.iload_n 1, 1) := by decide +kernel
theorem dX6_addRectangle_70 : decode cX6_addRectangle 70 = .ok (.aload 6, 2) := by decide +kernel
theorem dX6_addRectangle_72 : decode cX6_addRectangle 72 = .ok (.invokevirtual 97, 3) := by decide +kernel
theorem dX6_addRectangle_75 : decode cX6_addRectangle 75 = .ok (.ldc2_w 117, 3) := by decide +kernel
theorem dX6_addRectangle_78 : decode cX6_addRectangle 78 = .ok (.bipush 64, 2) := by decide +kernel
theorem dX6_addRectangle_80 : decode cX6_addRectangle 80 = .ok (.iload 4, 2) := by decide +kernel
theorem dX6_addRectangle_82 : decode cX6_addRectangle 82 = .ok (.isub, 1) := by decide +kernel
theorem dX6_addRectangle_83 : decode cX6_addRectangle 83 = .ok (.lushr, 1) := by decide +kernel
theorem dX6_addRectangle_84 : decode cX6_addRectangle 84 = .ok (.iload_n 2, 1) := by decide +kernel
theorem dX6_addRectangle_85 : decode cX6_addRectangle 85 = .ok (.bipush (-32), 2) := by decide +kernel
theorem dX6_addRectangle_87 : decode cX6_addRectangle 87 = .ok (.isub, 1) := by decide +kernel
theorem dX6_addRectangle_88 : decode cX6_addRectangle 88 = .ok (.lshl, 1) := by decide +kernel
theorem dX6_addRectangle_89 : decode cX6_addRectangle 89 = .ok (.lstore 7, 2) := by decide +kernel
theorem dX6_addRectangle_91 : decode cX6_addRectangle 91 = .ok (.iconst 0, 1) := by decide +kernel
theorem dX6_addRectangle_92 : decode cX6_addRectangle 92 = .ok (.istore 9, 2) := by decide +kernel
theorem dX6_addRectangle_94 : decode cX6_addRectangle 94 = .ok (.iload 9, 2) := by decide +kernel
theorem dX6_addRectangle_96 : decode cX6_addRectangle 96 = .ok (.iload 5, 2) := by decide +kernel
theorem dX6_addRectangle_98 : decode cX6_addRectangle 98 = .ok (.if_icmp .ge 30, 3) := by decide +kernel
theorem dX6_addRectangle_101 : decode cX6_addRectangle 101 = .ok (.aload 6, 2) := by decide +kernel
theorem dX6_addRectangle_103 : decode cX6_addRectangle 103 = .ok (.iload_n 3, 1) := by decide +kernel
theorem dX6_addRectangle_104 : decode cX6_addRectangle 104 = .ok (.iload 9, 2) := by decide +kernel
theorem dX6_addRectangle_106 : decode cX6_addRectangle 106 = .ok (.iadd, 1) := by decide +kernel
theorem dX6_addRectangle_107 : decode cX6_addRectangle 107 = .ok (.aload 6, 2) := by decide +kernel
theorem dX6_addRectangle_109 : decode cX6_addRectangle 109 = .ok (.iload_n 3, 1) := by decide +kernel
theorem dX6_addRectangle_110 : decode cX6_addRectangle 110 = .ok (.iload 9, 2) := by decide +kernel
theorem dX6_addRectangle_112 : decode cX6_addRectangle 112 = .ok (.iadd, 1) := by decide +kernel
theorem dX6_addRectangle_113 : decode cX6_addRectangle 113 = .ok (.invokevirtual 119, 3) := by decide +kernel
theorem dX6_addRectangle_116 : decode cX6_addRectangle 116 = .ok (.lload 7, 2) := by decide +kernel
theorem dX6_addRectangle_118 : decode cX6_addRectangle 118 = .ok (.lor, 1) := by decide +kernel
theorem dX6_addRectangle_119 : decode cX6_addRectangle 119 = .ok (.invokevirtual 123, 3) := by decide +kernel
theorem dX6_addRectangle_122 : decode cX6_addRectangle 122 = .ok (.iinc 9 1, 3) := by decide +kernel
theorem dX6_addRectangle_125 : decode cX6_addRectangle 125 = .ok (.goto (-31), 3) := by decide +kernel
theorem dX6_addRectangle_128 : decode cX6_addRectangle 128 = .ok (.aload 6, 2) := by decide +kernel
theorem dX6_addRectangle_130 : decode cX6_addRectangle 130 = .ok (.invokevirtual 108, 3) := by decide +kernel
theorem dX6_addRectangle_133 : decode cX6_addRectangle 133 = .ok (.ireturn, 1) := by decide +kernel
theorem dX6_combine_0 : decode cX6_combine 0 = .ok (.aload_n 0, 1) := by decide +kernel
theorem dX6_combine_1 : decode cX6_combine 1 = .ok (.iload_n 1, 1) := by decide +kernel
theorem dX6_combine_2 : decode cX6_combine 2 = .ok (.invokevirtual 87, 3) := by decide +kernel
theorem dX6_combine_5 : decode cX6_combine 5 = .ok (.astore 5, 2) := by decide +kernel
theorem dX6_combine_7 : decode cX6_combine 7 = .ok (.aload_n 0, 1) := by decide +kernel
theorem dX6_combine_8 : decode cX6_combine 8 = .ok (.iload_n 2, 1) := by decide +kernel
theorem dX6_combine_9 : decode cX6_combine 9 = .ok (.invokevirtual 87, 3) := by decide +kernel
theorem dX6_combine_12 : decode cX6_combine 12 = .ok (.astore 6, 2) := by decide +kernel
theorem dX6_combine_14 : decode cX6_combine 14 = .ok (.aload_n 0, 1) := by decide +kernel
theorem dX6_combine_15 : decode cX6_combine 15 = .ok (.iload_n 3, 1) := by decide +kernel
theorem dX6_combine_16 : decode cX6_combine 16 = .ok (.invokevirtual 87, 3) := by decide +kernel
theorem dX6_combine_19 : decode cX6_combine 19 = .ok (.astore 7, 2) := by decide +kernel
theorem dX6_combine_21 : decode cX6_combine 21 = .ok (.iconst 0, 1) := by decide +kernel
theorem dX6_combine_22 : decode cX6_combine 22 = .ok (.iload 4, 2) := by decide +kernel
theorem dX6_combine_24 : decode cX6_combine 24 = .ok (.iconst 3, 1) := by decide +kernel
theorem dX6_combine_25 : decode cX6_combine 25 = .ok (.invokestatic 91, 3) := by decide +kernel
theorem dX6_combine_28 : decode cX6_combine 28 = .ok (.ifCond .ne 13, 3) := by decide +kernel
theorem dX6_combine_31 : decode cX6_combine 31 = .ok (.new 59, 3) := by decide +kernel
theorem dX6_combine_34 : decode cX6_combine 34 = .ok (.dup, 1) := by decide +kernel
theorem dX6_combine_35 : decode cX6_combine 35 = .ok (.ldc 126, 2) := by decide +kernel
theorem dX6_combine_37 : decode cX6_combine 37 = .ok (.invokespecial 63, 3) := by decide +kernel
theorem dX6_combine_40 : decode cX6_combine 40 = .ok (.athrow, 1) := by decide +kernel
theorem dX6_combine_41 : decode cX6_combine 41 = .ok (.aload_n 0, 1) := by decide +kernel
theorem dX6_combine_42 : decode cX6_combine 42 = .ok (.getfield 30, 3) := by decide +kernel
theorem dX6_combine_45 : decode cX6_combine 45 = .ok (.iload_n 1, 1) := by decide +kernel
theorem dX6_combine_46 : decode cX6_combine 46 = .ok (.aload 5, 2) := by decide +kernel
theorem dX6_combine_48 : decode cX6_combine 48 = .ok (.invokevirtual 97, 3) := by decide +kernel
theorem dX6_combine_51 : decode cX6_combine 51 = .ok (.bipush (-32), 2) := by decide +kernel
theorem dX6_combine_53 : decode cX6_combine 53 = .ok (.istore 8, 2) := by decide +kernel
end
section
theorem dX6_combine_55 : decode cX6_combine 55 = .ok (.iload 8, 2) := by decide +kernel
theorem dX6_combine_57 : decode cX6_combine 57 = .ok (.bipush 31, 2) := by decide +kernel
theorem dX6_combine_59 : decode cX6_combine 59 = .ok (.if_icmp .gt 35, 3) := by decide +kernel
theorem dX6_combine_62 : decode cX6_combine 62 = .ok (.aload 5, 2) := by decide +kernel
theorem dX6_combine_64 : decode cX6_combine 64 = .ok (.iload 8, 2) := by decide +kernel
theorem dX6_combine_66 : decode cX6_combine 66 = .ok (.aload 6, 2) := by decide +kernel
theorem dX6_combine_68 : decode cX6_combine 68 = .ok (.iload 8, 2) := by decide +kernel
theorem dX6_combine_70 : decode cX6_combine 70 = .ok (.invokevirtual 119, 3) := by decide +kernel
theorem dX6_combine_73 : decode cX6_combine 73 = .ok (.aload 7, 2) := by decide +kernel
theorem dX6_combine_75 : decode cX6_combine 75 = .ok (.iload 8, 2) := by decide +kernel
theorem dX6_combine_77 : decode cX6_combine 77 = .ok (.invokevirtual 119, 3) := by decide +kernel
theorem dX6_combine_80 : decode cX6_combine 80 = .ok (.iload 4, 2) := by decide +kernel
theorem dX6_combine_82 : decode cX6_combine 82 = .ok (.invokestatic 128, 3) := by decide +kernel
theorem dX6_combine_85 : decode cX6_combine 85 = .ok (.invokevirtual 123, 3) := by decide +kernel
theorem dX6_combine_88 : decode cX6_combine 88 = .ok (.iinc 8 1, 3) := by decide +kernel
theorem dX6_combine_91 : decode cX6_combine 91 = .ok (.goto (-36), 3) := by decide +kernel
theorem dX6_combine_94 : decode cX6_combine 94 = .ok (.aload 5, 2) := by decide +kernel
theorem dX6_combine_96 : decode cX6_combine 96 = .ok (.invokevirtual 108, 3) := by decide +kernel
theorem dX6_combine_99 : decode cX6_combine 99 = .ok (.ireturn, 1) := by decide +kernel
theorem dX6_move_0 : decode cX6_move 0 = .ok (.aload_n 0, 1) := by decide +kernel
theorem dX6_move_1 : decode cX6_move 1 = .ok (.iload_n 1, 1) := by decide +kernel
theorem dX6_move_2 : decode cX6_move 2 = .ok (.invokevirtual 87, 3) := by decide +kernel
theorem dX6_move_5 : decode cX6_move 5 = .ok (.astore 4, 2) := by decide +kernel
theorem dX6_move_7 : decode cX6_move 7 = .ok (.bipush (-64), 2) := by decide +kernel
theorem dX6_move_9 : decode cX6_move 9 = .ok (.iload_n 2, 1) := by decide +kernel
theorem dX6_move_10 : decode cX6_move 10 = .ok (.bipush 64, 2) := by decide +kernel
theorem dX6_move_12 : decode cX6_move 12 = .ok (.invokestatic 91, 3) := by decide +kernel
theorem dX6_move_15 : decode cX6_move 15 = .ok (.ifCond .eq 14, 3) := by decide +kernel
theorem dX6_move_18 : decode cX6_move 18 = .ok (.bipush (-64), 2) := by decide +kernel
theorem dX6_move_20 : decode cX6_move 20 = .ok (.iload_n 3, 1) := by decide +kernel
theorem dX6_move_21 : decode cX6_move 21 = .ok (.bipush 64, 2) := by decide +kernel
theorem dX6_move_23 : decode cX6_move 23 = .ok (.invokestatic 91, 3) := by decide +kernel
theorem dX6_move_26 : decode cX6_move 26 = .ok (.ifCond .ne 13, 3) := by decide +kernel
theorem dX6_move_29 : decode cX6_move 29 = .ok (.new 59, 3) := by decide +kernel
theorem dX6_move_32 : decode cX6_move 32 = .ok (.dup, 1) := by decide +kernel
theorem dX6_move_33 : decode cX6_move 33 = .ok (.ldc 132, 2) := by decide +kernel
theorem dX6_move_35 : decode cX6_move 35 = .ok (.invokespecial 63, 3) := by decide +kernel
theorem dX6_move_38 : decode cX6_move 38 = .ok (.athrow, 1) := by decide +kernel
theorem dX6_move_39 : decode cX6_move 39 = .ok (.aload 4, 2) := by decide +kernel
theorem dX6_move_41 : decode cX6_move 41 = .ok (.invokevirtual 134, 3) := by decide +kernel
theorem dX6_move_44 : decode cX6_move 44 = .ok (.ifCond .ne 41, 3) := by decide +kernel
theorem dX6_move_47 : decode cX6_move 47 = .ok (.aload 4, 2) := by decide +kernel
theorem dX6_move_49 : decode cX6_move 49 = .ok (.invokevirtual 138, 3) := by decide +kernel
theorem dX6_move_52 : decode cX6_move 52 = .ok (.iload_n 2, 1) := by decide +kernel
theorem dX6_move_53 : decode cX6_move 53 = .ok (.iadd, 1) := by decide +kernel
theorem dX6_move_54 : decode cX6_move 54 = .ok (.i2l, 1) := by decide +kernel
theorem dX6_move_55 : decode cX6_move 55 = .ok (.aload 4, 2) := by decide +kernel
theorem dX6_move_57 : decode cX6_move 57 = .ok (.invokevirtual 141, 3) := by decide +kernel
theorem dX6_move_60 : decode cX6_move 60 = .ok (.iload_n 2, 1) := by decide +kernel
theorem dX6_move_61 : decode cX6_move 61 = .ok (.iadd, 1) := by decide +kernel
theorem dX6_move_62 : decode cX6_move 62 = .ok (.i2l, 1) := by decide +kernel
theorem dX6_move_63 : decode cX6_move 63 = .ok (.invokestatic 113, 3) := by decide +kernel
theorem dX6_move_66 : decode cX6_move 66 = .ok (.aload 4, 2) := by decide +kernel
theorem dX6_move_68 : decode cX6_move 68 = .ok (.invokevirtual 144, 3) := by decide +kernel
theorem dX6_move_71 : decode cX6_move 71 = .ok (.iload_n 3, 1) := by decide +kernel
theorem dX6_move_72 : decode cX6_move 72 = .ok (.iadd, 1) := by decide +kernel
theorem dX6_move_73 : decode cX6_move 73 = .ok (.i2l, 1) := by decide +kernel
theorem dX6_move_74 : decode cX6_move 74 = .ok (.aload 4, 2) := by decide +kernel
theorem dX6_move_76 : decode cX6_move 76 = .ok (.invokevirtual 147, 3) := by decide +kernel
theorem dX6_move_79 : decode cX6_move 79 = .ok (.iload_n 3, 1) := by decide +kernel
theorem dX6_move_80 : decode cX6_move 80 = .ok (.iadd, 1) := by decide +kernel
theorem dX6_move_81 : decode cX6_move 81 = .ok (.i2l, 1) := by decide +kernel
theorem dX6_move_82 : decode cX6_move 82 = .ok (.invokestatic 113, 3) := by decide +kernel
theorem dX6_move_85 : decode cX6_move 85 = .ok (.aload_n 0, 1) := by decide +kernel
theorem dX6_move_86 : decode cX6_move 86 = .ok (.getfield 30, 3) := by decide +kernel
theorem dX6_move_89 : decode cX6_move 89 = .ok (.iload_n 1, 1) := by decide +kernel
theorem dX6_move_90 : decode cX6_move 90 = .ok (.aload 4, 2) := by decide +kernel
theorem dX6_move_92 : decode cX6_move 92 = .ok (.invokevirtual 97, 3) := by decide +kernel
theorem dX6_move_95 : decode cX6_move 95 = .ok (.aload 4, 2) := by decide +kernel
theorem dX6_move_97 : decode cX6_move 97 = .ok (.iload_n 2, 1) := by decide +kernel
theorem dX6_move_98 : decode cX6_move 98 = .ok (.iload_n 3, 1) := by decide +kernel
theorem dX6_move_99 : decode cX6_move 99 = .ok (.invokevirtual 150, 3) := by decide +kernel
theorem dX6_move_102 : decode cX6_move 102 = .ok (.aload 4, 2) := by decide +kernel
theorem dX6_move_104 : decode cX6_move 104 = .ok (.invokevirtual 108, 3) := by decide +kernel
theorem dX6_move_107 : decode cX6_move 107 = .ok (.ireturn, 1) := by decide +kernel
theorem dX6_turn_0 : decode cX6_turn 0 = .ok (.aload_n 0, 1) := by decide +kernel
theorem dX6_turn_1 : decode cX6_turn 1 = .ok (.iload_n 1, 1) := by decide +kernel
theorem dX6_turn_2 : decode cX6_turn 2 = .ok (.invokevirtual 87, 3) := by decide +kernel
theorem dX6_turn_5 : decode cX6_turn 5 = .ok (.astore_n 3, 1) := by decide +kernel
theorem dX6_turn_6 : decode cX6_turn 6 = .ok (.iconst 0, 1) := by decide +kernel
theorem dX6_turn_7 : decode cX6_turn 7 = .ok (.iload_n 2, 1) := by decide +kernel
theorem dX6_turn_8 : decode cX6_turn 8 = .ok (.iconst 3, 1) := by decide +kernel
theorem dX6_turn_9 : decode cX6_turn 9 = .ok (.invokestatic 91, 3) := by decide +kernel
theorem dX6_turn_12 : decode cX6_turn 12 = .ok (.ifCond .ne 13, 3) := by decide +kernel
theorem dX6_turn_15 : decode cX6_turn 15 = .ok (.new 59, 3) := by decide +kernel
theorem dX6_turn_18 : decode cX6_turn 18 = .ok (.dup, 1) := by decide +kernel
theorem dX6_turn_19 : decode cX6_turn 19 = .ok (.ldc 153, 2) := by decide +kernel
theorem dX6_turn_21 : decode cX6_turn 21 = .ok (.invokespecial 63, 3) := by decide +kernel
theorem dX6_turn_24 : decode cX6_turn 24 = .ok (.athrow, 1) := by decide +kernel
theorem dX6_turn_25 : decode cX6_turn 25 = .ok (.aload_n 0, 1) := by decide +kernel
theorem dX6_turn_26 : decode cX6_turn 26 = .ok (.getfield 30, 3) := by decide +kernel
theorem dX6_turn_29 : decode cX6_turn 29 = .ok (.iload_n 1, 1) := by decide +kernel
theorem dX6_turn_30 : decode cX6_turn 30 = .ok (.aload_n 3, 1) := by decide +kernel
theorem dX6_turn_31 : decode cX6_turn 31 = .ok (.invokevirtual 97, 3) := by decide +kernel
theorem dX6_turn_34 : decode cX6_turn 34 = .ok (.iconst 0, 1) := by decide +kernel
theorem dX6_turn_35 : decode cX6_turn 35 = .ok (.istore 4, 2) := by decide +kernel
theorem dX6_turn_37 : decode cX6_turn 37 = .ok (.iload 4, 2) := by decide +kernel
theorem dX6_turn_39 : decode cX6_turn 39 = .ok (.iload_n 2, 1) := by decide +kernel
theorem dX6_turn_40 : decode cX6_turn 40 = .ok (.if_icmp .ge 25, 3) := by decide +kernel
theorem dX6_turn_43 : decode cX6_turn 43 = .ok (.aload_n 0, 1) := by decide +kernel
theorem dX6_turn_44 : decode cX6_turn 44 = .ok (.getfield 16, 3) := by decide +kernel
theorem dX6_turn_47 : decode cX6_turn 47 = .ok (.aload_n 3, 1) := by decide +kernel
theorem dX6_turn_48 : decode cX6_turn 48 = .ok (.invokevirtual 155, 3) := by decide +kernel
theorem dX6_turn_51 : decode cX6_turn 51 = .ok (.aload_n 3, 1) := by decide +kernel
theorem dX6_turn_52 : decode cX6_turn 52 = .ok (.aload_n 0, 1) := by decide +kernel
theorem dX6_turn_53 : decode cX6_turn 53 = .ok (.getfield 16, 3) := by decide +kernel
theorem dX6_turn_56 : decode cX6_turn 56 = .ok (.invokevirtual 159, 3) := by decide +kernel
theorem dX6_turn_59 : decode cX6_turn 59 = .ok (.iinc 4 1, 3) := by decide +kernel
theorem dX6_turn_62 : decode cX6_turn 62 = .ok (.goto (-25), 3) := by decide +kernel
theorem dX6_turn_65 : decode cX6_turn 65 = .ok (.aload_n 3, 1) := by decide +kernel
theorem dX6_turn_66 : decode cX6_turn 66 = .ok (.invokevirtual 108, 3) := by decide +kernel
theorem dX6_turn_69 : decode cX6_turn 69 = .ok (.ireturn, 1) := by decide +kernel
theorem dX6_mirror_0 : decode cX6_mirror 0 = .ok (.aload_n 0, 1) := by decide +kernel
theorem dX6_mirror_1 : decode cX6_mirror 1 = .ok (.iload_n 1, 1) := by decide +kernel
theorem dX6_mirror_2 : decode cX6_mirror 2 = .ok (.invokevirtual 87, 3) := by decide +kernel
theorem dX6_mirror_5 : decode cX6_mirror 5 = .ok (.astore_n 2, 1) := by decide +kernel
theorem dX6_mirror_6 : decode cX6_mirror 6 = .ok (.aload_n 0, 1) := by decide +kernel
theorem dX6_mirror_7 : decode cX6_mirror 7 = .ok (.getfield 30, 3) := by decide +kernel
theorem dX6_mirror_10 : decode cX6_mirror 10 = .ok (.iload_n 1, 1) := by decide +kernel
theorem dX6_mirror_11 : decode cX6_mirror 11 = .ok (.aload_n 2, 1) := by decide +kernel
theorem dX6_mirror_12 : decode cX6_mirror 12 = .ok (.invokevirtual 97, 3) := by decide +kernel
theorem dX6_mirror_15 : decode cX6_mirror 15 = .ok (.bipush (-32), 2) := by decide +kernel
theorem dX6_mirror_17 : decode cX6_mirror 17 = .ok (.istore_n 3, 1) := by decide +kernel
theorem dX6_mirror_18 : decode cX6_mirror 18 = .ok (.iload_n 3, 1) := by decide +kernel
theorem dX6_mirror_19 : decode cX6_mirror 19 = .ok (.bipush 31, 2) := by decide +kernel
theorem dX6_mirror_21 : decode cX6_mirror 21 = .ok (.if_icmp .gt 22, 3) := by decide +kernel
theorem dX6_mirror_24 : decode cX6_mirror 24 = .ok (.aload_n 2, 1) := by decide +kernel
theorem dX6_mirror_25 : decode cX6_mirror 25 = .ok (.iload_n 3, 1) := by decide +kernel
theorem dX6_mirror_26 : decode cX6_mirror 26 = .ok (.aload_n 2, 1) := by decide +kernel
theorem dX6_mirror_27 : decode cX6_mirror 27 = .ok (.iload_n 3, 1) := by decide +kernel
theorem dX6_mirror_28 : decode cX6_mirror 28 = .ok (.invokevirtual 119, 3) := by decide +kernel
theorem dX6_mirror_31 : decode cX6_mirror 31 = .ok (.invokestatic 162, 3) := by decide +kernel
theorem dX6_mirror_34 : decode cX6_mirror 34 = .ok (.invokevirtual 123, 3) := by decide +kernel
theorem dX6_mirror_37 : decode cX6_mirror 37 = .ok (.iinc 3 1, 3) := by decide +kernel
theorem dX6_mirror_40 : decode cX6_mirror 40 = .ok (.goto (-22), 3) := by decide +kernel
theorem dX6_mirror_43 : decode cX6_mirror 43 = .ok (.aload_n 2, 1) := by decide +kernel
theorem dX6_mirror_44 : decode cX6_mirror 44 = .ok (.invokevirtual 108, 3) := by decide +kernel
theorem dX6_mirror_47 : decode cX6_mirror 47 = .ok (.ireturn, 1) := by decide +kernel
theorem dX6_grow_0 : decode cX6_grow 0 = .ok (.aload_n 0, 1) := by decide +kernel
theorem dX6_grow_1 : decode cX6_grow 1 = .ok (.iload_n 1, 1) := by decide +kernel
theorem dX6_grow_2 : decode cX6_grow 2 = .ok (.invokevirtual 87, 3) := by decide +kernel
theorem dX6_grow_5 : decode cX6_grow 5 = .ok (.astore 4, 2) := by decide +kernel
theorem dX6_grow_7 : decode cX6_grow 7 = .ok (.iload_n 2, 1) := by decide +kernel
theorem dX6_grow_8 : decode cX6_grow 8 = .ok (.iload_n 3, 1) := by decide +kernel
theorem dX6_grow_9 : decode cX6_grow 9 = .ok (.invokestatic 166, 3) := by decide +kernel
theorem dX6_grow_12 : decode cX6_grow 12 = .ok (.aload 4, 2) := by decide +kernel
theorem dX6_grow_14 : decode cX6_grow 14 = .ok (.invokevirtual 134, 3) := by decide +kernel
theorem dX6_grow_17 : decode cX6_grow 17 = .ok (.ifCond .ne 41, 3) := by decide +kernel
theorem dX6_grow_20 : decode cX6_grow 20 = .ok (.aload 4, 2) := by decide +kernel
theorem dX6_grow_22 : decode cX6_grow 22 = .ok (.invokevirtual 138, 3) := by decide +kernel
theorem dX6_grow_25 : decode cX6_grow 25 = .ok (.iload_n 2, 1) := by decide +kernel
theorem dX6_grow_26 : decode cX6_grow 26 = .ok (.isub, 1) := by decide +kernel
theorem dX6_grow_27 : decode cX6_grow 27 = .ok (.i2l, 1) := by decide +kernel
theorem dX6_grow_28 : decode cX6_grow 28 = .ok (.aload 4, 2) := by decide +kernel
theorem dX6_grow_30 : decode cX6_grow 30 = .ok (.invokevirtual 141, 3) := by decide +kernel
theorem dX6_grow_33 : decode cX6_grow 33 = .ok (.iload_n 2, 1) := by decide +kernel
theorem dX6_grow_34 : decode cX6_grow 34 = .ok (.iadd, 1) := by decide +kernel
theorem dX6_grow_35 : decode cX6_grow 35 = .ok (.i2l, 1) := by decide +kernel
theorem dX6_grow_36 : decode cX6_grow 36 = .ok (.invokestatic 113, 3) := by decide +kernel
theorem dX6_grow_39 : decode cX6_grow 39 = .ok (.aload 4, 2) := by decide +kernel
theorem dX6_grow_41 : decode cX6_grow 41 = .ok (.invokevirtual 144, 3) := by decide +kernel
theorem dX6_grow_44 : decode cX6_grow 44 = .ok (.iload_n 2, 1) := by decide +kernel
theorem dX6_grow_45 : decode cX6_grow 45 = .ok (.isub, 1) := by decide +kernel
theorem dX6_grow_46 : decode cX6_grow 46 = .ok (.i2l, 1) := by decide +kernel
theorem dX6_grow_47 : decode cX6_grow 47 = .ok (.aload 4, 2) := by decide +kernel
theorem dX6_grow_49 : decode cX6_grow 49 = .ok (.invokevirtual 147, 3) := by decide +kernel
theorem dX6_grow_52 : decode cX6_grow 52 = .ok (.iload_n 2, 1) := by decide +kernel
theorem dX6_grow_53 : decode cX6_grow 53 = .ok (.iadd, 1) := by decide +kernel
theorem dX6_grow_54 : decode cX6_grow 54 = .ok (.i2l, 1) := by decide +kernel
theorem dX6_grow_55 : decode cX6_grow 55 = .ok (.invokestatic 113, 3) := by decide +kernel
theorem dX6_grow_58 : decode cX6_grow 58 = .ok (.aload_n 0, 1) := by decide +kernel
theorem dX6_grow_59 : decode cX6_grow 59 = .ok (.getfield 30, 3) := by decide +kernel
theorem dX6_grow_62 : decode cX6_grow 62 = .ok (.iload_n 1, 1) := by decide +kernel
theorem dX6_grow_63 : decode cX6_grow 63 = .ok (.aload 4, 2) := by decide +kernel
theorem dX6_grow_65 : decode cX6_grow 65 = .ok (.invokevirtual 97, 3) := by decide +kernel
theorem dX6_grow_68 : decode cX6_grow 68 = .ok (.iconst 0, 1) := by decide +kernel
theorem dX6_grow_69 : decode cX6_grow 69 = .ok (.istore 5, 2) := by decide +kernel
theorem dX6_grow_71 : decode cX6_grow 71 = .ok (.iload 5, 2) := by decide +kernel
theorem dX6_grow_73 : decode cX6_grow 73 = .ok (.iload_n 2, 1) := by decide +kernel
theorem dX6_grow_74 : decode cX6_grow 74 = .ok (.if_icmp .ge 15, 3) := by decide +kernel
theorem dX6_grow_77 : decode cX6_grow 77 = .ok (.aload 4, 2) := by decide +kernel
theorem dX6_grow_79 : decode cX6_grow 79 = .ok (.iload_n 3, 1) := by decide +kernel
theorem dX6_grow_80 : decode cX6_grow 80 = .ok (.invokevirtual 169, 3) := by decide +kernel
theorem dX6_grow_83 : decode cX6_grow 83 = .ok (.iinc 5 1, 3) := by decide +kernel
theorem dX6_grow_86 : decode cX6_grow 86 = .ok (.goto (-15), 3) := by decide +kernel
theorem dX6_grow_89 : decode cX6_grow 89 = .ok (.aload 4, 2) := by decide +kernel
theorem dX6_grow_91 : decode cX6_grow 91 = .ok (.invokevirtual 108, 3) := by decide +kernel
theorem dX6_grow_94 : decode cX6_grow 94 = .ok (.ireturn, 1) := by decide +kernel
theorem dX6_shrink_0 : decode cX6_shrink 0 = .ok (.aload_n 0, 1) := by decide +kernel
theorem dX6_shrink_1 : decode cX6_shrink 1 = .ok (.iload_n 1, 1) := by decide +kernel
theorem dX6_shrink_2 : decode cX6_shrink 2 = .ok (.invokevirtual 87, 3) := by decide +kernel
theorem dX6_shrink_5 : decode cX6_shrink 5 = .ok (.astore 4, 2) := by decide +kernel
theorem dX6_shrink_7 : decode cX6_shrink 7 = .ok (.iload_n 2, 1) := by decide +kernel
theorem dX6_shrink_8 : decode cX6_shrink 8 = .ok (.iload_n 3, 1) := by decide +kernel
theorem dX6_shrink_9 : decode cX6_shrink 9 = .ok (.invokestatic 166, 3) := by decide +kernel
theorem dX6_shrink_12 : decode cX6_shrink 12 = .ok (.aload_n 0, 1) := by decide +kernel
theorem dX6_shrink_13 : decode cX6_shrink 13 = .ok (.getfield 30, 3) := by decide +kernel
theorem dX6_shrink_16 : decode cX6_shrink 16 = .ok (.iload_n 1, 1) := by decide +kernel
theorem dX6_shrink_17 : decode cX6_shrink 17 = .ok (.aload 4, 2) := by decide +kernel
theorem dX6_shrink_19 : decode cX6_shrink 19 = .ok (.invokevirtual 97, 3) := by decide +kernel
theorem dX6_shrink_22 : decode cX6_shrink 22 = .ok (.iconst 0, 1) := by decide +kernel
theorem dX6_shrink_23 : decode cX6_shrink 23 = .ok (.istore 5, 2) := by decide +kernel
theorem dX6_shrink_25 : decode cX6_shrink 25 = .ok (.iload 5, 2) := by decide +kernel
theorem dX6_shrink_27 : decode cX6_shrink 27 = .ok (.iload_n 2, 1) := by decide +kernel
theorem dX6_shrink_28 : decode cX6_shrink 28 = .ok (.if_icmp .ge 15, 3) := by decide +kernel
theorem dX6_shrink_31 : decode cX6_shrink 31 = .ok (.aload 4, 2) := by decide +kernel
theorem dX6_shrink_33 : decode cX6_shrink 33 = .ok (.iload_n 3, 1) := by decide +kernel
theorem dX6_shrink_34 : decode cX6_shrink 34 = .ok (.invokevirtual 173, 3) := by decide +kernel
theorem dX6_shrink_37 : decode cX6_shrink 37 = .ok (.iinc 5 1, 3) := by decide +kernel
theorem dX6_shrink_40 : decode cX6_shrink 40 = .ok (.goto (-15), 3) := by decide +kernel
theorem dX6_shrink_43 : decode cX6_shrink 43 = .ok (.aload 4, 2) := by decide +kernel
theorem dX6_shrink_45 : decode cX6_shrink 45 = .ok (.invokevirtual 108, 3) := by decide +kernel
theorem dX6_shrink_48 : decode cX6_shrink 48 = .ok (.ireturn, 1) := by decide +kernel
theorem dX6_fill_0 : decode cX6_fill 0 = .ok (.aload_n 0, 1) := by decide +kernel
theorem dX6_fill_1 : decode cX6_fill 1 = .ok (.iload_n 1, 1) := by decide +kernel
theorem dX6_fill_2 : decode cX6_fill 2 = .ok (.invokevirtual 87, 3) := by decide +kernel
theorem dX6_fill_5 : decode cX6_fill 5 = .ok (.astore_n 2, 1) := by decide +kernel
theorem dX6_fill_6 : decode cX6_fill 6 = .ok (.aload_n 0, 1) := by decide +kernel
theorem dX6_fill_7 : decode cX6_fill 7 = .ok (.getfield 30, 3) := by decide +kernel
theorem dX6_fill_10 : decode cX6_fill 10 = .ok (.iload_n 1, 1) := by decide +kernel
theorem dX6_fill_11 : decode cX6_fill 11 = .ok (.aload_n 2, 1) := by decide +kernel
theorem dX6_fill_12 : decode cX6_fill 12 = .ok (.invokevirtual 97, 3) := by decide +kernel
theorem dX6_fill_15 : decode cX6_fill 15 = .ok (.aload_n 0, 1) := by decide +kernel
theorem dX6_fill_16 : decode cX6_fill 16 = .ok (.getfield 37, 3) := by decide +kernel
theorem dX6_fill_19 : decode cX6_fill 19 = .ok (.aload_n 2, 1) := by decide +kernel
theorem dX6_fill_20 : decode cX6_fill 20 = .ok (.invokevirtual 176, 3) := by decide +kernel
theorem dX6_fill_23 : decode cX6_fill 23 = .ok (.ireturn, 1) := by decide +kernel
theorem dX6_keepPiece_0 : decode cX6_keepPiece 0 = .ok (.aload_n 0, 1) := by decide +kernel
theorem dX6_keepPiece_1 : decode cX6_keepPiece 1 = .ok (.iload_n 1, 1) := by decide +kernel
theorem dX6_keepPiece_2 : decode cX6_keepPiece 2 = .ok (.invokevirtual 87, 3) := by decide +kernel
theorem dX6_keepPiece_5 : decode cX6_keepPiece 5 = .ok (.astore 4, 2) := by decide +kernel
theorem dX6_keepPiece_7 : decode cX6_keepPiece 7 = .ok (.aload_n 0, 1) := by decide +kernel
theorem dX6_keepPiece_8 : decode cX6_keepPiece 8 = .ok (.getfield 30, 3) := by decide +kernel
theorem dX6_keepPiece_11 : decode cX6_keepPiece 11 = .ok (.iload_n 1, 1) := by decide +kernel
theorem dX6_keepPiece_12 : decode cX6_keepPiece 12 = .ok (.aload 4, 2) := by decide +kernel
theorem dX6_keepPiece_14 : decode cX6_keepPiece 14 = .ok (.invokevirtual 97, 3) := by decide +kernel
theorem dX6_keepPiece_17 : decode cX6_keepPiece 17 = .ok (.aload_n 0, 1) := by decide +kernel
theorem dX6_keepPiece_18 : decode cX6_keepPiece 18 = .ok (.getfield 37, 3) := by decide +kernel
theorem dX6_keepPiece_21 : decode cX6_keepPiece 21 = .ok (.aload 4, 2) := by decide +kernel
theorem dX6_keepPiece_23 : decode cX6_keepPiece 23 = .ok (.iload_n 2, 1) := by decide +kernel
theorem dX6_keepPiece_24 : decode cX6_keepPiece 24 = .ok (.iload_n 3, 1) := by decide +kernel
theorem dX6_keepPiece_25 : decode cX6_keepPiece 25 = .ok (.invokevirtual 180, 3) := by decide +kernel
theorem dX6_keepPiece_28 : decode cX6_keepPiece 28 = .ok (.aload 4, 2) := by decide +kernel
theorem dX6_keepPiece_30 : decode cX6_keepPiece 30 = .ok (.invokevirtual 108, 3) := by decide +kernel
theorem dX6_keepPiece_33 : decode cX6_keepPiece 33 = .ok (.ireturn, 1) := by decide +kernel
theorem dX6_clear_0 : decode cX6_clear 0 = .ok (.aload_n 0, 1) := by decide +kernel
theorem dX6_clear_1 : decode cX6_clear 1 = .ok (.iload_n 1, 1) := by decide +kernel
theorem dX6_clear_2 : decode cX6_clear 2 = .ok (.invokevirtual 87, 3) := by decide +kernel
theorem dX6_clear_5 : decode cX6_clear 5 = .ok (.astore_n 2, 1) := by decide +kernel
theorem dX6_clear_6 : decode cX6_clear 6 = .ok (.aload_n 0, 1) := by decide +kernel
theorem dX6_clear_7 : decode cX6_clear 7 = .ok (.getfield 30, 3) := by decide +kernel
theorem dX6_clear_10 : decode cX6_clear 10 = .ok (.iload_n 1, 1) := by decide +kernel
theorem dX6_clear_11 : decode cX6_clear 11 = .ok (.aload_n 2, 1) := by decide +kernel
theorem dX6_clear_12 : decode cX6_clear 12 = .ok (.invokevirtual 97, 3) := by decide +kernel
theorem dX6_clear_15 : decode cX6_clear 15 = .ok (.aload_n 2, 1) := by decide +kernel
theorem dX6_clear_16 : decode cX6_clear 16 = .ok (.invokevirtual 108, 3) := by decide +kernel
theorem dX6_clear_19 : decode cX6_clear 19 = .ok (.istore_n 3, 1) := by decide +kernel
theorem dX6_clear_20 : decode cX6_clear 20 = .ok (.aload_n 2, 1) := by decide +kernel
theorem dX6_clear_21 : decode cX6_clear 21 = .ok (.invokevirtual 184, 3) := by decide +kernel
theorem dX6_clear_24 : decode cX6_clear 24 = .ok (.iload_n 3, 1) := by decide +kernel
theorem dX6_clear_25 : decode cX6_clear 25 = .ok (.ireturn, 1) := by decide +kernel
theorem dX6_undo_0 : decode cX6_undo 0 = .ok (.aload_n 0, 1) := by decide +kernel
theorem dX6_undo_1 : decode cX6_undo 1 = .ok (.getfield 30, 3) := by decide +kernel
theorem dX6_undo_4 : decode cX6_undo 4 = .ok (.invokevirtual 187, 3) := by decide +kernel
theorem dX6_undo_7 : decode cX6_undo 7 = .ok (.istore_n 1, 1) := by decide +kernel
theorem dX6_undo_8 : decode cX6_undo 8 = .ok (.iload_n 1, 1) := by decide +kernel
theorem dX6_undo_9 : decode cX6_undo 9 = .ok (.ifCond .lt 25, 3) := by decide +kernel
theorem dX6_undo_12 : decode cX6_undo 12 = .ok (.iload_n 1, 1) := by decide +kernel
theorem dX6_undo_13 : decode cX6_undo 13 = .ok (.aload_n 0, 1) := by decide +kernel
theorem dX6_undo_14 : decode cX6_undo 14 = .ok (.getfield 11, 3) := by decide +kernel
theorem dX6_undo_17 : decode cX6_undo 17 = .ok (.arraylength, 1) := by decide +kernel
theorem dX6_undo_18 : decode cX6_undo 18 = .ok (.if_icmp .ge 16, 3) := by decide +kernel
theorem dX6_undo_21 : decode cX6_undo 21 = .ok (.aload_n 0, 1) := by decide +kernel
theorem dX6_undo_22 : decode cX6_undo 22 = .ok (.getfield 30, 3) := by decide +kernel
theorem dX6_undo_25 : decode cX6_undo 25 = .ok (.aload_n 0, 1) := by decide +kernel
theorem dX6_undo_26 : decode cX6_undo 26 = .ok (.getfield 11, 3) := by decide +kernel
theorem dX6_undo_29 : decode cX6_undo 29 = .ok (.iload_n 1, 1) := by decide +kernel
theorem dX6_undo_30 : decode cX6_undo 30 = .ok (.aaload, 1) := by decide +kernel
theorem dX6_undo_31 : decode cX6_undo 31 = .ok (.invokevirtual 190, 3) := by decide +kernel
theorem dX6_undo_34 : decode cX6_undo 34 = .ok (.iload_n 1, 1) := by decide +kernel
theorem dX6_undo_35 : decode cX6_undo 35 = .ok (.ireturn, 1) := by decide +kernel
theorem dX6_area_0 : decode cX6_area 0 = .ok (.aload_n 0, 1) := by decide +kernel
theorem dX6_area_1 : decode cX6_area 1 = .ok (.iload_n 1, 1) := by decide +kernel
theorem dX6_area_2 : decode cX6_area 2 = .ok (.invokevirtual 87, 3) := by decide +kernel
theorem dX6_area_5 : decode cX6_area 5 = .ok (.invokevirtual 108, 3) := by decide +kernel
theorem dX6_area_8 : decode cX6_area 8 = .ok (.ireturn, 1) := by decide +kernel
theorem dX6_edges_0 : decode cX6_edges 0 = .ok (.aload_n 0, 1) := by decide +kernel
theorem dX6_edges_1 : decode cX6_edges 1 = .ok (.iload_n 1, 1) := by decide +kernel
theorem dX6_edges_2 : decode cX6_edges 2 = .ok (.invokevirtual 87, 3) := by decide +kernel
theorem dX6_edges_5 : decode cX6_edges 5 = .ok (.invokevirtual 193, 3) := by decide +kernel
theorem dX6_edges_8 : decode cX6_edges 8 = .ok (.ireturn, 1) := by decide +kernel
theorem dX6_pieces_0 : decode cX6_pieces 0 = .ok (.aload_n 0, 1) := by decide +kernel
theorem dX6_pieces_1 : decode cX6_pieces 1 = .ok (.getfield 37, 3) := by decide +kernel
theorem dX6_pieces_4 : decode cX6_pieces 4 = .ok (.aload_n 0, 1) := by decide +kernel
theorem dX6_pieces_5 : decode cX6_pieces 5 = .ok (.iload_n 1, 1) := by decide +kernel
theorem dX6_pieces_6 : decode cX6_pieces 6 = .ok (.invokevirtual 87, 3) := by decide +kernel
theorem dX6_pieces_9 : decode cX6_pieces 9 = .ok (.invokevirtual 196, 3) := by decide +kernel
theorem dX6_pieces_12 : decode cX6_pieces 12 = .ok (.ireturn, 1) := by decide +kernel
theorem dX6_holes_0 : decode cX6_holes 0 = .ok (.aload_n 0, 1) := by decide +kernel
theorem dX6_holes_1 : decode cX6_holes 1 = .ok (.getfield 37, 3) := by decide +kernel
theorem dX6_holes_4 : decode cX6_holes 4 = .ok (.aload_n 0, 1) := by decide +kernel
theorem dX6_holes_5 : decode cX6_holes 5 = .ok (.iload_n 1, 1) := by decide +kernel
theorem dX6_holes_6 : decode cX6_holes 6 = .ok (.invokevirtual 87, 3) := by decide +kernel
theorem dX6_holes_9 : decode cX6_holes 9 = .ok (.invokevirtual 199, 3) := by decide +kernel
theorem dX6_holes_12 : decode cX6_holes 12 = .ok (.ireturn, 1) := by decide +kernel
theorem dX6_has_0 : decode cX6_has 0 = .ok (.aload_n 0, 1) := by decide +kernel
theorem dX6_has_1 : decode cX6_has 1 = .ok (.iload_n 1, 1) := by decide +kernel
theorem dX6_has_2 : decode cX6_has 2 = .ok (.invokevirtual 87, 3) := by decide +kernel
theorem dX6_has_5 : decode cX6_has 5 = .ok (.iload_n 2, 1) := by decide +kernel
theorem dX6_has_6 : decode cX6_has 6 = .ok (.iload_n 3, 1) := by decide +kernel
theorem dX6_has_7 : decode cX6_has 7 = .ok (.invokevirtual 202, 3) := by decide +kernel
theorem dX6_has_10 : decode cX6_has 10 = .ok (.ireturn, 1) := by decide +kernel
theorem dX6_bound_0 : decode cX6_bound 0 = .ok (.aload_n 0, 1) := by decide +kernel
theorem dX6_bound_1 : decode cX6_bound 1 = .ok (.iload_n 1, 1) := by decide +kernel
theorem dX6_bound_2 : decode cX6_bound 2 = .ok (.invokevirtual 87, 3) := by decide +kernel
theorem dX6_bound_5 : decode cX6_bound 5 = .ok (.astore_n 3, 1) := by decide +kernel
theorem dX6_bound_6 : decode cX6_bound 6 = .ok (.iconst 0, 1) := by decide +kernel
theorem dX6_bound_7 : decode cX6_bound 7 = .ok (.iload_n 2, 1) := by decide +kernel
theorem dX6_bound_8 : decode cX6_bound 8 = .ok (.iconst 3, 1) := by decide +kernel
theorem dX6_bound_9 : decode cX6_bound 9 = .ok (.invokestatic 91, 3) := by decide +kernel
theorem dX6_bound_12 : decode cX6_bound 12 = .ok (.ifCond .ne 13, 3) := by decide +kernel
theorem dX6_bound_15 : decode cX6_bound 15 = .ok (.new 59, 3) := by decide +kernel
theorem dX6_bound_18 : decode cX6_bound 18 = .ok (.dup, 1) := by decide +kernel
theorem dX6_bound_19 : decode cX6_bound 19 = .ok (.ldc 206, 2) := by decide +kernel
theorem dX6_bound_21 : decode cX6_bound 21 = .ok (.invokespecial 63, 3) := by decide +kernel
theorem dX6_bound_24 : decode cX6_bound 24 = .ok (.athrow, 1) := by decide +kernel
theorem dX6_bound_25 : decode cX6_bound 25 = .ok (.aload_n 3, 1) := by decide +kernel
theorem dX6_bound_26 : decode cX6_bound 26 = .ok (.iload_n 2, 1) := by decide +kernel
theorem dX6_bound_27 : decode cX6_bound 27 = .ok (.invokestatic 208, 3) := by decide +kernel
theorem dX6_bound_30 : decode cX6_bound 30 = .ok (.ireturn, 1) := by decide +kernel
theorem dX6_contours_0 : decode cX6_contours 0 = .ok (.aload_n 0, 1) := by decide +kernel
theorem dX6_contours_1 : decode cX6_contours 1 = .ok (.getfield 44, 3) := by decide +kernel
theorem dX6_contours_4 : decode cX6_contours 4 = .ok (.aload_n 0, 1) := by decide +kernel
theorem dX6_contours_5 : decode cX6_contours 5 = .ok (.iload_n 1, 1) := by decide +kernel
theorem dX6_contours_6 : decode cX6_contours 6 = .ok (.invokevirtual 87, 3) := by decide +kernel
theorem dX6_contours_9 : decode cX6_contours 9 = .ok (.invokevirtual 212, 3) := by decide +kernel
theorem dX6_contours_12 : decode cX6_contours 12 = .ok (.ireturn, 1) := by decide +kernel
theorem dX6_corners_0 : decode cX6_corners 0 = .ok (.aload_n 0, 1) := by decide +kernel
theorem dX6_corners_1 : decode cX6_corners 1 = .ok (.iload_n 1, 1) := by decide +kernel
theorem dX6_corners_2 : decode cX6_corners 2 = .ok (.iload_n 2, 1) := by decide +kernel
theorem dX6_corners_3 : decode cX6_corners 3 = .ok (.iconst 0, 1) := by decide +kernel
theorem dX6_corners_4 : decode cX6_corners 4 = .ok (.invokevirtual 215, 3) := by decide +kernel
theorem dX6_corners_7 : decode cX6_corners 7 = .ok (.aload_n 0, 1) := by decide +kernel
theorem dX6_corners_8 : decode cX6_corners 8 = .ok (.getfield 44, 3) := by decide +kernel
theorem dX6_corners_11 : decode cX6_corners 11 = .ok (.invokevirtual 219, 3) := by decide +kernel
theorem dX6_corners_14 : decode cX6_corners 14 = .ok (.ireturn, 1) := by decide +kernel
theorem dX6_cornerX_0 : decode cX6_cornerX 0 = .ok (.aload_n 0, 1) := by decide +kernel
theorem dX6_cornerX_1 : decode cX6_cornerX 1 = .ok (.iload_n 1, 1) := by decide +kernel
theorem dX6_cornerX_2 : decode cX6_cornerX 2 = .ok (.iload_n 2, 1) := by decide +kernel
theorem dX6_cornerX_3 : decode cX6_cornerX 3 = .ok (.iload_n 3, 1) := by decide +kernel
theorem dX6_cornerX_4 : decode cX6_cornerX 4 = .ok (.invokevirtual 215, 3) := by decide +kernel
theorem dX6_cornerX_7 : decode cX6_cornerX 7 = .ok (.aload_n 0, 1) := by decide +kernel
theorem dX6_cornerX_8 : decode cX6_cornerX 8 = .ok (.getfield 44, 3) := by decide +kernel
theorem dX6_cornerX_11 : decode cX6_cornerX 11 = .ok (.invokevirtual 222, 3) := by decide +kernel
theorem dX6_cornerX_14 : decode cX6_cornerX 14 = .ok (.ireturn, 1) := by decide +kernel
theorem dX6_cornerY_0 : decode cX6_cornerY 0 = .ok (.aload_n 0, 1) := by decide +kernel
theorem dX6_cornerY_1 : decode cX6_cornerY 1 = .ok (.iload_n 1, 1) := by decide +kernel
theorem dX6_cornerY_2 : decode cX6_cornerY 2 = .ok (.iload_n 2, 1) := by decide +kernel
theorem dX6_cornerY_3 : decode cX6_cornerY 3 = .ok (.iload_n 3, 1) := by decide +kernel
theorem dX6_cornerY_4 : decode cX6_cornerY 4 = .ok (.invokevirtual 215, 3) := by decide +kernel
theorem dX6_cornerY_7 : decode cX6_cornerY 7 = .ok (.aload_n 0, 1) := by decide +kernel
theorem dX6_cornerY_8 : decode cX6_cornerY 8 = .ok (.getfield 44, 3) := by decide +kernel
theorem dX6_cornerY_11 : decode cX6_cornerY 11 = .ok (.invokevirtual 225, 3) := by decide +kernel
theorem dX6_cornerY_14 : decode cX6_cornerY 14 = .ok (.ireturn, 1) := by decide +kernel
theorem dX6_areaOf_0 : decode cX6_areaOf 0 = .ok (.aload_n 0, 1) := by decide +kernel
theorem dX6_areaOf_1 : decode cX6_areaOf 1 = .ok (.iload_n 1, 1) := by decide +kernel
theorem dX6_areaOf_2 : decode cX6_areaOf 2 = .ok (.iload_n 2, 1) := by decide +kernel
theorem dX6_areaOf_3 : decode cX6_areaOf 3 = .ok (.iconst 0, 1) := by decide +kernel
theorem dX6_areaOf_4 : decode cX6_areaOf 4 = .ok (.invokevirtual 215, 3) := by decide +kernel
theorem dX6_areaOf_7 : decode cX6_areaOf 7 = .ok (.aload_n 0, 1) := by decide +kernel
theorem dX6_areaOf_8 : decode cX6_areaOf 8 = .ok (.getfield 44, 3) := by decide +kernel
theorem dX6_areaOf_11 : decode cX6_areaOf 11 = .ok (.invokevirtual 228, 3) := by decide +kernel
theorem dX6_areaOf_14 : decode cX6_areaOf 14 = .ok (.ireturn, 1) := by decide +kernel
theorem dX6_strips_0 : decode cX6_strips 0 = .ok (.aload_n 0, 1) := by decide +kernel
theorem dX6_strips_1 : decode cX6_strips 1 = .ok (.getfield 51, 3) := by decide +kernel
theorem dX6_strips_4 : decode cX6_strips 4 = .ok (.aload_n 0, 1) := by decide +kernel
theorem dX6_strips_5 : decode cX6_strips 5 = .ok (.iload_n 1, 1) := by decide +kernel
theorem dX6_strips_6 : decode cX6_strips 6 = .ok (.invokevirtual 87, 3) := by decide +kernel
theorem dX6_strips_9 : decode cX6_strips 9 = .ok (.invokevirtual 231, 3) := by decide +kernel
theorem dX6_strips_12 : decode cX6_strips 12 = .ok (.ireturn, 1) := by decide +kernel
theorem dX6_strip_0 : decode cX6_strip 0 = .ok (.aload_n 0, 1) := by decide +kernel
theorem dX6_strip_1 : decode cX6_strip 1 = .ok (.iload_n 1, 1) := by decide +kernel
theorem dX6_strip_2 : decode cX6_strip 2 = .ok (.invokevirtual 87, 3) := by decide +kernel
theorem dX6_strip_5 : decode cX6_strip 5 = .ok (.astore 4, 2) := by decide +kernel
theorem dX6_strip_7 : decode cX6_strip 7 = .ok (.aload_n 0, 1) := by decide +kernel
theorem dX6_strip_8 : decode cX6_strip 8 = .ok (.getfield 51, 3) := by decide +kernel
theorem dX6_strip_11 : decode cX6_strip 11 = .ok (.aload 4, 2) := by decide +kernel
theorem dX6_strip_13 : decode cX6_strip 13 = .ok (.iload_n 2, 1) := by decide +kernel
theorem dX6_strip_14 : decode cX6_strip 14 = .ok (.invokevirtual 234, 3) := by decide +kernel
theorem dX6_strip_17 : decode cX6_strip 17 = .ok (.ifCond .ne 13, 3) := by decide +kernel
theorem dX6_strip_20 : decode cX6_strip 20 = .ok (.new 238, 3) := by decide +kernel
theorem dX6_strip_23 : decode cX6_strip 23 = .ok (.dup, 1) := by decide +kernel
theorem dX6_strip_24 : decode cX6_strip 24 = .ok (.ldc 240, 2) := by decide +kernel
theorem dX6_strip_26 : decode cX6_strip 26 = .ok (.invokespecial 242, 3) := by decide +kernel
theorem dX6_strip_29 : decode cX6_strip 29 = .ok (.athrow, 1) := by decide +kernel
theorem dX6_strip_30 : decode cX6_strip 30 = .ok (.iconst 0, 1) := by decide +kernel
theorem dX6_strip_31 : decode cX6_strip 31 = .ok (.iload_n 3, 1) := by decide +kernel
theorem dX6_strip_32 : decode cX6_strip 32 = .ok (.iconst 3, 1) := by decide +kernel
theorem dX6_strip_33 : decode cX6_strip 33 = .ok (.invokestatic 91, 3) := by decide +kernel
theorem dX6_strip_36 : decode cX6_strip 36 = .ok (.ifCond .ne 13, 3) := by decide +kernel
theorem dX6_strip_39 : decode cX6_strip 39 = .ok (.new 59, 3) := by decide +kernel
theorem dX6_strip_42 : decode cX6_strip 42 = .ok (.dup, 1) := by decide +kernel
theorem dX6_strip_43 : decode cX6_strip 43 = .ok (.ldc 243, 2) := by decide +kernel
theorem dX6_strip_45 : decode cX6_strip 45 = .ok (.invokespecial 63, 3) := by decide +kernel
theorem dX6_strip_48 : decode cX6_strip 48 = .ok (.athrow, 1) := by decide +kernel
theorem dX6_strip_49 : decode cX6_strip 49 = .ok (.aload_n 0, 1) := by decide +kernel
theorem dX6_strip_50 : decode cX6_strip 50 = .ok (.getfield 51, 3) := by decide +kernel
theorem dX6_strip_53 : decode cX6_strip 53 = .ok (.iload_n 3, 1) := by decide +kernel
theorem dX6_strip_54 : decode cX6_strip 54 = .ok (.invokevirtual 245, 3) := by decide +kernel
theorem dX6_strip_57 : decode cX6_strip 57 = .ok (.ireturn, 1) := by decide +kernel
theorem dX6_hatch_0 : decode cX6_hatch 0 = .ok (.aload_n 0, 1) := by decide +kernel
theorem dX6_hatch_1 : decode cX6_hatch 1 = .ok (.iload_n 1, 1) := by decide +kernel
theorem dX6_hatch_2 : decode cX6_hatch 2 = .ok (.invokevirtual 87, 3) := by decide +kernel
theorem dX6_hatch_5 : decode cX6_hatch 5 = .ok (.astore 5, 2) := by decide +kernel
theorem dX6_hatch_7 : decode cX6_hatch 7 = .ok (.iload_n 2, 1) := by decide +kernel
theorem dX6_hatch_8 : decode cX6_hatch 8 = .ok (.iload_n 3, 1) := by decide +kernel
theorem dX6_hatch_9 : decode cX6_hatch 9 = .ok (.iload 4, 2) := by decide +kernel
theorem dX6_hatch_11 : decode cX6_hatch 11 = .ok (.invokestatic 249, 3) := by decide +kernel
theorem dX6_hatch_14 : decode cX6_hatch 14 = .ok (.iconst 0, 1) := by decide +kernel
theorem dX6_hatch_15 : decode cX6_hatch 15 = .ok (.istore 6, 2) := by decide +kernel
theorem dX6_hatch_17 : decode cX6_hatch 17 = .ok (.bipush (-32), 2) := by decide +kernel
theorem dX6_hatch_19 : decode cX6_hatch 19 = .ok (.istore 7, 2) := by decide +kernel
theorem dX6_hatch_21 : decode cX6_hatch 21 = .ok (.iload 7, 2) := by decide +kernel
theorem dX6_hatch_23 : decode cX6_hatch 23 = .ok (.bipush 31, 2) := by decide +kernel
theorem dX6_hatch_25 : decode cX6_hatch 25 = .ok (.if_icmp .gt 51, 3) := by decide +kernel
theorem dX6_hatch_28 : decode cX6_hatch 28 = .ok (.aload 5, 2) := by decide +kernel
theorem dX6_hatch_30 : decode cX6_hatch 30 = .ok (.iload 7, 2) := by decide +kernel
theorem dX6_hatch_32 : decode cX6_hatch 32 = .ok (.invokevirtual 119, 3) := by decide +kernel
theorem dX6_hatch_35 : decode cX6_hatch 35 = .ok (.aload 5, 2) := by decide +kernel
theorem dX6_hatch_37 : decode cX6_hatch 37 = .ok (.iload 7, 2) := by decide +kernel
theorem dX6_hatch_39 : decode cX6_hatch 39 = .ok (.iload_n 2, 1) := by decide +kernel
theorem dX6_hatch_40 : decode cX6_hatch 40 = .ok (.invokestatic 252, 3) := by decide +kernel
theorem dX6_hatch_43 : decode cX6_hatch 43 = .ok (.ldc2_w 117, 3) := by decide +kernel
theorem dX6_hatch_46 : decode cX6_hatch 46 = .ok (.lxor, 1) := by decide +kernel
theorem dX6_hatch_47 : decode cX6_hatch 47 = .ok (.land, 1) := by decide +kernel
theorem dX6_hatch_48 : decode cX6_hatch 48 = .ok (.lstore 8, 2) := by decide +kernel
theorem dX6_hatch_50 : decode cX6_hatch 50 = .ok (.iload 6, 2) := by decide +kernel
theorem dX6_hatch_52 : decode cX6_hatch 52 = .ok (.lload 8, 2) := by decide +kernel
theorem dX6_hatch_54 : decode cX6_hatch 54 = .ok (.iload 7, 2) := by decide +kernel
theorem dX6_hatch_56 : decode cX6_hatch 56 = .ok (.iload_n 2, 1) := by decide +kernel
theorem dX6_hatch_57 : decode cX6_hatch 57 = .ok (.iload_n 3, 1) := by decide +kernel
theorem dX6_hatch_58 : decode cX6_hatch 58 = .ok (.iload 4, 2) := by decide +kernel
theorem dX6_hatch_60 : decode cX6_hatch 60 = .ok (.invokestatic 256, 3) := by decide +kernel
theorem dX6_hatch_63 : decode cX6_hatch 63 = .ok (.land, 1) := by decide +kernel
theorem dX6_hatch_64 : decode cX6_hatch 64 = .ok (.invokestatic 260, 3) := by decide +kernel
theorem dX6_hatch_67 : decode cX6_hatch 67 = .ok (.iadd, 1) := by decide +kernel
theorem dX6_hatch_68 : decode cX6_hatch 68 = .ok (.istore 6, 2) := by decide +kernel
theorem dX6_hatch_70 : decode cX6_hatch 70 = .ok (.iinc 7 1, 3) := by decide +kernel
theorem dX6_hatch_73 : decode cX6_hatch 73 = .ok (.goto (-52), 3) := by decide +kernel
theorem dX6_hatch_76 : decode cX6_hatch 76 = .ok (.iload 6, 2) := by decide +kernel
theorem dX6_hatch_78 : decode cX6_hatch 78 = .ok (.ireturn, 1) := by decide +kernel
theorem dX6_hatched_0 : decode cX6_hatched 0 = .ok (.aload_n 0, 1) := by decide +kernel
theorem dX6_hatched_1 : decode cX6_hatched 1 = .ok (.iload_n 1, 1) := by decide +kernel
theorem dX6_hatched_2 : decode cX6_hatched 2 = .ok (.invokevirtual 87, 3) := by decide +kernel
theorem dX6_hatched_5 : decode cX6_hatched 5 = .ok (.astore 5, 2) := by decide +kernel
theorem dX6_hatched_7 : decode cX6_hatched 7 = .ok (.iload_n 2, 1) := by decide +kernel
theorem dX6_hatched_8 : decode cX6_hatched 8 = .ok (.iload_n 3, 1) := by decide +kernel
theorem dX6_hatched_9 : decode cX6_hatched 9 = .ok (.iload 4, 2) := by decide +kernel
theorem dX6_hatched_11 : decode cX6_hatched 11 = .ok (.invokestatic 249, 3) := by decide +kernel
theorem dX6_hatched_14 : decode cX6_hatched 14 = .ok (.iconst 0, 1) := by decide +kernel
theorem dX6_hatched_15 : decode cX6_hatched 15 = .ok (.istore 6, 2) := by decide +kernel
theorem dX6_hatched_17 : decode cX6_hatched 17 = .ok (.bipush (-32), 2) := by decide +kernel
theorem dX6_hatched_19 : decode cX6_hatched 19 = .ok (.istore 7, 2) := by decide +kernel
theorem dX6_hatched_21 : decode cX6_hatched 21 = .ok (.iload 7, 2) := by decide +kernel
theorem dX6_hatched_23 : decode cX6_hatched 23 = .ok (.bipush 31, 2) := by decide +kernel
theorem dX6_hatched_25 : decode cX6_hatched 25 = .ok (.if_icmp .gt 34, 3) := by decide +kernel
theorem dX6_hatched_28 : decode cX6_hatched 28 = .ok (.iload 6, 2) := by decide +kernel
theorem dX6_hatched_30 : decode cX6_hatched 30 = .ok (.aload 5, 2) := by decide +kernel
theorem dX6_hatched_32 : decode cX6_hatched 32 = .ok (.iload 7, 2) := by decide +kernel
theorem dX6_hatched_34 : decode cX6_hatched 34 = .ok (.invokevirtual 119, 3) := by decide +kernel
theorem dX6_hatched_37 : decode cX6_hatched 37 = .ok (.iload 7, 2) := by decide +kernel
theorem dX6_hatched_39 : decode cX6_hatched 39 = .ok (.iload_n 2, 1) := by decide +kernel
theorem dX6_hatched_40 : decode cX6_hatched 40 = .ok (.iload_n 3, 1) := by decide +kernel
theorem dX6_hatched_41 : decode cX6_hatched 41 = .ok (.iload 4, 2) := by decide +kernel
theorem dX6_hatched_43 : decode cX6_hatched 43 = .ok (.invokestatic 256, 3) := by decide +kernel
theorem dX6_hatched_46 : decode cX6_hatched 46 = .ok (.land, 1) := by decide +kernel
theorem dX6_hatched_47 : decode cX6_hatched 47 = .ok (.invokestatic 260, 3) := by decide +kernel
theorem dX6_hatched_50 : decode cX6_hatched 50 = .ok (.iadd, 1) := by decide +kernel
theorem dX6_hatched_51 : decode cX6_hatched 51 = .ok (.istore 6, 2) := by decide +kernel
theorem dX6_hatched_53 : decode cX6_hatched 53 = .ok (.iinc 7 1, 3) := by decide +kernel
theorem dX6_hatched_56 : decode cX6_hatched 56 = .ok (.goto (-35), 3) := by decide +kernel
theorem dX6_hatched_59 : decode cX6_hatched 59 = .ok (.iload 6, 2) := by decide +kernel
theorem dX6_hatched_61 : decode cX6_hatched 61 = .ok (.ireturn, 1) := by decide +kernel
theorem dX6_apart_0 : decode cX6_apart 0 = .ok (.aload_n 0, 1) := by decide +kernel
theorem dX6_apart_1 : decode cX6_apart 1 = .ok (.iload_n 1, 1) := by decide +kernel
theorem dX6_apart_2 : decode cX6_apart 2 = .ok (.invokevirtual 87, 3) := by decide +kernel
theorem dX6_apart_5 : decode cX6_apart 5 = .ok (.astore_n 3, 1) := by decide +kernel
theorem dX6_apart_6 : decode cX6_apart 6 = .ok (.aload_n 0, 1) := by decide +kernel
theorem dX6_apart_7 : decode cX6_apart 7 = .ok (.iload_n 2, 1) := by decide +kernel
theorem dX6_apart_8 : decode cX6_apart 8 = .ok (.invokevirtual 87, 3) := by decide +kernel
theorem dX6_apart_11 : decode cX6_apart 11 = .ok (.astore 4, 2) := by decide +kernel
theorem dX6_apart_13 : decode cX6_apart 13 = .ok (.aload_n 3, 1) := by decide +kernel
theorem dX6_apart_14 : decode cX6_apart 14 = .ok (.invokevirtual 134, 3) := by decide +kernel
theorem dX6_apart_17 : decode cX6_apart 17 = .ok (.ifCond .ne 11, 3) := by decide +kernel
theorem dX6_apart_20 : decode cX6_apart 20 = .ok (.aload 4, 2) := by decide +kernel
theorem dX6_apart_22 : decode cX6_apart 22 = .ok (.invokevirtual 134, 3) := by decide +kernel
theorem dX6_apart_25 : decode cX6_apart 25 = .ok (.ifCond .eq 5, 3) := by decide +kernel
theorem dX6_apart_28 : decode cX6_apart 28 = .ok (.iconst (-1), 1) := by decide +kernel
theorem dX6_apart_29 : decode cX6_apart 29 = .ok (.ireturn, 1) := by decide +kernel
theorem dX6_apart_30 : decode cX6_apart 30 = .ok (.aload_n 0, 1) := by decide +kernel
theorem dX6_apart_31 : decode cX6_apart 31 = .ok (.getfield 16, 3) := by decide +kernel
theorem dX6_apart_34 : decode cX6_apart 34 = .ok (.aload_n 3, 1) := by decide +kernel
theorem dX6_apart_35 : decode cX6_apart 35 = .ok (.invokevirtual 155, 3) := by decide +kernel
theorem dX6_apart_38 : decode cX6_apart 38 = .ok (.iconst 0, 1) := by decide +kernel
theorem dX6_apart_39 : decode cX6_apart 39 = .ok (.istore 5, 2) := by decide +kernel
theorem dX6_apart_41 : decode cX6_apart 41 = .ok (.iload 5, 2) := by decide +kernel
theorem dX6_apart_43 : decode cX6_apart 43 = .ok (.bipush 64, 2) := by decide +kernel
theorem dX6_apart_45 : decode cX6_apart 45 = .ok (.if_icmp .ge 29, 3) := by decide +kernel
theorem dX6_apart_48 : decode cX6_apart 48 = .ok (.aload_n 0, 1) := by decide +kernel
theorem dX6_apart_49 : decode cX6_apart 49 = .ok (.getfield 16, 3) := by decide +kernel
theorem dX6_apart_52 : decode cX6_apart 52 = .ok (.aload 4, 2) := by decide +kernel
theorem dX6_apart_54 : decode cX6_apart 54 = .ok (.invokevirtual 266, 3) := by decide +kernel
theorem dX6_apart_57 : decode cX6_apart 57 = .ok (.ifCond .ne 17, 3) := by decide +kernel
theorem dX6_apart_60 : decode cX6_apart 60 = .ok (.aload_n 0, 1) := by decide +kernel
theorem dX6_apart_61 : decode cX6_apart 61 = .ok (.getfield 16, 3) := by decide +kernel
theorem dX6_apart_64 : decode cX6_apart 64 = .ok (.iconst 0, 1) := by decide +kernel
theorem dX6_apart_65 : decode cX6_apart 65 = .ok (.invokevirtual 169, 3) := by decide +kernel
theorem dX6_apart_68 : decode cX6_apart 68 = .ok (.iinc 5 1, 3) := by decide +kernel
theorem dX6_apart_71 : decode cX6_apart 71 = .ok (.goto (-30), 3) := by decide +kernel
theorem dX6_apart_74 : decode cX6_apart 74 = .ok (.iload 5, 2) := by decide +kernel
theorem dX6_apart_76 : decode cX6_apart 76 = .ok (.ireturn, 1) := by decide +kernel
theorem dX6_isSameForm_0 : decode cX6_isSameForm 0 = .ok (.aload_n 0, 1) := by decide +kernel
theorem dX6_isSameForm_1 : decode cX6_isSameForm 1 = .ok (.iload_n 1, 1) := by decide +kernel
theorem dX6_isSameForm_2 : decode cX6_isSameForm 2 = .ok (.invokevirtual 87, 3) := by decide +kernel
theorem dX6_isSameForm_5 : decode cX6_isSameForm 5 = .ok (.astore_n 3, 1) := by decide +kernel
theorem dX6_isSameForm_6 : decode cX6_isSameForm 6 = .ok (.aload_n 0, 1) := by decide +kernel
theorem dX6_isSameForm_7 : decode cX6_isSameForm 7 = .ok (.iload_n 2, 1) := by decide +kernel
theorem dX6_isSameForm_8 : decode cX6_isSameForm 8 = .ok (.invokevirtual 87, 3) := by decide +kernel
theorem dX6_isSameForm_11 : decode cX6_isSameForm 11 = .ok (.astore 4, 2) := by decide +kernel
theorem dX6_isSameForm_13 : decode cX6_isSameForm 13 = .ok (.aload_n 3, 1) := by decide +kernel
theorem dX6_isSameForm_14 : decode cX6_isSameForm 14 = .ok (.invokevirtual 108, 3) := by decide +kernel
theorem dX6_isSameForm_17 : decode cX6_isSameForm 17 = .ok (.aload 4, 2) := by decide +kernel
theorem dX6_isSameForm_19 : decode cX6_isSameForm 19 = .ok (.invokevirtual 108, 3) := by decide +kernel
theorem dX6_isSameForm_22 : decode cX6_isSameForm 22 = .ok (.if_icmp .eq 5, 3) := by decide +kernel
theorem dX6_isSameForm_25 : decode cX6_isSameForm 25 = .ok (.iconst 0, 1) := by decide +kernel
theorem dX6_isSameForm_26 : decode cX6_isSameForm 26 = .ok (.ireturn, 1) := by decide +kernel
theorem dX6_isSameForm_27 : decode cX6_isSameForm 27 = .ok (.aload_n 0, 1) := by decide +kernel
theorem dX6_isSameForm_28 : decode cX6_isSameForm 28 = .ok (.getfield 16, 3) := by decide +kernel
theorem dX6_isSameForm_31 : decode cX6_isSameForm 31 = .ok (.aload_n 3, 1) := by decide +kernel
theorem dX6_isSameForm_32 : decode cX6_isSameForm 32 = .ok (.invokevirtual 155, 3) := by decide +kernel
theorem dX6_isSameForm_35 : decode cX6_isSameForm 35 = .ok (.aload_n 0, 1) := by decide +kernel
theorem dX6_isSameForm_36 : decode cX6_isSameForm 36 = .ok (.getfield 16, 3) := by decide +kernel
theorem dX6_isSameForm_39 : decode cX6_isSameForm 39 = .ok (.aload 4, 2) := by decide +kernel
theorem dX6_isSameForm_41 : decode cX6_isSameForm 41 = .ok (.invokevirtual 138, 3) := by decide +kernel
theorem dX6_isSameForm_44 : decode cX6_isSameForm 44 = .ok (.aload_n 3, 1) := by decide +kernel
theorem dX6_isSameForm_45 : decode cX6_isSameForm 45 = .ok (.invokevirtual 138, 3) := by decide +kernel
theorem dX6_isSameForm_48 : decode cX6_isSameForm 48 = .ok (.isub, 1) := by decide +kernel
theorem dX6_isSameForm_49 : decode cX6_isSameForm 49 = .ok (.aload 4, 2) := by decide +kernel
theorem dX6_isSameForm_51 : decode cX6_isSameForm 51 = .ok (.invokevirtual 144, 3) := by decide +kernel
theorem dX6_isSameForm_54 : decode cX6_isSameForm 54 = .ok (.aload_n 3, 1) := by decide +kernel
theorem dX6_isSameForm_55 : decode cX6_isSameForm 55 = .ok (.invokevirtual 144, 3) := by decide +kernel
theorem dX6_isSameForm_58 : decode cX6_isSameForm 58 = .ok (.isub, 1) := by decide +kernel
theorem dX6_isSameForm_59 : decode cX6_isSameForm 59 = .ok (.invokevirtual 150, 3) := by decide +kernel
theorem dX6_isSameForm_62 : decode cX6_isSameForm 62 = .ok (.aload_n 0, 1) := by decide +kernel
theorem dX6_isSameForm_63 : decode cX6_isSameForm 63 = .ok (.getfield 16, 3) := by decide +kernel
theorem dX6_isSameForm_66 : decode cX6_isSameForm 66 = .ok (.aload 4, 2) := by decide +kernel
theorem dX6_isSameForm_68 : decode cX6_isSameForm 68 = .ok (.invokevirtual 270, 3) := by decide +kernel
theorem dX6_isSameForm_71 : decode cX6_isSameForm 71 = .ok (.ireturn, 1) := by decide +kernel
theorem dX6_middleX_0 : decode cX6_middleX 0 = .ok (.aload_n 0, 1) := by decide +kernel
theorem dX6_middleX_1 : decode cX6_middleX 1 = .ok (.iload_n 1, 1) := by decide +kernel
theorem dX6_middleX_2 : decode cX6_middleX 2 = .ok (.invokevirtual 87, 3) := by decide +kernel
theorem dX6_middleX_5 : decode cX6_middleX 5 = .ok (.astore_n 2, 1) := by decide +kernel
theorem dX6_middleX_6 : decode cX6_middleX 6 = .ok (.aload_n 2, 1) := by decide +kernel
theorem dX6_middleX_7 : decode cX6_middleX 7 = .ok (.invokevirtual 108, 3) := by decide +kernel
theorem dX6_middleX_10 : decode cX6_middleX 10 = .ok (.istore_n 3, 1) := by decide +kernel
theorem dX6_middleX_11 : decode cX6_middleX 11 = .ok (.iload_n 3, 1) := by decide +kernel
theorem dX6_middleX_12 : decode cX6_middleX 12 = .ok (.ifCond .ne 7, 3) := by decide +kernel
theorem dX6_middleX_15 : decode cX6_middleX 15 = .ok (.dconst 0, 1) := by decide +kernel
theorem dX6_middleX_16 : decode cX6_middleX 16 = .ok (.goto 11, 3) := by decide +kernel
theorem dX6_middleX_19 : decode cX6_middleX 19 = .ok (.aload_n 2, 1) := by decide +kernel
theorem dX6_middleX_20 : decode cX6_middleX 20 = .ok (.invokevirtual 273, 3) := by decide +kernel
theorem dX6_middleX_23 : decode cX6_middleX 23 = .ok (.i2d, 1) := by decide +kernel
theorem dX6_middleX_24 : decode cX6_middleX 24 = .ok (.iload_n 3, 1) := by decide +kernel
theorem dX6_middleX_25 : decode cX6_middleX 25 = .ok (.i2d, 1) := by decide +kernel
theorem dX6_middleX_26 : decode cX6_middleX 26 = .ok (.ddiv, 1) := by decide +kernel
theorem dX6_middleX_27 : decode cX6_middleX 27 = .ok (.dreturn, 1) := by decide +kernel
theorem dX6_digest_0 : decode cX6_digest 0 = .ok (.ldc2_w 276, 3) := by decide +kernel
theorem dX6_digest_3 : decode cX6_digest 3 = .ok (.aload_n 0, 1) := by decide +kernel
theorem dX6_digest_4 : decode cX6_digest 4 = .ok (.getfield 23, 3) := by decide +kernel
theorem dX6_digest_7 : decode cX6_digest 7 = .ok (.invokevirtual 66, 3) := by decide +kernel
theorem dX6_digest_10 : decode cX6_digest 10 = .ok (.i2l, 1) := by decide +kernel
theorem dX6_digest_11 : decode cX6_digest 11 = .ok (.invokestatic 278, 3) := by decide +kernel
theorem dX6_digest_14 : decode cX6_digest 14 = .ok (.lstore_n 1, 1) := by decide +kernel
theorem dX6_digest_15 : decode cX6_digest 15 = .ok (.iconst 0, 1) := by decide +kernel
theorem dX6_digest_16 : decode cX6_digest 16 = .ok (.istore_n 3, 1) := by decide +kernel
theorem dX6_digest_17 : decode cX6_digest 17 = .ok (.iload_n 3, 1) := by decide +kernel
theorem dX6_digest_18 : decode cX6_digest 18 = .ok (.aload_n 0, 1) := by decide +kernel
theorem dX6_digest_19 : decode cX6_digest 19 = .ok (.getfield 11, 3) := by decide +kernel
theorem dX6_digest_22 : decode cX6_digest 22 = .ok (.arraylength, 1) := by decide +kernel
theorem dX6_digest_23 : decode cX6_digest 23 = .ok (.if_icmp .ge 143, 3) := by decide +kernel
theorem dX6_digest_26 : decode cX6_digest 26 = .ok (.aload_n 0, 1) := by decide +kernel
theorem dX6_digest_27 : decode cX6_digest 27 = .ok (.getfield 11, 3) := by decide +kernel
theorem dX6_digest_30 : decode cX6_digest 30 = .ok (.iload_n 3, 1) := by decide +kernel
theorem dX6_digest_31 : decode cX6_digest 31 = .ok (.aaload, 1) := by decide +kernel
theorem dX6_digest_32 : decode cX6_digest 32 = .ok (.astore 4, 2) := by decide +kernel
theorem dX6_digest_34 : decode cX6_digest 34 = .ok (.lload_n 1, 1) := by decide +kernel
theorem dX6_digest_35 : decode cX6_digest 35 = .ok (.aload 4, 2) := by decide +kernel
theorem dX6_digest_37 : decode cX6_digest 37 = .ok (.invokevirtual 108, 3) := by decide +kernel
theorem dX6_digest_40 : decode cX6_digest 40 = .ok (.i2l, 1) := by decide +kernel
theorem dX6_digest_41 : decode cX6_digest 41 = .ok (.invokestatic 278, 3) := by decide +kernel
theorem dX6_digest_44 : decode cX6_digest 44 = .ok (.lstore_n 1, 1) := by decide +kernel
theorem dX6_digest_45 : decode cX6_digest 45 = .ok (.lload_n 1, 1) := by decide +kernel
theorem dX6_digest_46 : decode cX6_digest 46 = .ok (.aload 4, 2) := by decide +kernel
theorem dX6_digest_48 : decode cX6_digest 48 = .ok (.invokevirtual 193, 3) := by decide +kernel
theorem dX6_digest_51 : decode cX6_digest 51 = .ok (.i2l, 1) := by decide +kernel
theorem dX6_digest_52 : decode cX6_digest 52 = .ok (.invokestatic 278, 3) := by decide +kernel
theorem dX6_digest_55 : decode cX6_digest 55 = .ok (.lstore_n 1, 1) := by decide +kernel
theorem dX6_digest_56 : decode cX6_digest 56 = .ok (.lload_n 1, 1) := by decide +kernel
theorem dX6_digest_57 : decode cX6_digest 57 = .ok (.aload_n 0, 1) := by decide +kernel
theorem dX6_digest_58 : decode cX6_digest 58 = .ok (.getfield 37, 3) := by decide +kernel
theorem dX6_digest_61 : decode cX6_digest 61 = .ok (.aload 4, 2) := by decide +kernel
theorem dX6_digest_63 : decode cX6_digest 63 = .ok (.invokevirtual 196, 3) := by decide +kernel
theorem dX6_digest_66 : decode cX6_digest 66 = .ok (.i2l, 1) := by decide +kernel
theorem dX6_digest_67 : decode cX6_digest 67 = .ok (.invokestatic 278, 3) := by decide +kernel
theorem dX6_digest_70 : decode cX6_digest 70 = .ok (.lstore_n 1, 1) := by decide +kernel
theorem dX6_digest_71 : decode cX6_digest 71 = .ok (.lload_n 1, 1) := by decide +kernel
theorem dX6_digest_72 : decode cX6_digest 72 = .ok (.aload_n 0, 1) := by decide +kernel
theorem dX6_digest_73 : decode cX6_digest 73 = .ok (.getfield 37, 3) := by decide +kernel
theorem dX6_digest_76 : decode cX6_digest 76 = .ok (.aload 4, 2) := by decide +kernel
theorem dX6_digest_78 : decode cX6_digest 78 = .ok (.invokevirtual 199, 3) := by decide +kernel
theorem dX6_digest_81 : decode cX6_digest 81 = .ok (.i2l, 1) := by decide +kernel
theorem dX6_digest_82 : decode cX6_digest 82 = .ok (.invokestatic 278, 3) := by decide +kernel
theorem dX6_digest_85 : decode cX6_digest 85 = .ok (.lstore_n 1, 1) := by decide +kernel
theorem dX6_digest_86 : decode cX6_digest 86 = .ok (.iconst 0, 1) := by decide +kernel
theorem dX6_digest_87 : decode cX6_digest 87 = .ok (.istore 5, 2) := by decide +kernel
theorem dX6_digest_89 : decode cX6_digest 89 = .ok (.iload 5, 2) := by decide +kernel
theorem dX6_digest_91 : decode cX6_digest 91 = .ok (.iconst 4, 1) := by decide +kernel
theorem dX6_digest_92 : decode cX6_digest 92 = .ok (.if_icmp .ge 22, 3) := by decide +kernel
theorem dX6_digest_95 : decode cX6_digest 95 = .ok (.lload_n 1, 1) := by decide +kernel
theorem dX6_digest_96 : decode cX6_digest 96 = .ok (.aload 4, 2) := by decide +kernel
theorem dX6_digest_98 : decode cX6_digest 98 = .ok (.iload 5, 2) := by decide +kernel
theorem dX6_digest_100 : decode cX6_digest 100 = .ok (.invokestatic 208, 3) := by decide +kernel
theorem dX6_digest_103 : decode cX6_digest 103 = .ok (.i2l, 1) := by decide +kernel
theorem dX6_digest_104 : decode cX6_digest 104 = .ok (.invokestatic 278, 3) := by decide +kernel
theorem dX6_digest_107 : decode cX6_digest 107 = .ok (.lstore_n 1, 1) := by decide +kernel
theorem dX6_digest_108 : decode cX6_digest 108 = .ok (.iinc 5 1, 3) := by decide +kernel
theorem dX6_digest_111 : decode cX6_digest 111 = .ok (.goto (-22), 3) := by decide +kernel
theorem dX6_digest_114 : decode cX6_digest 114 = .ok (.lload_n 1, 1) := by decide +kernel
theorem dX6_digest_115 : decode cX6_digest 115 = .ok (.aload_n 0, 1) := by decide +kernel
theorem dX6_digest_116 : decode cX6_digest 116 = .ok (.getfield 44, 3) := by decide +kernel
theorem dX6_digest_119 : decode cX6_digest 119 = .ok (.aload 4, 2) := by decide +kernel
theorem dX6_digest_121 : decode cX6_digest 121 = .ok (.invokevirtual 212, 3) := by decide +kernel
theorem dX6_digest_124 : decode cX6_digest 124 = .ok (.i2l, 1) := by decide +kernel
theorem dX6_digest_125 : decode cX6_digest 125 = .ok (.invokestatic 278, 3) := by decide +kernel
theorem dX6_digest_128 : decode cX6_digest 128 = .ok (.lstore_n 1, 1) := by decide +kernel
theorem dX6_digest_129 : decode cX6_digest 129 = .ok (.aload_n 0, 1) := by decide +kernel
theorem dX6_digest_130 : decode cX6_digest 130 = .ok (.lload_n 1, 1) := by decide +kernel
theorem dX6_digest_131 : decode cX6_digest 131 = .ok (.aload 4, 2) := by decide +kernel
theorem dX6_digest_133 : decode cX6_digest 133 = .ok (.invokevirtual 282, 3) := by decide +kernel
theorem dX6_digest_136 : decode cX6_digest 136 = .ok (.lstore_n 1, 1) := by decide +kernel
theorem dX6_digest_137 : decode cX6_digest 137 = .ok (.lload_n 1, 1) := by decide +kernel
theorem dX6_digest_138 : decode cX6_digest 138 = .ok (.aload_n 0, 1) := by decide +kernel
theorem dX6_digest_139 : decode cX6_digest 139 = .ok (.getfield 51, 3) := by decide +kernel
theorem dX6_digest_142 : decode cX6_digest 142 = .ok (.aload 4, 2) := by decide +kernel
theorem dX6_digest_144 : decode cX6_digest 144 = .ok (.invokevirtual 231, 3) := by decide +kernel
theorem dX6_digest_147 : decode cX6_digest 147 = .ok (.i2l, 1) := by decide +kernel
theorem dX6_digest_148 : decode cX6_digest 148 = .ok (.invokestatic 278, 3) := by decide +kernel
theorem dX6_digest_151 : decode cX6_digest 151 = .ok (.lstore_n 1, 1) := by decide +kernel
theorem dX6_digest_152 : decode cX6_digest 152 = .ok (.aload_n 0, 1) := by decide +kernel
theorem dX6_digest_153 : decode cX6_digest 153 = .ok (.lload_n 1, 1) := by decide +kernel
theorem dX6_digest_154 : decode cX6_digest 154 = .ok (.aload 4, 2) := by decide +kernel
theorem dX6_digest_156 : decode cX6_digest 156 = .ok (.invokevirtual 286, 3) := by decide +kernel
theorem dX6_digest_159 : decode cX6_digest 159 = .ok (.lstore_n 1, 1) := by decide +kernel
theorem dX6_digest_160 : decode cX6_digest 160 = .ok (.iinc 3 1, 3) := by decide +kernel
theorem dX6_digest_163 : decode cX6_digest 163 = .ok (.goto (-146), 3) := by decide +kernel
theorem dX6_digest_166 : decode cX6_digest 166 = .ok (.lload_n 1, 1) := by decide +kernel
theorem dX6_digest_167 : decode cX6_digest 167 = .ok (.aload_n 0, 1) := by decide +kernel
theorem dX6_digest_168 : decode cX6_digest 168 = .ok (.getfield 30, 3) := by decide +kernel
theorem dX6_digest_171 : decode cX6_digest 171 = .ok (.invokevirtual 289, 3) := by decide +kernel
theorem dX6_digest_174 : decode cX6_digest 174 = .ok (.i2l, 1) := by decide +kernel
theorem dX6_digest_175 : decode cX6_digest 175 = .ok (.invokestatic 278, 3) := by decide +kernel
theorem dX6_digest_178 : decode cX6_digest 178 = .ok (.lreturn, 1) := by decide +kernel
theorem dX6_regionAt_0 : decode cX6_regionAt 0 = .ok (.iload_n 1, 1) := by decide +kernel
theorem dX6_regionAt_1 : decode cX6_regionAt 1 = .ok (.ifCond .lt 12, 3) := by decide +kernel
theorem dX6_regionAt_4 : decode cX6_regionAt 4 = .ok (.iload_n 1, 1) := by decide +kernel
theorem dX6_regionAt_5 : decode cX6_regionAt 5 = .ok (.aload_n 0, 1) := by decide +kernel
theorem dX6_regionAt_6 : decode cX6_regionAt 6 = .ok (.getfield 11, 3) := by decide +kernel
theorem dX6_regionAt_9 : decode cX6_regionAt 9 = .ok (.arraylength, 1) := by decide +kernel
theorem dX6_regionAt_10 : decode cX6_regionAt 10 = .ok (.if_icmp .lt 14, 3) := by decide +kernel
theorem dX6_regionAt_13 : decode cX6_regionAt 13 = .ok (.new 238, 3) := by decide +kernel
theorem dX6_regionAt_16 : decode cX6_regionAt 16 = .ok (.dup, 1) := by decide +kernel
theorem dX6_regionAt_17 : decode cX6_regionAt 17 = .ok (.ldc_w 290, 3) := by decide +kernel
theorem dX6_regionAt_20 : decode cX6_regionAt 20 = .ok (.invokespecial 242, 3) := by decide +kernel
theorem dX6_regionAt_23 : decode cX6_regionAt 23 = .ok (.athrow, 1) := by decide +kernel
theorem dX6_regionAt_24 : decode cX6_regionAt 24 = .ok (.aload_n 0, 1) := by decide +kernel
theorem dX6_regionAt_25 : decode cX6_regionAt 25 = .ok (.getfield 11, 3) := by decide +kernel
theorem dX6_regionAt_28 : decode cX6_regionAt 28 = .ok (.iload_n 1, 1) := by decide +kernel
theorem dX6_regionAt_29 : decode cX6_regionAt 29 = .ok (.aaload, 1) := by decide +kernel
theorem dX6_regionAt_30 : decode cX6_regionAt 30 = .ok (.areturn, 1) := by decide +kernel
theorem dX6_checkLine_0 : decode cX6_checkLine 0 = .ok (.lload_n 2, 1) := by decide +kernel
theorem dX6_checkLine_1 : decode cX6_checkLine 1 = .ok (.invokestatic 55, 3) := by decide +kernel
theorem dX6_checkLine_4 : decode cX6_checkLine 4 = .ok (.ifCond .ne 14, 3) := by decide +kernel
theorem dX6_checkLine_7 : decode cX6_checkLine 7 = .ok (.new 59, 3) := by decide +kernel
theorem dX6_checkLine_10 : decode cX6_checkLine 10 = .ok (.dup, 1) := by decide +kernel
theorem dX6_checkLine_11 : decode cX6_checkLine 11 = .ok (.ldc_w 292, 3) := by decide +kernel
theorem dX6_checkLine_14 : decode cX6_checkLine 14 = .ok (.invokespecial 63, 3) := by decide +kernel
theorem dX6_checkLine_17 : decode cX6_checkLine 17 = .ok (.athrow, 1) := by decide +kernel
theorem dX6_checkLine_18 : decode cX6_checkLine 18 = .ok (.iload_n 1, 1) := by decide +kernel
theorem dX6_checkLine_19 : decode cX6_checkLine 19 = .ok (.ifCond .eq 24, 3) := by decide +kernel
theorem dX6_checkLine_22 : decode cX6_checkLine 22 = .ok (.aload_n 0, 1) := by decide +kernel
theorem dX6_checkLine_23 : decode cX6_checkLine 23 = .ok (.getfield 23, 3) := by decide +kernel
theorem dX6_checkLine_26 : decode cX6_checkLine 26 = .ok (.invokevirtual 294, 3) := by decide +kernel
theorem dX6_checkLine_29 : decode cX6_checkLine 29 = .ok (.ifCond .eq 14, 3) := by decide +kernel
theorem dX6_checkLine_32 : decode cX6_checkLine 32 = .ok (.new 297, 3) := by decide +kernel
theorem dX6_checkLine_35 : decode cX6_checkLine 35 = .ok (.dup, 1) := by decide +kernel
theorem dX6_checkLine_36 : decode cX6_checkLine 36 = .ok (.ldc_w 299, 3) := by decide +kernel
theorem dX6_checkLine_39 : decode cX6_checkLine 39 = .ok (.invokespecial 301, 3) := by decide +kernel
theorem dX6_checkLine_42 : decode cX6_checkLine 42 = .ok (.athrow, 1) := by decide +kernel
theorem dX6_checkLine_43 : decode cX6_checkLine 43 = .ok (.return_, 1) := by decide +kernel
theorem dX6_checkRoom_0 : decode cX6_checkRoom 0 = .ok (.lload_n 0, 1) := by decide +kernel
theorem dX6_checkRoom_1 : decode cX6_checkRoom 1 = .ok (.ldc2_w 302, 3) := by decide +kernel
theorem dX6_checkRoom_4 : decode cX6_checkRoom 4 = .ok (.lcmp, 1) := by decide +kernel
theorem dX6_checkRoom_5 : decode cX6_checkRoom 5 = .ok (.ifCond .lt 11, 3) := by decide +kernel
theorem dX6_checkRoom_8 : decode cX6_checkRoom 8 = .ok (.lload_n 2, 1) := by decide +kernel
theorem dX6_checkRoom_9 : decode cX6_checkRoom 9 = .ok (.ldc2_w 304, 3) := by decide +kernel
theorem dX6_checkRoom_12 : decode cX6_checkRoom 12 = .ok (.lcmp, 1) := by decide +kernel
theorem dX6_checkRoom_13 : decode cX6_checkRoom 13 = .ok (.ifCond .le 14, 3) := by decide +kernel
theorem dX6_checkRoom_16 : decode cX6_checkRoom 16 = .ok (.new 297, 3) := by decide +kernel
theorem dX6_checkRoom_19 : decode cX6_checkRoom 19 = .ok (.dup, 1) := by decide +kernel
theorem dX6_checkRoom_20 : decode cX6_checkRoom 20 = .ok (.ldc_w 306, 3) := by decide +kernel
theorem dX6_checkRoom_23 : decode cX6_checkRoom 23 = .ok (.invokespecial 301, 3) := by decide +kernel
theorem dX6_checkRoom_26 : decode cX6_checkRoom 26 = .ok (.athrow, 1) := by decide +kernel
theorem dX6_checkRoom_27 : decode cX6_checkRoom 27 = .ok (.return_, 1) := by decide +kernel
theorem dX6_checkGrowth_0 : decode cX6_checkGrowth 0 = .ok (.iconst 0, 1) := by decide +kernel
theorem dX6_checkGrowth_1 : decode cX6_checkGrowth 1 = .ok (.iload_n 0, 1) := by decide +kernel
theorem dX6_checkGrowth_2 : decode cX6_checkGrowth 2 = .ok (.bipush 8, 2) := by decide +kernel
theorem dX6_checkGrowth_4 : decode cX6_checkGrowth 4 = .ok (.invokestatic 91, 3) := by decide +kernel
theorem dX6_checkGrowth_7 : decode cX6_checkGrowth 7 = .ok (.ifCond .eq 12, 3) := by decide +kernel
theorem dX6_checkGrowth_10 : decode cX6_checkGrowth 10 = .ok (.iconst 0, 1) := by decide +kernel
theorem dX6_checkGrowth_11 : decode cX6_checkGrowth 11 = .ok (.iload_n 1, 1) := by decide +kernel
theorem dX6_checkGrowth_12 : decode cX6_checkGrowth 12 = .ok (.iconst 1, 1) := by decide +kernel
theorem dX6_checkGrowth_13 : decode cX6_checkGrowth 13 = .ok (.invokestatic 91, 3) := by decide +kernel
theorem dX6_checkGrowth_16 : decode cX6_checkGrowth 16 = .ok (.ifCond .ne 14, 3) := by decide +kernel
theorem dX6_checkGrowth_19 : decode cX6_checkGrowth 19 = .ok (.new 59, 3) := by decide +kernel
theorem dX6_checkGrowth_22 : decode cX6_checkGrowth 22 = .ok (.dup, 1) := by decide +kernel
theorem dX6_checkGrowth_23 : decode cX6_checkGrowth 23 = .ok (.ldc_w 308, 3) := by decide +kernel
theorem dX6_checkGrowth_26 : decode cX6_checkGrowth 26 = .ok (.invokespecial 63, 3) := by decide +kernel
theorem dX6_checkGrowth_29 : decode cX6_checkGrowth 29 = .ok (.athrow, 1) := by decide +kernel
theorem dX6_checkGrowth_30 : decode cX6_checkGrowth 30 = .ok (.return_, 1) := by decide +kernel
theorem dX6_checkHatching_0 : decode cX6_checkHatching 0 = .ok (.iconst 0, 1) := by decide +kernel
theorem dX6_checkHatching_1 : decode cX6_checkHatching 1 = .ok (.iload_n 0, 1) := by decide +kernel
theorem dX6_checkHatching_2 : decode cX6_checkHatching 2 = .ok (.iconst 3, 1) := by decide +kernel
theorem dX6_checkHatching_3 : decode cX6_checkHatching 3 = .ok (.invokestatic 91, 3) := by decide +kernel
theorem dX6_checkHatching_6 : decode cX6_checkHatching 6 = .ok (.ifCond .eq 24, 3) := by decide +kernel
theorem dX6_checkHatching_9 : decode cX6_checkHatching 9 = .ok (.iconst 1, 1) := by decide +kernel
theorem dX6_checkHatching_10 : decode cX6_checkHatching 10 = .ok (.iload_n 1, 1) := by decide +kernel
theorem dX6_checkHatching_11 : decode cX6_checkHatching 11 = .ok (.bipush 20, 2) := by decide +kernel
theorem dX6_checkHatching_13 : decode cX6_checkHatching 13 = .ok (.invokestatic 91, 3) := by decide +kernel
theorem dX6_checkHatching_16 : decode cX6_checkHatching 16 = .ok (.ifCond .eq 14, 3) := by decide +kernel
theorem dX6_checkHatching_19 : decode cX6_checkHatching 19 = .ok (.bipush (-100), 2) := by decide +kernel
theorem dX6_checkHatching_21 : decode cX6_checkHatching 21 = .ok (.iload_n 2, 1) := by decide +kernel
theorem dX6_checkHatching_22 : decode cX6_checkHatching 22 = .ok (.bipush 100, 2) := by decide +kernel
theorem dX6_checkHatching_24 : decode cX6_checkHatching 24 = .ok (.invokestatic 91, 3) := by decide +kernel
theorem dX6_checkHatching_27 : decode cX6_checkHatching 27 = .ok (.ifCond .ne 14, 3) := by decide +kernel
theorem dX6_checkHatching_30 : decode cX6_checkHatching 30 = .ok (.new 59, 3) := by decide +kernel
theorem dX6_checkHatching_33 : decode cX6_checkHatching 33 = .ok (.dup, 1) := by decide +kernel
theorem dX6_checkHatching_34 : decode cX6_checkHatching 34 = .ok (.ldc_w 310, 3) := by decide +kernel
theorem dX6_checkHatching_37 : decode cX6_checkHatching 37 = .ok (.invokespecial 63, 3) := by decide +kernel
theorem dX6_checkHatching_40 : decode cX6_checkHatching 40 = .ok (.athrow, 1) := by decide +kernel
theorem dX6_checkHatching_41 : decode cX6_checkHatching 41 = .ok (.return_, 1) := by decide +kernel
theorem dX6_walkTo_0 : decode cX6_walkTo 0 = .ok (.aload_n 0, 1) := by decide +kernel
theorem dX6_walkTo_1 : decode cX6_walkTo 1 = .ok (.iload_n 1, 1) := by decide +kernel
theorem dX6_walkTo_2 : decode cX6_walkTo 2 = .ok (.invokevirtual 87, 3) := by decide +kernel
theorem dX6_walkTo_5 : decode cX6_walkTo 5 = .ok (.astore 4, 2) := by decide +kernel
theorem dX6_walkTo_7 : decode cX6_walkTo 7 = .ok (.aload_n 0, 1) := by decide +kernel
theorem dX6_walkTo_8 : decode cX6_walkTo 8 = .ok (.getfield 44, 3) := by decide +kernel
theorem dX6_walkTo_11 : decode cX6_walkTo 11 = .ok (.aload 4, 2) := by decide +kernel
theorem dX6_walkTo_13 : decode cX6_walkTo 13 = .ok (.iload_n 2, 1) := by decide +kernel
theorem dX6_walkTo_14 : decode cX6_walkTo 14 = .ok (.iload_n 3, 1) := by decide +kernel
theorem dX6_walkTo_15 : decode cX6_walkTo 15 = .ok (.invokevirtual 312, 3) := by decide +kernel
theorem dX6_walkTo_18 : decode cX6_walkTo 18 = .ok (.ifCond .ne 14, 3) := by decide +kernel
theorem dX6_walkTo_21 : decode cX6_walkTo 21 = .ok (.new 238, 3) := by decide +kernel
theorem dX6_walkTo_24 : decode cX6_walkTo 24 = .ok (.dup, 1) := by decide +kernel
theorem dX6_walkTo_25 : decode cX6_walkTo 25 = .ok (.ldc_w 315, 3) := by decide +kernel
theorem dX6_walkTo_28 : decode cX6_walkTo 28 = .ok (.invokespecial 242, 3) := by decide +kernel
theorem dX6_walkTo_31 : decode cX6_walkTo 31 = .ok (.athrow, 1) := by decide +kernel
theorem dX6_walkTo_32 : decode cX6_walkTo 32 = .ok (.iload_n 3, 1) := by decide +kernel
theorem dX6_walkTo_33 : decode cX6_walkTo 33 = .ok (.ifCond .lt 14, 3) := by decide +kernel
theorem dX6_walkTo_36 : decode cX6_walkTo 36 = .ok (.iload_n 3, 1) := by decide +kernel
theorem dX6_walkTo_37 : decode cX6_walkTo 37 = .ok (.aload_n 0, 1) := by decide +kernel
theorem dX6_walkTo_38 : decode cX6_walkTo 38 = .ok (.getfield 44, 3) := by decide +kernel
theorem dX6_walkTo_41 : decode cX6_walkTo 41 = .ok (.invokevirtual 219, 3) := by decide +kernel
theorem dX6_walkTo_44 : decode cX6_walkTo 44 = .ok (.if_icmp .lt 14, 3) := by decide +kernel
theorem dX6_walkTo_47 : decode cX6_walkTo 47 = .ok (.new 238, 3) := by decide +kernel
theorem dX6_walkTo_50 : decode cX6_walkTo 50 = .ok (.dup, 1) := by decide +kernel
theorem dX6_walkTo_51 : decode cX6_walkTo 51 = .ok (.ldc_w 317, 3) := by decide +kernel
theorem dX6_walkTo_54 : decode cX6_walkTo 54 = .ok (.invokespecial 242, 3) := by decide +kernel
theorem dX6_walkTo_57 : decode cX6_walkTo 57 = .ok (.athrow, 1) := by decide +kernel
theorem dX6_walkTo_58 : decode cX6_walkTo 58 = .ok (.return_, 1) := by decide +kernel
theorem dX6_isInReach_0 : decode cX6_isInReach 0 = .ok (.lload_n 0, 1) := by decide +kernel
theorem dX6_isInReach_1 : decode cX6_isInReach 1 = .ok (.ldc2_w 319, 3) := by decide +kernel
theorem dX6_isInReach_4 : decode cX6_isInReach 4 = .ok (.lcmp, 1) := by decide +kernel
theorem dX6_isInReach_5 : decode cX6_isInReach 5 = .ok (.ifCond .lt 15, 3) := by decide +kernel
theorem dX6_isInReach_8 : decode cX6_isInReach 8 = .ok (.lload_n 0, 1) := by decide +kernel
theorem dX6_isInReach_9 : decode cX6_isInReach 9 = .ok (.ldc2_w 321, 3) := by decide +kernel
theorem dX6_isInReach_12 : decode cX6_isInReach 12 = .ok (.lcmp, 1) := by decide +kernel
theorem dX6_isInReach_13 : decode cX6_isInReach 13 = .ok (.ifCond .gt 7, 3) := by decide +kernel
theorem dX6_isInReach_16 : decode cX6_isInReach 16 = .ok (.iconst 1, 1) := by decide +kernel
theorem dX6_isInReach_17 : decode cX6_isInReach 17 = .ok (.goto 4, 3) := by decide +kernel
theorem dX6_isInReach_20 : decode cX6_isInReach 20 = .ok (.iconst 0, 1) := by decide +kernel
theorem dX6_isInReach_21 : decode cX6_isInReach 21 = .ok (.ireturn, 1) := by decide +kernel
theorem dX6_isFrom_0 : decode cX6_isFrom 0 = .ok (.iload_n 1, 1) := by decide +kernel
theorem dX6_isFrom_1 : decode cX6_isFrom 1 = .ok (.iload_n 0, 1) := by decide +kernel
theorem dX6_isFrom_2 : decode cX6_isFrom 2 = .ok (.if_icmp .lt 12, 3) := by decide +kernel
theorem dX6_isFrom_5 : decode cX6_isFrom 5 = .ok (.iload_n 1, 1) := by decide +kernel
theorem dX6_isFrom_6 : decode cX6_isFrom 6 = .ok (.iload_n 2, 1) := by decide +kernel
theorem dX6_isFrom_7 : decode cX6_isFrom 7 = .ok (.if_icmp .gt 7, 3) := by decide +kernel
theorem dX6_isFrom_10 : decode cX6_isFrom 10 = .ok (.iconst 1, 1) := by decide +kernel
theorem dX6_isFrom_11 : decode cX6_isFrom 11 = .ok (.goto 4, 3) := by decide +kernel
theorem dX6_isFrom_14 : decode cX6_isFrom 14 = .ok (.iconst 0, 1) := by decide +kernel
theorem dX6_isFrom_15 : decode cX6_isFrom 15 = .ok (.ireturn, 1) := by decide +kernel
theorem dX6_boundOf_0 : decode cX6_boundOf 0 = .ok (.iload_n 1, 1) := by decide +kernel
theorem dX6_boundOf_1 : decode cX6_boundOf 1 = .ok (.tableswitch 42 0 2 #[27, 32, 37], 27) := by decide +kernel
theorem dX6_boundOf_28 : decode cX6_boundOf 28 = .ok (.aload_n 0, 1) := by decide +kernel
theorem dX6_boundOf_29 : decode cX6_boundOf 29 = .ok (.invokevirtual 138, 3) := by decide +kernel
theorem dX6_boundOf_32 : decode cX6_boundOf 32 = .ok (.ireturn, 1) := by decide +kernel
theorem dX6_boundOf_33 : decode cX6_boundOf 33 = .ok (.aload_n 0, 1) := by decide +kernel
theorem dX6_boundOf_34 : decode cX6_boundOf 34 = .ok (.invokevirtual 144, 3) := by decide +kernel
theorem dX6_boundOf_37 : decode cX6_boundOf 37 = .ok (.ireturn, 1) := by decide +kernel
theorem dX6_boundOf_38 : decode cX6_boundOf 38 = .ok (.aload_n 0, 1) := by decide +kernel
theorem dX6_boundOf_39 : decode cX6_boundOf 39 = .ok (.invokevirtual 141, 3) := by decide +kernel
theorem dX6_boundOf_42 : decode cX6_boundOf 42 = .ok (.ireturn, 1) := by decide +kernel
theorem dX6_boundOf_43 : decode cX6_boundOf 43 = .ok (.aload_n 0, 1) := by decide +kernel
theorem dX6_boundOf_44 : decode cX6_boundOf 44 = .ok (.invokevirtual 147, 3) := by decide +kernel
theorem dX6_boundOf_47 : decode cX6_boundOf 47 = .ok (.ireturn, 1) := by decide +kernel
theorem dX6_combined_0 : decode cX6_combined 0 = .ok (.iload 4, 2) := by decide +kernel
theorem dX6_combined_2 : decode cX6_combined 2 = .ok (.tableswitch 42 0 2 #[26, 30, 34], 26) := by decide +kernel
theorem dX6_combined_28 : decode cX6_combined 28 = .ok (.lload_n 0, 1) := by decide +kernel
theorem dX6_combined_29 : decode cX6_combined 29 = .ok (.lload_n 2, 1) := by decide +kernel
theorem dX6_combined_30 : decode cX6_combined 30 = .ok (.lor, 1) := by decide +kernel
theorem dX6_combined_31 : decode cX6_combined 31 = .ok (.lreturn, 1) := by decide +kernel
theorem dX6_combined_32 : decode cX6_combined 32 = .ok (.lload_n 0, 1) := by decide +kernel
theorem dX6_combined_33 : decode cX6_combined 33 = .ok (.lload_n 2, 1) := by decide +kernel
theorem dX6_combined_34 : decode cX6_combined 34 = .ok (.land, 1) := by decide +kernel
theorem dX6_combined_35 : decode cX6_combined 35 = .ok (.lreturn, 1) := by decide +kernel
theorem dX6_combined_36 : decode cX6_combined 36 = .ok (.lload_n 0, 1) := by decide +kernel
theorem dX6_combined_37 : decode cX6_combined 37 = .ok (.lload_n 2, 1) := by decide +kernel
theorem dX6_combined_38 : decode cX6_combined 38 = .ok (.ldc2_w 117, 3) := by decide +kernel
theorem dX6_combined_41 : decode cX6_combined 41 = .ok (.lxor, 1) := by decide +kernel
theorem dX6_combined_42 : decode cX6_combined 42 = .ok (.land, 1) := by decide +kernel
theorem dX6_combined_43 : decode cX6_combined 43 = .ok (.lreturn, 1) := by decide +kernel
theorem dX6_combined_44 : decode cX6_combined 44 = .ok (.lload_n 0, 1) := by decide +kernel
theorem dX6_combined_45 : decode cX6_combined 45 = .ok (.lload_n 2, 1) := by decide +kernel
theorem dX6_combined_46 : decode cX6_combined 46 = .ok (.lxor, 1) := by decide +kernel
theorem dX6_combined_47 : decode cX6_combined 47 = .ok (.lreturn, 1) := by decide +kernel
theorem dX6_mirrored_0 : decode cX6_mirrored 0 = .ok (.lconst 0, 1) := by decide +kernel
theorem dX6_mirrored_1 : decode cX6_mirrored 1 = .ok (.lstore_n 2, 1) := by decide +kernel
theorem dX6_mirrored_2 : decode cX6_mirrored 2 = .ok (.iconst 0, 1) := by decide +kernel
theorem dX6_mirrored_3 : decode cX6_mirrored 3 = .ok (.istore 4, 2) := by decide +kernel
theorem dX6_mirrored_5 : decode cX6_mirrored 5 = .ok (.iload 4, 2) := by decide +kernel
theorem dX6_mirrored_7 : decode cX6_mirrored 7 = .ok (.bipush 64, 2) := by decide +kernel
theorem dX6_mirrored_9 : decode cX6_mirrored 9 = .ok (.if_icmp .ge 20, 3) := by decide +kernel
theorem dX6_mirrored_12 : decode cX6_mirrored 12 = .ok (.lload_n 2, 1) := by decide +kernel
theorem dX6_mirrored_13 : decode cX6_mirrored 13 = .ok (.iconst 1, 1) := by decide +kernel
theorem dX6_mirrored_14 : decode cX6_mirrored 14 = .ok (.lshl, 1) := by decide +kernel
theorem dX6_mirrored_15 : decode cX6_mirrored 15 = .ok (.lload_n 0, 1) := by decide +kernel
theorem dX6_mirrored_16 : decode cX6_mirrored 16 = .ok (.iload 4, 2) := by decide +kernel
theorem dX6_mirrored_18 : decode cX6_mirrored 18 = .ok (.lushr, 1) := by decide +kernel
theorem dX6_mirrored_19 : decode cX6_mirrored 19 = .ok (.lconst 1, 1) := by decide +kernel
theorem dX6_mirrored_20 : decode cX6_mirrored 20 = .ok (.land, 1) := by decide +kernel
theorem dX6_mirrored_21 : decode cX6_mirrored 21 = .ok (.lor, 1) := by decide +kernel
theorem dX6_mirrored_22 : decode cX6_mirrored 22 = .ok (.lstore_n 2, 1) := by decide +kernel
theorem dX6_mirrored_23 : decode cX6_mirrored 23 = .ok (.iinc 4 1, 3) := by decide +kernel
theorem dX6_mirrored_26 : decode cX6_mirrored 26 = .ok (.goto (-21), 3) := by decide +kernel
theorem dX6_mirrored_29 : decode cX6_mirrored 29 = .ok (.lload_n 2, 1) := by decide +kernel
theorem dX6_mirrored_30 : decode cX6_mirrored 30 = .ok (.lreturn, 1) := by decide +kernel
theorem dX6_fieldsBehind_0 : decode cX6_fieldsBehind 0 = .ok (.iload_n 2, 1) := by decide +kernel
theorem dX6_fieldsBehind_1 : decode cX6_fieldsBehind 1 = .ok (.tableswitch 53 0 2 #[27, 35, 43], 27) := by decide +kernel
theorem dX6_fieldsBehind_28 : decode cX6_fieldsBehind 28 = .ok (.aload_n 0, 1) := by decide +kernel
theorem dX6_fieldsBehind_29 : decode cX6_fieldsBehind 29 = .ok (.iload_n 1, 1) := by decide +kernel
theorem dX6_fieldsBehind_30 : decode cX6_fieldsBehind 30 = .ok (.invokevirtual 119, 3) := by decide +kernel
theorem dX6_fieldsBehind_33 : decode cX6_fieldsBehind 33 = .ok (.iconst 1, 1) := by decide +kernel
theorem dX6_fieldsBehind_34 : decode cX6_fieldsBehind 34 = .ok (.lshl, 1) := by decide +kernel
theorem dX6_fieldsBehind_35 : decode cX6_fieldsBehind 35 = .ok (.lreturn, 1) := by decide +kernel
theorem dX6_fieldsBehind_36 : decode cX6_fieldsBehind 36 = .ok (.aload_n 0, 1) := by decide +kernel
theorem dX6_fieldsBehind_37 : decode cX6_fieldsBehind 37 = .ok (.iload_n 1, 1) := by decide +kernel
theorem dX6_fieldsBehind_38 : decode cX6_fieldsBehind 38 = .ok (.iconst 1, 1) := by decide +kernel
theorem dX6_fieldsBehind_39 : decode cX6_fieldsBehind 39 = .ok (.isub, 1) := by decide +kernel
theorem dX6_fieldsBehind_40 : decode cX6_fieldsBehind 40 = .ok (.invokevirtual 119, 3) := by decide +kernel
theorem dX6_fieldsBehind_43 : decode cX6_fieldsBehind 43 = .ok (.lreturn, 1) := by decide +kernel
theorem dX6_fieldsBehind_44 : decode cX6_fieldsBehind 44 = .ok (.aload_n 0, 1) := by decide +kernel
theorem dX6_fieldsBehind_45 : decode cX6_fieldsBehind 45 = .ok (.iload_n 1, 1) := by decide +kernel
theorem dX6_fieldsBehind_46 : decode cX6_fieldsBehind 46 = .ok (.iconst 1, 1) := by decide +kernel
theorem dX6_fieldsBehind_47 : decode cX6_fieldsBehind 47 = .ok (.iadd, 1) := by decide +kernel
theorem dX6_fieldsBehind_48 : decode cX6_fieldsBehind 48 = .ok (.invokevirtual 119, 3) := by decide +kernel
theorem dX6_fieldsBehind_51 : decode cX6_fieldsBehind 51 = .ok (.iconst 1, 1) := by decide +kernel
theorem dX6_fieldsBehind_52 : decode cX6_fieldsBehind 52 = .ok (.lshl, 1) := by decide +kernel
theorem dX6_fieldsBehind_53 : decode cX6_fieldsBehind 53 = .ok (.lreturn, 1) := by decide +kernel
theorem dX6_fieldsBehind_54 : decode cX6_fieldsBehind 54 = .ok (.aload_n 0, 1) := by decide +kernel
theorem dX6_fieldsBehind_55 : decode cX6_fieldsBehind 55 = .ok (.iload_n 1, 1) := by decide +kernel
theorem dX6_fieldsBehind_56 : decode cX6_fieldsBehind 56 = .ok (.iconst 1, 1) := by decide +kernel
theorem dX6_fieldsBehind_57 : decode cX6_fieldsBehind 57 = .ok (.isub, 1) := by decide +kernel
theorem dX6_fieldsBehind_58 : decode cX6_fieldsBehind 58 = .ok (.invokevirtual 119, 3) := by decide +kernel
theorem dX6_fieldsBehind_61 : decode cX6_fieldsBehind 61 = .ok (.iconst 1, 1) := by decide +kernel
theorem dX6_fieldsBehind_62 : decode cX6_fieldsBehind 62 = .ok (.lshl, 1) := by decide +kernel
theorem dX6_fieldsBehind_63 : decode cX6_fieldsBehind 63 = .ok (.lreturn, 1) := by decide +kernel
theorem dX6_fieldsOnLines_0 : decode cX6_fieldsOnLines 0 = .ok (.lconst 0, 1) := by decide +kernel
theorem dX6_fieldsOnLines_1 : decode cX6_fieldsOnLines 1 = .ok (.lstore 4, 2) := by decide +kernel
theorem dX6_fieldsOnLines_3 : decode cX6_fieldsOnLines 3 = .ok (.bipush (-32), 2) := by decide +kernel
theorem dX6_fieldsOnLines_5 : decode cX6_fieldsOnLines 5 = .ok (.istore 6, 2) := by decide +kernel
theorem dX6_fieldsOnLines_7 : decode cX6_fieldsOnLines 7 = .ok (.iload 6, 2) := by decide +kernel
theorem dX6_fieldsOnLines_9 : decode cX6_fieldsOnLines 9 = .ok (.bipush 31, 2) := by decide +kernel
theorem dX6_fieldsOnLines_11 : decode cX6_fieldsOnLines 11 = .ok (.if_icmp .gt 37, 3) := by decide +kernel
theorem dX6_fieldsOnLines_14 : decode cX6_fieldsOnLines 14 = .ok (.iload_n 2, 1) := by decide +kernel
theorem dX6_fieldsOnLines_15 : decode cX6_fieldsOnLines 15 = .ok (.ifCond .le 27, 3) := by decide +kernel
theorem dX6_fieldsOnLines_18 : decode cX6_fieldsOnLines 18 = .ok (.iload 6, 2) := by decide +kernel
theorem dX6_fieldsOnLines_20 : decode cX6_fieldsOnLines 20 = .ok (.iload_n 0, 1) := by decide +kernel
theorem dX6_fieldsOnLines_21 : decode cX6_fieldsOnLines 21 = .ok (.iload_n 1, 1) := by decide +kernel
theorem dX6_fieldsOnLines_22 : decode cX6_fieldsOnLines 22 = .ok (.invokestatic 323, 3) := by decide +kernel
theorem dX6_fieldsOnLines_25 : decode cX6_fieldsOnLines 25 = .ok (.iload_n 3, 1) := by decide +kernel
theorem dX6_fieldsOnLines_26 : decode cX6_fieldsOnLines 26 = .ok (.isub, 1) := by decide +kernel
theorem dX6_fieldsOnLines_27 : decode cX6_fieldsOnLines 27 = .ok (.iload_n 2, 1) := by decide +kernel
theorem dX6_fieldsOnLines_28 : decode cX6_fieldsOnLines 28 = .ok (.irem, 1) := by decide +kernel
theorem dX6_fieldsOnLines_29 : decode cX6_fieldsOnLines 29 = .ok (.ifCond .ne 13, 3) := by decide +kernel
theorem dX6_fieldsOnLines_32 : decode cX6_fieldsOnLines 32 = .ok (.lload 4, 2) := by decide +kernel
theorem dX6_fieldsOnLines_34 : decode cX6_fieldsOnLines 34 = .ok (.iload 6, 2) := by decide +kernel
theorem dX6_fieldsOnLines_36 : decode cX6_fieldsOnLines 36 = .ok (.invokestatic 327, 3) := by decide +kernel
theorem dX6_fieldsOnLines_39 : decode cX6_fieldsOnLines 39 = .ok (.lor, 1) := by decide +kernel
theorem dX6_fieldsOnLines_40 : decode cX6_fieldsOnLines 40 = .ok (.lstore 4, 2) := by decide +kernel
theorem dX6_fieldsOnLines_42 : decode cX6_fieldsOnLines 42 = .ok (.iinc 6 1, 3) := by decide +kernel
theorem dX6_fieldsOnLines_45 : decode cX6_fieldsOnLines 45 = .ok (.goto (-38), 3) := by decide +kernel
theorem dX6_fieldsOnLines_48 : decode cX6_fieldsOnLines 48 = .ok (.lload 4, 2) := by decide +kernel
theorem dX6_fieldsOnLines_50 : decode cX6_fieldsOnLines 50 = .ok (.lreturn, 1) := by decide +kernel
theorem dX6_numberOfLine_0 : decode cX6_numberOfLine 0 = .ok (.iload_n 2, 1) := by decide +kernel
theorem dX6_numberOfLine_1 : decode cX6_numberOfLine 1 = .ok (.tableswitch 35 0 2 #[27, 29, 31], 27) := by decide +kernel
theorem dX6_numberOfLine_28 : decode cX6_numberOfLine 28 = .ok (.iload_n 1, 1) := by decide +kernel
theorem dX6_numberOfLine_29 : decode cX6_numberOfLine 29 = .ok (.ireturn, 1) := by decide +kernel
theorem dX6_numberOfLine_30 : decode cX6_numberOfLine 30 = .ok (.iload_n 0, 1) := by decide +kernel
theorem dX6_numberOfLine_31 : decode cX6_numberOfLine 31 = .ok (.ireturn, 1) := by decide +kernel
theorem dX6_numberOfLine_32 : decode cX6_numberOfLine 32 = .ok (.iload_n 0, 1) := by decide +kernel
theorem dX6_numberOfLine_33 : decode cX6_numberOfLine 33 = .ok (.iload_n 1, 1) := by decide +kernel
theorem dX6_numberOfLine_34 : decode cX6_numberOfLine 34 = .ok (.iadd, 1) := by decide +kernel
theorem dX6_numberOfLine_35 : decode cX6_numberOfLine 35 = .ok (.ireturn, 1) := by decide +kernel
theorem dX6_numberOfLine_36 : decode cX6_numberOfLine 36 = .ok (.iload_n 0, 1) := by decide +kernel
theorem dX6_numberOfLine_37 : decode cX6_numberOfLine 37 = .ok (.iload_n 1, 1) := by decide +kernel
theorem dX6_numberOfLine_38 : decode cX6_numberOfLine 38 = .ok (.isub, 1) := by decide +kernel
theorem dX6_numberOfLine_39 : decode cX6_numberOfLine 39 = .ok (.ireturn, 1) := by decide +kernel
theorem dX6_mixed_0 : decode cX6_mixed 0 = .ok (.lload_n 0, 1) := by decide +kernel
theorem dX6_mixed_1 : decode cX6_mixed 1 = .ok (.ldc2_w 304, 3) := by decide +kernel
theorem dX6_mixed_4 : decode cX6_mixed 4 = .ok (.lmul, 1) := by decide +kernel
theorem dX6_mixed_5 : decode cX6_mixed 5 = .ok (.lload_n 2, 1) := by decide +kernel
theorem dX6_mixed_6 : decode cX6_mixed 6 = .ok (.ladd, 1) := by decide +kernel
theorem dX6_mixed_7 : decode cX6_mixed 7 = .ok (.lreturn, 1) := by decide +kernel
theorem dX6_digestOfContours_0 : decode cX6_digestOfContours 0 = .ok (.lload_n 1, 1) := by decide +kernel
theorem dX6_digestOfContours_1 : decode cX6_digestOfContours 1 = .ok (.lstore 4, 2) := by decide +kernel
theorem dX6_digestOfContours_3 : decode cX6_digestOfContours 3 = .ok (.aload_n 0, 1) := by decide +kernel
theorem dX6_digestOfContours_4 : decode cX6_digestOfContours 4 = .ok (.getfield 44, 3) := by decide +kernel
theorem dX6_digestOfContours_7 : decode cX6_digestOfContours 7 = .ok (.aload_n 3, 1) := by decide +kernel
theorem dX6_digestOfContours_8 : decode cX6_digestOfContours 8 = .ok (.invokevirtual 330, 3) := by decide +kernel
theorem dX6_digestOfContours_11 : decode cX6_digestOfContours 11 = .ok (.iconst 0, 1) := by decide +kernel
theorem dX6_digestOfContours_12 : decode cX6_digestOfContours 12 = .ok (.istore 6, 2) := by decide +kernel
theorem dX6_digestOfContours_14 : decode cX6_digestOfContours 14 = .ok (.iload 6, 2) := by decide +kernel
theorem dX6_digestOfContours_16 : decode cX6_digestOfContours 16 = .ok (.sipush 16384, 3) := by decide +kernel
theorem dX6_digestOfContours_19 : decode cX6_digestOfContours 19 = .ok (.if_icmp .ge 80, 3) := by decide +kernel
theorem dX6_digestOfContours_22 : decode cX6_digestOfContours 22 = .ok (.aload_n 0, 1) := by decide +kernel
theorem dX6_digestOfContours_23 : decode cX6_digestOfContours 23 = .ok (.getfield 44, 3) := by decide +kernel
theorem dX6_digestOfContours_26 : decode cX6_digestOfContours 26 = .ok (.iconst 0, 1) := by decide +kernel
theorem dX6_digestOfContours_27 : decode cX6_digestOfContours 27 = .ok (.invokevirtual 332, 3) := by decide +kernel
theorem dX6_digestOfContours_30 : decode cX6_digestOfContours 30 = .ok (.ifCond .eq 69, 3) := by decide +kernel
theorem dX6_digestOfContours_33 : decode cX6_digestOfContours 33 = .ok (.lload 4, 2) := by decide +kernel
theorem dX6_digestOfContours_35 : decode cX6_digestOfContours 35 = .ok (.aload_n 0, 1) := by decide +kernel
theorem dX6_digestOfContours_36 : decode cX6_digestOfContours 36 = .ok (.getfield 44, 3) := by decide +kernel
theorem dX6_digestOfContours_39 : decode cX6_digestOfContours 39 = .ok (.invokevirtual 219, 3) := by decide +kernel
theorem dX6_digestOfContours_42 : decode cX6_digestOfContours 42 = .ok (.i2l, 1) := by decide +kernel
theorem dX6_digestOfContours_43 : decode cX6_digestOfContours 43 = .ok (.invokestatic 278, 3) := by decide +kernel
theorem dX6_digestOfContours_46 : decode cX6_digestOfContours 46 = .ok (.lstore 4, 2) := by decide +kernel
theorem dX6_digestOfContours_48 : decode cX6_digestOfContours 48 = .ok (.lload 4, 2) := by decide +kernel
theorem dX6_digestOfContours_50 : decode cX6_digestOfContours 50 = .ok (.aload_n 0, 1) := by decide +kernel
theorem dX6_digestOfContours_51 : decode cX6_digestOfContours 51 = .ok (.getfield 44, 3) := by decide +kernel
theorem dX6_digestOfContours_54 : decode cX6_digestOfContours 54 = .ok (.invokevirtual 228, 3) := by decide +kernel
theorem dX6_digestOfContours_57 : decode cX6_digestOfContours 57 = .ok (.i2l, 1) := by decide +kernel
theorem dX6_digestOfContours_58 : decode cX6_digestOfContours 58 = .ok (.invokestatic 278, 3) := by decide +kernel
theorem dX6_digestOfContours_61 : decode cX6_digestOfContours 61 = .ok (.lstore 4, 2) := by decide +kernel
theorem dX6_digestOfContours_63 : decode cX6_digestOfContours 63 = .ok (.lload 4, 2) := by decide +kernel
theorem dX6_digestOfContours_65 : decode cX6_digestOfContours 65 = .ok (.aload_n 0, 1) := by decide +kernel
theorem dX6_digestOfContours_66 : decode cX6_digestOfContours 66 = .ok (.getfield 44, 3) := by decide +kernel
theorem dX6_digestOfContours_69 : decode cX6_digestOfContours 69 = .ok (.invokevirtual 222, 3) := by decide +kernel
theorem dX6_digestOfContours_72 : decode cX6_digestOfContours 72 = .ok (.i2l, 1) := by decide +kernel
theorem dX6_digestOfContours_73 : decode cX6_digestOfContours 73 = .ok (.invokestatic 278, 3) := by decide +kernel
theorem dX6_digestOfContours_76 : decode cX6_digestOfContours 76 = .ok (.lstore 4, 2) := by decide +kernel
theorem dX6_digestOfContours_78 : decode cX6_digestOfContours 78 = .ok (.lload 4, 2) := by decide +kernel
theorem dX6_digestOfContours_80 : decode cX6_digestOfContours 80 = .ok (.aload_n 0, 1) := by decide +kernel
theorem dX6_digestOfContours_81 : decode cX6_digestOfContours 81 = .ok (.getfield 44, 3) := by decide +kernel
theorem dX6_digestOfContours_84 : decode cX6_digestOfContours 84 = .ok (.invokevirtual 225, 3) := by decide +kernel
theorem dX6_digestOfContours_87 : decode cX6_digestOfContours 87 = .ok (.i2l, 1) := by decide +kernel
theorem dX6_digestOfContours_88 : decode cX6_digestOfContours 88 = .ok (.invokestatic 278, 3) := by decide +kernel
theorem dX6_digestOfContours_91 : decode cX6_digestOfContours 91 = .ok (.lstore 4, 2) := by decide +kernel
theorem dX6_digestOfContours_93 : decode cX6_digestOfContours 93 = .ok (.iinc 6 1, 3) := by decide +kernel
theorem dX6_digestOfContours_96 : decode cX6_digestOfContours 96 = .ok (.goto (-82), 3) := by decide +kernel
theorem dX6_digestOfContours_99 : decode cX6_digestOfContours 99 = .ok (.lload 4, 2) := by decide +kernel
theorem dX6_digestOfContours_101 : decode cX6_digestOfContours 101 = .ok (.lreturn, 1) := by decide +kernel
theorem dX6_digestOfStrips_0 : decode cX6_digestOfStrips 0 = .ok (.lload_n 1, 1) := by decide +kernel
theorem dX6_digestOfStrips_1 : decode cX6_digestOfStrips 1 = .ok (.lstore 4, 2) := by decide +kernel
theorem dX6_digestOfStrips_3 : decode cX6_digestOfStrips 3 = .ok (.aload_n 0, 1) := by decide +kernel
theorem dX6_digestOfStrips_4 : decode cX6_digestOfStrips 4 = .ok (.getfield 51, 3) := by decide +kernel
theorem dX6_digestOfStrips_7 : decode cX6_digestOfStrips 7 = .ok (.aload_n 3, 1) := by decide +kernel
theorem dX6_digestOfStrips_8 : decode cX6_digestOfStrips 8 = .ok (.invokevirtual 336, 3) := by decide +kernel
theorem dX6_digestOfStrips_11 : decode cX6_digestOfStrips 11 = .ok (.iconst 0, 1) := by decide +kernel
theorem dX6_digestOfStrips_12 : decode cX6_digestOfStrips 12 = .ok (.istore 6, 2) := by decide +kernel
theorem dX6_digestOfStrips_14 : decode cX6_digestOfStrips 14 = .ok (.iload 6, 2) := by decide +kernel
theorem dX6_digestOfStrips_16 : decode cX6_digestOfStrips 16 = .ok (.sipush 16384, 3) := by decide +kernel
theorem dX6_digestOfStrips_19 : decode cX6_digestOfStrips 19 = .ok (.if_icmp .ge 51, 3) := by decide +kernel
theorem dX6_digestOfStrips_22 : decode cX6_digestOfStrips 22 = .ok (.aload_n 0, 1) := by decide +kernel
theorem dX6_digestOfStrips_23 : decode cX6_digestOfStrips 23 = .ok (.getfield 51, 3) := by decide +kernel
theorem dX6_digestOfStrips_26 : decode cX6_digestOfStrips 26 = .ok (.invokevirtual 337, 3) := by decide +kernel
theorem dX6_digestOfStrips_29 : decode cX6_digestOfStrips 29 = .ok (.ifCond .eq 41, 3) := by decide +kernel
theorem dX6_digestOfStrips_32 : decode cX6_digestOfStrips 32 = .ok (.iconst 0, 1) := by decide +kernel
theorem dX6_digestOfStrips_33 : decode cX6_digestOfStrips 33 = .ok (.istore 7, 2) := by decide +kernel
theorem dX6_digestOfStrips_35 : decode cX6_digestOfStrips 35 = .ok (.iload 7, 2) := by decide +kernel
theorem dX6_digestOfStrips_37 : decode cX6_digestOfStrips 37 = .ok (.iconst 4, 1) := by decide +kernel
theorem dX6_digestOfStrips_38 : decode cX6_digestOfStrips 38 = .ok (.if_icmp .ge 26, 3) := by decide +kernel
theorem dX6_digestOfStrips_41 : decode cX6_digestOfStrips 41 = .ok (.lload 4, 2) := by decide +kernel
theorem dX6_digestOfStrips_43 : decode cX6_digestOfStrips 43 = .ok (.aload_n 0, 1) := by decide +kernel
theorem dX6_digestOfStrips_44 : decode cX6_digestOfStrips 44 = .ok (.getfield 51, 3) := by decide +kernel
theorem dX6_digestOfStrips_47 : decode cX6_digestOfStrips 47 = .ok (.iload 7, 2) := by decide +kernel
theorem dX6_digestOfStrips_49 : decode cX6_digestOfStrips 49 = .ok (.invokevirtual 245, 3) := by decide +kernel
theorem dX6_digestOfStrips_52 : decode cX6_digestOfStrips 52 = .ok (.i2l, 1) := by decide +kernel
theorem dX6_digestOfStrips_53 : decode cX6_digestOfStrips 53 = .ok (.invokestatic 278, 3) := by decide +kernel
theorem dX6_digestOfStrips_56 : decode cX6_digestOfStrips 56 = .ok (.lstore 4, 2) := by decide +kernel
theorem dX6_digestOfStrips_58 : decode cX6_digestOfStrips 58 = .ok (.iinc 7 1, 3) := by decide +kernel
theorem dX6_digestOfStrips_61 : decode cX6_digestOfStrips 61 = .ok (.goto (-26), 3) := by decide +kernel
theorem dX6_digestOfStrips_64 : decode cX6_digestOfStrips 64 = .ok (.iinc 6 1, 3) := by decide +kernel
theorem dX6_digestOfStrips_67 : decode cX6_digestOfStrips 67 = .ok (.goto (-53), 3) := by decide +kernel
theorem dX6_digestOfStrips_70 : decode cX6_digestOfStrips 70 = .ok (.lload 4, 2) := by decide +kernel
theorem dX6_digestOfStrips_72 : decode cX6_digestOfStrips 72 = .ok (.lreturn, 1) := by decide +kernel
theorem dX6_bit_0 : decode cX6_bit 0 = .ok (.lconst 1, 1) := by decide +kernel
theorem dX6_bit_1 : decode cX6_bit 1 = .ok (.iload_n 0, 1) := by decide +kernel
theorem dX6_bit_2 : decode cX6_bit 2 = .ok (.bipush (-32), 2) := by decide +kernel
theorem dX6_bit_4 : decode cX6_bit 4 = .ok (.isub, 1) := by decide +kernel
theorem dX6_bit_5 : decode cX6_bit 5 = .ok (.lshl, 1) := by decide +kernel
theorem dX6_bit_6 : decode cX6_bit 6 = .ok (.lreturn, 1) := by decide +kernel
theorem dX6_lowestBit_0 : decode cX6_lowestBit 0 = .ok (.lload_n 0, 1) := by decide +kernel
theorem dX6_lowestBit_1 : decode cX6_lowestBit 1 = .ok (.lload_n 0, 1) := by decide +kernel
theorem dX6_lowestBit_2 : decode cX6_lowestBit 2 = .ok (.lneg, 1) := by decide +kernel
theorem dX6_lowestBit_3 : decode cX6_lowestBit 3 = .ok (.land, 1) := by decide +kernel
theorem dX6_lowestBit_4 : decode cX6_lowestBit 4 = .ok (.lconst 1, 1) := by decide +kernel
theorem dX6_lowestBit_5 : decode cX6_lowestBit 5 = .ok (.lsub, 1) := by decide +kernel
theorem dX6_lowestBit_6 : decode cX6_lowestBit 6 = .ok (.invokestatic 260, 3) := by decide +kernel
theorem dX6_lowestBit_9 : decode cX6_lowestBit 9 = .ok (.ireturn, 1) := by decide +kernel
theorem dX7_init_0 : decode cX7_init 0 = .ok (.aload_n 0, 1) := by decide +kernel
theorem dX7_init_1 : decode cX7_init 1 = .ok (.invokespecial 3, 3) := by decide +kernel
theorem dX7_init_4 : decode cX7_init 4 = .ok (.aload_n 0, 1) := by decide +kernel
theorem dX7_init_5 : decode cX7_init 5 = .ok (.bipush 8, 2) := by decide +kernel
theorem dX7_init_7 : decode cX7_init 7 = .ok (.sipush 4096, 3) := by decide +kernel
theorem dX7_init_10 : decode cX7_init 10 = .ok (.multianewarray 9 2, 4) := by decide +kernel
theorem dX7_init_14 : decode cX7_init 14 = .ok (.putfield 11, 3) := by decide +kernel
theorem dX7_init_17 : decode cX7_init 17 = .ok (.aload_n 0, 1) := by decide +kernel
theorem dX7_init_18 : decode cX7_init 18 = .ok (.bipush 61, 2) := by decide +kernel
theorem dX7_init_20 : decode cX7_init 20 = .ok (.newarray .int, 2) := by decide +kernel
theorem dX7_init_22 : decode cX7_init 22 = .ok (.putfield 14, 3) := by decide +kernel
theorem dX7_init_25 : decode cX7_init 25 = .ok (.aload_n 0, 1) := by decide +kernel
theorem dX7_init_26 : decode cX7_init 26 = .ok (.bipush 61, 2) := by decide +kernel
theorem dX7_init_28 : decode cX7_init 28 = .ok (.newarray .int, 2) := by decide +kernel
theorem dX7_init_30 : decode cX7_init 30 = .ok (.putfield 18, 3) := by decide +kernel
theorem dX7_init_33 : decode cX7_init 33 = .ok (.aload_n 0, 1) := by decide +kernel
theorem dX7_init_34 : decode cX7_init 34 = .ok (.iconst 1, 1) := by decide +kernel
theorem dX7_init_35 : decode cX7_init 35 = .ok (.putfield 21, 3) := by decide +kernel
theorem dX7_init_38 : decode cX7_init 38 = .ok (.aload_n 0, 1) := by decide +kernel
theorem dX7_init_39 : decode cX7_init 39 = .ok (.bipush 13, 2) := by decide +kernel
theorem dX7_init_41 : decode cX7_init 41 = .ok (.newarray .int, 2) := by decide +kernel
theorem dX7_init_43 : decode cX7_init 43 = .ok (.putfield 25, 3) := by decide +kernel
theorem dX7_init_46 : decode cX7_init 46 = .ok (.aload_n 0, 1) := by decide +kernel
theorem dX7_init_47 : decode cX7_init 47 = .ok (.bipush 13, 2) := by decide +kernel
theorem dX7_init_49 : decode cX7_init 49 = .ok (.anewarray 28, 3) := by decide +kernel
theorem dX7_init_52 : decode cX7_init 52 = .ok (.putfield 30, 3) := by decide +kernel
theorem dX7_init_55 : decode cX7_init 55 = .ok (.return_, 1) := by decide +kernel
theorem dX7_thrown_0 : decode cX7_thrown 0 = .ok (.aload_n 0, 1) := by decide +kernel
theorem dX7_thrown_1 : decode cX7_thrown 1 = .ok (.getfield 33, 3) := by decide +kernel
theorem dX7_thrown_4 : decode cX7_thrown 4 = .ok (.ireturn, 1) := by decide +kernel
theorem dX7_no_0 : decode cX7_no 0 = .ok (.aload_n 0, 1) := by decide +kernel
theorem dX7_no_1 : decode cX7_no 1 = .ok (.iload_n 1, 1) := by decide +kernel
theorem dX7_no_2 : decode cX7_no 2 = .ok (.putfield 33, 3) := by decide +kernel
theorem dX7_no_5 : decode cX7_no 5 = .ok (.iconst 0, 1) := by decide +kernel
theorem dX7_no_6 : decode cX7_no 6 = .ok (.ireturn, 1) := by decide +kernel
theorem dX7_isIn_0 : decode cX7_isIn 0 = .ok (.iload_n 0, 1) := by decide +kernel
theorem dX7_isIn_1 : decode cX7_isIn 1 = .ok (.iload_n 1, 1) := by decide +kernel
theorem dX7_isIn_2 : decode cX7_isIn 2 = .ok (.if_icmp .lt 12, 3) := by decide +kernel
theorem dX7_isIn_5 : decode cX7_isIn 5 = .ok (.iload_n 0, 1) := by decide +kernel
theorem dX7_isIn_6 : decode cX7_isIn 6 = .ok (.iload_n 2, 1) := by decide +kernel
theorem dX7_isIn_7 : decode cX7_isIn 7 = .ok (.if_icmp .gt 7, 3) := by decide +kernel
theorem dX7_isIn_10 : decode cX7_isIn 10 = .ok (.iconst 1, 1) := by decide +kernel
theorem dX7_isIn_11 : decode cX7_isIn 11 = .ok (.goto 4, 3) := by decide +kernel
theorem dX7_isIn_14 : decode cX7_isIn 14 = .ok (.iconst 0, 1) := by decide +kernel
theorem dX7_isIn_15 : decode cX7_isIn 15 = .ok (.ireturn, 1) := by decide +kernel
theorem dX7_isRegion_0 : decode cX7_isRegion 0 = .ok (.iload_n 0, 1) := by decide +kernel
theorem dX7_isRegion_1 : decode cX7_isRegion 1 = .ok (.iconst 0, 1) := by decide +kernel
theorem dX7_isRegion_2 : decode cX7_isRegion 2 = .ok (.bipush 7, 2) := by decide +kernel
theorem dX7_isRegion_4 : decode cX7_isRegion 4 = .ok (.invokestatic 36, 3) := by decide +kernel
theorem dX7_isRegion_7 : decode cX7_isRegion 7 = .ok (.ireturn, 1) := by decide +kernel
theorem dX7_isField_0 : decode cX7_isField 0 = .ok (.iload_n 0, 1) := by decide +kernel
theorem dX7_isField_1 : decode cX7_isField 1 = .ok (.bipush (-32), 2) := by decide +kernel
theorem dX7_isField_3 : decode cX7_isField 3 = .ok (.bipush 31, 2) := by decide +kernel
theorem dX7_isField_5 : decode cX7_isField 5 = .ok (.invokestatic 36, 3) := by decide +kernel
theorem dX7_isField_8 : decode cX7_isField 8 = .ok (.ifCond .eq 18, 3) := by decide +kernel
theorem dX7_isField_11 : decode cX7_isField 11 = .ok (.iload_n 1, 1) := by decide +kernel
theorem dX7_isField_12 : decode cX7_isField 12 = .ok (.bipush (-32), 2) := by decide +kernel
theorem dX7_isField_14 : decode cX7_isField 14 = .ok (.bipush 31, 2) := by decide +kernel
theorem dX7_isField_16 : decode cX7_isField 16 = .ok (.invokestatic 36, 3) := by decide +kernel
theorem dX7_isField_19 : decode cX7_isField 19 = .ok (.ifCond .eq 7, 3) := by decide +kernel
theorem dX7_isField_22 : decode cX7_isField 22 = .ok (.iconst 1, 1) := by decide +kernel
theorem dX7_isField_23 : decode cX7_isField 23 = .ok (.goto 4, 3) := by decide +kernel
theorem dX7_isField_26 : decode cX7_isField 26 = .ok (.iconst 0, 1) := by decide +kernel
theorem dX7_isField_27 : decode cX7_isField 27 = .ok (.ireturn, 1) := by decide +kernel
theorem dX7_at_0 : decode cX7_at 0 = .ok (.iload_n 1, 1) := by decide +kernel
theorem dX7_at_1 : decode cX7_at 1 = .ok (.bipush (-32), 2) := by decide +kernel
theorem dX7_at_3 : decode cX7_at 3 = .ok (.isub, 1) := by decide +kernel
theorem dX7_at_4 : decode cX7_at 4 = .ok (.bipush 64, 2) := by decide +kernel
theorem dX7_at_6 : decode cX7_at 6 = .ok (.imul, 1) := by decide +kernel
theorem dX7_at_7 : decode cX7_at 7 = .ok (.iload_n 0, 1) := by decide +kernel
theorem dX7_at_8 : decode cX7_at 8 = .ok (.iadd, 1) := by decide +kernel
theorem dX7_at_9 : decode cX7_at 9 = .ok (.bipush (-32), 2) := by decide +kernel
theorem dX7_at_11 : decode cX7_at 11 = .ok (.isub, 1) := by decide +kernel
theorem dX7_at_12 : decode cX7_at 12 = .ok (.ireturn, 1) := by decide +kernel
theorem dX7_has_0 : decode cX7_has 0 = .ok (.iload_n 1, 1) := by decide +kernel
theorem dX7_has_1 : decode cX7_has 1 = .ok (.iload_n 2, 1) := by decide +kernel
theorem dX7_has_2 : decode cX7_has 2 = .ok (.invokestatic 40, 3) := by decide +kernel
theorem dX7_has_5 : decode cX7_has 5 = .ok (.ifCond .eq 17, 3) := by decide +kernel
theorem dX7_has_8 : decode cX7_has 8 = .ok (.aload_n 0, 1) := by decide +kernel
theorem dX7_has_9 : decode cX7_has 9 = .ok (.iload_n 1, 1) := by decide +kernel
theorem dX7_has_10 : decode cX7_has 10 = .ok (.iload_n 2, 1) := by decide +kernel
theorem dX7_has_11 : decode cX7_has 11 = .ok (.invokestatic 44, 3) := by decide +kernel
theorem dX7_has_14 : decode cX7_has 14 = .ok (.baload, 1) := by decide +kernel
theorem dX7_has_15 : decode cX7_has 15 = .ok (.ifCond .eq 7, 3) := by decide +kernel
theorem dX7_has_18 : decode cX7_has 18 = .ok (.iconst 1, 1) := by decide +kernel
theorem dX7_has_19 : decode cX7_has 19 = .ok (.goto 4, 3) := by decide +kernel
theorem dX7_has_22 : decode cX7_has 22 = .ok (.iconst 0, 1) := by decide +kernel
theorem dX7_has_23 : decode cX7_has 23 = .ok (.ireturn, 1) := by decide +kernel
theorem dX7_areaOf_0 : decode cX7_areaOf 0 = .ok (.iconst 0, 1) := by decide +kernel
theorem dX7_areaOf_1 : decode cX7_areaOf 1 = .ok (.istore_n 1, 1) := by decide +kernel
theorem dX7_areaOf_2 : decode cX7_areaOf 2 = .ok (.aload_n 0, 1) := by decide +kernel
theorem dX7_areaOf_3 : decode cX7_areaOf 3 = .ok (.astore_n 2, 1) := by decide +kernel
theorem dX7_areaOf_4 : decode cX7_areaOf 4 = .ok (.aload_n 2, 1) := by decide +kernel
theorem dX7_areaOf_5 : decode cX7_areaOf 5 = .ok (.arraylength, 1) := by decide +kernel
theorem dX7_areaOf_6 : decode cX7_areaOf 6 = .ok (.istore_n 3, 1) := by decide +kernel
theorem dX7_areaOf_7 : decode cX7_areaOf 7 = .ok (.iconst 0, 1) := by decide +kernel
theorem dX7_areaOf_8 : decode cX7_areaOf 8 = .ok (.istore 4, 2) := by decide +kernel
theorem dX7_areaOf_10 : decode cX7_areaOf 10 = .ok (.iload 4, 2) := by decide +kernel
theorem dX7_areaOf_12 : decode cX7_areaOf 12 = .ok (.iload_n 3, 1) := by decide +kernel
theorem dX7_areaOf_13 : decode cX7_areaOf 13 = .ok (.if_icmp .ge 28, 3) := by decide +kernel
theorem dX7_areaOf_16 : decode cX7_areaOf 16 = .ok (.aload_n 2, 1) := by decide +kernel
theorem dX7_areaOf_17 : decode cX7_areaOf 17 = .ok (.iload 4, 2) := by decide +kernel
theorem dX7_areaOf_19 : decode cX7_areaOf 19 = .ok (.baload, 1) := by decide +kernel
theorem dX7_areaOf_20 : decode cX7_areaOf 20 = .ok (.istore 5, 2) := by decide +kernel
theorem dX7_areaOf_22 : decode cX7_areaOf 22 = .ok (.iload_n 1, 1) := by decide +kernel
theorem dX7_areaOf_23 : decode cX7_areaOf 23 = .ok (.iload 5, 2) := by decide +kernel
theorem dX7_areaOf_25 : decode cX7_areaOf 25 = .ok (.ifCond .eq 7, 3) := by decide +kernel
theorem dX7_areaOf_28 : decode cX7_areaOf 28 = .ok (.iconst 1, 1) := by decide +kernel
theorem dX7_areaOf_29 : decode cX7_areaOf 29 = .ok (.goto 4, 3) := by decide +kernel
theorem dX7_areaOf_32 : decode cX7_areaOf 32 = .ok (.iconst 0, 1) := by decide +kernel
theorem dX7_areaOf_33 : decode cX7_areaOf 33 = .ok (.iadd, 1) := by decide +kernel
theorem dX7_areaOf_34 : decode cX7_areaOf 34 = .ok (.istore_n 1, 1) := by decide +kernel
theorem dX7_areaOf_35 : decode cX7_areaOf 35 = .ok (.iinc 4 1, 3) := by decide +kernel
theorem dX7_areaOf_38 : decode cX7_areaOf 38 = .ok (.goto (-28), 3) := by decide +kernel
theorem dX7_areaOf_41 : decode cX7_areaOf 41 = .ok (.iload_n 1, 1) := by decide +kernel
theorem dX7_areaOf_42 : decode cX7_areaOf 42 = .ok (.ireturn, 1) := by decide +kernel
theorem dX7_change_0 : decode cX7_change 0 = .ok (.sipush 4096, 3) := by decide +kernel
theorem dX7_change_3 : decode cX7_change 3 = .ok (.newarray .boolean, 2) := by decide +kernel
theorem dX7_change_5 : decode cX7_change 5 = .ok (.astore_n 3, 1) := by decide +kernel
theorem dX7_change_6 : decode cX7_change 6 = .ok (.aload_n 0, 1) := by decide +kernel
theorem dX7_change_7 : decode cX7_change 7 = .ok (.getfield 11, 3) := by decide +kernel
theorem dX7_change_10 : decode cX7_change 10 = .ok (.iload_n 1, 1) := by decide +kernel
theorem dX7_change_11 : decode cX7_change 11 = .ok (.aaload, 1) := by decide +kernel
theorem dX7_change_12 : decode cX7_change 12 = .ok (.iconst 0, 1) := by decide +kernel
theorem dX7_change_13 : decode cX7_change 13 = .ok (.aload_n 3, 1) := by decide +kernel
theorem dX7_change_14 : decode cX7_change 14 = .ok (.iconst 0, 1) := by decide +kernel
theorem dX7_change_15 : decode cX7_change 15 = .ok (.sipush 4096, 3) := by decide +kernel
theorem dX7_change_18 : decode cX7_change 18 = .ok (.invokestatic 48, 3) := by decide +kernel
theorem dX7_change_21 : decode cX7_change 21 = .ok (.aload_n 0, 1) := by decide +kernel
theorem dX7_change_22 : decode cX7_change 22 = .ok (.getfield 25, 3) := by decide +kernel
theorem dX7_change_25 : decode cX7_change 25 = .ok (.aload_n 0, 1) := by decide +kernel
theorem dX7_change_26 : decode cX7_change 26 = .ok (.getfield 54, 3) := by decide +kernel
theorem dX7_change_29 : decode cX7_change 29 = .ok (.iload_n 1, 1) := by decide +kernel
theorem dX7_change_30 : decode cX7_change 30 = .ok (.iastore, 1) := by decide +kernel
theorem dX7_change_31 : decode cX7_change 31 = .ok (.aload_n 0, 1) := by decide +kernel
theorem dX7_change_32 : decode cX7_change 32 = .ok (.getfield 30, 3) := by decide +kernel
theorem dX7_change_35 : decode cX7_change 35 = .ok (.aload_n 0, 1) := by decide +kernel
theorem dX7_change_36 : decode cX7_change 36 = .ok (.dup, 1) := by decide +kernel
theorem dX7_change_37 : decode cX7_change 37 = .ok (.getfield 54, 3) := by decide +kernel
theorem dX7_change_40 : decode cX7_change 40 = .ok (.dup_x1, 1) := by decide +kernel
theorem dX7_change_41 : decode cX7_change 41 = .ok (.iconst 1, 1) := by decide +kernel
theorem dX7_change_42 : decode cX7_change 42 = .ok (.iadd, 1) := by decide +kernel
theorem dX7_change_43 : decode cX7_change 43 = .ok (.putfield 54, 3) := by decide +kernel
theorem dX7_change_46 : decode cX7_change 46 = .ok (.aload_n 3, 1) := by decide +kernel
theorem dX7_change_47 : decode cX7_change 47 = .ok (.aastore, 1) := by decide +kernel
theorem dX7_change_48 : decode cX7_change 48 = .ok (.aload_n 0, 1) := by decide +kernel
theorem dX7_change_49 : decode cX7_change 49 = .ok (.getfield 54, 3) := by decide +kernel
theorem dX7_change_52 : decode cX7_change 52 = .ok (.bipush 12, 2) := by decide +kernel
theorem dX7_change_54 : decode cX7_change 54 = .ok (.if_icmp .le 57, 3) := by decide +kernel
theorem dX7_change_57 : decode cX7_change 57 = .ok (.aload_n 0, 1) := by decide +kernel
theorem dX7_change_58 : decode cX7_change 58 = .ok (.bipush 12, 2) := by decide +kernel
theorem dX7_change_60 : decode cX7_change 60 = .ok (.putfield 54, 3) := by decide +kernel
theorem dX7_change_63 : decode cX7_change 63 = .ok (.iconst 0, 1) := by decide +kernel
theorem dX7_change_64 : decode cX7_change 64 = .ok (.istore 4, 2) := by decide +kernel
theorem dX7_change_66 : decode cX7_change 66 = .ok (.iload 4, 2) := by decide +kernel
theorem dX7_change_68 : decode cX7_change 68 = .ok (.bipush 12, 2) := by decide +kernel
theorem dX7_change_70 : decode cX7_change 70 = .ok (.if_icmp .ge 41, 3) := by decide +kernel
theorem dX7_change_73 : decode cX7_change 73 = .ok (.aload_n 0, 1) := by decide +kernel
theorem dX7_change_74 : decode cX7_change 74 = .ok (.getfield 25, 3) := by decide +kernel
theorem dX7_change_77 : decode cX7_change 77 = .ok (.iload 4, 2) := by decide +kernel
theorem dX7_change_79 : decode cX7_change 79 = .ok (.aload_n 0, 1) := by decide +kernel
theorem dX7_change_80 : decode cX7_change 80 = .ok (.getfield 25, 3) := by decide +kernel
theorem dX7_change_83 : decode cX7_change 83 = .ok (.iload 4, 2) := by decide +kernel
theorem dX7_change_85 : decode cX7_change 85 = .ok (.iconst 1, 1) := by decide +kernel
theorem dX7_change_86 : decode cX7_change 86 = .ok (.iadd, 1) := by decide +kernel
theorem dX7_change_87 : decode cX7_change 87 = .ok (.iaload, 1) := by decide +kernel
theorem dX7_change_88 : decode cX7_change 88 = .ok (.iastore, 1) := by decide +kernel
theorem dX7_change_89 : decode cX7_change 89 = .ok (.aload_n 0, 1) := by decide +kernel
theorem dX7_change_90 : decode cX7_change 90 = .ok (.getfield 30, 3) := by decide +kernel
theorem dX7_change_93 : decode cX7_change 93 = .ok (.iload 4, 2) := by decide +kernel
theorem dX7_change_95 : decode cX7_change 95 = .ok (.aload_n 0, 1) := by decide +kernel
theorem dX7_change_96 : decode cX7_change 96 = .ok (.getfield 30, 3) := by decide +kernel
theorem dX7_change_99 : decode cX7_change 99 = .ok (.iload 4, 2) := by decide +kernel
theorem dX7_change_101 : decode cX7_change 101 = .ok (.iconst 1, 1) := by decide +kernel
theorem dX7_change_102 : decode cX7_change 102 = .ok (.iadd, 1) := by decide +kernel
theorem dX7_change_103 : decode cX7_change 103 = .ok (.aaload, 1) := by decide +kernel
theorem dX7_change_104 : decode cX7_change 104 = .ok (.aastore, 1) := by decide +kernel
theorem dX7_change_105 : decode cX7_change 105 = .ok (.iinc 4 1, 3) := by decide +kernel
theorem dX7_change_108 : decode cX7_change 108 = .ok (.goto (-42), 3) := by decide +kernel
theorem dX7_change_111 : decode cX7_change 111 = .ok (.aload_n 2, 1) := by decide +kernel
theorem dX7_change_112 : decode cX7_change 112 = .ok (.iconst 0, 1) := by decide +kernel
theorem dX7_change_113 : decode cX7_change 113 = .ok (.aload_n 0, 1) := by decide +kernel
theorem dX7_change_114 : decode cX7_change 114 = .ok (.getfield 11, 3) := by decide +kernel
theorem dX7_change_117 : decode cX7_change 117 = .ok (.iload_n 1, 1) := by decide +kernel
theorem dX7_change_118 : decode cX7_change 118 = .ok (.aaload, 1) := by decide +kernel
theorem dX7_change_119 : decode cX7_change 119 = .ok (.iconst 0, 1) := by decide +kernel
theorem dX7_change_120 : decode cX7_change 120 = .ok (.sipush 4096, 3) := by decide +kernel
theorem dX7_change_123 : decode cX7_change 123 = .ok (.invokestatic 48, 3) := by decide +kernel
theorem dX7_change_126 : decode cX7_change 126 = .ok (.aload_n 2, 1) := by decide +kernel
theorem dX7_change_127 : decode cX7_change 127 = .ok (.invokestatic 57, 3) := by decide +kernel
theorem dX7_change_130 : decode cX7_change 130 = .ok (.ireturn, 1) := by decide +kernel
theorem dX7_moveTo_0 : decode cX7_moveTo 0 = .ok (.aload_n 0, 1) := by decide +kernel
theorem dX7_moveTo_1 : decode cX7_moveTo 1 = .ok (.iconst 0, 1) := by decide +kernel
theorem dX7_moveTo_2 : decode cX7_moveTo 2 = .ok (.putfield 33, 3) := by decide +kernel
theorem dX7_moveTo_5 : decode cX7_moveTo 5 = .ok (.iload_n 1, 1) := by decide +kernel
theorem dX7_moveTo_6 : decode cX7_moveTo 6 = .ok (.bipush (-24), 2) := by decide +kernel
theorem dX7_moveTo_8 : decode cX7_moveTo 8 = .ok (.bipush 24, 2) := by decide +kernel
theorem dX7_moveTo_10 : decode cX7_moveTo 10 = .ok (.invokestatic 36, 3) := by decide +kernel
theorem dX7_moveTo_13 : decode cX7_moveTo 13 = .ok (.ifCond .eq 14, 3) := by decide +kernel
theorem dX7_moveTo_16 : decode cX7_moveTo 16 = .ok (.iload_n 2, 1) := by decide +kernel
theorem dX7_moveTo_17 : decode cX7_moveTo 17 = .ok (.bipush (-24), 2) := by decide +kernel
theorem dX7_moveTo_19 : decode cX7_moveTo 19 = .ok (.bipush 24, 2) := by decide +kernel
theorem dX7_moveTo_21 : decode cX7_moveTo 21 = .ok (.invokestatic 36, 3) := by decide +kernel
theorem dX7_moveTo_24 : decode cX7_moveTo 24 = .ok (.ifCond .ne 9, 3) := by decide +kernel
theorem dX7_moveTo_27 : decode cX7_moveTo 27 = .ok (.aload_n 0, 1) := by decide +kernel
theorem dX7_moveTo_28 : decode cX7_moveTo 28 = .ok (.iconst 1, 1) := by decide +kernel
theorem dX7_moveTo_29 : decode cX7_moveTo 29 = .ok (.invokevirtual 61, 3) := by decide +kernel
theorem dX7_moveTo_32 : decode cX7_moveTo 32 = .ok (.ireturn, 1) := by decide +kernel
theorem dX7_moveTo_33 : decode cX7_moveTo 33 = .ok (.aload_n 0, 1) := by decide +kernel
theorem dX7_moveTo_34 : decode cX7_moveTo 34 = .ok (.getfield 21, 3) := by decide +kernel
theorem dX7_moveTo_37 : decode cX7_moveTo 37 = .ok (.istore_n 3, 1) := by decide +kernel
theorem dX7_moveTo_38 : decode cX7_moveTo 38 = .ok (.aload_n 0, 1) := by decide +kernel
theorem dX7_moveTo_39 : decode cX7_moveTo 39 = .ok (.iconst 1, 1) := by decide +kernel
theorem dX7_moveTo_40 : decode cX7_moveTo 40 = .ok (.putfield 21, 3) := by decide +kernel
theorem dX7_moveTo_43 : decode cX7_moveTo 43 = .ok (.aload_n 0, 1) := by decide +kernel
theorem dX7_moveTo_44 : decode cX7_moveTo 44 = .ok (.getfield 14, 3) := by decide +kernel
theorem dX7_moveTo_47 : decode cX7_moveTo 47 = .ok (.iconst 0, 1) := by decide +kernel
theorem dX7_moveTo_48 : decode cX7_moveTo 48 = .ok (.iload_n 1, 1) := by decide +kernel
theorem dX7_moveTo_49 : decode cX7_moveTo 49 = .ok (.iastore, 1) := by decide +kernel
theorem dX7_moveTo_50 : decode cX7_moveTo 50 = .ok (.aload_n 0, 1) := by decide +kernel
theorem dX7_moveTo_51 : decode cX7_moveTo 51 = .ok (.getfield 18, 3) := by decide +kernel
theorem dX7_moveTo_54 : decode cX7_moveTo 54 = .ok (.iconst 0, 1) := by decide +kernel
theorem dX7_moveTo_55 : decode cX7_moveTo 55 = .ok (.iload_n 2, 1) := by decide +kernel
theorem dX7_moveTo_56 : decode cX7_moveTo 56 = .ok (.iastore, 1) := by decide +kernel
theorem dX7_moveTo_57 : decode cX7_moveTo 57 = .ok (.iload_n 3, 1) := by decide +kernel
theorem dX7_moveTo_58 : decode cX7_moveTo 58 = .ok (.ireturn, 1) := by decide +kernel
theorem dX7_line_0 : decode cX7_line 0 = .ok (.aload_n 0, 1) := by decide +kernel
theorem dX7_line_1 : decode cX7_line 1 = .ok (.iconst 0, 1) := by decide +kernel
theorem dX7_line_2 : decode cX7_line 2 = .ok (.putfield 33, 3) := by decide +kernel
theorem dX7_line_5 : decode cX7_line 5 = .ok (.aload_n 0, 1) := by decide +kernel
theorem dX7_line_6 : decode cX7_line 6 = .ok (.getfield 14, 3) := by decide +kernel
theorem dX7_line_9 : decode cX7_line 9 = .ok (.aload_n 0, 1) := by decide +kernel
theorem dX7_line_10 : decode cX7_line 10 = .ok (.getfield 21, 3) := by decide +kernel
theorem dX7_line_13 : decode cX7_line 13 = .ok (.iconst 1, 1) := by decide +kernel
theorem dX7_line_14 : decode cX7_line 14 = .ok (.isub, 1) := by decide +kernel
theorem dX7_line_15 : decode cX7_line 15 = .ok (.iaload, 1) := by decide +kernel
theorem dX7_line_16 : decode cX7_line 16 = .ok (.istore_n 3, 1) := by decide +kernel
theorem dX7_line_17 : decode cX7_line 17 = .ok (.aload_n 0, 1) := by decide +kernel
theorem dX7_line_18 : decode cX7_line 18 = .ok (.getfield 18, 3) := by decide +kernel
theorem dX7_line_21 : decode cX7_line 21 = .ok (.aload_n 0, 1) := by decide +kernel
theorem dX7_line_22 : decode cX7_line 22 = .ok (.getfield 21, 3) := by decide +kernel
theorem dX7_line_25 : decode cX7_line 25 = .ok (.iconst 1, 1) := by decide +kernel
theorem dX7_line_26 : decode cX7_line 26 = .ok (.isub, 1) := by decide +kernel
theorem dX7_line_27 : decode cX7_line 27 = .ok (.iaload, 1) := by decide +kernel
theorem dX7_line_28 : decode cX7_line 28 = .ok (.istore 4, 2) := by decide +kernel
theorem dX7_line_30 : decode cX7_line 30 = .ok (.iload_n 1, 1) := by decide +kernel
theorem dX7_line_31 : decode cX7_line 31 = .ok (.bipush (-24), 2) := by decide +kernel
theorem dX7_line_33 : decode cX7_line 33 = .ok (.iload_n 3, 1) := by decide +kernel
theorem dX7_line_34 : decode cX7_line 34 = .ok (.isub, 1) := by decide +kernel
theorem dX7_line_35 : decode cX7_line 35 = .ok (.bipush 24, 2) := by decide +kernel
theorem dX7_line_37 : decode cX7_line 37 = .ok (.iload_n 3, 1) := by decide +kernel
theorem dX7_line_38 : decode cX7_line 38 = .ok (.isub, 1) := by decide +kernel
theorem dX7_line_39 : decode cX7_line 39 = .ok (.invokestatic 36, 3) := by decide +kernel
theorem dX7_line_42 : decode cX7_line 42 = .ok (.ifCond .eq 20, 3) := by decide +kernel
theorem dX7_line_45 : decode cX7_line 45 = .ok (.iload_n 2, 1) := by decide +kernel
theorem dX7_line_46 : decode cX7_line 46 = .ok (.bipush (-24), 2) := by decide +kernel
theorem dX7_line_48 : decode cX7_line 48 = .ok (.iload 4, 2) := by decide +kernel
theorem dX7_line_50 : decode cX7_line 50 = .ok (.isub, 1) := by decide +kernel
theorem dX7_line_51 : decode cX7_line 51 = .ok (.bipush 24, 2) := by decide +kernel
theorem dX7_line_53 : decode cX7_line 53 = .ok (.iload 4, 2) := by decide +kernel
theorem dX7_line_55 : decode cX7_line 55 = .ok (.isub, 1) := by decide +kernel
theorem dX7_line_56 : decode cX7_line 56 = .ok (.invokestatic 36, 3) := by decide +kernel
theorem dX7_line_59 : decode cX7_line 59 = .ok (.ifCond .ne 9, 3) := by decide +kernel
theorem dX7_line_62 : decode cX7_line 62 = .ok (.aload_n 0, 1) := by decide +kernel
theorem dX7_line_63 : decode cX7_line 63 = .ok (.iconst 1, 1) := by decide +kernel
theorem dX7_line_64 : decode cX7_line 64 = .ok (.invokevirtual 61, 3) := by decide +kernel
theorem dX7_line_67 : decode cX7_line 67 = .ok (.ireturn, 1) := by decide +kernel
theorem dX7_line_68 : decode cX7_line 68 = .ok (.iload_n 1, 1) := by decide +kernel
theorem dX7_line_69 : decode cX7_line 69 = .ok (.ifCond .ne 9, 3) := by decide +kernel
theorem dX7_line_72 : decode cX7_line 72 = .ok (.iload_n 2, 1) := by decide +kernel
theorem dX7_line_73 : decode cX7_line 73 = .ok (.ifCond .ne 5, 3) := by decide +kernel
theorem dX7_line_76 : decode cX7_line 76 = .ok (.iconst 0, 1) := by decide +kernel
theorem dX7_line_77 : decode cX7_line 77 = .ok (.ireturn, 1) := by decide +kernel
theorem dX7_line_78 : decode cX7_line 78 = .ok (.aload_n 0, 1) := by decide +kernel
theorem dX7_line_79 : decode cX7_line 79 = .ok (.getfield 21, 3) := by decide +kernel
theorem dX7_line_82 : decode cX7_line 82 = .ok (.bipush 60, 2) := by decide +kernel
theorem dX7_line_84 : decode cX7_line 84 = .ok (.if_icmp .ne 9, 3) := by decide +kernel
theorem dX7_line_87 : decode cX7_line 87 = .ok (.aload_n 0, 1) := by decide +kernel
theorem dX7_line_88 : decode cX7_line 88 = .ok (.iconst 2, 1) := by decide +kernel
theorem dX7_line_89 : decode cX7_line 89 = .ok (.invokevirtual 61, 3) := by decide +kernel
theorem dX7_line_92 : decode cX7_line 92 = .ok (.ireturn, 1) := by decide +kernel
theorem dX7_line_93 : decode cX7_line 93 = .ok (.aload_n 0, 1) := by decide +kernel
theorem dX7_line_94 : decode cX7_line 94 = .ok (.getfield 14, 3) := by decide +kernel
theorem dX7_line_97 : decode cX7_line 97 = .ok (.aload_n 0, 1) := by decide +kernel
theorem dX7_line_98 : decode cX7_line 98 = .ok (.getfield 21, 3) := by decide +kernel
theorem dX7_line_101 : decode cX7_line 101 = .ok (.iload_n 3, 1) := by decide +kernel
theorem dX7_line_102 : decode cX7_line 102 = .ok (.iload_n 1, 1) := by decide +kernel
theorem dX7_line_103 : decode cX7_line 103 = .ok (.iadd, 1) := by decide +kernel
theorem dX7_line_104 : decode cX7_line 104 = .ok (.iastore, 1) := by decide +kernel
theorem dX7_line_105 : decode cX7_line 105 = .ok (.aload_n 0, 1) := by decide +kernel
theorem dX7_line_106 : decode cX7_line 106 = .ok (.getfield 18, 3) := by decide +kernel
theorem dX7_line_109 : decode cX7_line 109 = .ok (.aload_n 0, 1) := by decide +kernel
theorem dX7_line_110 : decode cX7_line 110 = .ok (.dup, 1) := by decide +kernel
theorem dX7_line_111 : decode cX7_line 111 = .ok (.getfield 21, 3) := by decide +kernel
theorem dX7_line_114 : decode cX7_line 114 = .ok (.dup_x1, 1) := by decide +kernel
theorem dX7_line_115 : decode cX7_line 115 = .ok (.iconst 1, 1) := by decide +kernel
theorem dX7_line_116 : decode cX7_line 116 = .ok (.iadd, 1) := by decide +kernel
theorem dX7_line_117 : decode cX7_line 117 = .ok (.putfield 21, 3) := by decide +kernel
theorem dX7_line_120 : decode cX7_line 120 = .ok (.iload 4, 2) := by decide +kernel
theorem dX7_line_122 : decode cX7_line 122 = .ok (.iload_n 2, 1) := by decide +kernel
theorem dX7_line_123 : decode cX7_line 123 = .ok (.iadd, 1) := by decide +kernel
theorem dX7_line_124 : decode cX7_line 124 = .ok (.iastore, 1) := by decide +kernel
theorem dX7_line_125 : decode cX7_line 125 = .ok (.iconst 0, 1) := by decide +kernel
theorem dX7_line_126 : decode cX7_line 126 = .ok (.ireturn, 1) := by decide +kernel
theorem dX7_lineX_0 : decode cX7_lineX 0 = .ok (.aload_n 0, 1) := by decide +kernel
theorem dX7_lineX_1 : decode cX7_lineX 1 = .ok (.iload_n 1, 1) := by decide +kernel
theorem dX7_lineX_2 : decode cX7_lineX 2 = .ok (.iconst 0, 1) := by decide +kernel
theorem dX7_lineX_3 : decode cX7_lineX 3 = .ok (.invokevirtual 65, 3) := by decide +kernel
theorem dX7_lineX_6 : decode cX7_lineX 6 = .ok (.pop, 1) := by decide +kernel
theorem dX7_lineX_7 : decode cX7_lineX 7 = .ok (.aload_n 0, 1) := by decide +kernel
theorem dX7_lineX_8 : decode cX7_lineX 8 = .ok (.getfield 33, 3) := by decide +kernel
theorem dX7_lineX_11 : decode cX7_lineX 11 = .ok (.ifCond .ne 17, 3) := by decide +kernel
theorem dX7_lineX_14 : decode cX7_lineX 14 = .ok (.aload_n 0, 1) := by decide +kernel
theorem dX7_lineX_15 : decode cX7_lineX 15 = .ok (.getfield 14, 3) := by decide +kernel
theorem dX7_lineX_18 : decode cX7_lineX 18 = .ok (.aload_n 0, 1) := by decide +kernel
theorem dX7_lineX_19 : decode cX7_lineX 19 = .ok (.getfield 21, 3) := by decide +kernel
theorem dX7_lineX_22 : decode cX7_lineX 22 = .ok (.iconst 1, 1) := by decide +kernel
theorem dX7_lineX_23 : decode cX7_lineX 23 = .ok (.isub, 1) := by decide +kernel
theorem dX7_lineX_24 : decode cX7_lineX 24 = .ok (.iaload, 1) := by decide +kernel
theorem dX7_lineX_25 : decode cX7_lineX 25 = .ok (.goto 4, 3) := by decide +kernel
theorem dX7_lineX_28 : decode cX7_lineX 28 = .ok (.iconst 0, 1) := by decide +kernel
theorem dX7_lineX_29 : decode cX7_lineX 29 = .ok (.ireturn, 1) := by decide +kernel
theorem dX7_lineY_0 : decode cX7_lineY 0 = .ok (.aload_n 0, 1) := by decide +kernel
theorem dX7_lineY_1 : decode cX7_lineY 1 = .ok (.iconst 0, 1) := by decide +kernel
theorem dX7_lineY_2 : decode cX7_lineY 2 = .ok (.iload_n 1, 1) := by decide +kernel
theorem dX7_lineY_3 : decode cX7_lineY 3 = .ok (.invokevirtual 65, 3) := by decide +kernel
theorem dX7_lineY_6 : decode cX7_lineY 6 = .ok (.pop, 1) := by decide +kernel
theorem dX7_lineY_7 : decode cX7_lineY 7 = .ok (.aload_n 0, 1) := by decide +kernel
theorem dX7_lineY_8 : decode cX7_lineY 8 = .ok (.getfield 33, 3) := by decide +kernel
theorem dX7_lineY_11 : decode cX7_lineY 11 = .ok (.ifCond .ne 17, 3) := by decide +kernel
theorem dX7_lineY_14 : decode cX7_lineY 14 = .ok (.aload_n 0, 1) := by decide +kernel
theorem dX7_lineY_15 : decode cX7_lineY 15 = .ok (.getfield 18, 3) := by decide +kernel
theorem dX7_lineY_18 : decode cX7_lineY 18 = .ok (.aload_n 0, 1) := by decide +kernel
theorem dX7_lineY_19 : decode cX7_lineY 19 = .ok (.getfield 21, 3) := by decide +kernel
theorem dX7_lineY_22 : decode cX7_lineY 22 = .ok (.iconst 1, 1) := by decide +kernel
theorem dX7_lineY_23 : decode cX7_lineY 23 = .ok (.isub, 1) := by decide +kernel
theorem dX7_lineY_24 : decode cX7_lineY 24 = .ok (.iaload, 1) := by decide +kernel
theorem dX7_lineY_25 : decode cX7_lineY 25 = .ok (.goto 4, 3) := by decide +kernel
theorem dX7_lineY_28 : decode cX7_lineY 28 = .ok (.iconst 0, 1) := by decide +kernel
theorem dX7_lineY_29 : decode cX7_lineY 29 = .ok (.ireturn, 1) := by decide +kernel
theorem dX7_cross_0 : decode cX7_cross 0 = .ok (.iload_n 3, 1) := by decide +kernel
theorem dX7_cross_1 : decode cX7_cross 1 = .ok (.iload 4, 2) := by decide +kernel
theorem dX7_cross_3 : decode cX7_cross 3 = .ok (.invokestatic 68, 3) := by decide +kernel
theorem dX7_cross_6 : decode cX7_cross 6 = .ok (.istore 5, 2) := by decide +kernel
theorem dX7_cross_8 : decode cX7_cross 8 = .ok (.iload 5, 2) := by decide +kernel
theorem dX7_cross_10 : decode cX7_cross 10 = .ok (.iload_n 3, 1) := by decide +kernel
theorem dX7_cross_11 : decode cX7_cross 11 = .ok (.iload 4, 2) := by decide +kernel
theorem dX7_cross_13 : decode cX7_cross 13 = .ok (.invokestatic 73, 3) := by decide +kernel
theorem dX7_cross_16 : decode cX7_cross 16 = .ok (.if_icmp .ge 61, 3) := by decide +kernel
theorem dX7_cross_19 : decode cX7_cross 19 = .ok (.bipush (-32), 2) := by decide +kernel
theorem dX7_cross_21 : decode cX7_cross 21 = .ok (.istore 6, 2) := by decide +kernel
theorem dX7_cross_23 : decode cX7_cross 23 = .ok (.iload 6, 2) := by decide +kernel
theorem dX7_cross_25 : decode cX7_cross 25 = .ok (.iload_n 2, 1) := by decide +kernel
theorem dX7_cross_26 : decode cX7_cross 26 = .ok (.if_icmp .ge 45, 3) := by decide +kernel
theorem dX7_cross_29 : decode cX7_cross 29 = .ok (.aload_n 0, 1) := by decide +kernel
theorem dX7_cross_30 : decode cX7_cross 30 = .ok (.iload 6, 2) := by decide +kernel
theorem dX7_cross_32 : decode cX7_cross 32 = .ok (.iload 5, 2) := by decide +kernel
theorem dX7_cross_34 : decode cX7_cross 34 = .ok (.invokestatic 44, 3) := by decide +kernel
theorem dX7_cross_37 : decode cX7_cross 37 = .ok (.dup2, 1) := by decide +kernel
theorem dX7_cross_38 : decode cX7_cross 38 = .ok (.iaload, 1) := by decide +kernel
theorem dX7_cross_39 : decode cX7_cross 39 = .ok (.iconst 1, 1) := by decide +kernel
theorem dX7_cross_40 : decode cX7_cross 40 = .ok (.iadd, 1) := by decide +kernel
theorem dX7_cross_41 : decode cX7_cross 41 = .ok (.iastore, 1) := by decide +kernel
theorem dX7_cross_42 : decode cX7_cross 42 = .ok (.aload_n 1, 1) := by decide +kernel
theorem dX7_cross_43 : decode cX7_cross 43 = .ok (.iload 6, 2) := by decide +kernel
theorem dX7_cross_45 : decode cX7_cross 45 = .ok (.iload 5, 2) := by decide +kernel
theorem dX7_cross_47 : decode cX7_cross 47 = .ok (.invokestatic 44, 3) := by decide +kernel
theorem dX7_cross_50 : decode cX7_cross 50 = .ok (.dup2, 1) := by decide +kernel
theorem dX7_cross_51 : decode cX7_cross 51 = .ok (.iaload, 1) := by decide +kernel
theorem dX7_cross_52 : decode cX7_cross 52 = .ok (.iload 4, 2) := by decide +kernel
theorem dX7_cross_54 : decode cX7_cross 54 = .ok (.iload_n 3, 1) := by decide +kernel
theorem dX7_cross_55 : decode cX7_cross 55 = .ok (.if_icmp .le 7, 3) := by decide +kernel
theorem dX7_cross_58 : decode cX7_cross 58 = .ok (.iconst 1, 1) := by decide +kernel
theorem dX7_cross_59 : decode cX7_cross 59 = .ok (.goto 4, 3) := by decide +kernel
theorem dX7_cross_62 : decode cX7_cross 62 = .ok (.iconst (-1), 1) := by decide +kernel
theorem dX7_cross_63 : decode cX7_cross 63 = .ok (.iadd, 1) := by decide +kernel
theorem dX7_cross_64 : decode cX7_cross 64 = .ok (.iastore, 1) := by decide +kernel
theorem dX7_cross_65 : decode cX7_cross 65 = .ok (.iinc 6 1, 3) := by decide +kernel
theorem dX7_cross_68 : decode cX7_cross 68 = .ok (.goto (-45), 3) := by decide +kernel
theorem dX7_cross_71 : decode cX7_cross 71 = .ok (.iinc 5 1, 3) := by decide +kernel
theorem dX7_cross_74 : decode cX7_cross 74 = .ok (.goto (-66), 3) := by decide +kernel
theorem dX7_cross_77 : decode cX7_cross 77 = .ok (.return_, 1) := by decide +kernel
theorem dX7_close_0 : decode cX7_close 0 = .ok (.aload_n 0, 1) := by decide +kernel
theorem dX7_close_1 : decode cX7_close 1 = .ok (.iconst 0, 1) := by decide +kernel
theorem dX7_close_2 : decode cX7_close 2 = .ok (.putfield 33, 3) := by decide +kernel
theorem dX7_close_5 : decode cX7_close 5 = .ok (.iload_n 1, 1) := by decide +kernel
theorem dX7_close_6 : decode cX7_close 6 = .ok (.invokestatic 76, 3) := by decide +kernel
theorem dX7_close_9 : decode cX7_close 9 = .ok (.ifCond .ne 9, 3) := by decide +kernel
theorem dX7_close_12 : decode cX7_close 12 = .ok (.aload_n 0, 1) := by decide +kernel
theorem dX7_close_13 : decode cX7_close 13 = .ok (.iconst 1, 1) := by decide +kernel
theorem dX7_close_14 : decode cX7_close 14 = .ok (.invokevirtual 61, 3) := by decide +kernel
theorem dX7_close_17 : decode cX7_close 17 = .ok (.ireturn, 1) := by decide +kernel
theorem dX7_close_18 : decode cX7_close 18 = .ok (.iload_n 2, 1) := by decide +kernel
theorem dX7_close_19 : decode cX7_close 19 = .ok (.iconst 0, 1) := by decide +kernel
theorem dX7_close_20 : decode cX7_close 20 = .ok (.iconst 1, 1) := by decide +kernel
theorem dX7_close_21 : decode cX7_close 21 = .ok (.invokestatic 36, 3) := by decide +kernel
theorem dX7_close_24 : decode cX7_close 24 = .ok (.ifCond .ne 9, 3) := by decide +kernel
theorem dX7_close_27 : decode cX7_close 27 = .ok (.aload_n 0, 1) := by decide +kernel
theorem dX7_close_28 : decode cX7_close 28 = .ok (.iconst 2, 1) := by decide +kernel
theorem dX7_close_29 : decode cX7_close 29 = .ok (.invokevirtual 61, 3) := by decide +kernel
theorem dX7_close_32 : decode cX7_close 32 = .ok (.ireturn, 1) := by decide +kernel
theorem dX7_close_33 : decode cX7_close 33 = .ok (.sipush 4096, 3) := by decide +kernel
theorem dX7_close_36 : decode cX7_close 36 = .ok (.newarray .int, 2) := by decide +kernel
theorem dX7_close_38 : decode cX7_close 38 = .ok (.astore_n 3, 1) := by decide +kernel
theorem dX7_close_39 : decode cX7_close 39 = .ok (.sipush 4096, 3) := by decide +kernel
theorem dX7_close_42 : decode cX7_close 42 = .ok (.newarray .int, 2) := by decide +kernel
theorem dX7_close_44 : decode cX7_close 44 = .ok (.astore 4, 2) := by decide +kernel
theorem dX7_close_46 : decode cX7_close 46 = .ok (.iconst 1, 1) := by decide +kernel
theorem dX7_close_47 : decode cX7_close 47 = .ok (.istore 5, 2) := by decide +kernel
theorem dX7_close_49 : decode cX7_close 49 = .ok (.iload 5, 2) := by decide +kernel
theorem dX7_close_51 : decode cX7_close 51 = .ok (.aload_n 0, 1) := by decide +kernel
theorem dX7_close_52 : decode cX7_close 52 = .ok (.getfield 21, 3) := by decide +kernel
theorem dX7_close_55 : decode cX7_close 55 = .ok (.if_icmp .ge 57, 3) := by decide +kernel
theorem dX7_close_58 : decode cX7_close 58 = .ok (.aload_n 0, 1) := by decide +kernel
theorem dX7_close_59 : decode cX7_close 59 = .ok (.getfield 14, 3) := by decide +kernel
theorem dX7_close_62 : decode cX7_close 62 = .ok (.iload 5, 2) := by decide +kernel
theorem dX7_close_64 : decode cX7_close 64 = .ok (.iaload, 1) := by decide +kernel
theorem dX7_close_65 : decode cX7_close 65 = .ok (.aload_n 0, 1) := by decide +kernel
theorem dX7_close_66 : decode cX7_close 66 = .ok (.getfield 14, 3) := by decide +kernel
theorem dX7_close_69 : decode cX7_close 69 = .ok (.iload 5, 2) := by decide +kernel
theorem dX7_close_71 : decode cX7_close 71 = .ok (.iconst 1, 1) := by decide +kernel
theorem dX7_close_72 : decode cX7_close 72 = .ok (.isub, 1) := by decide +kernel
theorem dX7_close_73 : decode cX7_close 73 = .ok (.iaload, 1) := by decide +kernel
theorem dX7_close_74 : decode cX7_close 74 = .ok (.if_icmp .ne 32, 3) := by decide +kernel
theorem dX7_close_77 : decode cX7_close 77 = .ok (.aload_n 3, 1) := by decide +kernel
theorem dX7_close_78 : decode cX7_close 78 = .ok (.aload 4, 2) := by decide +kernel
theorem dX7_close_80 : decode cX7_close 80 = .ok (.aload_n 0, 1) := by decide +kernel
theorem dX7_close_81 : decode cX7_close 81 = .ok (.getfield 14, 3) := by decide +kernel
theorem dX7_close_84 : decode cX7_close 84 = .ok (.iload 5, 2) := by decide +kernel
theorem dX7_close_86 : decode cX7_close 86 = .ok (.iaload, 1) := by decide +kernel
theorem dX7_close_87 : decode cX7_close 87 = .ok (.aload_n 0, 1) := by decide +kernel
theorem dX7_close_88 : decode cX7_close 88 = .ok (.getfield 18, 3) := by decide +kernel
theorem dX7_close_91 : decode cX7_close 91 = .ok (.iload 5, 2) := by decide +kernel
theorem dX7_close_93 : decode cX7_close 93 = .ok (.iconst 1, 1) := by decide +kernel
theorem dX7_close_94 : decode cX7_close 94 = .ok (.isub, 1) := by decide +kernel
theorem dX7_close_95 : decode cX7_close 95 = .ok (.iaload, 1) := by decide +kernel
theorem dX7_close_96 : decode cX7_close 96 = .ok (.aload_n 0, 1) := by decide +kernel
theorem dX7_close_97 : decode cX7_close 97 = .ok (.getfield 18, 3) := by decide +kernel
theorem dX7_close_100 : decode cX7_close 100 = .ok (.iload 5, 2) := by decide +kernel
theorem dX7_close_102 : decode cX7_close 102 = .ok (.iaload, 1) := by decide +kernel
theorem dX7_close_103 : decode cX7_close 103 = .ok (.invokestatic 80, 3) := by decide +kernel
theorem dX7_close_106 : decode cX7_close 106 = .ok (.iinc 5 1, 3) := by decide +kernel
theorem dX7_close_109 : decode cX7_close 109 = .ok (.goto (-60), 3) := by decide +kernel
theorem dX7_close_112 : decode cX7_close 112 = .ok (.aload_n 3, 1) := by decide +kernel
theorem dX7_close_113 : decode cX7_close 113 = .ok (.aload 4, 2) := by decide +kernel
theorem dX7_close_115 : decode cX7_close 115 = .ok (.aload_n 0, 1) := by decide +kernel
theorem dX7_close_116 : decode cX7_close 116 = .ok (.getfield 14, 3) := by decide +kernel
theorem dX7_close_119 : decode cX7_close 119 = .ok (.iconst 0, 1) := by decide +kernel
theorem dX7_close_120 : decode cX7_close 120 = .ok (.iaload, 1) := by decide +kernel
theorem dX7_close_121 : decode cX7_close 121 = .ok (.aload_n 0, 1) := by decide +kernel
theorem dX7_close_122 : decode cX7_close 122 = .ok (.getfield 18, 3) := by decide +kernel
theorem dX7_close_125 : decode cX7_close 125 = .ok (.aload_n 0, 1) := by decide +kernel
theorem dX7_close_126 : decode cX7_close 126 = .ok (.getfield 21, 3) := by decide +kernel
theorem dX7_close_129 : decode cX7_close 129 = .ok (.iconst 1, 1) := by decide +kernel
theorem dX7_close_130 : decode cX7_close 130 = .ok (.isub, 1) := by decide +kernel
theorem dX7_close_131 : decode cX7_close 131 = .ok (.iaload, 1) := by decide +kernel
theorem dX7_close_132 : decode cX7_close 132 = .ok (.aload_n 0, 1) := by decide +kernel
theorem dX7_close_133 : decode cX7_close 133 = .ok (.getfield 18, 3) := by decide +kernel
theorem dX7_close_136 : decode cX7_close 136 = .ok (.iconst 0, 1) := by decide +kernel
theorem dX7_close_137 : decode cX7_close 137 = .ok (.iaload, 1) := by decide +kernel
theorem dX7_close_138 : decode cX7_close 138 = .ok (.invokestatic 80, 3) := by decide +kernel
theorem dX7_close_141 : decode cX7_close 141 = .ok (.sipush 4096, 3) := by decide +kernel
theorem dX7_close_144 : decode cX7_close 144 = .ok (.newarray .boolean, 2) := by decide +kernel
theorem dX7_close_146 : decode cX7_close 146 = .ok (.astore 5, 2) := by decide +kernel
theorem dX7_close_148 : decode cX7_close 148 = .ok (.iconst 0, 1) := by decide +kernel
theorem dX7_close_149 : decode cX7_close 149 = .ok (.istore 6, 2) := by decide +kernel
theorem dX7_close_151 : decode cX7_close 151 = .ok (.iload 6, 2) := by decide +kernel
theorem dX7_close_153 : decode cX7_close 153 = .ok (.sipush 4096, 3) := by decide +kernel
theorem dX7_close_156 : decode cX7_close 156 = .ok (.if_icmp .ge 49, 3) := by decide +kernel
theorem dX7_close_159 : decode cX7_close 159 = .ok (.aload 5, 2) := by decide +kernel
theorem dX7_close_161 : decode cX7_close 161 = .ok (.iload 6, 2) := by decide +kernel
theorem dX7_close_163 : decode cX7_close 163 = .ok (.iload_n 2, 1) := by decide +kernel
theorem dX7_close_164 : decode cX7_close 164 = .ok (.ifCond .ne 21, 3) := by decide +kernel
theorem dX7_close_167 : decode cX7_close 167 = .ok (.aload_n 3, 1) := by decide +kernel
theorem dX7_close_168 : decode cX7_close 168 = .ok (.iload 6, 2) := by decide +kernel
theorem dX7_close_170 : decode cX7_close 170 = .ok (.iaload, 1) := by decide +kernel
theorem dX7_close_171 : decode cX7_close 171 = .ok (.iconst 2, 1) := by decide +kernel
theorem dX7_close_172 : decode cX7_close 172 = .ok (.irem, 1) := by decide +kernel
theorem dX7_close_173 : decode cX7_close 173 = .ok (.iconst 1, 1) := by decide +kernel
theorem dX7_close_174 : decode cX7_close 174 = .ok (.if_icmp .ne 7, 3) := by decide +kernel
theorem dX7_close_177 : decode cX7_close 177 = .ok (.iconst 1, 1) := by decide +kernel
theorem dX7_close_178 : decode cX7_close 178 = .ok (.goto 20, 3) := by decide +kernel
theorem dX7_close_181 : decode cX7_close 181 = .ok (.iconst 0, 1) := by decide +kernel
theorem dX7_close_182 : decode cX7_close 182 = .ok (.goto 16, 3) := by decide +kernel
theorem dX7_close_185 : decode cX7_close 185 = .ok (.aload 4, 2) := by decide +kernel
theorem dX7_close_187 : decode cX7_close 187 = .ok (.iload 6, 2) := by decide +kernel
theorem dX7_close_189 : decode cX7_close 189 = .ok (.iaload, 1) := by decide +kernel
theorem dX7_close_190 : decode cX7_close 190 = .ok (.ifCond .eq 7, 3) := by decide +kernel
theorem dX7_close_193 : decode cX7_close 193 = .ok (.iconst 1, 1) := by decide +kernel
theorem dX7_close_194 : decode cX7_close 194 = .ok (.goto 4, 3) := by decide +kernel
theorem dX7_close_197 : decode cX7_close 197 = .ok (.iconst 0, 1) := by decide +kernel
theorem dX7_close_198 : decode cX7_close 198 = .ok (.bastore, 1) := by decide +kernel
theorem dX7_close_199 : decode cX7_close 199 = .ok (.iinc 6 1, 3) := by decide +kernel
theorem dX7_close_202 : decode cX7_close 202 = .ok (.goto (-51), 3) := by decide +kernel
theorem dX7_close_205 : decode cX7_close 205 = .ok (.aload_n 0, 1) := by decide +kernel
theorem dX7_close_206 : decode cX7_close 206 = .ok (.iconst 1, 1) := by decide +kernel
theorem dX7_close_207 : decode cX7_close 207 = .ok (.putfield 21, 3) := by decide +kernel
theorem dX7_close_210 : decode cX7_close 210 = .ok (.aload_n 0, 1) := by decide +kernel
theorem dX7_close_211 : decode cX7_close 211 = .ok (.iload_n 1, 1) := by decide +kernel
theorem dX7_close_212 : decode cX7_close 212 = .ok (.aload 5, 2) := by decide +kernel
theorem dX7_close_214 : decode cX7_close 214 = .ok (.invokevirtual 84, 3) := by decide +kernel
theorem dX7_close_217 : decode cX7_close 217 = .ok (.ireturn, 1) := by decide +kernel
theorem dX7_points_0 : decode cX7_points 0 = .ok (.aload_n 0, 1) := by decide +kernel
theorem dX7_points_1 : decode cX7_points 1 = .ok (.iconst 0, 1) := by decide +kernel
theorem dX7_points_2 : decode cX7_points 2 = .ok (.putfield 33, 3) := by decide +kernel
theorem dX7_points_5 : decode cX7_points 5 = .ok (.aload_n 0, 1) := by decide +kernel
theorem dX7_points_6 : decode cX7_points 6 = .ok (.getfield 21, 3) := by decide +kernel
theorem dX7_points_9 : decode cX7_points 9 = .ok (.ireturn, 1) := by decide +kernel
theorem dX7_addRectangle_0 : decode cX7_addRectangle 0 = .ok (.aload_n 0, 1) := by decide +kernel
theorem dX7_addRectangle_1 : decode cX7_addRectangle 1 = .ok (.iconst 0, 1) := by decide +kernel
theorem dX7_addRectangle_2 : decode cX7_addRectangle 2 = .ok (.putfield 33, 3) := by decide +kernel
theorem dX7_addRectangle_5 : decode cX7_addRectangle 5 = .ok (.iload_n 1, 1) := by decide +kernel
theorem dX7_addRectangle_6 : decode cX7_addRectangle 6 = .ok (.invokestatic 76, 3) := by decide +kernel
theorem dX7_addRectangle_9 : decode cX7_addRectangle 9 = .ok (.ifCond .ne 9, 3) := by decide +kernel
theorem dX7_addRectangle_12 : decode cX7_addRectangle 12 = .ok (.aload_n 0, 1) := by decide +kernel
theorem dX7_addRectangle_13 : decode cX7_addRectangle 13 = .ok (.iconst 1, 1) := by decide +kernel
theorem dX7_addRectangle_14 : decode cX7_addRectangle 14 = .ok (.invokevirtual 61, 3) := by decide +kernel
theorem dX7_addRectangle_17 : decode cX7_addRectangle 17 = .ok (.ireturn, 1) := by decide +kernel
theorem dX7_addRectangle_18 : decode cX7_addRectangle 18 = .ok (.iload 4, 2) := by decide +kernel
theorem dX7_addRectangle_20 : decode cX7_addRectangle 20 = .ok (.iconst 1, 1) := by decide +kernel
theorem dX7_addRectangle_21 : decode cX7_addRectangle 21 = .ok (.bipush 64, 2) := by decide +kernel
theorem dX7_addRectangle_23 : decode cX7_addRectangle 23 = .ok (.invokestatic 36, 3) := by decide +kernel
theorem dX7_addRectangle_26 : decode cX7_addRectangle 26 = .ok (.ifCond .eq 14, 3) := by decide +kernel
theorem dX7_addRectangle_29 : decode cX7_addRectangle 29 = .ok (.iload 5, 2) := by decide +kernel
theorem dX7_addRectangle_31 : decode cX7_addRectangle 31 = .ok (.iconst 1, 1) := by decide +kernel
theorem dX7_addRectangle_32 : decode cX7_addRectangle 32 = .ok (.bipush 64, 2) := by decide +kernel
theorem dX7_addRectangle_34 : decode cX7_addRectangle 34 = .ok (.invokestatic 36, 3) := by decide +kernel
theorem dX7_addRectangle_37 : decode cX7_addRectangle 37 = .ok (.ifCond .ne 9, 3) := by decide +kernel
theorem dX7_addRectangle_40 : decode cX7_addRectangle 40 = .ok (.aload_n 0, 1) := by decide +kernel
theorem dX7_addRectangle_41 : decode cX7_addRectangle 41 = .ok (.iconst 2, 1) := by decide +kernel
theorem dX7_addRectangle_42 : decode cX7_addRectangle 42 = .ok (.invokevirtual 61, 3) := by decide +kernel
theorem dX7_addRectangle_45 : decode cX7_addRectangle 45 = .ok (.ireturn, 1) := by decide +kernel
theorem dX7_addRectangle_46 : decode cX7_addRectangle 46 = .ok (.iload_n 2, 1) := by decide +kernel
theorem dX7_addRectangle_47 : decode cX7_addRectangle 47 = .ok (.bipush (-32), 2) := by decide +kernel
theorem dX7_addRectangle_49 : decode cX7_addRectangle 49 = .ok (.bipush 32, 2) := by decide +kernel
theorem dX7_addRectangle_51 : decode cX7_addRectangle 51 = .ok (.iload 4, 2) := by decide +kernel
theorem dX7_addRectangle_53 : decode cX7_addRectangle 53 = .ok (.isub, 1) := by decide +kernel
theorem dX7_addRectangle_54 : decode cX7_addRectangle 54 = .ok (.invokestatic 36, 3) := by decide +kernel
theorem dX7_addRectangle_57 : decode cX7_addRectangle 57 = .ok (.ifCond .eq 17, 3) := by decide +kernel
theorem dX7_addRectangle_60 : decode cX7_addRectangle 60 = .ok (.iload_n 3, 1) := by decide +kernel
theorem dX7_addRectangle_61 : decode cX7_addRectangle 61 = .ok (.bipush (-32), 2) := by decide +kernel
theorem dX7_addRectangle_63 : decode cX7_addRectangle 63 = .ok (.bipush 32, 2) := by decide +kernel
theorem dX7_addRectangle_65 : decode cX7_addRectangle 65 = .ok (.iload 5, 2) := by decide +kernel
theorem dX7_addRectangle_67 : decode cX7_addRectangle 67 = .ok (.isub, 1) := by decide +kernel
theorem dX7_addRectangle_68 : decode cX7_addRectangle 68 = .ok (.invokestatic 36, 3) := by decide +kernel
theorem dX7_addRectangle_71 : decode cX7_addRectangle 71 = .ok (.ifCond .ne 9, 3) := by decide +kernel
theorem dX7_addRectangle_74 : decode cX7_addRectangle 74 = .ok (.aload_n 0, 1) := by decide +kernel
theorem dX7_addRectangle_75 : decode cX7_addRectangle 75 = .ok (.iconst 3, 1) := by decide +kernel
theorem dX7_addRectangle_76 : decode cX7_addRectangle 76 = .ok (.invokevirtual 61, 3) := by decide +kernel
theorem dX7_addRectangle_79 : decode cX7_addRectangle 79 = .ok (.ireturn, 1) := by decide +kernel
theorem dX7_addRectangle_80 : decode cX7_addRectangle 80 = .ok (.sipush 4096, 3) := by decide +kernel
theorem dX7_addRectangle_83 : decode cX7_addRectangle 83 = .ok (.newarray .boolean, 2) := by decide +kernel
theorem dX7_addRectangle_85 : decode cX7_addRectangle 85 = .ok (.astore 6, 2) := by decide +kernel
theorem dX7_addRectangle_87 : decode cX7_addRectangle 87 = .ok (.aload_n 0, 1) := by decide +kernel
theorem dX7_addRectangle_88 : decode cX7_addRectangle 88 = .ok (.getfield 11, 3) := by decide +kernel
theorem dX7_addRectangle_91 : decode cX7_addRectangle 91 = .ok (.iload_n 1, 1) := by decide +kernel
theorem dX7_addRectangle_92 : decode cX7_addRectangle 92 = .ok (.aaload, 1) := by decide +kernel
theorem dX7_addRectangle_93 : decode cX7_addRectangle 93 = .ok (.iconst 0, 1) := by decide +kernel
theorem dX7_addRectangle_94 : decode cX7_addRectangle 94 = .ok (.aload 6, 2) := by decide +kernel
theorem dX7_addRectangle_96 : decode cX7_addRectangle 96 = .ok (.iconst 0, 1) := by decide +kernel
theorem dX7_addRectangle_97 : decode cX7_addRectangle 97 = .ok (.sipush 4096, 3) := by decide +kernel
theorem dX7_addRectangle_100 : decode cX7_addRectangle 100 = .ok (.invokestatic 48, 3) := by decide +kernel
theorem dX7_addRectangle_103 : decode cX7_addRectangle 103 = .ok (.iconst 0, 1) := by decide +kernel
theorem dX7_addRectangle_104 : decode cX7_addRectangle 104 = .ok (.istore 7, 2) := by decide +kernel
theorem dX7_addRectangle_106 : decode cX7_addRectangle 106 = .ok (.iload 7, 2) := by decide +kernel
theorem dX7_addRectangle_108 : decode cX7_addRectangle 108 = .ok (.iload 4, 2) := by decide +kernel
theorem dX7_addRectangle_110 : decode cX7_addRectangle 110 = .ok (.if_icmp .ge 40, 3) := by decide +kernel
theorem dX7_addRectangle_113 : decode cX7_addRectangle 113 = .ok (.iconst 0, 1) := by decide +kernel
theorem dX7_addRectangle_114 : decode cX7_addRectangle 114 = .ok (.istore 8, 2) := by decide +kernel
theorem dX7_addRectangle_116 : decode cX7_addRectangle 116 = .ok (.iload 8, 2) := by decide +kernel
theorem dX7_addRectangle_118 : decode cX7_addRectangle 118 = .ok (.iload 5, 2) := by decide +kernel
theorem dX7_addRectangle_120 : decode cX7_addRectangle 120 = .ok (.if_icmp .ge 24, 3) := by decide +kernel
theorem dX7_addRectangle_123 : decode cX7_addRectangle 123 = .ok (.aload 6, 2) := by decide +kernel
theorem dX7_addRectangle_125 : decode cX7_addRectangle 125 = .ok (.iload_n 2, 1) := by decide +kernel
theorem dX7_addRectangle_126 : decode cX7_addRectangle 126 = .ok (.iload 7, 2) := by decide +kernel
theorem dX7_addRectangle_128 : decode cX7_addRectangle 128 = .ok (.iadd, 1) := by decide +kernel
theorem dX7_addRectangle_129 : decode cX7_addRectangle 129 = .ok (.iload_n 3, 1) := by decide +kernel
theorem dX7_addRectangle_130 : decode cX7_addRectangle 130 = .ok (.iload 8, 2) := by decide +kernel
theorem dX7_addRectangle_132 : decode cX7_addRectangle 132 = .ok (.iadd, 1) := by decide +kernel
theorem dX7_addRectangle_133 : decode cX7_addRectangle 133 = .ok (.invokestatic 44, 3) := by decide +kernel
theorem dX7_addRectangle_136 : decode cX7_addRectangle 136 = .ok (.iconst 1, 1) := by decide +kernel
theorem dX7_addRectangle_137 : decode cX7_addRectangle 137 = .ok (.bastore, 1) := by decide +kernel
theorem dX7_addRectangle_138 : decode cX7_addRectangle 138 = .ok (.iinc 8 1, 3) := by decide +kernel
theorem dX7_addRectangle_141 : decode cX7_addRectangle 141 = .ok (.goto (-25), 3) := by decide +kernel
theorem dX7_addRectangle_144 : decode cX7_addRectangle 144 = .ok (.iinc 7 1, 3) := by decide +kernel
theorem dX7_addRectangle_147 : decode cX7_addRectangle 147 = .ok (.goto (-41), 3) := by decide +kernel
theorem dX7_addRectangle_150 : decode cX7_addRectangle 150 = .ok (.aload_n 0, 1) := by decide +kernel
theorem dX7_addRectangle_151 : decode cX7_addRectangle 151 = .ok (.iload_n 1, 1) := by decide +kernel
theorem dX7_addRectangle_152 : decode cX7_addRectangle 152 = .ok (.aload 6, 2) := by decide +kernel
theorem dX7_addRectangle_154 : decode cX7_addRectangle 154 = .ok (.invokevirtual 84, 3) := by decide +kernel
theorem dX7_addRectangle_157 : decode cX7_addRectangle 157 = .ok (.ireturn, 1) := by decide +kernel
theorem dX7_combine_0 : decode cX7_combine 0 = .ok (.aload_n 0, 1) := by decide +kernel
theorem dX7_combine_1 : decode cX7_combine 1 = .ok (.iconst 0, 1) := by decide +kernel
theorem dX7_combine_2 : decode cX7_combine 2 = .ok (.putfield 33, 3) := by decide +kernel
theorem dX7_combine_5 : decode cX7_combine 5 = .ok (.iload_n 1, 1) := by decide +kernel
theorem dX7_combine_6 : decode cX7_combine 6 = .ok (.invokestatic 76, 3) := by decide +kernel
theorem dX7_combine_9 : decode cX7_combine 9 = .ok (.ifCond .eq 17, 3) := by decide +kernel
theorem dX7_combine_12 : decode cX7_combine 12 = .ok (.iload_n 2, 1) := by decide +kernel
theorem dX7_combine_13 : decode cX7_combine 13 = .ok (.invokestatic 76, 3) := by decide +kernel
theorem dX7_combine_16 : decode cX7_combine 16 = .ok (.ifCond .eq 10, 3) := by decide +kernel
theorem dX7_combine_19 : decode cX7_combine 19 = .ok (.iload_n 3, 1) := by decide +kernel
theorem dX7_combine_20 : decode cX7_combine 20 = .ok (.invokestatic 76, 3) := by decide +kernel
theorem dX7_combine_23 : decode cX7_combine 23 = .ok (.ifCond .ne 9, 3) := by decide +kernel
theorem dX7_combine_26 : decode cX7_combine 26 = .ok (.aload_n 0, 1) := by decide +kernel
theorem dX7_combine_27 : decode cX7_combine 27 = .ok (.iconst 1, 1) := by decide +kernel
theorem dX7_combine_28 : decode cX7_combine 28 = .ok (.invokevirtual 61, 3) := by decide +kernel
theorem dX7_combine_31 : decode cX7_combine 31 = .ok (.ireturn, 1) := by decide +kernel
theorem dX7_combine_32 : decode cX7_combine 32 = .ok (.iload 4, 2) := by decide +kernel
theorem dX7_combine_34 : decode cX7_combine 34 = .ok (.iconst 0, 1) := by decide +kernel
theorem dX7_combine_35 : decode cX7_combine 35 = .ok (.iconst 3, 1) := by decide +kernel
theorem dX7_combine_36 : decode cX7_combine 36 = .ok (.invokestatic 36, 3) := by decide +kernel
theorem dX7_combine_39 : decode cX7_combine 39 = .ok (.ifCond .ne 9, 3) := by decide +kernel
theorem dX7_combine_42 : decode cX7_combine 42 = .ok (.aload_n 0, 1) := by decide +kernel
theorem dX7_combine_43 : decode cX7_combine 43 = .ok (.iconst 2, 1) := by decide +kernel
theorem dX7_combine_44 : decode cX7_combine 44 = .ok (.invokevirtual 61, 3) := by decide +kernel
theorem dX7_combine_47 : decode cX7_combine 47 = .ok (.ireturn, 1) := by decide +kernel
theorem dX7_combine_48 : decode cX7_combine 48 = .ok (.sipush 4096, 3) := by decide +kernel
theorem dX7_combine_51 : decode cX7_combine 51 = .ok (.newarray .boolean, 2) := by decide +kernel
theorem dX7_combine_53 : decode cX7_combine 53 = .ok (.astore 5, 2) := by decide +kernel
theorem dX7_combine_55 : decode cX7_combine 55 = .ok (.iconst 0, 1) := by decide +kernel
theorem dX7_combine_56 : decode cX7_combine 56 = .ok (.istore 6, 2) := by decide +kernel
theorem dX7_combine_58 : decode cX7_combine 58 = .ok (.iload 6, 2) := by decide +kernel
theorem dX7_combine_60 : decode cX7_combine 60 = .ok (.sipush 4096, 3) := by decide +kernel
theorem dX7_combine_63 : decode cX7_combine 63 = .ok (.if_icmp .ge 119, 3) := by decide +kernel
theorem dX7_combine_66 : decode cX7_combine 66 = .ok (.aload_n 0, 1) := by decide +kernel
theorem dX7_combine_67 : decode cX7_combine 67 = .ok (.getfield 11, 3) := by decide +kernel
theorem dX7_combine_70 : decode cX7_combine 70 = .ok (.iload_n 2, 1) := by decide +kernel
theorem dX7_combine_71 : decode cX7_combine 71 = .ok (.aaload, 1) := by decide +kernel
theorem dX7_combine_72 : decode cX7_combine 72 = .ok (.iload 6, 2) := by decide +kernel
theorem dX7_combine_74 : decode cX7_combine 74 = .ok (.baload, 1) := by decide +kernel
theorem dX7_combine_75 : decode cX7_combine 75 = .ok (.istore 7, 2) := by decide +kernel
theorem dX7_combine_77 : decode cX7_combine 77 = .ok (.aload_n 0, 1) := by decide +kernel
theorem dX7_combine_78 : decode cX7_combine 78 = .ok (.getfield 11, 3) := by decide +kernel
theorem dX7_combine_81 : decode cX7_combine 81 = .ok (.iload_n 3, 1) := by decide +kernel
theorem dX7_combine_82 : decode cX7_combine 82 = .ok (.aaload, 1) := by decide +kernel
theorem dX7_combine_83 : decode cX7_combine 83 = .ok (.iload 6, 2) := by decide +kernel
theorem dX7_combine_85 : decode cX7_combine 85 = .ok (.baload, 1) := by decide +kernel
theorem dX7_combine_86 : decode cX7_combine 86 = .ok (.istore 8, 2) := by decide +kernel
theorem dX7_combine_88 : decode cX7_combine 88 = .ok (.aload 5, 2) := by decide +kernel
theorem dX7_combine_90 : decode cX7_combine 90 = .ok (.iload 6, 2) := by decide +kernel
theorem dX7_combine_92 : decode cX7_combine 92 = .ok (.iload 4, 2) := by decide +kernel
theorem dX7_combine_94 : decode cX7_combine 94 = .ok (.ifCond .ne 21, 3) := by decide +kernel
theorem dX7_combine_97 : decode cX7_combine 97 = .ok (.iload 7, 2) := by decide +kernel
theorem dX7_combine_99 : decode cX7_combine 99 = .ok (.ifCond .ne 8, 3) := by decide +kernel
theorem dX7_combine_102 : decode cX7_combine 102 = .ok (.iload 8, 2) := by decide +kernel
theorem dX7_combine_104 : decode cX7_combine 104 = .ok (.ifCond .eq 7, 3) := by decide +kernel
theorem dX7_combine_107 : decode cX7_combine 107 = .ok (.iconst 1, 1) := by decide +kernel
theorem dX7_combine_108 : decode cX7_combine 108 = .ok (.goto 67, 3) := by decide +kernel
theorem dX7_combine_111 : decode cX7_combine 111 = .ok (.iconst 0, 1) := by decide +kernel
theorem dX7_combine_112 : decode cX7_combine 112 = .ok (.goto 63, 3) := by decide +kernel
theorem dX7_combine_115 : decode cX7_combine 115 = .ok (.iload 4, 2) := by decide +kernel
theorem dX7_combine_117 : decode cX7_combine 117 = .ok (.iconst 1, 1) := by decide +kernel
theorem dX7_combine_118 : decode cX7_combine 118 = .ok (.if_icmp .ne 21, 3) := by decide +kernel
theorem dX7_combine_121 : decode cX7_combine 121 = .ok (.iload 7, 2) := by decide +kernel
theorem dX7_combine_123 : decode cX7_combine 123 = .ok (.ifCond .eq 12, 3) := by decide +kernel
theorem dX7_combine_126 : decode cX7_combine 126 = .ok (.iload 8, 2) := by decide +kernel
theorem dX7_combine_128 : decode cX7_combine 128 = .ok (.ifCond .eq 7, 3) := by decide +kernel
theorem dX7_combine_131 : decode cX7_combine 131 = .ok (.iconst 1, 1) := by decide +kernel
theorem dX7_combine_132 : decode cX7_combine 132 = .ok (.goto 43, 3) := by decide +kernel
theorem dX7_combine_135 : decode cX7_combine 135 = .ok (.iconst 0, 1) := by decide +kernel
theorem dX7_combine_136 : decode cX7_combine 136 = .ok (.goto 39, 3) := by decide +kernel
theorem dX7_combine_139 : decode cX7_combine 139 = .ok (.iload 4, 2) := by decide +kernel
theorem dX7_combine_141 : decode cX7_combine 141 = .ok (.iconst 2, 1) := by decide +kernel
theorem dX7_combine_142 : decode cX7_combine 142 = .ok (.if_icmp .ne 21, 3) := by decide +kernel
theorem dX7_combine_145 : decode cX7_combine 145 = .ok (.iload 7, 2) := by decide +kernel
theorem dX7_combine_147 : decode cX7_combine 147 = .ok (.ifCond .eq 12, 3) := by decide +kernel
theorem dX7_combine_150 : decode cX7_combine 150 = .ok (.iload 8, 2) := by decide +kernel
theorem dX7_combine_152 : decode cX7_combine 152 = .ok (.ifCond .ne 7, 3) := by decide +kernel
theorem dX7_combine_155 : decode cX7_combine 155 = .ok (.iconst 1, 1) := by decide +kernel
theorem dX7_combine_156 : decode cX7_combine 156 = .ok (.goto 19, 3) := by decide +kernel
theorem dX7_combine_159 : decode cX7_combine 159 = .ok (.iconst 0, 1) := by decide +kernel
theorem dX7_combine_160 : decode cX7_combine 160 = .ok (.goto 15, 3) := by decide +kernel
theorem dX7_combine_163 : decode cX7_combine 163 = .ok (.iload 7, 2) := by decide +kernel
theorem dX7_combine_165 : decode cX7_combine 165 = .ok (.iload 8, 2) := by decide +kernel
theorem dX7_combine_167 : decode cX7_combine 167 = .ok (.if_icmp .eq 7, 3) := by decide +kernel
theorem dX7_combine_170 : decode cX7_combine 170 = .ok (.iconst 1, 1) := by decide +kernel
theorem dX7_combine_171 : decode cX7_combine 171 = .ok (.goto 4, 3) := by decide +kernel
theorem dX7_combine_174 : decode cX7_combine 174 = .ok (.iconst 0, 1) := by decide +kernel
theorem dX7_combine_175 : decode cX7_combine 175 = .ok (.bastore, 1) := by decide +kernel
theorem dX7_combine_176 : decode cX7_combine 176 = .ok (.iinc 6 1, 3) := by decide +kernel
theorem dX7_combine_179 : decode cX7_combine 179 = .ok (.goto (-121), 3) := by decide +kernel
theorem dX7_combine_182 : decode cX7_combine 182 = .ok (.aload_n 0, 1) := by decide +kernel
theorem dX7_combine_183 : decode cX7_combine 183 = .ok (.iload_n 1, 1) := by decide +kernel
theorem dX7_combine_184 : decode cX7_combine 184 = .ok (.aload 5, 2) := by decide +kernel
theorem dX7_combine_186 : decode cX7_combine 186 = .ok (.invokevirtual 84, 3) := by decide +kernel
theorem dX7_combine_189 : decode cX7_combine 189 = .ok (.ireturn, 1) := by decide +kernel
theorem dX7_move_0 : decode cX7_move 0 = .ok (.aload_n 0, 1) := by decide +kernel
theorem dX7_move_1 : decode cX7_move 1 = .ok (.iconst 0, 1) := by decide +kernel
theorem dX7_move_2 : decode cX7_move 2 = .ok (.putfield 33, 3) := by decide +kernel
theorem dX7_move_5 : decode cX7_move 5 = .ok (.iload_n 1, 1) := by decide +kernel
theorem dX7_move_6 : decode cX7_move 6 = .ok (.invokestatic 76, 3) := by decide +kernel
theorem dX7_move_9 : decode cX7_move 9 = .ok (.ifCond .ne 9, 3) := by decide +kernel
theorem dX7_move_12 : decode cX7_move 12 = .ok (.aload_n 0, 1) := by decide +kernel
theorem dX7_move_13 : decode cX7_move 13 = .ok (.iconst 1, 1) := by decide +kernel
theorem dX7_move_14 : decode cX7_move 14 = .ok (.invokevirtual 61, 3) := by decide +kernel
theorem dX7_move_17 : decode cX7_move 17 = .ok (.ireturn, 1) := by decide +kernel
theorem dX7_move_18 : decode cX7_move 18 = .ok (.iload_n 2, 1) := by decide +kernel
theorem dX7_move_19 : decode cX7_move 19 = .ok (.bipush (-64), 2) := by decide +kernel
theorem dX7_move_21 : decode cX7_move 21 = .ok (.bipush 64, 2) := by decide +kernel
theorem dX7_move_23 : decode cX7_move 23 = .ok (.invokestatic 36, 3) := by decide +kernel
theorem dX7_move_26 : decode cX7_move 26 = .ok (.ifCond .eq 14, 3) := by decide +kernel
theorem dX7_move_29 : decode cX7_move 29 = .ok (.iload_n 3, 1) := by decide +kernel
theorem dX7_move_30 : decode cX7_move 30 = .ok (.bipush (-64), 2) := by decide +kernel
theorem dX7_move_32 : decode cX7_move 32 = .ok (.bipush 64, 2) := by decide +kernel
theorem dX7_move_34 : decode cX7_move 34 = .ok (.invokestatic 36, 3) := by decide +kernel
theorem dX7_move_37 : decode cX7_move 37 = .ok (.ifCond .ne 9, 3) := by decide +kernel
theorem dX7_move_40 : decode cX7_move 40 = .ok (.aload_n 0, 1) := by decide +kernel
theorem dX7_move_41 : decode cX7_move 41 = .ok (.iconst 2, 1) := by decide +kernel
theorem dX7_move_42 : decode cX7_move 42 = .ok (.invokevirtual 61, 3) := by decide +kernel
theorem dX7_move_45 : decode cX7_move 45 = .ok (.ireturn, 1) := by decide +kernel
theorem dX7_move_46 : decode cX7_move 46 = .ok (.sipush 4096, 3) := by decide +kernel
theorem dX7_move_49 : decode cX7_move 49 = .ok (.newarray .boolean, 2) := by decide +kernel
theorem dX7_move_51 : decode cX7_move 51 = .ok (.astore 4, 2) := by decide +kernel
theorem dX7_move_53 : decode cX7_move 53 = .ok (.bipush (-32), 2) := by decide +kernel
theorem dX7_move_55 : decode cX7_move 55 = .ok (.istore 5, 2) := by decide +kernel
theorem dX7_move_57 : decode cX7_move 57 = .ok (.iload 5, 2) := by decide +kernel
theorem dX7_move_59 : decode cX7_move 59 = .ok (.bipush 31, 2) := by decide +kernel
theorem dX7_move_61 : decode cX7_move 61 = .ok (.if_icmp .gt 81, 3) := by decide +kernel
theorem dX7_move_64 : decode cX7_move 64 = .ok (.bipush (-32), 2) := by decide +kernel
theorem dX7_move_66 : decode cX7_move 66 = .ok (.istore 6, 2) := by decide +kernel
theorem dX7_move_68 : decode cX7_move 68 = .ok (.iload 6, 2) := by decide +kernel
theorem dX7_move_70 : decode cX7_move 70 = .ok (.bipush 31, 2) := by decide +kernel
theorem dX7_move_72 : decode cX7_move 72 = .ok (.if_icmp .gt 64, 3) := by decide +kernel
theorem dX7_move_75 : decode cX7_move 75 = .ok (.aload_n 0, 1) := by decide +kernel
theorem dX7_move_76 : decode cX7_move 76 = .ok (.getfield 11, 3) := by decide +kernel
theorem dX7_move_79 : decode cX7_move 79 = .ok (.iload_n 1, 1) := by decide +kernel
theorem dX7_move_80 : decode cX7_move 80 = .ok (.aaload, 1) := by decide +kernel
theorem dX7_move_81 : decode cX7_move 81 = .ok (.iload 5, 2) := by decide +kernel
theorem dX7_move_83 : decode cX7_move 83 = .ok (.iload 6, 2) := by decide +kernel
theorem dX7_move_85 : decode cX7_move 85 = .ok (.invokestatic 44, 3) := by decide +kernel
theorem dX7_move_88 : decode cX7_move 88 = .ok (.baload, 1) := by decide +kernel
theorem dX7_move_89 : decode cX7_move 89 = .ok (.ifCond .ne 6, 3) := by decide +kernel
theorem dX7_move_92 : decode cX7_move 92 = .ok (.goto 38, 3) := by decide +kernel
theorem dX7_move_95 : decode cX7_move 95 = .ok (.iload 5, 2) := by decide +kernel
theorem dX7_move_97 : decode cX7_move 97 = .ok (.iload_n 2, 1) := by decide +kernel
theorem dX7_move_98 : decode cX7_move 98 = .ok (.iadd, 1) := by decide +kernel
theorem dX7_move_99 : decode cX7_move 99 = .ok (.iload 6, 2) := by decide +kernel
theorem dX7_move_101 : decode cX7_move 101 = .ok (.iload_n 3, 1) := by decide +kernel
theorem dX7_move_102 : decode cX7_move 102 = .ok (.iadd, 1) := by decide +kernel
theorem dX7_move_103 : decode cX7_move 103 = .ok (.invokestatic 40, 3) := by decide +kernel
theorem dX7_move_106 : decode cX7_move 106 = .ok (.ifCond .ne 9, 3) := by decide +kernel
theorem dX7_move_109 : decode cX7_move 109 = .ok (.aload_n 0, 1) := by decide +kernel
theorem dX7_move_110 : decode cX7_move 110 = .ok (.iconst 3, 1) := by decide +kernel
theorem dX7_move_111 : decode cX7_move 111 = .ok (.invokevirtual 61, 3) := by decide +kernel
theorem dX7_move_114 : decode cX7_move 114 = .ok (.ireturn, 1) := by decide +kernel
theorem dX7_move_115 : decode cX7_move 115 = .ok (.aload 4, 2) := by decide +kernel
theorem dX7_move_117 : decode cX7_move 117 = .ok (.iload 5, 2) := by decide +kernel
theorem dX7_move_119 : decode cX7_move 119 = .ok (.iload_n 2, 1) := by decide +kernel
theorem dX7_move_120 : decode cX7_move 120 = .ok (.iadd, 1) := by decide +kernel
theorem dX7_move_121 : decode cX7_move 121 = .ok (.iload 6, 2) := by decide +kernel
theorem dX7_move_123 : decode cX7_move 123 = .ok (.iload_n 3, 1) := by decide +kernel
theorem dX7_move_124 : decode cX7_move 124 = .ok (.iadd, 1) := by decide +kernel
theorem dX7_move_125 : decode cX7_move 125 = .ok (.invokestatic 44, 3) := by decide +kernel
theorem dX7_move_128 : decode cX7_move 128 = .ok (.iconst 1, 1) := by decide +kernel
theorem dX7_move_129 : decode cX7_move 129 = .ok (.bastore, 1) := by decide +kernel
theorem dX7_move_130 : decode cX7_move 130 = .ok (.iinc 6 1, 3) := by decide +kernel
theorem dX7_move_133 : decode cX7_move 133 = .ok (.goto (-65), 3) := by decide +kernel
theorem dX7_move_136 : decode cX7_move 136 = .ok (.iinc 5 1, 3) := by decide +kernel
theorem dX7_move_139 : decode cX7_move 139 = .ok (.goto (-82), 3) := by decide +kernel
theorem dX7_move_142 : decode cX7_move 142 = .ok (.aload_n 0, 1) := by decide +kernel
theorem dX7_move_143 : decode cX7_move 143 = .ok (.iload_n 1, 1) := by decide +kernel
theorem dX7_move_144 : decode cX7_move 144 = .ok (.aload 4, 2) := by decide +kernel
theorem dX7_move_146 : decode cX7_move 146 = .ok (.invokevirtual 84, 3) := by decide +kernel
theorem dX7_move_149 : decode cX7_move 149 = .ok (.ireturn, 1) := by decide +kernel
theorem dX7_turn_0 : decode cX7_turn 0 = .ok (.aload_n 0, 1) := by decide +kernel
theorem dX7_turn_1 : decode cX7_turn 1 = .ok (.iconst 0, 1) := by decide +kernel
theorem dX7_turn_2 : decode cX7_turn 2 = .ok (.putfield 33, 3) := by decide +kernel
theorem dX7_turn_5 : decode cX7_turn 5 = .ok (.iload_n 1, 1) := by decide +kernel
theorem dX7_turn_6 : decode cX7_turn 6 = .ok (.invokestatic 76, 3) := by decide +kernel
theorem dX7_turn_9 : decode cX7_turn 9 = .ok (.ifCond .ne 9, 3) := by decide +kernel
theorem dX7_turn_12 : decode cX7_turn 12 = .ok (.aload_n 0, 1) := by decide +kernel
theorem dX7_turn_13 : decode cX7_turn 13 = .ok (.iconst 1, 1) := by decide +kernel
theorem dX7_turn_14 : decode cX7_turn 14 = .ok (.invokevirtual 61, 3) := by decide +kernel
theorem dX7_turn_17 : decode cX7_turn 17 = .ok (.ireturn, 1) := by decide +kernel
theorem dX7_turn_18 : decode cX7_turn 18 = .ok (.iload_n 2, 1) := by decide +kernel
theorem dX7_turn_19 : decode cX7_turn 19 = .ok (.iconst 0, 1) := by decide +kernel
theorem dX7_turn_20 : decode cX7_turn 20 = .ok (.iconst 3, 1) := by decide +kernel
theorem dX7_turn_21 : decode cX7_turn 21 = .ok (.invokestatic 36, 3) := by decide +kernel
theorem dX7_turn_24 : decode cX7_turn 24 = .ok (.ifCond .ne 9, 3) := by decide +kernel
theorem dX7_turn_27 : decode cX7_turn 27 = .ok (.aload_n 0, 1) := by decide +kernel
theorem dX7_turn_28 : decode cX7_turn 28 = .ok (.iconst 2, 1) := by decide +kernel
theorem dX7_turn_29 : decode cX7_turn 29 = .ok (.invokevirtual 61, 3) := by decide +kernel
theorem dX7_turn_32 : decode cX7_turn 32 = .ok (.ireturn, 1) := by decide +kernel
theorem dX7_turn_33 : decode cX7_turn 33 = .ok (.aload_n 0, 1) := by decide +kernel
theorem dX7_turn_34 : decode cX7_turn 34 = .ok (.getfield 11, 3) := by decide +kernel
theorem dX7_turn_37 : decode cX7_turn 37 = .ok (.iload_n 1, 1) := by decide +kernel
theorem dX7_turn_38 : decode cX7_turn 38 = .ok (.aaload, 1) := by decide +kernel
theorem dX7_turn_39 : decode cX7_turn 39 = .ok (.astore_n 3, 1) := by decide +kernel
theorem dX7_turn_40 : decode cX7_turn 40 = .ok (.iconst 0, 1) := by decide +kernel
theorem dX7_turn_41 : decode cX7_turn 41 = .ok (.istore 4, 2) := by decide +kernel
theorem dX7_turn_43 : decode cX7_turn 43 = .ok (.iload 4, 2) := by decide +kernel
theorem dX7_turn_45 : decode cX7_turn 45 = .ok (.iload_n 2, 1) := by decide +kernel
theorem dX7_turn_46 : decode cX7_turn 46 = .ok (.if_icmp .ge 75, 3) := by decide +kernel
theorem dX7_turn_49 : decode cX7_turn 49 = .ok (.sipush 4096, 3) := by decide +kernel
theorem dX7_turn_52 : decode cX7_turn 52 = .ok (.newarray .boolean, 2) := by decide +kernel
theorem dX7_turn_54 : decode cX7_turn 54 = .ok (.astore 5, 2) := by decide +kernel
theorem dX7_turn_56 : decode cX7_turn 56 = .ok (.bipush (-32), 2) := by decide +kernel
theorem dX7_turn_58 : decode cX7_turn 58 = .ok (.istore 6, 2) := by decide +kernel
theorem dX7_turn_60 : decode cX7_turn 60 = .ok (.iload 6, 2) := by decide +kernel
theorem dX7_turn_62 : decode cX7_turn 62 = .ok (.bipush 31, 2) := by decide +kernel
theorem dX7_turn_64 : decode cX7_turn 64 = .ok (.if_icmp .gt 48, 3) := by decide +kernel
theorem dX7_turn_67 : decode cX7_turn 67 = .ok (.bipush (-32), 2) := by decide +kernel
theorem dX7_turn_69 : decode cX7_turn 69 = .ok (.istore 7, 2) := by decide +kernel
theorem dX7_turn_71 : decode cX7_turn 71 = .ok (.iload 7, 2) := by decide +kernel
theorem dX7_turn_73 : decode cX7_turn 73 = .ok (.bipush 31, 2) := by decide +kernel
theorem dX7_turn_75 : decode cX7_turn 75 = .ok (.if_icmp .gt 31, 3) := by decide +kernel
theorem dX7_turn_78 : decode cX7_turn 78 = .ok (.aload 5, 2) := by decide +kernel
theorem dX7_turn_80 : decode cX7_turn 80 = .ok (.iload 7, 2) := by decide +kernel
theorem dX7_turn_82 : decode cX7_turn 82 = .ok (.ineg, 1) := by decide +kernel
theorem dX7_turn_83 : decode cX7_turn 83 = .ok (.iconst 1, 1) := by decide +kernel
theorem dX7_turn_84 : decode cX7_turn 84 = .ok (.isub, 1) := by decide +kernel
theorem dX7_turn_85 : decode cX7_turn 85 = .ok (.iload 6, 2) := by decide +kernel
theorem dX7_turn_87 : decode cX7_turn 87 = .ok (.invokestatic 44, 3) := by decide +kernel
theorem dX7_turn_90 : decode cX7_turn 90 = .ok (.aload_n 3, 1) := by decide +kernel
theorem dX7_turn_91 : decode cX7_turn 91 = .ok (.iload 6, 2) := by decide +kernel
theorem dX7_turn_93 : decode cX7_turn 93 = .ok (.iload 7, 2) := by decide +kernel
theorem dX7_turn_95 : decode cX7_turn 95 = .ok (.invokestatic 44, 3) := by decide +kernel
theorem dX7_turn_98 : decode cX7_turn 98 = .ok (.baload, 1) := by decide +kernel
theorem dX7_turn_99 : decode cX7_turn 99 = .ok (.bastore, 1) := by decide +kernel
theorem dX7_turn_100 : decode cX7_turn 100 = .ok (.iinc 7 1, 3) := by decide +kernel
theorem dX7_turn_103 : decode cX7_turn 103 = .ok (.goto (-32), 3) := by decide +kernel
theorem dX7_turn_106 : decode cX7_turn 106 = .ok (.iinc 6 1, 3) := by decide +kernel
theorem dX7_turn_109 : decode cX7_turn 109 = .ok (.goto (-49), 3) := by decide +kernel
theorem dX7_turn_112 : decode cX7_turn 112 = .ok (.aload 5, 2) := by decide +kernel
theorem dX7_turn_114 : decode cX7_turn 114 = .ok (.astore_n 3, 1) := by decide +kernel
theorem dX7_turn_115 : decode cX7_turn 115 = .ok (.iinc 4 1, 3) := by decide +kernel
theorem dX7_turn_118 : decode cX7_turn 118 = .ok (.goto (-75), 3) := by decide +kernel
theorem dX7_turn_121 : decode cX7_turn 121 = .ok (.aload_n 0, 1) := by decide +kernel
theorem dX7_turn_122 : decode cX7_turn 122 = .ok (.iload_n 1, 1) := by decide +kernel
theorem dX7_turn_123 : decode cX7_turn 123 = .ok (.aload_n 3, 1) := by decide +kernel
theorem dX7_turn_124 : decode cX7_turn 124 = .ok (.invokevirtual 84, 3) := by decide +kernel
theorem dX7_turn_127 : decode cX7_turn 127 = .ok (.ireturn, 1) := by decide +kernel
theorem dX7_mirror_0 : decode cX7_mirror 0 = .ok (.aload_n 0, 1) := by decide +kernel
theorem dX7_mirror_1 : decode cX7_mirror 1 = .ok (.iconst 0, 1) := by decide +kernel
theorem dX7_mirror_2 : decode cX7_mirror 2 = .ok (.putfield 33, 3) := by decide +kernel
theorem dX7_mirror_5 : decode cX7_mirror 5 = .ok (.iload_n 1, 1) := by decide +kernel
theorem dX7_mirror_6 : decode cX7_mirror 6 = .ok (.invokestatic 76, 3) := by decide +kernel
theorem dX7_mirror_9 : decode cX7_mirror 9 = .ok (.ifCond .ne 9, 3) := by decide +kernel
theorem dX7_mirror_12 : decode cX7_mirror 12 = .ok (.aload_n 0, 1) := by decide +kernel
theorem dX7_mirror_13 : decode cX7_mirror 13 = .ok (.iconst 1, 1) := by decide +kernel
theorem dX7_mirror_14 : decode cX7_mirror 14 = .ok (.invokevirtual 61, 3) := by decide +kernel
theorem dX7_mirror_17 : decode cX7_mirror 17 = .ok (.ireturn, 1) := by decide +kernel
theorem dX7_mirror_18 : decode cX7_mirror 18 = .ok (.sipush 4096, 3) := by decide +kernel
theorem dX7_mirror_21 : decode cX7_mirror 21 = .ok (.newarray .boolean, 2) := by decide +kernel
theorem dX7_mirror_23 : decode cX7_mirror 23 = .ok (.astore_n 2, 1) := by decide +kernel
theorem dX7_mirror_24 : decode cX7_mirror 24 = .ok (.bipush (-32), 2) := by decide +kernel
theorem dX7_mirror_26 : decode cX7_mirror 26 = .ok (.istore_n 3, 1) := by decide +kernel
theorem dX7_mirror_27 : decode cX7_mirror 27 = .ok (.iload_n 3, 1) := by decide +kernel
theorem dX7_mirror_28 : decode cX7_mirror 28 = .ok (.bipush 31, 2) := by decide +kernel
theorem dX7_mirror_30 : decode cX7_mirror 30 = .ok (.if_icmp .gt 50, 3) := by decide +kernel
theorem dX7_mirror_33 : decode cX7_mirror 33 = .ok (.bipush (-32), 2) := by decide +kernel
theorem dX7_mirror_35 : decode cX7_mirror 35 = .ok (.istore 4, 2) := by decide +kernel
theorem dX7_mirror_37 : decode cX7_mirror 37 = .ok (.iload 4, 2) := by decide +kernel
theorem dX7_mirror_39 : decode cX7_mirror 39 = .ok (.bipush 31, 2) := by decide +kernel
theorem dX7_mirror_41 : decode cX7_mirror 41 = .ok (.if_icmp .gt 33, 3) := by decide +kernel
theorem dX7_mirror_44 : decode cX7_mirror 44 = .ok (.aload_n 2, 1) := by decide +kernel
theorem dX7_mirror_45 : decode cX7_mirror 45 = .ok (.iload_n 3, 1) := by decide +kernel
theorem dX7_mirror_46 : decode cX7_mirror 46 = .ok (.ineg, 1) := by decide +kernel
theorem dX7_mirror_47 : decode cX7_mirror 47 = .ok (.iconst 1, 1) := by decide +kernel
theorem dX7_mirror_48 : decode cX7_mirror 48 = .ok (.isub, 1) := by decide +kernel
theorem dX7_mirror_49 : decode cX7_mirror 49 = .ok (.iload 4, 2) := by decide +kernel
theorem dX7_mirror_51 : decode cX7_mirror 51 = .ok (.invokestatic 44, 3) := by decide +kernel
theorem dX7_mirror_54 : decode cX7_mirror 54 = .ok (.aload_n 0, 1) := by decide +kernel
theorem dX7_mirror_55 : decode cX7_mirror 55 = .ok (.getfield 11, 3) := by decide +kernel
theorem dX7_mirror_58 : decode cX7_mirror 58 = .ok (.iload_n 1, 1) := by decide +kernel
theorem dX7_mirror_59 : decode cX7_mirror 59 = .ok (.aaload, 1) := by decide +kernel
theorem dX7_mirror_60 : decode cX7_mirror 60 = .ok (.iload_n 3, 1) := by decide +kernel
theorem dX7_mirror_61 : decode cX7_mirror 61 = .ok (.iload 4, 2) := by decide +kernel
theorem dX7_mirror_63 : decode cX7_mirror 63 = .ok (.invokestatic 44, 3) := by decide +kernel
theorem dX7_mirror_66 : decode cX7_mirror 66 = .ok (.baload, 1) := by decide +kernel
theorem dX7_mirror_67 : decode cX7_mirror 67 = .ok (.bastore, 1) := by decide +kernel
theorem dX7_mirror_68 : decode cX7_mirror 68 = .ok (.iinc 4 1, 3) := by decide +kernel
theorem dX7_mirror_71 : decode cX7_mirror 71 = .ok (.goto (-34), 3) := by decide +kernel
theorem dX7_mirror_74 : decode cX7_mirror 74 = .ok (.iinc 3 1, 3) := by decide +kernel
theorem dX7_mirror_77 : decode cX7_mirror 77 = .ok (.goto (-50), 3) := by decide +kernel
theorem dX7_mirror_80 : decode cX7_mirror 80 = .ok (.aload_n 0, 1) := by decide +kernel
theorem dX7_mirror_81 : decode cX7_mirror 81 = .ok (.iload_n 1, 1) := by decide +kernel
theorem dX7_mirror_82 : decode cX7_mirror 82 = .ok (.aload_n 2, 1) := by decide +kernel
theorem dX7_mirror_83 : decode cX7_mirror 83 = .ok (.invokevirtual 84, 3) := by decide +kernel
theorem dX7_mirror_86 : decode cX7_mirror 86 = .ok (.ireturn, 1) := by decide +kernel
theorem dX7_distance_0 : decode cX7_distance 0 = .ok (.iload_n 2, 1) := by decide +kernel
theorem dX7_distance_1 : decode cX7_distance 1 = .ok (.ifCond .ne 17, 3) := by decide +kernel
theorem dX7_distance_4 : decode cX7_distance 4 = .ok (.iload_n 0, 1) := by decide +kernel
theorem dX7_distance_5 : decode cX7_distance 5 = .ok (.invokestatic 88, 3) := by decide +kernel
theorem dX7_distance_8 : decode cX7_distance 8 = .ok (.iload_n 1, 1) := by decide +kernel
theorem dX7_distance_9 : decode cX7_distance 9 = .ok (.invokestatic 88, 3) := by decide +kernel
theorem dX7_distance_12 : decode cX7_distance 12 = .ok (.invokestatic 73, 3) := by decide +kernel
theorem dX7_distance_15 : decode cX7_distance 15 = .ok (.goto 12, 3) := by decide +kernel
theorem dX7_distance_18 : decode cX7_distance 18 = .ok (.iload_n 0, 1) := by decide +kernel
theorem dX7_distance_19 : decode cX7_distance 19 = .ok (.invokestatic 88, 3) := by decide +kernel
theorem dX7_distance_22 : decode cX7_distance 22 = .ok (.iload_n 1, 1) := by decide +kernel
theorem dX7_distance_23 : decode cX7_distance 23 = .ok (.invokestatic 88, 3) := by decide +kernel
theorem dX7_distance_26 : decode cX7_distance 26 = .ok (.iadd, 1) := by decide +kernel
theorem dX7_distance_27 : decode cX7_distance 27 = .ok (.ireturn, 1) := by decide +kernel
theorem dX7_grow_0 : decode cX7_grow 0 = .ok (.aload_n 0, 1) := by decide +kernel
theorem dX7_grow_1 : decode cX7_grow 1 = .ok (.iconst 0, 1) := by decide +kernel
theorem dX7_grow_2 : decode cX7_grow 2 = .ok (.putfield 33, 3) := by decide +kernel
theorem dX7_grow_5 : decode cX7_grow 5 = .ok (.iload_n 1, 1) := by decide +kernel
theorem dX7_grow_6 : decode cX7_grow 6 = .ok (.invokestatic 76, 3) := by decide +kernel
theorem dX7_grow_9 : decode cX7_grow 9 = .ok (.ifCond .ne 9, 3) := by decide +kernel
theorem dX7_grow_12 : decode cX7_grow 12 = .ok (.aload_n 0, 1) := by decide +kernel
theorem dX7_grow_13 : decode cX7_grow 13 = .ok (.iconst 1, 1) := by decide +kernel
theorem dX7_grow_14 : decode cX7_grow 14 = .ok (.invokevirtual 61, 3) := by decide +kernel
theorem dX7_grow_17 : decode cX7_grow 17 = .ok (.ireturn, 1) := by decide +kernel
theorem dX7_grow_18 : decode cX7_grow 18 = .ok (.iload_n 2, 1) := by decide +kernel
theorem dX7_grow_19 : decode cX7_grow 19 = .ok (.iconst 0, 1) := by decide +kernel
theorem dX7_grow_20 : decode cX7_grow 20 = .ok (.bipush 8, 2) := by decide +kernel
theorem dX7_grow_22 : decode cX7_grow 22 = .ok (.invokestatic 36, 3) := by decide +kernel
theorem dX7_grow_25 : decode cX7_grow 25 = .ok (.ifCond .eq 12, 3) := by decide +kernel
theorem dX7_grow_28 : decode cX7_grow 28 = .ok (.iload_n 3, 1) := by decide +kernel
theorem dX7_grow_29 : decode cX7_grow 29 = .ok (.iconst 0, 1) := by decide +kernel
theorem dX7_grow_30 : decode cX7_grow 30 = .ok (.iconst 1, 1) := by decide +kernel
theorem dX7_grow_31 : decode cX7_grow 31 = .ok (.invokestatic 36, 3) := by decide +kernel
theorem dX7_grow_34 : decode cX7_grow 34 = .ok (.ifCond .ne 9, 3) := by decide +kernel
theorem dX7_grow_37 : decode cX7_grow 37 = .ok (.aload_n 0, 1) := by decide +kernel
theorem dX7_grow_38 : decode cX7_grow 38 = .ok (.iconst 2, 1) := by decide +kernel
theorem dX7_grow_39 : decode cX7_grow 39 = .ok (.invokevirtual 61, 3) := by decide +kernel
theorem dX7_grow_42 : decode cX7_grow 42 = .ok (.ireturn, 1) := by decide +kernel
theorem dX7_grow_43 : decode cX7_grow 43 = .ok (.sipush 4096, 3) := by decide +kernel
theorem dX7_grow_46 : decode cX7_grow 46 = .ok (.newarray .boolean, 2) := by decide +kernel
theorem dX7_grow_48 : decode cX7_grow 48 = .ok (.astore 4, 2) := by decide +kernel
theorem dX7_grow_50 : decode cX7_grow 50 = .ok (.bipush (-32), 2) := by decide +kernel
theorem dX7_grow_52 : decode cX7_grow 52 = .ok (.istore 5, 2) := by decide +kernel
theorem dX7_grow_54 : decode cX7_grow 54 = .ok (.iload 5, 2) := by decide +kernel
theorem dX7_grow_56 : decode cX7_grow 56 = .ok (.bipush 31, 2) := by decide +kernel
theorem dX7_grow_58 : decode cX7_grow 58 = .ok (.if_icmp .gt 141, 3) := by decide +kernel
theorem dX7_grow_61 : decode cX7_grow 61 = .ok (.bipush (-32), 2) := by decide +kernel
theorem dX7_grow_63 : decode cX7_grow 63 = .ok (.istore 6, 2) := by decide +kernel
theorem dX7_grow_65 : decode cX7_grow 65 = .ok (.iload 6, 2) := by decide +kernel
theorem dX7_grow_67 : decode cX7_grow 67 = .ok (.bipush 31, 2) := by decide +kernel
theorem dX7_grow_69 : decode cX7_grow 69 = .ok (.if_icmp .gt 124, 3) := by decide +kernel
theorem dX7_grow_72 : decode cX7_grow 72 = .ok (.aload_n 0, 1) := by decide +kernel
theorem dX7_grow_73 : decode cX7_grow 73 = .ok (.getfield 11, 3) := by decide +kernel
theorem dX7_grow_76 : decode cX7_grow 76 = .ok (.iload_n 1, 1) := by decide +kernel
theorem dX7_grow_77 : decode cX7_grow 77 = .ok (.aaload, 1) := by decide +kernel
theorem dX7_grow_78 : decode cX7_grow 78 = .ok (.iload 5, 2) := by decide +kernel
theorem dX7_grow_80 : decode cX7_grow 80 = .ok (.iload 6, 2) := by decide +kernel
theorem dX7_grow_82 : decode cX7_grow 82 = .ok (.invokestatic 44, 3) := by decide +kernel
theorem dX7_grow_85 : decode cX7_grow 85 = .ok (.baload, 1) := by decide +kernel
theorem dX7_grow_86 : decode cX7_grow 86 = .ok (.ifCond .ne 6, 3) := by decide +kernel
theorem dX7_grow_89 : decode cX7_grow 89 = .ok (.goto 98, 3) := by decide +kernel
theorem dX7_grow_92 : decode cX7_grow 92 = .ok (.iload 5, 2) := by decide +kernel
theorem dX7_grow_94 : decode cX7_grow 94 = .ok (.iload_n 2, 1) := by decide +kernel
theorem dX7_grow_95 : decode cX7_grow 95 = .ok (.isub, 1) := by decide +kernel
theorem dX7_grow_96 : decode cX7_grow 96 = .ok (.iload 6, 2) := by decide +kernel
theorem dX7_grow_98 : decode cX7_grow 98 = .ok (.iload_n 2, 1) := by decide +kernel
theorem dX7_grow_99 : decode cX7_grow 99 = .ok (.isub, 1) := by decide +kernel
theorem dX7_grow_100 : decode cX7_grow 100 = .ok (.invokestatic 40, 3) := by decide +kernel
theorem dX7_grow_103 : decode cX7_grow 103 = .ok (.ifCond .eq 17, 3) := by decide +kernel
theorem dX7_grow_106 : decode cX7_grow 106 = .ok (.iload 5, 2) := by decide +kernel
theorem dX7_grow_108 : decode cX7_grow 108 = .ok (.iload_n 2, 1) := by decide +kernel
theorem dX7_grow_109 : decode cX7_grow 109 = .ok (.iadd, 1) := by decide +kernel
theorem dX7_grow_110 : decode cX7_grow 110 = .ok (.iload 6, 2) := by decide +kernel
theorem dX7_grow_112 : decode cX7_grow 112 = .ok (.iload_n 2, 1) := by decide +kernel
theorem dX7_grow_113 : decode cX7_grow 113 = .ok (.iadd, 1) := by decide +kernel
theorem dX7_grow_114 : decode cX7_grow 114 = .ok (.invokestatic 40, 3) := by decide +kernel
theorem dX7_grow_117 : decode cX7_grow 117 = .ok (.ifCond .ne 9, 3) := by decide +kernel
theorem dX7_grow_120 : decode cX7_grow 120 = .ok (.aload_n 0, 1) := by decide +kernel
theorem dX7_grow_121 : decode cX7_grow 121 = .ok (.iconst 3, 1) := by decide +kernel
theorem dX7_grow_122 : decode cX7_grow 122 = .ok (.invokevirtual 61, 3) := by decide +kernel
theorem dX7_grow_125 : decode cX7_grow 125 = .ok (.ireturn, 1) := by decide +kernel
theorem dX7_grow_126 : decode cX7_grow 126 = .ok (.iload_n 2, 1) := by decide +kernel
theorem dX7_grow_127 : decode cX7_grow 127 = .ok (.ineg, 1) := by decide +kernel
theorem dX7_grow_128 : decode cX7_grow 128 = .ok (.istore 7, 2) := by decide +kernel
theorem dX7_grow_130 : decode cX7_grow 130 = .ok (.iload 7, 2) := by decide +kernel
theorem dX7_grow_132 : decode cX7_grow 132 = .ok (.iload_n 2, 1) := by decide +kernel
theorem dX7_grow_133 : decode cX7_grow 133 = .ok (.if_icmp .gt 54, 3) := by decide +kernel
theorem dX7_grow_136 : decode cX7_grow 136 = .ok (.iload_n 2, 1) := by decide +kernel
theorem dX7_grow_137 : decode cX7_grow 137 = .ok (.ineg, 1) := by decide +kernel
theorem dX7_grow_138 : decode cX7_grow 138 = .ok (.istore 8, 2) := by decide +kernel
theorem dX7_grow_140 : decode cX7_grow 140 = .ok (.iload 8, 2) := by decide +kernel
theorem dX7_grow_142 : decode cX7_grow 142 = .ok (.iload_n 2, 1) := by decide +kernel
theorem dX7_grow_143 : decode cX7_grow 143 = .ok (.if_icmp .gt 38, 3) := by decide +kernel
theorem dX7_grow_146 : decode cX7_grow 146 = .ok (.iload 7, 2) := by decide +kernel
theorem dX7_grow_148 : decode cX7_grow 148 = .ok (.iload 8, 2) := by decide +kernel
theorem dX7_grow_150 : decode cX7_grow 150 = .ok (.iload_n 3, 1) := by decide +kernel
theorem dX7_grow_151 : decode cX7_grow 151 = .ok (.invokestatic 91, 3) := by decide +kernel
theorem dX7_grow_154 : decode cX7_grow 154 = .ok (.iload_n 2, 1) := by decide +kernel
theorem dX7_grow_155 : decode cX7_grow 155 = .ok (.if_icmp .gt 20, 3) := by decide +kernel
theorem dX7_grow_158 : decode cX7_grow 158 = .ok (.aload 4, 2) := by decide +kernel
theorem dX7_grow_160 : decode cX7_grow 160 = .ok (.iload 5, 2) := by decide +kernel
theorem dX7_grow_162 : decode cX7_grow 162 = .ok (.iload 7, 2) := by decide +kernel
theorem dX7_grow_164 : decode cX7_grow 164 = .ok (.iadd, 1) := by decide +kernel
theorem dX7_grow_165 : decode cX7_grow 165 = .ok (.iload 6, 2) := by decide +kernel
theorem dX7_grow_167 : decode cX7_grow 167 = .ok (.iload 8, 2) := by decide +kernel
theorem dX7_grow_169 : decode cX7_grow 169 = .ok (.iadd, 1) := by decide +kernel
theorem dX7_grow_170 : decode cX7_grow 170 = .ok (.invokestatic 44, 3) := by decide +kernel
theorem dX7_grow_173 : decode cX7_grow 173 = .ok (.iconst 1, 1) := by decide +kernel
theorem dX7_grow_174 : decode cX7_grow 174 = .ok (.bastore, 1) := by decide +kernel
theorem dX7_grow_175 : decode cX7_grow 175 = .ok (.iinc 8 1, 3) := by decide +kernel
theorem dX7_grow_178 : decode cX7_grow 178 = .ok (.goto (-38), 3) := by decide +kernel
theorem dX7_grow_181 : decode cX7_grow 181 = .ok (.iinc 7 1, 3) := by decide +kernel
theorem dX7_grow_184 : decode cX7_grow 184 = .ok (.goto (-54), 3) := by decide +kernel
theorem dX7_grow_187 : decode cX7_grow 187 = .ok (.iinc 6 1, 3) := by decide +kernel
theorem dX7_grow_190 : decode cX7_grow 190 = .ok (.goto (-125), 3) := by decide +kernel
theorem dX7_grow_193 : decode cX7_grow 193 = .ok (.iinc 5 1, 3) := by decide +kernel
theorem dX7_grow_196 : decode cX7_grow 196 = .ok (.goto (-142), 3) := by decide +kernel
theorem dX7_grow_199 : decode cX7_grow 199 = .ok (.aload_n 0, 1) := by decide +kernel
theorem dX7_grow_200 : decode cX7_grow 200 = .ok (.iload_n 1, 1) := by decide +kernel
theorem dX7_grow_201 : decode cX7_grow 201 = .ok (.aload 4, 2) := by decide +kernel
theorem dX7_grow_203 : decode cX7_grow 203 = .ok (.invokevirtual 84, 3) := by decide +kernel
theorem dX7_grow_206 : decode cX7_grow 206 = .ok (.ireturn, 1) := by decide +kernel
theorem dX7_shrink_0 : decode cX7_shrink 0 = .ok (.aload_n 0, 1) := by decide +kernel
theorem dX7_shrink_1 : decode cX7_shrink 1 = .ok (.iconst 0, 1) := by decide +kernel
theorem dX7_shrink_2 : decode cX7_shrink 2 = .ok (.putfield 33, 3) := by decide +kernel
theorem dX7_shrink_5 : decode cX7_shrink 5 = .ok (.iload_n 1, 1) := by decide +kernel
theorem dX7_shrink_6 : decode cX7_shrink 6 = .ok (.invokestatic 76, 3) := by decide +kernel
theorem dX7_shrink_9 : decode cX7_shrink 9 = .ok (.ifCond .ne 9, 3) := by decide +kernel
theorem dX7_shrink_12 : decode cX7_shrink 12 = .ok (.aload_n 0, 1) := by decide +kernel
theorem dX7_shrink_13 : decode cX7_shrink 13 = .ok (.iconst 1, 1) := by decide +kernel
theorem dX7_shrink_14 : decode cX7_shrink 14 = .ok (.invokevirtual 61, 3) := by decide +kernel
theorem dX7_shrink_17 : decode cX7_shrink 17 = .ok (.ireturn, 1) := by decide +kernel
theorem dX7_shrink_18 : decode cX7_shrink 18 = .ok (.iload_n 2, 1) := by decide +kernel
theorem dX7_shrink_19 : decode cX7_shrink 19 = .ok (.iconst 0, 1) := by decide +kernel
theorem dX7_shrink_20 : decode cX7_shrink 20 = .ok (.bipush 8, 2) := by decide +kernel
theorem dX7_shrink_22 : decode cX7_shrink 22 = .ok (.invokestatic 36, 3) := by decide +kernel
theorem dX7_shrink_25 : decode cX7_shrink 25 = .ok (.ifCond .eq 12, 3) := by decide +kernel
theorem dX7_shrink_28 : decode cX7_shrink 28 = .ok (.iload_n 3, 1) := by decide +kernel
theorem dX7_shrink_29 : decode cX7_shrink 29 = .ok (.iconst 0, 1) := by decide +kernel
theorem dX7_shrink_30 : decode cX7_shrink 30 = .ok (.iconst 1, 1) := by decide +kernel
theorem dX7_shrink_31 : decode cX7_shrink 31 = .ok (.invokestatic 36, 3) := by decide +kernel
theorem dX7_shrink_34 : decode cX7_shrink 34 = .ok (.ifCond .ne 9, 3) := by decide +kernel
theorem dX7_shrink_37 : decode cX7_shrink 37 = .ok (.aload_n 0, 1) := by decide +kernel
theorem dX7_shrink_38 : decode cX7_shrink 38 = .ok (.iconst 2, 1) := by decide +kernel
theorem dX7_shrink_39 : decode cX7_shrink 39 = .ok (.invokevirtual 61, 3) := by decide +kernel
theorem dX7_shrink_42 : decode cX7_shrink 42 = .ok (.ireturn, 1) := by decide +kernel
theorem dX7_shrink_43 : decode cX7_shrink 43 = .ok (.sipush 4096, 3) := by decide +kernel
theorem dX7_shrink_46 : decode cX7_shrink 46 = .ok (.newarray .boolean, 2) := by decide +kernel
theorem dX7_shrink_48 : decode cX7_shrink 48 = .ok (.astore 4, 2) := by decide +kernel
theorem dX7_shrink_50 : decode cX7_shrink 50 = .ok (.bipush (-32), 2) := by decide +kernel
theorem dX7_shrink_52 : decode cX7_shrink 52 = .ok (.istore 5, 2) := by decide +kernel
theorem dX7_shrink_54 : decode cX7_shrink 54 = .ok (.iload 5, 2) := by decide +kernel
theorem dX7_shrink_56 : decode cX7_shrink 56 = .ok (.bipush 31, 2) := by decide +kernel
theorem dX7_shrink_58 : decode cX7_shrink 58 = .ok (.if_icmp .gt 137, 3) := by decide +kernel
theorem dX7_shrink_61 : decode cX7_shrink 61 = .ok (.bipush (-32), 2) := by decide +kernel
theorem dX7_shrink_63 : decode cX7_shrink 63 = .ok (.istore 6, 2) := by decide +kernel
theorem dX7_shrink_65 : decode cX7_shrink 65 = .ok (.iload 6, 2) := by decide +kernel
theorem dX7_shrink_67 : decode cX7_shrink 67 = .ok (.bipush 31, 2) := by decide +kernel
theorem dX7_shrink_69 : decode cX7_shrink 69 = .ok (.if_icmp .gt 120, 3) := by decide +kernel
theorem dX7_shrink_72 : decode cX7_shrink 72 = .ok (.aload_n 0, 1) := by decide +kernel
theorem dX7_shrink_73 : decode cX7_shrink 73 = .ok (.getfield 11, 3) := by decide +kernel
theorem dX7_shrink_76 : decode cX7_shrink 76 = .ok (.iload_n 1, 1) := by decide +kernel
theorem dX7_shrink_77 : decode cX7_shrink 77 = .ok (.aaload, 1) := by decide +kernel
theorem dX7_shrink_78 : decode cX7_shrink 78 = .ok (.iload 5, 2) := by decide +kernel
theorem dX7_shrink_80 : decode cX7_shrink 80 = .ok (.iload 6, 2) := by decide +kernel
theorem dX7_shrink_82 : decode cX7_shrink 82 = .ok (.invokestatic 44, 3) := by decide +kernel
theorem dX7_shrink_85 : decode cX7_shrink 85 = .ok (.baload, 1) := by decide +kernel
theorem dX7_shrink_86 : decode cX7_shrink 86 = .ok (.istore 7, 2) := by decide +kernel
theorem dX7_shrink_88 : decode cX7_shrink 88 = .ok (.iload_n 2, 1) := by decide +kernel
theorem dX7_shrink_89 : decode cX7_shrink 89 = .ok (.ineg, 1) := by decide +kernel
theorem dX7_shrink_90 : decode cX7_shrink 90 = .ok (.istore 8, 2) := by decide +kernel
theorem dX7_shrink_92 : decode cX7_shrink 92 = .ok (.iload 7, 2) := by decide +kernel
theorem dX7_shrink_94 : decode cX7_shrink 94 = .ok (.ifCond .eq 77, 3) := by decide +kernel
theorem dX7_shrink_97 : decode cX7_shrink 97 = .ok (.iload 8, 2) := by decide +kernel
theorem dX7_shrink_99 : decode cX7_shrink 99 = .ok (.iload_n 2, 1) := by decide +kernel
theorem dX7_shrink_100 : decode cX7_shrink 100 = .ok (.if_icmp .gt 71, 3) := by decide +kernel
theorem dX7_shrink_103 : decode cX7_shrink 103 = .ok (.iload_n 2, 1) := by decide +kernel
theorem dX7_shrink_104 : decode cX7_shrink 104 = .ok (.ineg, 1) := by decide +kernel
theorem dX7_shrink_105 : decode cX7_shrink 105 = .ok (.istore 9, 2) := by decide +kernel
theorem dX7_shrink_107 : decode cX7_shrink 107 = .ok (.iload 7, 2) := by decide +kernel
theorem dX7_shrink_109 : decode cX7_shrink 109 = .ok (.ifCond .eq 56, 3) := by decide +kernel
theorem dX7_shrink_112 : decode cX7_shrink 112 = .ok (.iload 9, 2) := by decide +kernel
theorem dX7_shrink_114 : decode cX7_shrink 114 = .ok (.iload_n 2, 1) := by decide +kernel
theorem dX7_shrink_115 : decode cX7_shrink 115 = .ok (.if_icmp .gt 50, 3) := by decide +kernel
theorem dX7_shrink_118 : decode cX7_shrink 118 = .ok (.iload 8, 2) := by decide +kernel
theorem dX7_shrink_120 : decode cX7_shrink 120 = .ok (.iload 9, 2) := by decide +kernel
theorem dX7_shrink_122 : decode cX7_shrink 122 = .ok (.iload_n 3, 1) := by decide +kernel
theorem dX7_shrink_123 : decode cX7_shrink 123 = .ok (.invokestatic 91, 3) := by decide +kernel
theorem dX7_shrink_126 : decode cX7_shrink 126 = .ok (.iload_n 2, 1) := by decide +kernel
theorem dX7_shrink_127 : decode cX7_shrink 127 = .ok (.if_icmp .gt 25, 3) := by decide +kernel
theorem dX7_shrink_130 : decode cX7_shrink 130 = .ok (.aload_n 0, 1) := by decide +kernel
theorem dX7_shrink_131 : decode cX7_shrink 131 = .ok (.getfield 11, 3) := by decide +kernel
theorem dX7_shrink_134 : decode cX7_shrink 134 = .ok (.iload_n 1, 1) := by decide +kernel
theorem dX7_shrink_135 : decode cX7_shrink 135 = .ok (.aaload, 1) := by decide +kernel
theorem dX7_shrink_136 : decode cX7_shrink 136 = .ok (.iload 5, 2) := by decide +kernel
theorem dX7_shrink_138 : decode cX7_shrink 138 = .ok (.iload 8, 2) := by decide +kernel
theorem dX7_shrink_140 : decode cX7_shrink 140 = .ok (.iadd, 1) := by decide +kernel
theorem dX7_shrink_141 : decode cX7_shrink 141 = .ok (.iload 6, 2) := by decide +kernel
theorem dX7_shrink_143 : decode cX7_shrink 143 = .ok (.iload 9, 2) := by decide +kernel
theorem dX7_shrink_145 : decode cX7_shrink 145 = .ok (.iadd, 1) := by decide +kernel
theorem dX7_shrink_146 : decode cX7_shrink 146 = .ok (.invokestatic 95, 3) := by decide +kernel
theorem dX7_shrink_149 : decode cX7_shrink 149 = .ok (.ifCond .eq 7, 3) := by decide +kernel
theorem dX7_shrink_152 : decode cX7_shrink 152 = .ok (.iconst 1, 1) := by decide +kernel
theorem dX7_shrink_153 : decode cX7_shrink 153 = .ok (.goto 4, 3) := by decide +kernel
theorem dX7_shrink_156 : decode cX7_shrink 156 = .ok (.iconst 0, 1) := by decide +kernel
theorem dX7_shrink_157 : decode cX7_shrink 157 = .ok (.istore 7, 2) := by decide +kernel
theorem dX7_shrink_159 : decode cX7_shrink 159 = .ok (.iinc 9 1, 3) := by decide +kernel
theorem dX7_shrink_162 : decode cX7_shrink 162 = .ok (.goto (-55), 3) := by decide +kernel
theorem dX7_shrink_165 : decode cX7_shrink 165 = .ok (.iinc 8 1, 3) := by decide +kernel
theorem dX7_shrink_168 : decode cX7_shrink 168 = .ok (.goto (-76), 3) := by decide +kernel
theorem dX7_shrink_171 : decode cX7_shrink 171 = .ok (.aload 4, 2) := by decide +kernel
theorem dX7_shrink_173 : decode cX7_shrink 173 = .ok (.iload 5, 2) := by decide +kernel
theorem dX7_shrink_175 : decode cX7_shrink 175 = .ok (.iload 6, 2) := by decide +kernel
theorem dX7_shrink_177 : decode cX7_shrink 177 = .ok (.invokestatic 44, 3) := by decide +kernel
theorem dX7_shrink_180 : decode cX7_shrink 180 = .ok (.iload 7, 2) := by decide +kernel
theorem dX7_shrink_182 : decode cX7_shrink 182 = .ok (.bastore, 1) := by decide +kernel
theorem dX7_shrink_183 : decode cX7_shrink 183 = .ok (.iinc 6 1, 3) := by decide +kernel
theorem dX7_shrink_186 : decode cX7_shrink 186 = .ok (.goto (-121), 3) := by decide +kernel
theorem dX7_shrink_189 : decode cX7_shrink 189 = .ok (.iinc 5 1, 3) := by decide +kernel
theorem dX7_shrink_192 : decode cX7_shrink 192 = .ok (.goto (-138), 3) := by decide +kernel
theorem dX7_shrink_195 : decode cX7_shrink 195 = .ok (.aload_n 0, 1) := by decide +kernel
theorem dX7_shrink_196 : decode cX7_shrink 196 = .ok (.iload_n 1, 1) := by decide +kernel
theorem dX7_shrink_197 : decode cX7_shrink 197 = .ok (.aload 4, 2) := by decide +kernel
theorem dX7_shrink_199 : decode cX7_shrink 199 = .ok (.invokevirtual 84, 3) := by decide +kernel
theorem dX7_shrink_202 : decode cX7_shrink 202 = .ok (.ireturn, 1) := by decide +kernel
theorem dX7_parts_0 : decode cX7_parts 0 = .ok (.bipush 66, 2) := by decide +kernel
theorem dX7_parts_2 : decode cX7_parts 2 = .ok (.istore_n 2, 1) := by decide +kernel
theorem dX7_parts_3 : decode cX7_parts 3 = .ok (.iload_n 2, 1) := by decide +kernel
theorem dX7_parts_4 : decode cX7_parts 4 = .ok (.iload_n 2, 1) := by decide +kernel
theorem dX7_parts_5 : decode cX7_parts 5 = .ok (.imul, 1) := by decide +kernel
theorem dX7_parts_6 : decode cX7_parts 6 = .ok (.newarray .int, 2) := by decide +kernel
theorem dX7_parts_8 : decode cX7_parts 8 = .ok (.astore_n 3, 1) := by decide +kernel
theorem dX7_parts_9 : decode cX7_parts 9 = .ok (.iload_n 2, 1) := by decide +kernel
theorem dX7_parts_10 : decode cX7_parts 10 = .ok (.iload_n 2, 1) := by decide +kernel
theorem dX7_parts_11 : decode cX7_parts 11 = .ok (.imul, 1) := by decide +kernel
theorem dX7_parts_12 : decode cX7_parts 12 = .ok (.newarray .int, 2) := by decide +kernel
theorem dX7_parts_14 : decode cX7_parts 14 = .ok (.astore 4, 2) := by decide +kernel
theorem dX7_parts_16 : decode cX7_parts 16 = .ok (.iconst 0, 1) := by decide +kernel
theorem dX7_parts_17 : decode cX7_parts 17 = .ok (.istore 5, 2) := by decide +kernel
theorem dX7_parts_19 : decode cX7_parts 19 = .ok (.iconst 0, 1) := by decide +kernel
theorem dX7_parts_20 : decode cX7_parts 20 = .ok (.istore 6, 2) := by decide +kernel
theorem dX7_parts_22 : decode cX7_parts 22 = .ok (.iload 6, 2) := by decide +kernel
theorem dX7_parts_24 : decode cX7_parts 24 = .ok (.aload_n 3, 1) := by decide +kernel
theorem dX7_parts_25 : decode cX7_parts 25 = .ok (.arraylength, 1) := by decide +kernel
theorem dX7_parts_26 : decode cX7_parts 26 = .ok (.if_icmp .ge 253, 3) := by decide +kernel
theorem dX7_parts_29 : decode cX7_parts 29 = .ok (.aload_n 0, 1) := by decide +kernel
theorem dX7_parts_30 : decode cX7_parts 30 = .ok (.iload 6, 2) := by decide +kernel
theorem dX7_parts_32 : decode cX7_parts 32 = .ok (.iload_n 2, 1) := by decide +kernel
theorem dX7_parts_33 : decode cX7_parts 33 = .ok (.irem, 1) := by decide +kernel
theorem dX7_parts_34 : decode cX7_parts 34 = .ok (.bipush (-32), 2) := by decide +kernel
theorem dX7_parts_36 : decode cX7_parts 36 = .ok (.iadd, 1) := by decide +kernel
theorem dX7_parts_37 : decode cX7_parts 37 = .ok (.iconst 1, 1) := by decide +kernel
theorem dX7_parts_38 : decode cX7_parts 38 = .ok (.isub, 1) := by decide +kernel
theorem dX7_parts_39 : decode cX7_parts 39 = .ok (.iload 6, 2) := by decide +kernel
theorem dX7_parts_41 : decode cX7_parts 41 = .ok (.iload_n 2, 1) := by decide +kernel
theorem dX7_parts_42 : decode cX7_parts 42 = .ok (.idiv, 1) := by decide +kernel
theorem dX7_parts_43 : decode cX7_parts 43 = .ok (.bipush (-32), 2) := by decide +kernel
theorem dX7_parts_45 : decode cX7_parts 45 = .ok (.iadd, 1) := by decide +kernel
theorem dX7_parts_46 : decode cX7_parts 46 = .ok (.iconst 1, 1) := by decide +kernel
theorem dX7_parts_47 : decode cX7_parts 47 = .ok (.isub, 1) := by decide +kernel
theorem dX7_parts_48 : decode cX7_parts 48 = .ok (.invokestatic 95, 3) := by decide +kernel
theorem dX7_parts_51 : decode cX7_parts 51 = .ok (.iload_n 1, 1) := by decide +kernel
theorem dX7_parts_52 : decode cX7_parts 52 = .ok (.if_icmp .ne 7, 3) := by decide +kernel
theorem dX7_parts_55 : decode cX7_parts 55 = .ok (.iconst 1, 1) := by decide +kernel
theorem dX7_parts_56 : decode cX7_parts 56 = .ok (.goto 4, 3) := by decide +kernel
theorem dX7_parts_59 : decode cX7_parts 59 = .ok (.iconst 0, 1) := by decide +kernel
theorem dX7_parts_60 : decode cX7_parts 60 = .ok (.istore 7, 2) := by decide +kernel
theorem dX7_parts_62 : decode cX7_parts 62 = .ok (.iload 7, 2) := by decide +kernel
theorem dX7_parts_64 : decode cX7_parts 64 = .ok (.ifCond .eq 209, 3) := by decide +kernel
theorem dX7_parts_67 : decode cX7_parts 67 = .ok (.aload_n 3, 1) := by decide +kernel
theorem dX7_parts_68 : decode cX7_parts 68 = .ok (.iload 6, 2) := by decide +kernel
theorem dX7_parts_70 : decode cX7_parts 70 = .ok (.iaload, 1) := by decide +kernel
theorem dX7_parts_71 : decode cX7_parts 71 = .ok (.ifCond .eq 6, 3) := by decide +kernel
theorem dX7_parts_74 : decode cX7_parts 74 = .ok (.goto 199, 3) := by decide +kernel
theorem dX7_parts_77 : decode cX7_parts 77 = .ok (.aload_n 3, 1) := by decide +kernel
theorem dX7_parts_78 : decode cX7_parts 78 = .ok (.iload 6, 2) := by decide +kernel
theorem dX7_parts_80 : decode cX7_parts 80 = .ok (.iinc 5 1, 3) := by decide +kernel
theorem dX7_parts_83 : decode cX7_parts 83 = .ok (.iload 5, 2) := by decide +kernel
theorem dX7_parts_85 : decode cX7_parts 85 = .ok (.iastore, 1) := by decide +kernel
theorem dX7_parts_86 : decode cX7_parts 86 = .ok (.iconst 0, 1) := by decide +kernel
theorem dX7_parts_87 : decode cX7_parts 87 = .ok (.istore 8, 2) := by decide +kernel
end
section
theorem dX7_parts_89 : decode cX7_parts 89 = .ok (.iconst 0, 1) := by decide +kernel
theorem dX7_parts_90 : decode cX7_parts 90 = .ok (.istore 9, 2) := by decide +kernel
theorem dX7_parts_92 : decode cX7_parts 92 = .ok (.aload 4, 2) := by decide +kernel
theorem dX7_parts_94 : decode cX7_parts 94 = .ok (.iload 9, 2) := by decide +kernel
theorem dX7_parts_96 : decode cX7_parts 96 = .ok (.iinc 9 1, 3) := by decide +kernel
theorem dX7_parts_99 : decode cX7_parts 99 = .ok (.iload 6, 2) := by decide +kernel
theorem dX7_parts_101 : decode cX7_parts 101 = .ok (.iastore, 1) := by decide +kernel
theorem dX7_parts_102 : decode cX7_parts 102 = .ok (.iload 8, 2) := by decide +kernel
theorem dX7_parts_104 : decode cX7_parts 104 = .ok (.iload 9, 2) := by decide +kernel
theorem dX7_parts_106 : decode cX7_parts 106 = .ok (.if_icmp .ge 167, 3) := by decide +kernel
theorem dX7_parts_109 : decode cX7_parts 109 = .ok (.aload 4, 2) := by decide +kernel
theorem dX7_parts_111 : decode cX7_parts 111 = .ok (.iload 8, 2) := by decide +kernel
theorem dX7_parts_113 : decode cX7_parts 113 = .ok (.iinc 8 1, 3) := by decide +kernel
theorem dX7_parts_116 : decode cX7_parts 116 = .ok (.iaload, 1) := by decide +kernel
theorem dX7_parts_117 : decode cX7_parts 117 = .ok (.istore 10, 2) := by decide +kernel
theorem dX7_parts_119 : decode cX7_parts 119 = .ok (.iconst 0, 1) := by decide +kernel
theorem dX7_parts_120 : decode cX7_parts 120 = .ok (.istore 11, 2) := by decide +kernel
theorem dX7_parts_122 : decode cX7_parts 122 = .ok (.iload 11, 2) := by decide +kernel
theorem dX7_parts_124 : decode cX7_parts 124 = .ok (.bipush 9, 2) := by decide +kernel
theorem dX7_parts_126 : decode cX7_parts 126 = .ok (.if_icmp .ge 144, 3) := by decide +kernel
theorem dX7_parts_129 : decode cX7_parts 129 = .ok (.iload 11, 2) := by decide +kernel
theorem dX7_parts_131 : decode cX7_parts 131 = .ok (.iconst 3, 1) := by decide +kernel
theorem dX7_parts_132 : decode cX7_parts 132 = .ok (.irem, 1) := by decide +kernel
theorem dX7_parts_133 : decode cX7_parts 133 = .ok (.iconst 1, 1) := by decide +kernel
theorem dX7_parts_134 : decode cX7_parts 134 = .ok (.isub, 1) := by decide +kernel
theorem dX7_parts_135 : decode cX7_parts 135 = .ok (.istore 12, 2) := by decide +kernel
theorem dX7_parts_137 : decode cX7_parts 137 = .ok (.iload 11, 2) := by decide +kernel
theorem dX7_parts_139 : decode cX7_parts 139 = .ok (.iconst 3, 1) := by decide +kernel
theorem dX7_parts_140 : decode cX7_parts 140 = .ok (.idiv, 1) := by decide +kernel
theorem dX7_parts_141 : decode cX7_parts 141 = .ok (.iconst 1, 1) := by decide +kernel
theorem dX7_parts_142 : decode cX7_parts 142 = .ok (.isub, 1) := by decide +kernel
theorem dX7_parts_143 : decode cX7_parts 143 = .ok (.istore 13, 2) := by decide +kernel
theorem dX7_parts_145 : decode cX7_parts 145 = .ok (.iload_n 1, 1) := by decide +kernel
theorem dX7_parts_146 : decode cX7_parts 146 = .ok (.ifCond .eq 16, 3) := by decide +kernel
theorem dX7_parts_149 : decode cX7_parts 149 = .ok (.iload 12, 2) := by decide +kernel
theorem dX7_parts_151 : decode cX7_parts 151 = .ok (.ifCond .eq 11, 3) := by decide +kernel
theorem dX7_parts_154 : decode cX7_parts 154 = .ok (.iload 13, 2) := by decide +kernel
theorem dX7_parts_156 : decode cX7_parts 156 = .ok (.ifCond .eq 6, 3) := by decide +kernel
theorem dX7_parts_159 : decode cX7_parts 159 = .ok (.goto 105, 3) := by decide +kernel
theorem dX7_parts_162 : decode cX7_parts 162 = .ok (.iload 10, 2) := by decide +kernel
theorem dX7_parts_164 : decode cX7_parts 164 = .ok (.iload_n 2, 1) := by decide +kernel
theorem dX7_parts_165 : decode cX7_parts 165 = .ok (.irem, 1) := by decide +kernel
theorem dX7_parts_166 : decode cX7_parts 166 = .ok (.iload 12, 2) := by decide +kernel
theorem dX7_parts_168 : decode cX7_parts 168 = .ok (.iadd, 1) := by decide +kernel
theorem dX7_parts_169 : decode cX7_parts 169 = .ok (.istore 14, 2) := by decide +kernel
theorem dX7_parts_171 : decode cX7_parts 171 = .ok (.iload 10, 2) := by decide +kernel
theorem dX7_parts_173 : decode cX7_parts 173 = .ok (.iload_n 2, 1) := by decide +kernel
theorem dX7_parts_174 : decode cX7_parts 174 = .ok (.idiv, 1) := by decide +kernel
theorem dX7_parts_175 : decode cX7_parts 175 = .ok (.iload 13, 2) := by decide +kernel
theorem dX7_parts_177 : decode cX7_parts 177 = .ok (.iadd, 1) := by decide +kernel
theorem dX7_parts_178 : decode cX7_parts 178 = .ok (.istore 15, 2) := by decide +kernel
theorem dX7_parts_180 : decode cX7_parts 180 = .ok (.iload 14, 2) := by decide +kernel
theorem dX7_parts_182 : decode cX7_parts 182 = .ok (.iconst 0, 1) := by decide +kernel
theorem dX7_parts_183 : decode cX7_parts 183 = .ok (.iload_n 2, 1) := by decide +kernel
theorem dX7_parts_184 : decode cX7_parts 184 = .ok (.iconst 1, 1) := by decide +kernel
theorem dX7_parts_185 : decode cX7_parts 185 = .ok (.isub, 1) := by decide +kernel
theorem dX7_parts_186 : decode cX7_parts 186 = .ok (.invokestatic 36, 3) := by decide +kernel
theorem dX7_parts_189 : decode cX7_parts 189 = .ok (.ifCond .eq 75, 3) := by decide +kernel
theorem dX7_parts_192 : decode cX7_parts 192 = .ok (.iload 15, 2) := by decide +kernel
theorem dX7_parts_194 : decode cX7_parts 194 = .ok (.iconst 0, 1) := by decide +kernel
theorem dX7_parts_195 : decode cX7_parts 195 = .ok (.iload_n 2, 1) := by decide +kernel
theorem dX7_parts_196 : decode cX7_parts 196 = .ok (.iconst 1, 1) := by decide +kernel
theorem dX7_parts_197 : decode cX7_parts 197 = .ok (.isub, 1) := by decide +kernel
theorem dX7_parts_198 : decode cX7_parts 198 = .ok (.invokestatic 36, 3) := by decide +kernel
theorem dX7_parts_201 : decode cX7_parts 201 = .ok (.ifCond .ne 6, 3) := by decide +kernel
theorem dX7_parts_204 : decode cX7_parts 204 = .ok (.goto 60, 3) := by decide +kernel
theorem dX7_parts_207 : decode cX7_parts 207 = .ok (.iload 15, 2) := by decide +kernel
theorem dX7_parts_209 : decode cX7_parts 209 = .ok (.iload_n 2, 1) := by decide +kernel
theorem dX7_parts_210 : decode cX7_parts 210 = .ok (.imul, 1) := by decide +kernel
theorem dX7_parts_211 : decode cX7_parts 211 = .ok (.iload 14, 2) := by decide +kernel
theorem dX7_parts_213 : decode cX7_parts 213 = .ok (.iadd, 1) := by decide +kernel
theorem dX7_parts_214 : decode cX7_parts 214 = .ok (.istore 16, 2) := by decide +kernel
theorem dX7_parts_216 : decode cX7_parts 216 = .ok (.aload_n 3, 1) := by decide +kernel
theorem dX7_parts_217 : decode cX7_parts 217 = .ok (.iload 16, 2) := by decide +kernel
theorem dX7_parts_219 : decode cX7_parts 219 = .ok (.iaload, 1) := by decide +kernel
theorem dX7_parts_220 : decode cX7_parts 220 = .ok (.ifCond .ne 44, 3) := by decide +kernel
theorem dX7_parts_223 : decode cX7_parts 223 = .ok (.aload_n 0, 1) := by decide +kernel
theorem dX7_parts_224 : decode cX7_parts 224 = .ok (.iload 14, 2) := by decide +kernel
theorem dX7_parts_226 : decode cX7_parts 226 = .ok (.bipush (-32), 2) := by decide +kernel
theorem dX7_parts_228 : decode cX7_parts 228 = .ok (.iadd, 1) := by decide +kernel
theorem dX7_parts_229 : decode cX7_parts 229 = .ok (.iconst 1, 1) := by decide +kernel
theorem dX7_parts_230 : decode cX7_parts 230 = .ok (.isub, 1) := by decide +kernel
theorem dX7_parts_231 : decode cX7_parts 231 = .ok (.iload 15, 2) := by decide +kernel
theorem dX7_parts_233 : decode cX7_parts 233 = .ok (.bipush (-32), 2) := by decide +kernel
theorem dX7_parts_235 : decode cX7_parts 235 = .ok (.iadd, 1) := by decide +kernel
theorem dX7_parts_236 : decode cX7_parts 236 = .ok (.iconst 1, 1) := by decide +kernel
theorem dX7_parts_237 : decode cX7_parts 237 = .ok (.isub, 1) := by decide +kernel
theorem dX7_parts_238 : decode cX7_parts 238 = .ok (.invokestatic 95, 3) := by decide +kernel
theorem dX7_parts_241 : decode cX7_parts 241 = .ok (.iload_n 1, 1) := by decide +kernel
theorem dX7_parts_242 : decode cX7_parts 242 = .ok (.if_icmp .eq 6, 3) := by decide +kernel
theorem dX7_parts_245 : decode cX7_parts 245 = .ok (.goto 19, 3) := by decide +kernel
theorem dX7_parts_248 : decode cX7_parts 248 = .ok (.aload_n 3, 1) := by decide +kernel
theorem dX7_parts_249 : decode cX7_parts 249 = .ok (.iload 16, 2) := by decide +kernel
theorem dX7_parts_251 : decode cX7_parts 251 = .ok (.iload 5, 2) := by decide +kernel
theorem dX7_parts_253 : decode cX7_parts 253 = .ok (.iastore, 1) := by decide +kernel
theorem dX7_parts_254 : decode cX7_parts 254 = .ok (.aload 4, 2) := by decide +kernel
theorem dX7_parts_256 : decode cX7_parts 256 = .ok (.iload 9, 2) := by decide +kernel
theorem dX7_parts_258 : decode cX7_parts 258 = .ok (.iinc 9 1, 3) := by decide +kernel
theorem dX7_parts_261 : decode cX7_parts 261 = .ok (.iload 16, 2) := by decide +kernel
theorem dX7_parts_263 : decode cX7_parts 263 = .ok (.iastore, 1) := by decide +kernel
theorem dX7_parts_264 : decode cX7_parts 264 = .ok (.iinc 11 1, 3) := by decide +kernel
theorem dX7_parts_267 : decode cX7_parts 267 = .ok (.goto (-145), 3) := by decide +kernel
theorem dX7_parts_270 : decode cX7_parts 270 = .ok (.goto (-168), 3) := by decide +kernel
theorem dX7_parts_273 : decode cX7_parts 273 = .ok (.iinc 6 1, 3) := by decide +kernel
theorem dX7_parts_276 : decode cX7_parts 276 = .ok (.goto (-254), 3) := by decide +kernel
theorem dX7_parts_279 : decode cX7_parts 279 = .ok (.aload_n 3, 1) := by decide +kernel
theorem dX7_parts_280 : decode cX7_parts 280 = .ok (.areturn, 1) := by decide +kernel
theorem dX7_most_0 : decode cX7_most 0 = .ok (.iconst 0, 1) := by decide +kernel
theorem dX7_most_1 : decode cX7_most 1 = .ok (.istore_n 1, 1) := by decide +kernel
theorem dX7_most_2 : decode cX7_most 2 = .ok (.aload_n 0, 1) := by decide +kernel
theorem dX7_most_3 : decode cX7_most 3 = .ok (.astore_n 2, 1) := by decide +kernel
theorem dX7_most_4 : decode cX7_most 4 = .ok (.aload_n 2, 1) := by decide +kernel
theorem dX7_most_5 : decode cX7_most 5 = .ok (.arraylength, 1) := by decide +kernel
theorem dX7_most_6 : decode cX7_most 6 = .ok (.istore_n 3, 1) := by decide +kernel
theorem dX7_most_7 : decode cX7_most 7 = .ok (.iconst 0, 1) := by decide +kernel
theorem dX7_most_8 : decode cX7_most 8 = .ok (.istore 4, 2) := by decide +kernel
theorem dX7_most_10 : decode cX7_most 10 = .ok (.iload 4, 2) := by decide +kernel
theorem dX7_most_12 : decode cX7_most 12 = .ok (.iload_n 3, 1) := by decide +kernel
theorem dX7_most_13 : decode cX7_most 13 = .ok (.if_icmp .ge 22, 3) := by decide +kernel
theorem dX7_most_16 : decode cX7_most 16 = .ok (.aload_n 2, 1) := by decide +kernel
theorem dX7_most_17 : decode cX7_most 17 = .ok (.iload 4, 2) := by decide +kernel
theorem dX7_most_19 : decode cX7_most 19 = .ok (.iaload, 1) := by decide +kernel
theorem dX7_most_20 : decode cX7_most 20 = .ok (.istore 5, 2) := by decide +kernel
theorem dX7_most_22 : decode cX7_most 22 = .ok (.iload_n 1, 1) := by decide +kernel
theorem dX7_most_23 : decode cX7_most 23 = .ok (.iload 5, 2) := by decide +kernel
theorem dX7_most_25 : decode cX7_most 25 = .ok (.invokestatic 73, 3) := by decide +kernel
theorem dX7_most_28 : decode cX7_most 28 = .ok (.istore_n 1, 1) := by decide +kernel
theorem dX7_most_29 : decode cX7_most 29 = .ok (.iinc 4 1, 3) := by decide +kernel
theorem dX7_most_32 : decode cX7_most 32 = .ok (.goto (-22), 3) := by decide +kernel
theorem dX7_most_35 : decode cX7_most 35 = .ok (.iload_n 1, 1) := by decide +kernel
theorem dX7_most_36 : decode cX7_most 36 = .ok (.ireturn, 1) := by decide +kernel
theorem dX7_partAt_0 : decode cX7_partAt 0 = .ok (.aload_n 0, 1) := by decide +kernel
theorem dX7_partAt_1 : decode cX7_partAt 1 = .ok (.iload_n 2, 1) := by decide +kernel
theorem dX7_partAt_2 : decode cX7_partAt 2 = .ok (.bipush (-32), 2) := by decide +kernel
theorem dX7_partAt_4 : decode cX7_partAt 4 = .ok (.isub, 1) := by decide +kernel
theorem dX7_partAt_5 : decode cX7_partAt 5 = .ok (.iconst 1, 1) := by decide +kernel
theorem dX7_partAt_6 : decode cX7_partAt 6 = .ok (.iadd, 1) := by decide +kernel
theorem dX7_partAt_7 : decode cX7_partAt 7 = .ok (.bipush 66, 2) := by decide +kernel
theorem dX7_partAt_9 : decode cX7_partAt 9 = .ok (.imul, 1) := by decide +kernel
theorem dX7_partAt_10 : decode cX7_partAt 10 = .ok (.iload_n 1, 1) := by decide +kernel
theorem dX7_partAt_11 : decode cX7_partAt 11 = .ok (.iadd, 1) := by decide +kernel
theorem dX7_partAt_12 : decode cX7_partAt 12 = .ok (.bipush (-32), 2) := by decide +kernel
theorem dX7_partAt_14 : decode cX7_partAt 14 = .ok (.isub, 1) := by decide +kernel
theorem dX7_partAt_15 : decode cX7_partAt 15 = .ok (.iconst 1, 1) := by decide +kernel
theorem dX7_partAt_16 : decode cX7_partAt 16 = .ok (.iadd, 1) := by decide +kernel
theorem dX7_partAt_17 : decode cX7_partAt 17 = .ok (.iaload, 1) := by decide +kernel
theorem dX7_partAt_18 : decode cX7_partAt 18 = .ok (.ireturn, 1) := by decide +kernel
theorem dX7_holesNow_0 : decode cX7_holesNow 0 = .ok (.aload_n 0, 1) := by decide +kernel
theorem dX7_holesNow_1 : decode cX7_holesNow 1 = .ok (.getfield 11, 3) := by decide +kernel
theorem dX7_holesNow_4 : decode cX7_holesNow 4 = .ok (.iload_n 1, 1) := by decide +kernel
theorem dX7_holesNow_5 : decode cX7_holesNow 5 = .ok (.aaload, 1) := by decide +kernel
theorem dX7_holesNow_6 : decode cX7_holesNow 6 = .ok (.iconst 0, 1) := by decide +kernel
theorem dX7_holesNow_7 : decode cX7_holesNow 7 = .ok (.invokestatic 99, 3) := by decide +kernel
theorem dX7_holesNow_10 : decode cX7_holesNow 10 = .ok (.invokestatic 103, 3) := by decide +kernel
theorem dX7_holesNow_13 : decode cX7_holesNow 13 = .ok (.iconst 1, 1) := by decide +kernel
theorem dX7_holesNow_14 : decode cX7_holesNow 14 = .ok (.isub, 1) := by decide +kernel
theorem dX7_holesNow_15 : decode cX7_holesNow 15 = .ok (.ireturn, 1) := by decide +kernel
theorem dX7_fill_0 : decode cX7_fill 0 = .ok (.aload_n 0, 1) := by decide +kernel
theorem dX7_fill_1 : decode cX7_fill 1 = .ok (.iconst 0, 1) := by decide +kernel
theorem dX7_fill_2 : decode cX7_fill 2 = .ok (.putfield 33, 3) := by decide +kernel
theorem dX7_fill_5 : decode cX7_fill 5 = .ok (.iload_n 1, 1) := by decide +kernel
theorem dX7_fill_6 : decode cX7_fill 6 = .ok (.invokestatic 76, 3) := by decide +kernel
theorem dX7_fill_9 : decode cX7_fill 9 = .ok (.ifCond .ne 9, 3) := by decide +kernel
theorem dX7_fill_12 : decode cX7_fill 12 = .ok (.aload_n 0, 1) := by decide +kernel
theorem dX7_fill_13 : decode cX7_fill 13 = .ok (.iconst 1, 1) := by decide +kernel
theorem dX7_fill_14 : decode cX7_fill 14 = .ok (.invokevirtual 61, 3) := by decide +kernel
theorem dX7_fill_17 : decode cX7_fill 17 = .ok (.ireturn, 1) := by decide +kernel
theorem dX7_fill_18 : decode cX7_fill 18 = .ok (.aload_n 0, 1) := by decide +kernel
theorem dX7_fill_19 : decode cX7_fill 19 = .ok (.getfield 11, 3) := by decide +kernel
theorem dX7_fill_22 : decode cX7_fill 22 = .ok (.iload_n 1, 1) := by decide +kernel
theorem dX7_fill_23 : decode cX7_fill 23 = .ok (.aaload, 1) := by decide +kernel
theorem dX7_fill_24 : decode cX7_fill 24 = .ok (.iconst 0, 1) := by decide +kernel
theorem dX7_fill_25 : decode cX7_fill 25 = .ok (.invokestatic 99, 3) := by decide +kernel
theorem dX7_fill_28 : decode cX7_fill 28 = .ok (.astore_n 2, 1) := by decide +kernel
theorem dX7_fill_29 : decode cX7_fill 29 = .ok (.sipush 4096, 3) := by decide +kernel
theorem dX7_fill_32 : decode cX7_fill 32 = .ok (.newarray .boolean, 2) := by decide +kernel
theorem dX7_fill_34 : decode cX7_fill 34 = .ok (.astore_n 3, 1) := by decide +kernel
theorem dX7_fill_35 : decode cX7_fill 35 = .ok (.bipush (-32), 2) := by decide +kernel
theorem dX7_fill_37 : decode cX7_fill 37 = .ok (.istore 4, 2) := by decide +kernel
theorem dX7_fill_39 : decode cX7_fill 39 = .ok (.iload 4, 2) := by decide +kernel
theorem dX7_fill_41 : decode cX7_fill 41 = .ok (.bipush 31, 2) := by decide +kernel
theorem dX7_fill_43 : decode cX7_fill 43 = .ok (.if_icmp .gt 52, 3) := by decide +kernel
theorem dX7_fill_46 : decode cX7_fill 46 = .ok (.bipush (-32), 2) := by decide +kernel
theorem dX7_fill_48 : decode cX7_fill 48 = .ok (.istore 5, 2) := by decide +kernel
theorem dX7_fill_50 : decode cX7_fill 50 = .ok (.iload 5, 2) := by decide +kernel
theorem dX7_fill_52 : decode cX7_fill 52 = .ok (.bipush 31, 2) := by decide +kernel
theorem dX7_fill_54 : decode cX7_fill 54 = .ok (.if_icmp .gt 35, 3) := by decide +kernel
theorem dX7_fill_57 : decode cX7_fill 57 = .ok (.aload_n 3, 1) := by decide +kernel
theorem dX7_fill_58 : decode cX7_fill 58 = .ok (.iload 4, 2) := by decide +kernel
theorem dX7_fill_60 : decode cX7_fill 60 = .ok (.iload 5, 2) := by decide +kernel
theorem dX7_fill_62 : decode cX7_fill 62 = .ok (.invokestatic 44, 3) := by decide +kernel
theorem dX7_fill_65 : decode cX7_fill 65 = .ok (.aload_n 2, 1) := by decide +kernel
theorem dX7_fill_66 : decode cX7_fill 66 = .ok (.iload 4, 2) := by decide +kernel
theorem dX7_fill_68 : decode cX7_fill 68 = .ok (.iload 5, 2) := by decide +kernel
theorem dX7_fill_70 : decode cX7_fill 70 = .ok (.invokestatic 107, 3) := by decide +kernel
theorem dX7_fill_73 : decode cX7_fill 73 = .ok (.iconst 1, 1) := by decide +kernel
theorem dX7_fill_74 : decode cX7_fill 74 = .ok (.if_icmp .eq 7, 3) := by decide +kernel
theorem dX7_fill_77 : decode cX7_fill 77 = .ok (.iconst 1, 1) := by decide +kernel
theorem dX7_fill_78 : decode cX7_fill 78 = .ok (.goto 4, 3) := by decide +kernel
theorem dX7_fill_81 : decode cX7_fill 81 = .ok (.iconst 0, 1) := by decide +kernel
theorem dX7_fill_82 : decode cX7_fill 82 = .ok (.bastore, 1) := by decide +kernel
theorem dX7_fill_83 : decode cX7_fill 83 = .ok (.iinc 5 1, 3) := by decide +kernel
theorem dX7_fill_86 : decode cX7_fill 86 = .ok (.goto (-36), 3) := by decide +kernel
theorem dX7_fill_89 : decode cX7_fill 89 = .ok (.iinc 4 1, 3) := by decide +kernel
theorem dX7_fill_92 : decode cX7_fill 92 = .ok (.goto (-53), 3) := by decide +kernel
theorem dX7_fill_95 : decode cX7_fill 95 = .ok (.aload_n 0, 1) := by decide +kernel
theorem dX7_fill_96 : decode cX7_fill 96 = .ok (.iload_n 1, 1) := by decide +kernel
theorem dX7_fill_97 : decode cX7_fill 97 = .ok (.aload_n 3, 1) := by decide +kernel
theorem dX7_fill_98 : decode cX7_fill 98 = .ok (.invokevirtual 84, 3) := by decide +kernel
theorem dX7_fill_101 : decode cX7_fill 101 = .ok (.pop, 1) := by decide +kernel
theorem dX7_fill_102 : decode cX7_fill 102 = .ok (.aload_n 2, 1) := by decide +kernel
theorem dX7_fill_103 : decode cX7_fill 103 = .ok (.invokestatic 103, 3) := by decide +kernel
theorem dX7_fill_106 : decode cX7_fill 106 = .ok (.iconst 1, 1) := by decide +kernel
theorem dX7_fill_107 : decode cX7_fill 107 = .ok (.isub, 1) := by decide +kernel
theorem dX7_fill_108 : decode cX7_fill 108 = .ok (.ireturn, 1) := by decide +kernel
theorem dX7_keepPiece_0 : decode cX7_keepPiece 0 = .ok (.aload_n 0, 1) := by decide +kernel
theorem dX7_keepPiece_1 : decode cX7_keepPiece 1 = .ok (.iconst 0, 1) := by decide +kernel
theorem dX7_keepPiece_2 : decode cX7_keepPiece 2 = .ok (.putfield 33, 3) := by decide +kernel
theorem dX7_keepPiece_5 : decode cX7_keepPiece 5 = .ok (.iload_n 1, 1) := by decide +kernel
theorem dX7_keepPiece_6 : decode cX7_keepPiece 6 = .ok (.invokestatic 76, 3) := by decide +kernel
theorem dX7_keepPiece_9 : decode cX7_keepPiece 9 = .ok (.ifCond .ne 9, 3) := by decide +kernel
theorem dX7_keepPiece_12 : decode cX7_keepPiece 12 = .ok (.aload_n 0, 1) := by decide +kernel
theorem dX7_keepPiece_13 : decode cX7_keepPiece 13 = .ok (.iconst 1, 1) := by decide +kernel
theorem dX7_keepPiece_14 : decode cX7_keepPiece 14 = .ok (.invokevirtual 61, 3) := by decide +kernel
theorem dX7_keepPiece_17 : decode cX7_keepPiece 17 = .ok (.ireturn, 1) := by decide +kernel
theorem dX7_keepPiece_18 : decode cX7_keepPiece 18 = .ok (.sipush 4096, 3) := by decide +kernel
theorem dX7_keepPiece_21 : decode cX7_keepPiece 21 = .ok (.newarray .boolean, 2) := by decide +kernel
theorem dX7_keepPiece_23 : decode cX7_keepPiece 23 = .ok (.astore 4, 2) := by decide +kernel
theorem dX7_keepPiece_25 : decode cX7_keepPiece 25 = .ok (.aload_n 0, 1) := by decide +kernel
theorem dX7_keepPiece_26 : decode cX7_keepPiece 26 = .ok (.getfield 11, 3) := by decide +kernel
theorem dX7_keepPiece_29 : decode cX7_keepPiece 29 = .ok (.iload_n 1, 1) := by decide +kernel
theorem dX7_keepPiece_30 : decode cX7_keepPiece 30 = .ok (.aaload, 1) := by decide +kernel
theorem dX7_keepPiece_31 : decode cX7_keepPiece 31 = .ok (.iload_n 2, 1) := by decide +kernel
theorem dX7_keepPiece_32 : decode cX7_keepPiece 32 = .ok (.iload_n 3, 1) := by decide +kernel
theorem dX7_keepPiece_33 : decode cX7_keepPiece 33 = .ok (.invokestatic 95, 3) := by decide +kernel
theorem dX7_keepPiece_36 : decode cX7_keepPiece 36 = .ok (.ifCond .eq 87, 3) := by decide +kernel
theorem dX7_keepPiece_39 : decode cX7_keepPiece 39 = .ok (.aload_n 0, 1) := by decide +kernel
theorem dX7_keepPiece_40 : decode cX7_keepPiece 40 = .ok (.getfield 11, 3) := by decide +kernel
theorem dX7_keepPiece_43 : decode cX7_keepPiece 43 = .ok (.iload_n 1, 1) := by decide +kernel
theorem dX7_keepPiece_44 : decode cX7_keepPiece 44 = .ok (.aaload, 1) := by decide +kernel
theorem dX7_keepPiece_45 : decode cX7_keepPiece 45 = .ok (.iconst 1, 1) := by decide +kernel
theorem dX7_keepPiece_46 : decode cX7_keepPiece 46 = .ok (.invokestatic 99, 3) := by decide +kernel
theorem dX7_keepPiece_49 : decode cX7_keepPiece 49 = .ok (.astore 5, 2) := by decide +kernel
theorem dX7_keepPiece_51 : decode cX7_keepPiece 51 = .ok (.aload 5, 2) := by decide +kernel
theorem dX7_keepPiece_53 : decode cX7_keepPiece 53 = .ok (.iload_n 2, 1) := by decide +kernel
theorem dX7_keepPiece_54 : decode cX7_keepPiece 54 = .ok (.iload_n 3, 1) := by decide +kernel
theorem dX7_keepPiece_55 : decode cX7_keepPiece 55 = .ok (.invokestatic 107, 3) := by decide +kernel
theorem dX7_keepPiece_58 : decode cX7_keepPiece 58 = .ok (.istore 6, 2) := by decide +kernel
theorem dX7_keepPiece_60 : decode cX7_keepPiece 60 = .ok (.bipush (-32), 2) := by decide +kernel
theorem dX7_keepPiece_62 : decode cX7_keepPiece 62 = .ok (.istore 7, 2) := by decide +kernel
theorem dX7_keepPiece_64 : decode cX7_keepPiece 64 = .ok (.iload 7, 2) := by decide +kernel
theorem dX7_keepPiece_66 : decode cX7_keepPiece 66 = .ok (.bipush 31, 2) := by decide +kernel
theorem dX7_keepPiece_68 : decode cX7_keepPiece 68 = .ok (.if_icmp .gt 55, 3) := by decide +kernel
theorem dX7_keepPiece_71 : decode cX7_keepPiece 71 = .ok (.bipush (-32), 2) := by decide +kernel
theorem dX7_keepPiece_73 : decode cX7_keepPiece 73 = .ok (.istore 8, 2) := by decide +kernel
theorem dX7_keepPiece_75 : decode cX7_keepPiece 75 = .ok (.iload 8, 2) := by decide +kernel
theorem dX7_keepPiece_77 : decode cX7_keepPiece 77 = .ok (.bipush 31, 2) := by decide +kernel
theorem dX7_keepPiece_79 : decode cX7_keepPiece 79 = .ok (.if_icmp .gt 38, 3) := by decide +kernel
theorem dX7_keepPiece_82 : decode cX7_keepPiece 82 = .ok (.aload 4, 2) := by decide +kernel
theorem dX7_keepPiece_84 : decode cX7_keepPiece 84 = .ok (.iload 7, 2) := by decide +kernel
theorem dX7_keepPiece_86 : decode cX7_keepPiece 86 = .ok (.iload 8, 2) := by decide +kernel
theorem dX7_keepPiece_88 : decode cX7_keepPiece 88 = .ok (.invokestatic 44, 3) := by decide +kernel
theorem dX7_keepPiece_91 : decode cX7_keepPiece 91 = .ok (.aload 5, 2) := by decide +kernel
theorem dX7_keepPiece_93 : decode cX7_keepPiece 93 = .ok (.iload 7, 2) := by decide +kernel
theorem dX7_keepPiece_95 : decode cX7_keepPiece 95 = .ok (.iload 8, 2) := by decide +kernel
theorem dX7_keepPiece_97 : decode cX7_keepPiece 97 = .ok (.invokestatic 107, 3) := by decide +kernel
theorem dX7_keepPiece_100 : decode cX7_keepPiece 100 = .ok (.iload 6, 2) := by decide +kernel
theorem dX7_keepPiece_102 : decode cX7_keepPiece 102 = .ok (.if_icmp .ne 7, 3) := by decide +kernel
theorem dX7_keepPiece_105 : decode cX7_keepPiece 105 = .ok (.iconst 1, 1) := by decide +kernel
theorem dX7_keepPiece_106 : decode cX7_keepPiece 106 = .ok (.goto 4, 3) := by decide +kernel
theorem dX7_keepPiece_109 : decode cX7_keepPiece 109 = .ok (.iconst 0, 1) := by decide +kernel
theorem dX7_keepPiece_110 : decode cX7_keepPiece 110 = .ok (.bastore, 1) := by decide +kernel
theorem dX7_keepPiece_111 : decode cX7_keepPiece 111 = .ok (.iinc 8 1, 3) := by decide +kernel
theorem dX7_keepPiece_114 : decode cX7_keepPiece 114 = .ok (.goto (-39), 3) := by decide +kernel
theorem dX7_keepPiece_117 : decode cX7_keepPiece 117 = .ok (.iinc 7 1, 3) := by decide +kernel
theorem dX7_keepPiece_120 : decode cX7_keepPiece 120 = .ok (.goto (-56), 3) := by decide +kernel
theorem dX7_keepPiece_123 : decode cX7_keepPiece 123 = .ok (.aload_n 0, 1) := by decide +kernel
theorem dX7_keepPiece_124 : decode cX7_keepPiece 124 = .ok (.iload_n 1, 1) := by decide +kernel
theorem dX7_keepPiece_125 : decode cX7_keepPiece 125 = .ok (.aload 4, 2) := by decide +kernel
theorem dX7_keepPiece_127 : decode cX7_keepPiece 127 = .ok (.invokevirtual 84, 3) := by decide +kernel
theorem dX7_keepPiece_130 : decode cX7_keepPiece 130 = .ok (.ireturn, 1) := by decide +kernel
theorem dX7_clear_0 : decode cX7_clear 0 = .ok (.aload_n 0, 1) := by decide +kernel
theorem dX7_clear_1 : decode cX7_clear 1 = .ok (.iconst 0, 1) := by decide +kernel
theorem dX7_clear_2 : decode cX7_clear 2 = .ok (.putfield 33, 3) := by decide +kernel
theorem dX7_clear_5 : decode cX7_clear 5 = .ok (.iload_n 1, 1) := by decide +kernel
theorem dX7_clear_6 : decode cX7_clear 6 = .ok (.invokestatic 76, 3) := by decide +kernel
theorem dX7_clear_9 : decode cX7_clear 9 = .ok (.ifCond .ne 9, 3) := by decide +kernel
theorem dX7_clear_12 : decode cX7_clear 12 = .ok (.aload_n 0, 1) := by decide +kernel
theorem dX7_clear_13 : decode cX7_clear 13 = .ok (.iconst 1, 1) := by decide +kernel
theorem dX7_clear_14 : decode cX7_clear 14 = .ok (.invokevirtual 61, 3) := by decide +kernel
theorem dX7_clear_17 : decode cX7_clear 17 = .ok (.ireturn, 1) := by decide +kernel
theorem dX7_clear_18 : decode cX7_clear 18 = .ok (.aload_n 0, 1) := by decide +kernel
theorem dX7_clear_19 : decode cX7_clear 19 = .ok (.getfield 11, 3) := by decide +kernel
theorem dX7_clear_22 : decode cX7_clear 22 = .ok (.iload_n 1, 1) := by decide +kernel
theorem dX7_clear_23 : decode cX7_clear 23 = .ok (.aaload, 1) := by decide +kernel
theorem dX7_clear_24 : decode cX7_clear 24 = .ok (.invokestatic 57, 3) := by decide +kernel
theorem dX7_clear_27 : decode cX7_clear 27 = .ok (.istore_n 2, 1) := by decide +kernel
theorem dX7_clear_28 : decode cX7_clear 28 = .ok (.aload_n 0, 1) := by decide +kernel
theorem dX7_clear_29 : decode cX7_clear 29 = .ok (.iload_n 1, 1) := by decide +kernel
theorem dX7_clear_30 : decode cX7_clear 30 = .ok (.sipush 4096, 3) := by decide +kernel
theorem dX7_clear_33 : decode cX7_clear 33 = .ok (.newarray .boolean, 2) := by decide +kernel
theorem dX7_clear_35 : decode cX7_clear 35 = .ok (.invokevirtual 84, 3) := by decide +kernel
theorem dX7_clear_38 : decode cX7_clear 38 = .ok (.pop, 1) := by decide +kernel
theorem dX7_clear_39 : decode cX7_clear 39 = .ok (.iload_n 2, 1) := by decide +kernel
theorem dX7_clear_40 : decode cX7_clear 40 = .ok (.ireturn, 1) := by decide +kernel
theorem dX7_undo_0 : decode cX7_undo 0 = .ok (.aload_n 0, 1) := by decide +kernel
theorem dX7_undo_1 : decode cX7_undo 1 = .ok (.iconst 0, 1) := by decide +kernel
theorem dX7_undo_2 : decode cX7_undo 2 = .ok (.putfield 33, 3) := by decide +kernel
theorem dX7_undo_5 : decode cX7_undo 5 = .ok (.aload_n 0, 1) := by decide +kernel
theorem dX7_undo_6 : decode cX7_undo 6 = .ok (.getfield 54, 3) := by decide +kernel
theorem dX7_undo_9 : decode cX7_undo 9 = .ok (.ifCond .ne 5, 3) := by decide +kernel
theorem dX7_undo_12 : decode cX7_undo 12 = .ok (.iconst (-1), 1) := by decide +kernel
theorem dX7_undo_13 : decode cX7_undo 13 = .ok (.ireturn, 1) := by decide +kernel
theorem dX7_undo_14 : decode cX7_undo 14 = .ok (.aload_n 0, 1) := by decide +kernel
theorem dX7_undo_15 : decode cX7_undo 15 = .ok (.dup, 1) := by decide +kernel
theorem dX7_undo_16 : decode cX7_undo 16 = .ok (.getfield 54, 3) := by decide +kernel
theorem dX7_undo_19 : decode cX7_undo 19 = .ok (.iconst 1, 1) := by decide +kernel
theorem dX7_undo_20 : decode cX7_undo 20 = .ok (.isub, 1) := by decide +kernel
theorem dX7_undo_21 : decode cX7_undo 21 = .ok (.putfield 54, 3) := by decide +kernel
theorem dX7_undo_24 : decode cX7_undo 24 = .ok (.aload_n 0, 1) := by decide +kernel
theorem dX7_undo_25 : decode cX7_undo 25 = .ok (.getfield 30, 3) := by decide +kernel
theorem dX7_undo_28 : decode cX7_undo 28 = .ok (.aload_n 0, 1) := by decide +kernel
theorem dX7_undo_29 : decode cX7_undo 29 = .ok (.getfield 54, 3) := by decide +kernel
theorem dX7_undo_32 : decode cX7_undo 32 = .ok (.aaload, 1) := by decide +kernel
theorem dX7_undo_33 : decode cX7_undo 33 = .ok (.iconst 0, 1) := by decide +kernel
theorem dX7_undo_34 : decode cX7_undo 34 = .ok (.aload_n 0, 1) := by decide +kernel
theorem dX7_undo_35 : decode cX7_undo 35 = .ok (.getfield 11, 3) := by decide +kernel
theorem dX7_undo_38 : decode cX7_undo 38 = .ok (.aload_n 0, 1) := by decide +kernel
theorem dX7_undo_39 : decode cX7_undo 39 = .ok (.getfield 25, 3) := by decide +kernel
theorem dX7_undo_42 : decode cX7_undo 42 = .ok (.aload_n 0, 1) := by decide +kernel
theorem dX7_undo_43 : decode cX7_undo 43 = .ok (.getfield 54, 3) := by decide +kernel
theorem dX7_undo_46 : decode cX7_undo 46 = .ok (.iaload, 1) := by decide +kernel
theorem dX7_undo_47 : decode cX7_undo 47 = .ok (.aaload, 1) := by decide +kernel
theorem dX7_undo_48 : decode cX7_undo 48 = .ok (.iconst 0, 1) := by decide +kernel
theorem dX7_undo_49 : decode cX7_undo 49 = .ok (.sipush 4096, 3) := by decide +kernel
theorem dX7_undo_52 : decode cX7_undo 52 = .ok (.invokestatic 48, 3) := by decide +kernel
theorem dX7_undo_55 : decode cX7_undo 55 = .ok (.aload_n 0, 1) := by decide +kernel
theorem dX7_undo_56 : decode cX7_undo 56 = .ok (.getfield 25, 3) := by decide +kernel
theorem dX7_undo_59 : decode cX7_undo 59 = .ok (.aload_n 0, 1) := by decide +kernel
theorem dX7_undo_60 : decode cX7_undo 60 = .ok (.getfield 54, 3) := by decide +kernel
theorem dX7_undo_63 : decode cX7_undo 63 = .ok (.iaload, 1) := by decide +kernel
theorem dX7_undo_64 : decode cX7_undo 64 = .ok (.ireturn, 1) := by decide +kernel
theorem dX7_area_0 : decode cX7_area 0 = .ok (.aload_n 0, 1) := by decide +kernel
theorem dX7_area_1 : decode cX7_area 1 = .ok (.iconst 0, 1) := by decide +kernel
theorem dX7_area_2 : decode cX7_area 2 = .ok (.putfield 33, 3) := by decide +kernel
theorem dX7_area_5 : decode cX7_area 5 = .ok (.iload_n 1, 1) := by decide +kernel
theorem dX7_area_6 : decode cX7_area 6 = .ok (.invokestatic 76, 3) := by decide +kernel
theorem dX7_area_9 : decode cX7_area 9 = .ok (.ifCond .eq 15, 3) := by decide +kernel
theorem dX7_area_12 : decode cX7_area 12 = .ok (.aload_n 0, 1) := by decide +kernel
theorem dX7_area_13 : decode cX7_area 13 = .ok (.getfield 11, 3) := by decide +kernel
theorem dX7_area_16 : decode cX7_area 16 = .ok (.iload_n 1, 1) := by decide +kernel
theorem dX7_area_17 : decode cX7_area 17 = .ok (.aaload, 1) := by decide +kernel
theorem dX7_area_18 : decode cX7_area 18 = .ok (.invokestatic 57, 3) := by decide +kernel
theorem dX7_area_21 : decode cX7_area 21 = .ok (.goto 8, 3) := by decide +kernel
theorem dX7_area_24 : decode cX7_area 24 = .ok (.aload_n 0, 1) := by decide +kernel
theorem dX7_area_25 : decode cX7_area 25 = .ok (.iconst 1, 1) := by decide +kernel
theorem dX7_area_26 : decode cX7_area 26 = .ok (.invokevirtual 61, 3) := by decide +kernel
theorem dX7_area_29 : decode cX7_area 29 = .ok (.ireturn, 1) := by decide +kernel
theorem dX7_edgesNow_0 : decode cX7_edgesNow 0 = .ok (.iconst 0, 1) := by decide +kernel
theorem dX7_edgesNow_1 : decode cX7_edgesNow 1 = .ok (.istore_n 2, 1) := by decide +kernel
theorem dX7_edgesNow_2 : decode cX7_edgesNow 2 = .ok (.bipush (-32), 2) := by decide +kernel
theorem dX7_edgesNow_4 : decode cX7_edgesNow 4 = .ok (.istore_n 3, 1) := by decide +kernel
theorem dX7_edgesNow_5 : decode cX7_edgesNow 5 = .ok (.iload_n 3, 1) := by decide +kernel
theorem dX7_edgesNow_6 : decode cX7_edgesNow 6 = .ok (.bipush 31, 2) := by decide +kernel
theorem dX7_edgesNow_8 : decode cX7_edgesNow 8 = .ok (.if_icmp .gt 145, 3) := by decide +kernel
theorem dX7_edgesNow_11 : decode cX7_edgesNow 11 = .ok (.bipush (-32), 2) := by decide +kernel
theorem dX7_edgesNow_13 : decode cX7_edgesNow 13 = .ok (.istore 4, 2) := by decide +kernel
theorem dX7_edgesNow_15 : decode cX7_edgesNow 15 = .ok (.iload 4, 2) := by decide +kernel
theorem dX7_edgesNow_17 : decode cX7_edgesNow 17 = .ok (.bipush 31, 2) := by decide +kernel
theorem dX7_edgesNow_19 : decode cX7_edgesNow 19 = .ok (.if_icmp .gt 128, 3) := by decide +kernel
theorem dX7_edgesNow_22 : decode cX7_edgesNow 22 = .ok (.aload_n 0, 1) := by decide +kernel
theorem dX7_edgesNow_23 : decode cX7_edgesNow 23 = .ok (.getfield 11, 3) := by decide +kernel
theorem dX7_edgesNow_26 : decode cX7_edgesNow 26 = .ok (.iload_n 1, 1) := by decide +kernel
theorem dX7_edgesNow_27 : decode cX7_edgesNow 27 = .ok (.aaload, 1) := by decide +kernel
theorem dX7_edgesNow_28 : decode cX7_edgesNow 28 = .ok (.iload_n 3, 1) := by decide +kernel
theorem dX7_edgesNow_29 : decode cX7_edgesNow 29 = .ok (.iload 4, 2) := by decide +kernel
theorem dX7_edgesNow_31 : decode cX7_edgesNow 31 = .ok (.invokestatic 44, 3) := by decide +kernel
theorem dX7_edgesNow_34 : decode cX7_edgesNow 34 = .ok (.baload, 1) := by decide +kernel
theorem dX7_edgesNow_35 : decode cX7_edgesNow 35 = .ok (.ifCond .ne 6, 3) := by decide +kernel
theorem dX7_edgesNow_38 : decode cX7_edgesNow 38 = .ok (.goto 103, 3) := by decide +kernel
theorem dX7_edgesNow_41 : decode cX7_edgesNow 41 = .ok (.iload_n 2, 1) := by decide +kernel
theorem dX7_edgesNow_42 : decode cX7_edgesNow 42 = .ok (.aload_n 0, 1) := by decide +kernel
theorem dX7_edgesNow_43 : decode cX7_edgesNow 43 = .ok (.getfield 11, 3) := by decide +kernel
theorem dX7_edgesNow_46 : decode cX7_edgesNow 46 = .ok (.iload_n 1, 1) := by decide +kernel
theorem dX7_edgesNow_47 : decode cX7_edgesNow 47 = .ok (.aaload, 1) := by decide +kernel
theorem dX7_edgesNow_48 : decode cX7_edgesNow 48 = .ok (.iload_n 3, 1) := by decide +kernel
theorem dX7_edgesNow_49 : decode cX7_edgesNow 49 = .ok (.iconst 1, 1) := by decide +kernel
theorem dX7_edgesNow_50 : decode cX7_edgesNow 50 = .ok (.isub, 1) := by decide +kernel
theorem dX7_edgesNow_51 : decode cX7_edgesNow 51 = .ok (.iload 4, 2) := by decide +kernel
theorem dX7_edgesNow_53 : decode cX7_edgesNow 53 = .ok (.invokestatic 95, 3) := by decide +kernel
theorem dX7_edgesNow_56 : decode cX7_edgesNow 56 = .ok (.ifCond .eq 7, 3) := by decide +kernel
theorem dX7_edgesNow_59 : decode cX7_edgesNow 59 = .ok (.iconst 0, 1) := by decide +kernel
theorem dX7_edgesNow_60 : decode cX7_edgesNow 60 = .ok (.goto 4, 3) := by decide +kernel
theorem dX7_edgesNow_63 : decode cX7_edgesNow 63 = .ok (.iconst 1, 1) := by decide +kernel
theorem dX7_edgesNow_64 : decode cX7_edgesNow 64 = .ok (.iadd, 1) := by decide +kernel
theorem dX7_edgesNow_65 : decode cX7_edgesNow 65 = .ok (.istore_n 2, 1) := by decide +kernel
theorem dX7_edgesNow_66 : decode cX7_edgesNow 66 = .ok (.iload_n 2, 1) := by decide +kernel
theorem dX7_edgesNow_67 : decode cX7_edgesNow 67 = .ok (.aload_n 0, 1) := by decide +kernel
theorem dX7_edgesNow_68 : decode cX7_edgesNow 68 = .ok (.getfield 11, 3) := by decide +kernel
theorem dX7_edgesNow_71 : decode cX7_edgesNow 71 = .ok (.iload_n 1, 1) := by decide +kernel
theorem dX7_edgesNow_72 : decode cX7_edgesNow 72 = .ok (.aaload, 1) := by decide +kernel
theorem dX7_edgesNow_73 : decode cX7_edgesNow 73 = .ok (.iload_n 3, 1) := by decide +kernel
theorem dX7_edgesNow_74 : decode cX7_edgesNow 74 = .ok (.iconst 1, 1) := by decide +kernel
theorem dX7_edgesNow_75 : decode cX7_edgesNow 75 = .ok (.iadd, 1) := by decide +kernel
theorem dX7_edgesNow_76 : decode cX7_edgesNow 76 = .ok (.iload 4, 2) := by decide +kernel
theorem dX7_edgesNow_78 : decode cX7_edgesNow 78 = .ok (.invokestatic 95, 3) := by decide +kernel
theorem dX7_edgesNow_81 : decode cX7_edgesNow 81 = .ok (.ifCond .eq 7, 3) := by decide +kernel
theorem dX7_edgesNow_84 : decode cX7_edgesNow 84 = .ok (.iconst 0, 1) := by decide +kernel
theorem dX7_edgesNow_85 : decode cX7_edgesNow 85 = .ok (.goto 4, 3) := by decide +kernel
theorem dX7_edgesNow_88 : decode cX7_edgesNow 88 = .ok (.iconst 1, 1) := by decide +kernel
theorem dX7_edgesNow_89 : decode cX7_edgesNow 89 = .ok (.iadd, 1) := by decide +kernel
theorem dX7_edgesNow_90 : decode cX7_edgesNow 90 = .ok (.istore_n 2, 1) := by decide +kernel
theorem dX7_edgesNow_91 : decode cX7_edgesNow 91 = .ok (.iload_n 2, 1) := by decide +kernel
theorem dX7_edgesNow_92 : decode cX7_edgesNow 92 = .ok (.aload_n 0, 1) := by decide +kernel
theorem dX7_edgesNow_93 : decode cX7_edgesNow 93 = .ok (.getfield 11, 3) := by decide +kernel
theorem dX7_edgesNow_96 : decode cX7_edgesNow 96 = .ok (.iload_n 1, 1) := by decide +kernel
theorem dX7_edgesNow_97 : decode cX7_edgesNow 97 = .ok (.aaload, 1) := by decide +kernel
theorem dX7_edgesNow_98 : decode cX7_edgesNow 98 = .ok (.iload_n 3, 1) := by decide +kernel
theorem dX7_edgesNow_99 : decode cX7_edgesNow 99 = .ok (.iload 4, 2) := by decide +kernel
theorem dX7_edgesNow_101 : decode cX7_edgesNow 101 = .ok (.iconst 1, 1) := by decide +kernel
theorem dX7_edgesNow_102 : decode cX7_edgesNow 102 = .ok (.isub, 1) := by decide +kernel
theorem dX7_edgesNow_103 : decode cX7_edgesNow 103 = .ok (.invokestatic 95, 3) := by decide +kernel
theorem dX7_edgesNow_106 : decode cX7_edgesNow 106 = .ok (.ifCond .eq 7, 3) := by decide +kernel
theorem dX7_edgesNow_109 : decode cX7_edgesNow 109 = .ok (.iconst 0, 1) := by decide +kernel
theorem dX7_edgesNow_110 : decode cX7_edgesNow 110 = .ok (.goto 4, 3) := by decide +kernel
theorem dX7_edgesNow_113 : decode cX7_edgesNow 113 = .ok (.iconst 1, 1) := by decide +kernel
theorem dX7_edgesNow_114 : decode cX7_edgesNow 114 = .ok (.iadd, 1) := by decide +kernel
theorem dX7_edgesNow_115 : decode cX7_edgesNow 115 = .ok (.istore_n 2, 1) := by decide +kernel
theorem dX7_edgesNow_116 : decode cX7_edgesNow 116 = .ok (.iload_n 2, 1) := by decide +kernel
theorem dX7_edgesNow_117 : decode cX7_edgesNow 117 = .ok (.aload_n 0, 1) := by decide +kernel
theorem dX7_edgesNow_118 : decode cX7_edgesNow 118 = .ok (.getfield 11, 3) := by decide +kernel
theorem dX7_edgesNow_121 : decode cX7_edgesNow 121 = .ok (.iload_n 1, 1) := by decide +kernel
theorem dX7_edgesNow_122 : decode cX7_edgesNow 122 = .ok (.aaload, 1) := by decide +kernel
theorem dX7_edgesNow_123 : decode cX7_edgesNow 123 = .ok (.iload_n 3, 1) := by decide +kernel
theorem dX7_edgesNow_124 : decode cX7_edgesNow 124 = .ok (.iload 4, 2) := by decide +kernel
theorem dX7_edgesNow_126 : decode cX7_edgesNow 126 = .ok (.iconst 1, 1) := by decide +kernel
theorem dX7_edgesNow_127 : decode cX7_edgesNow 127 = .ok (.iadd, 1) := by decide +kernel
theorem dX7_edgesNow_128 : decode cX7_edgesNow 128 = .ok (.invokestatic 95, 3) := by decide +kernel
theorem dX7_edgesNow_131 : decode cX7_edgesNow 131 = .ok (.ifCond .eq 7, 3) := by decide +kernel
theorem dX7_edgesNow_134 : decode cX7_edgesNow 134 = .ok (.iconst 0, 1) := by decide +kernel
theorem dX7_edgesNow_135 : decode cX7_edgesNow 135 = .ok (.goto 4, 3) := by decide +kernel
theorem dX7_edgesNow_138 : decode cX7_edgesNow 138 = .ok (.iconst 1, 1) := by decide +kernel
theorem dX7_edgesNow_139 : decode cX7_edgesNow 139 = .ok (.iadd, 1) := by decide +kernel
theorem dX7_edgesNow_140 : decode cX7_edgesNow 140 = .ok (.istore_n 2, 1) := by decide +kernel
theorem dX7_edgesNow_141 : decode cX7_edgesNow 141 = .ok (.iinc 4 1, 3) := by decide +kernel
theorem dX7_edgesNow_144 : decode cX7_edgesNow 144 = .ok (.goto (-129), 3) := by decide +kernel
theorem dX7_edgesNow_147 : decode cX7_edgesNow 147 = .ok (.iinc 3 1, 3) := by decide +kernel
theorem dX7_edgesNow_150 : decode cX7_edgesNow 150 = .ok (.goto (-145), 3) := by decide +kernel
theorem dX7_edgesNow_153 : decode cX7_edgesNow 153 = .ok (.iload_n 2, 1) := by decide +kernel
theorem dX7_edgesNow_154 : decode cX7_edgesNow 154 = .ok (.ireturn, 1) := by decide +kernel
theorem dX7_edges_0 : decode cX7_edges 0 = .ok (.aload_n 0, 1) := by decide +kernel
theorem dX7_edges_1 : decode cX7_edges 1 = .ok (.iconst 0, 1) := by decide +kernel
theorem dX7_edges_2 : decode cX7_edges 2 = .ok (.putfield 33, 3) := by decide +kernel
theorem dX7_edges_5 : decode cX7_edges 5 = .ok (.iload_n 1, 1) := by decide +kernel
theorem dX7_edges_6 : decode cX7_edges 6 = .ok (.invokestatic 76, 3) := by decide +kernel
theorem dX7_edges_9 : decode cX7_edges 9 = .ok (.ifCond .eq 11, 3) := by decide +kernel
theorem dX7_edges_12 : decode cX7_edges 12 = .ok (.aload_n 0, 1) := by decide +kernel
theorem dX7_edges_13 : decode cX7_edges 13 = .ok (.iload_n 1, 1) := by decide +kernel
theorem dX7_edges_14 : decode cX7_edges 14 = .ok (.invokevirtual 111, 3) := by decide +kernel
theorem dX7_edges_17 : decode cX7_edges 17 = .ok (.goto 8, 3) := by decide +kernel
theorem dX7_edges_20 : decode cX7_edges 20 = .ok (.aload_n 0, 1) := by decide +kernel
theorem dX7_edges_21 : decode cX7_edges 21 = .ok (.iconst 1, 1) := by decide +kernel
theorem dX7_edges_22 : decode cX7_edges 22 = .ok (.invokevirtual 61, 3) := by decide +kernel
theorem dX7_edges_25 : decode cX7_edges 25 = .ok (.ireturn, 1) := by decide +kernel
theorem dX7_pieces_0 : decode cX7_pieces 0 = .ok (.aload_n 0, 1) := by decide +kernel
theorem dX7_pieces_1 : decode cX7_pieces 1 = .ok (.iconst 0, 1) := by decide +kernel
theorem dX7_pieces_2 : decode cX7_pieces 2 = .ok (.putfield 33, 3) := by decide +kernel
theorem dX7_pieces_5 : decode cX7_pieces 5 = .ok (.iload_n 1, 1) := by decide +kernel
theorem dX7_pieces_6 : decode cX7_pieces 6 = .ok (.invokestatic 76, 3) := by decide +kernel
theorem dX7_pieces_9 : decode cX7_pieces 9 = .ok (.ifCond .eq 19, 3) := by decide +kernel
theorem dX7_pieces_12 : decode cX7_pieces 12 = .ok (.aload_n 0, 1) := by decide +kernel
theorem dX7_pieces_13 : decode cX7_pieces 13 = .ok (.getfield 11, 3) := by decide +kernel
theorem dX7_pieces_16 : decode cX7_pieces 16 = .ok (.iload_n 1, 1) := by decide +kernel
theorem dX7_pieces_17 : decode cX7_pieces 17 = .ok (.aaload, 1) := by decide +kernel
theorem dX7_pieces_18 : decode cX7_pieces 18 = .ok (.iconst 1, 1) := by decide +kernel
theorem dX7_pieces_19 : decode cX7_pieces 19 = .ok (.invokestatic 99, 3) := by decide +kernel
theorem dX7_pieces_22 : decode cX7_pieces 22 = .ok (.invokestatic 103, 3) := by decide +kernel
theorem dX7_pieces_25 : decode cX7_pieces 25 = .ok (.goto 8, 3) := by decide +kernel
theorem dX7_pieces_28 : decode cX7_pieces 28 = .ok (.aload_n 0, 1) := by decide +kernel
theorem dX7_pieces_29 : decode cX7_pieces 29 = .ok (.iconst 1, 1) := by decide +kernel
theorem dX7_pieces_30 : decode cX7_pieces 30 = .ok (.invokevirtual 61, 3) := by decide +kernel
theorem dX7_pieces_33 : decode cX7_pieces 33 = .ok (.ireturn, 1) := by decide +kernel
theorem dX7_holes_0 : decode cX7_holes 0 = .ok (.aload_n 0, 1) := by decide +kernel
theorem dX7_holes_1 : decode cX7_holes 1 = .ok (.iconst 0, 1) := by decide +kernel
theorem dX7_holes_2 : decode cX7_holes 2 = .ok (.putfield 33, 3) := by decide +kernel
theorem dX7_holes_5 : decode cX7_holes 5 = .ok (.iload_n 1, 1) := by decide +kernel
theorem dX7_holes_6 : decode cX7_holes 6 = .ok (.invokestatic 76, 3) := by decide +kernel
theorem dX7_holes_9 : decode cX7_holes 9 = .ok (.ifCond .eq 11, 3) := by decide +kernel
theorem dX7_holes_12 : decode cX7_holes 12 = .ok (.aload_n 0, 1) := by decide +kernel
theorem dX7_holes_13 : decode cX7_holes 13 = .ok (.iload_n 1, 1) := by decide +kernel
theorem dX7_holes_14 : decode cX7_holes 14 = .ok (.invokevirtual 114, 3) := by decide +kernel
theorem dX7_holes_17 : decode cX7_holes 17 = .ok (.goto 8, 3) := by decide +kernel
theorem dX7_holes_20 : decode cX7_holes 20 = .ok (.aload_n 0, 1) := by decide +kernel
theorem dX7_holes_21 : decode cX7_holes 21 = .ok (.iconst 1, 1) := by decide +kernel
theorem dX7_holes_22 : decode cX7_holes 22 = .ok (.invokevirtual 61, 3) := by decide +kernel
theorem dX7_holes_25 : decode cX7_holes 25 = .ok (.ireturn, 1) := by decide +kernel
theorem dX7_has__0 : decode cX7_has_ 0 = .ok (.aload_n 0, 1) := by decide +kernel
theorem dX7_has__1 : decode cX7_has_ 1 = .ok (.iload_n 1, 1) := by decide +kernel
theorem dX7_has__2 : decode cX7_has_ 2 = .ok (.invokestatic 76, 3) := by decide +kernel
theorem dX7_has__5 : decode cX7_has_ 5 = .ok (.ifCond .eq 7, 3) := by decide +kernel
theorem dX7_has__8 : decode cX7_has_ 8 = .ok (.iconst 0, 1) := by decide +kernel
theorem dX7_has__9 : decode cX7_has_ 9 = .ok (.goto 4, 3) := by decide +kernel
theorem dX7_has__12 : decode cX7_has_ 12 = .ok (.iconst 1, 1) := by decide +kernel
theorem dX7_has__13 : decode cX7_has_ 13 = .ok (.putfield 33, 3) := by decide +kernel
theorem dX7_has__16 : decode cX7_has_ 16 = .ok (.aload_n 0, 1) := by decide +kernel
theorem dX7_has__17 : decode cX7_has_ 17 = .ok (.getfield 33, 3) := by decide +kernel
theorem dX7_has__20 : decode cX7_has_ 20 = .ok (.ifCond .ne 21, 3) := by decide +kernel
theorem dX7_has__23 : decode cX7_has_ 23 = .ok (.aload_n 0, 1) := by decide +kernel
theorem dX7_has__24 : decode cX7_has_ 24 = .ok (.getfield 11, 3) := by decide +kernel
theorem dX7_has__27 : decode cX7_has_ 27 = .ok (.iload_n 1, 1) := by decide +kernel
theorem dX7_has__28 : decode cX7_has_ 28 = .ok (.aaload, 1) := by decide +kernel
theorem dX7_has__29 : decode cX7_has_ 29 = .ok (.iload_n 2, 1) := by decide +kernel
theorem dX7_has__30 : decode cX7_has_ 30 = .ok (.iload_n 3, 1) := by decide +kernel
theorem dX7_has__31 : decode cX7_has_ 31 = .ok (.invokestatic 95, 3) := by decide +kernel
theorem dX7_has__34 : decode cX7_has_ 34 = .ok (.ifCond .eq 7, 3) := by decide +kernel
theorem dX7_has__37 : decode cX7_has_ 37 = .ok (.iconst 1, 1) := by decide +kernel
theorem dX7_has__38 : decode cX7_has_ 38 = .ok (.goto 4, 3) := by decide +kernel
theorem dX7_has__41 : decode cX7_has_ 41 = .ok (.iconst 0, 1) := by decide +kernel
theorem dX7_has__42 : decode cX7_has_ 42 = .ok (.ireturn, 1) := by decide +kernel
theorem dX7_boundNow_0 : decode cX7_boundNow 0 = .ok (.iconst 0, 1) := by decide +kernel
theorem dX7_boundNow_1 : decode cX7_boundNow 1 = .ok (.istore_n 3, 1) := by decide +kernel
theorem dX7_boundNow_2 : decode cX7_boundNow 2 = .ok (.iconst 0, 1) := by decide +kernel
theorem dX7_boundNow_3 : decode cX7_boundNow 3 = .ok (.istore 4, 2) := by decide +kernel
theorem dX7_boundNow_5 : decode cX7_boundNow 5 = .ok (.bipush (-32), 2) := by decide +kernel
theorem dX7_boundNow_7 : decode cX7_boundNow 7 = .ok (.istore 5, 2) := by decide +kernel
theorem dX7_boundNow_9 : decode cX7_boundNow 9 = .ok (.iload 5, 2) := by decide +kernel
theorem dX7_boundNow_11 : decode cX7_boundNow 11 = .ok (.bipush 31, 2) := by decide +kernel
theorem dX7_boundNow_13 : decode cX7_boundNow 13 = .ok (.if_icmp .gt 92, 3) := by decide +kernel
theorem dX7_boundNow_16 : decode cX7_boundNow 16 = .ok (.bipush (-32), 2) := by decide +kernel
theorem dX7_boundNow_18 : decode cX7_boundNow 18 = .ok (.istore 6, 2) := by decide +kernel
theorem dX7_boundNow_20 : decode cX7_boundNow 20 = .ok (.iload 6, 2) := by decide +kernel
theorem dX7_boundNow_22 : decode cX7_boundNow 22 = .ok (.bipush 31, 2) := by decide +kernel
theorem dX7_boundNow_24 : decode cX7_boundNow 24 = .ok (.if_icmp .gt 75, 3) := by decide +kernel
theorem dX7_boundNow_27 : decode cX7_boundNow 27 = .ok (.aload_n 0, 1) := by decide +kernel
theorem dX7_boundNow_28 : decode cX7_boundNow 28 = .ok (.getfield 11, 3) := by decide +kernel
theorem dX7_boundNow_31 : decode cX7_boundNow 31 = .ok (.iload_n 1, 1) := by decide +kernel
theorem dX7_boundNow_32 : decode cX7_boundNow 32 = .ok (.aaload, 1) := by decide +kernel
theorem dX7_boundNow_33 : decode cX7_boundNow 33 = .ok (.iload 5, 2) := by decide +kernel
theorem dX7_boundNow_35 : decode cX7_boundNow 35 = .ok (.iload 6, 2) := by decide +kernel
theorem dX7_boundNow_37 : decode cX7_boundNow 37 = .ok (.invokestatic 44, 3) := by decide +kernel
theorem dX7_boundNow_40 : decode cX7_boundNow 40 = .ok (.baload, 1) := by decide +kernel
theorem dX7_boundNow_41 : decode cX7_boundNow 41 = .ok (.ifCond .ne 6, 3) := by decide +kernel
theorem dX7_boundNow_44 : decode cX7_boundNow 44 = .ok (.goto 49, 3) := by decide +kernel
theorem dX7_boundNow_47 : decode cX7_boundNow 47 = .ok (.iload_n 2, 1) := by decide +kernel
theorem dX7_boundNow_48 : decode cX7_boundNow 48 = .ok (.iconst 2, 1) := by decide +kernel
theorem dX7_boundNow_49 : decode cX7_boundNow 49 = .ok (.irem, 1) := by decide +kernel
theorem dX7_boundNow_50 : decode cX7_boundNow 50 = .ok (.ifCond .ne 8, 3) := by decide +kernel
theorem dX7_boundNow_53 : decode cX7_boundNow 53 = .ok (.iload 5, 2) := by decide +kernel
theorem dX7_boundNow_55 : decode cX7_boundNow 55 = .ok (.goto 5, 3) := by decide +kernel
theorem dX7_boundNow_58 : decode cX7_boundNow 58 = .ok (.iload 6, 2) := by decide +kernel
theorem dX7_boundNow_60 : decode cX7_boundNow 60 = .ok (.istore 7, 2) := by decide +kernel
theorem dX7_boundNow_62 : decode cX7_boundNow 62 = .ok (.iload 4, 2) := by decide +kernel
theorem dX7_boundNow_64 : decode cX7_boundNow 64 = .ok (.ifCond .eq 23, 3) := by decide +kernel
theorem dX7_boundNow_67 : decode cX7_boundNow 67 = .ok (.iload_n 2, 1) := by decide +kernel
theorem dX7_boundNow_68 : decode cX7_boundNow 68 = .ok (.iconst 2, 1) := by decide +kernel
theorem dX7_boundNow_69 : decode cX7_boundNow 69 = .ok (.if_icmp .ge 12, 3) := by decide +kernel
theorem dX7_boundNow_72 : decode cX7_boundNow 72 = .ok (.iload 7, 2) := by decide +kernel
theorem dX7_boundNow_74 : decode cX7_boundNow 74 = .ok (.iload_n 3, 1) := by decide +kernel
theorem dX7_boundNow_75 : decode cX7_boundNow 75 = .ok (.if_icmp .ge 15, 3) := by decide +kernel
theorem dX7_boundNow_78 : decode cX7_boundNow 78 = .ok (.goto 9, 3) := by decide +kernel
theorem dX7_boundNow_81 : decode cX7_boundNow 81 = .ok (.iload 7, 2) := by decide +kernel
theorem dX7_boundNow_83 : decode cX7_boundNow 83 = .ok (.iload_n 3, 1) := by decide +kernel
theorem dX7_boundNow_84 : decode cX7_boundNow 84 = .ok (.if_icmp .le 6, 3) := by decide +kernel
theorem dX7_boundNow_87 : decode cX7_boundNow 87 = .ok (.iload 7, 2) := by decide +kernel
theorem dX7_boundNow_89 : decode cX7_boundNow 89 = .ok (.istore_n 3, 1) := by decide +kernel
theorem dX7_boundNow_90 : decode cX7_boundNow 90 = .ok (.iconst 1, 1) := by decide +kernel
theorem dX7_boundNow_91 : decode cX7_boundNow 91 = .ok (.istore 4, 2) := by decide +kernel
theorem dX7_boundNow_93 : decode cX7_boundNow 93 = .ok (.iinc 6 1, 3) := by decide +kernel
theorem dX7_boundNow_96 : decode cX7_boundNow 96 = .ok (.goto (-76), 3) := by decide +kernel
theorem dX7_boundNow_99 : decode cX7_boundNow 99 = .ok (.iinc 5 1, 3) := by decide +kernel
theorem dX7_boundNow_102 : decode cX7_boundNow 102 = .ok (.goto (-93), 3) := by decide +kernel
theorem dX7_boundNow_105 : decode cX7_boundNow 105 = .ok (.iload_n 3, 1) := by decide +kernel
theorem dX7_boundNow_106 : decode cX7_boundNow 106 = .ok (.ireturn, 1) := by decide +kernel
theorem dX7_bound_0 : decode cX7_bound 0 = .ok (.aload_n 0, 1) := by decide +kernel
theorem dX7_bound_1 : decode cX7_bound 1 = .ok (.iconst 0, 1) := by decide +kernel
theorem dX7_bound_2 : decode cX7_bound 2 = .ok (.putfield 33, 3) := by decide +kernel
theorem dX7_bound_5 : decode cX7_bound 5 = .ok (.iload_n 1, 1) := by decide +kernel
theorem dX7_bound_6 : decode cX7_bound 6 = .ok (.invokestatic 76, 3) := by decide +kernel
theorem dX7_bound_9 : decode cX7_bound 9 = .ok (.ifCond .ne 9, 3) := by decide +kernel
theorem dX7_bound_12 : decode cX7_bound 12 = .ok (.aload_n 0, 1) := by decide +kernel
theorem dX7_bound_13 : decode cX7_bound 13 = .ok (.iconst 1, 1) := by decide +kernel
theorem dX7_bound_14 : decode cX7_bound 14 = .ok (.invokevirtual 61, 3) := by decide +kernel
theorem dX7_bound_17 : decode cX7_bound 17 = .ok (.ireturn, 1) := by decide +kernel
theorem dX7_bound_18 : decode cX7_bound 18 = .ok (.iload_n 2, 1) := by decide +kernel
theorem dX7_bound_19 : decode cX7_bound 19 = .ok (.iconst 0, 1) := by decide +kernel
theorem dX7_bound_20 : decode cX7_bound 20 = .ok (.iconst 3, 1) := by decide +kernel
theorem dX7_bound_21 : decode cX7_bound 21 = .ok (.invokestatic 36, 3) := by decide +kernel
theorem dX7_bound_24 : decode cX7_bound 24 = .ok (.ifCond .eq 12, 3) := by decide +kernel
theorem dX7_bound_27 : decode cX7_bound 27 = .ok (.aload_n 0, 1) := by decide +kernel
theorem dX7_bound_28 : decode cX7_bound 28 = .ok (.iload_n 1, 1) := by decide +kernel
theorem dX7_bound_29 : decode cX7_bound 29 = .ok (.iload_n 2, 1) := by decide +kernel
theorem dX7_bound_30 : decode cX7_bound 30 = .ok (.invokevirtual 117, 3) := by decide +kernel
theorem dX7_bound_33 : decode cX7_bound 33 = .ok (.goto 8, 3) := by decide +kernel
theorem dX7_bound_36 : decode cX7_bound 36 = .ok (.aload_n 0, 1) := by decide +kernel
theorem dX7_bound_37 : decode cX7_bound 37 = .ok (.iconst 2, 1) := by decide +kernel
theorem dX7_bound_38 : decode cX7_bound 38 = .ok (.invokevirtual 61, 3) := by decide +kernel
theorem dX7_bound_41 : decode cX7_bound 41 = .ok (.ireturn, 1) := by decide +kernel
theorem dX7_isEdge_0 : decode cX7_isEdge 0 = .ok (.iload_n 3, 1) := by decide +kernel
theorem dX7_isEdge_1 : decode cX7_isEdge 1 = .ok (.tableswitch 109 0 2 #[27, 53, 79], 27) := by decide +kernel
theorem dX7_isEdge_28 : decode cX7_isEdge 28 = .ok (.aload_n 0, 1) := by decide +kernel
theorem dX7_isEdge_29 : decode cX7_isEdge 29 = .ok (.iload_n 1, 1) := by decide +kernel
theorem dX7_isEdge_30 : decode cX7_isEdge 30 = .ok (.iload_n 2, 1) := by decide +kernel
theorem dX7_isEdge_31 : decode cX7_isEdge 31 = .ok (.invokestatic 95, 3) := by decide +kernel
theorem dX7_isEdge_34 : decode cX7_isEdge 34 = .ok (.ifCond .eq 18, 3) := by decide +kernel
theorem dX7_isEdge_37 : decode cX7_isEdge 37 = .ok (.aload_n 0, 1) := by decide +kernel
theorem dX7_isEdge_38 : decode cX7_isEdge 38 = .ok (.iload_n 1, 1) := by decide +kernel
theorem dX7_isEdge_39 : decode cX7_isEdge 39 = .ok (.iload_n 2, 1) := by decide +kernel
theorem dX7_isEdge_40 : decode cX7_isEdge 40 = .ok (.iconst 1, 1) := by decide +kernel
theorem dX7_isEdge_41 : decode cX7_isEdge 41 = .ok (.isub, 1) := by decide +kernel
theorem dX7_isEdge_42 : decode cX7_isEdge 42 = .ok (.invokestatic 95, 3) := by decide +kernel
theorem dX7_isEdge_45 : decode cX7_isEdge 45 = .ok (.ifCond .ne 7, 3) := by decide +kernel
theorem dX7_isEdge_48 : decode cX7_isEdge 48 = .ok (.iconst 1, 1) := by decide +kernel
theorem dX7_isEdge_49 : decode cX7_isEdge 49 = .ok (.goto 4, 3) := by decide +kernel
theorem dX7_isEdge_52 : decode cX7_isEdge 52 = .ok (.iconst 0, 1) := by decide +kernel
theorem dX7_isEdge_53 : decode cX7_isEdge 53 = .ok (.ireturn, 1) := by decide +kernel
theorem dX7_isEdge_54 : decode cX7_isEdge 54 = .ok (.aload_n 0, 1) := by decide +kernel
theorem dX7_isEdge_55 : decode cX7_isEdge 55 = .ok (.iload_n 1, 1) := by decide +kernel
theorem dX7_isEdge_56 : decode cX7_isEdge 56 = .ok (.iconst 1, 1) := by decide +kernel
theorem dX7_isEdge_57 : decode cX7_isEdge 57 = .ok (.isub, 1) := by decide +kernel
theorem dX7_isEdge_58 : decode cX7_isEdge 58 = .ok (.iload_n 2, 1) := by decide +kernel
theorem dX7_isEdge_59 : decode cX7_isEdge 59 = .ok (.invokestatic 95, 3) := by decide +kernel
theorem dX7_isEdge_62 : decode cX7_isEdge 62 = .ok (.ifCond .eq 16, 3) := by decide +kernel
theorem dX7_isEdge_65 : decode cX7_isEdge 65 = .ok (.aload_n 0, 1) := by decide +kernel
theorem dX7_isEdge_66 : decode cX7_isEdge 66 = .ok (.iload_n 1, 1) := by decide +kernel
theorem dX7_isEdge_67 : decode cX7_isEdge 67 = .ok (.iload_n 2, 1) := by decide +kernel
theorem dX7_isEdge_68 : decode cX7_isEdge 68 = .ok (.invokestatic 95, 3) := by decide +kernel
theorem dX7_isEdge_71 : decode cX7_isEdge 71 = .ok (.ifCond .ne 7, 3) := by decide +kernel
theorem dX7_isEdge_74 : decode cX7_isEdge 74 = .ok (.iconst 1, 1) := by decide +kernel
theorem dX7_isEdge_75 : decode cX7_isEdge 75 = .ok (.goto 4, 3) := by decide +kernel
theorem dX7_isEdge_78 : decode cX7_isEdge 78 = .ok (.iconst 0, 1) := by decide +kernel
theorem dX7_isEdge_79 : decode cX7_isEdge 79 = .ok (.ireturn, 1) := by decide +kernel
theorem dX7_isEdge_80 : decode cX7_isEdge 80 = .ok (.aload_n 0, 1) := by decide +kernel
theorem dX7_isEdge_81 : decode cX7_isEdge 81 = .ok (.iload_n 1, 1) := by decide +kernel
theorem dX7_isEdge_82 : decode cX7_isEdge 82 = .ok (.iconst 1, 1) := by decide +kernel
theorem dX7_isEdge_83 : decode cX7_isEdge 83 = .ok (.isub, 1) := by decide +kernel
theorem dX7_isEdge_84 : decode cX7_isEdge 84 = .ok (.iload_n 2, 1) := by decide +kernel
theorem dX7_isEdge_85 : decode cX7_isEdge 85 = .ok (.iconst 1, 1) := by decide +kernel
theorem dX7_isEdge_86 : decode cX7_isEdge 86 = .ok (.isub, 1) := by decide +kernel
theorem dX7_isEdge_87 : decode cX7_isEdge 87 = .ok (.invokestatic 95, 3) := by decide +kernel
theorem dX7_isEdge_90 : decode cX7_isEdge 90 = .ok (.ifCond .eq 18, 3) := by decide +kernel
theorem dX7_isEdge_93 : decode cX7_isEdge 93 = .ok (.aload_n 0, 1) := by decide +kernel
theorem dX7_isEdge_94 : decode cX7_isEdge 94 = .ok (.iload_n 1, 1) := by decide +kernel
theorem dX7_isEdge_95 : decode cX7_isEdge 95 = .ok (.iconst 1, 1) := by decide +kernel
theorem dX7_isEdge_96 : decode cX7_isEdge 96 = .ok (.isub, 1) := by decide +kernel
theorem dX7_isEdge_97 : decode cX7_isEdge 97 = .ok (.iload_n 2, 1) := by decide +kernel
theorem dX7_isEdge_98 : decode cX7_isEdge 98 = .ok (.invokestatic 95, 3) := by decide +kernel
theorem dX7_isEdge_101 : decode cX7_isEdge 101 = .ok (.ifCond .ne 7, 3) := by decide +kernel
theorem dX7_isEdge_104 : decode cX7_isEdge 104 = .ok (.iconst 1, 1) := by decide +kernel
theorem dX7_isEdge_105 : decode cX7_isEdge 105 = .ok (.goto 4, 3) := by decide +kernel
theorem dX7_isEdge_108 : decode cX7_isEdge 108 = .ok (.iconst 0, 1) := by decide +kernel
theorem dX7_isEdge_109 : decode cX7_isEdge 109 = .ok (.ireturn, 1) := by decide +kernel
theorem dX7_isEdge_110 : decode cX7_isEdge 110 = .ok (.aload_n 0, 1) := by decide +kernel
theorem dX7_isEdge_111 : decode cX7_isEdge 111 = .ok (.iload_n 1, 1) := by decide +kernel
theorem dX7_isEdge_112 : decode cX7_isEdge 112 = .ok (.iload_n 2, 1) := by decide +kernel
theorem dX7_isEdge_113 : decode cX7_isEdge 113 = .ok (.iconst 1, 1) := by decide +kernel
theorem dX7_isEdge_114 : decode cX7_isEdge 114 = .ok (.isub, 1) := by decide +kernel
theorem dX7_isEdge_115 : decode cX7_isEdge 115 = .ok (.invokestatic 95, 3) := by decide +kernel
theorem dX7_isEdge_118 : decode cX7_isEdge 118 = .ok (.ifCond .eq 20, 3) := by decide +kernel
theorem dX7_isEdge_121 : decode cX7_isEdge 121 = .ok (.aload_n 0, 1) := by decide +kernel
theorem dX7_isEdge_122 : decode cX7_isEdge 122 = .ok (.iload_n 1, 1) := by decide +kernel
theorem dX7_isEdge_123 : decode cX7_isEdge 123 = .ok (.iconst 1, 1) := by decide +kernel
theorem dX7_isEdge_124 : decode cX7_isEdge 124 = .ok (.isub, 1) := by decide +kernel
theorem dX7_isEdge_125 : decode cX7_isEdge 125 = .ok (.iload_n 2, 1) := by decide +kernel
theorem dX7_isEdge_126 : decode cX7_isEdge 126 = .ok (.iconst 1, 1) := by decide +kernel
theorem dX7_isEdge_127 : decode cX7_isEdge 127 = .ok (.isub, 1) := by decide +kernel
theorem dX7_isEdge_128 : decode cX7_isEdge 128 = .ok (.invokestatic 95, 3) := by decide +kernel
theorem dX7_isEdge_131 : decode cX7_isEdge 131 = .ok (.ifCond .ne 7, 3) := by decide +kernel
theorem dX7_isEdge_134 : decode cX7_isEdge 134 = .ok (.iconst 1, 1) := by decide +kernel
theorem dX7_isEdge_135 : decode cX7_isEdge 135 = .ok (.goto 4, 3) := by decide +kernel
theorem dX7_isEdge_138 : decode cX7_isEdge 138 = .ok (.iconst 0, 1) := by decide +kernel
theorem dX7_isEdge_139 : decode cX7_isEdge 139 = .ok (.ireturn, 1) := by decide +kernel
theorem dX7_stepX_0 : decode cX7_stepX 0 = .ok (.iload_n 0, 1) := by decide +kernel
theorem dX7_stepX_1 : decode cX7_stepX 1 = .ok (.ifCond .ne 7, 3) := by decide +kernel
theorem dX7_stepX_4 : decode cX7_stepX 4 = .ok (.iconst 1, 1) := by decide +kernel
theorem dX7_stepX_5 : decode cX7_stepX 5 = .ok (.goto 13, 3) := by decide +kernel
theorem dX7_stepX_8 : decode cX7_stepX 8 = .ok (.iload_n 0, 1) := by decide +kernel
theorem dX7_stepX_9 : decode cX7_stepX 9 = .ok (.iconst 2, 1) := by decide +kernel
theorem dX7_stepX_10 : decode cX7_stepX 10 = .ok (.if_icmp .ne 7, 3) := by decide +kernel
theorem dX7_stepX_13 : decode cX7_stepX 13 = .ok (.iconst (-1), 1) := by decide +kernel
theorem dX7_stepX_14 : decode cX7_stepX 14 = .ok (.goto 4, 3) := by decide +kernel
theorem dX7_stepX_17 : decode cX7_stepX 17 = .ok (.iconst 0, 1) := by decide +kernel
theorem dX7_stepX_18 : decode cX7_stepX 18 = .ok (.ireturn, 1) := by decide +kernel
theorem dX7_stepY_0 : decode cX7_stepY 0 = .ok (.iload_n 0, 1) := by decide +kernel
theorem dX7_stepY_1 : decode cX7_stepY 1 = .ok (.iconst 1, 1) := by decide +kernel
theorem dX7_stepY_2 : decode cX7_stepY 2 = .ok (.if_icmp .ne 7, 3) := by decide +kernel
theorem dX7_stepY_5 : decode cX7_stepY 5 = .ok (.iconst 1, 1) := by decide +kernel
theorem dX7_stepY_6 : decode cX7_stepY 6 = .ok (.goto 13, 3) := by decide +kernel
theorem dX7_stepY_9 : decode cX7_stepY 9 = .ok (.iload_n 0, 1) := by decide +kernel
theorem dX7_stepY_10 : decode cX7_stepY 10 = .ok (.iconst 3, 1) := by decide +kernel
theorem dX7_stepY_11 : decode cX7_stepY 11 = .ok (.if_icmp .ne 7, 3) := by decide +kernel
theorem dX7_stepY_14 : decode cX7_stepY 14 = .ok (.iconst (-1), 1) := by decide +kernel
theorem dX7_stepY_15 : decode cX7_stepY 15 = .ok (.goto 4, 3) := by decide +kernel
theorem dX7_stepY_18 : decode cX7_stepY 18 = .ok (.iconst 0, 1) := by decide +kernel
theorem dX7_stepY_19 : decode cX7_stepY 19 = .ok (.ireturn, 1) := by decide +kernel
theorem dX7_contoursNow_0 : decode cX7_contoursNow 0 = .ok (.aload_n 0, 1) := by decide +kernel
theorem dX7_contoursNow_1 : decode cX7_contoursNow 1 = .ok (.getfield 11, 3) := by decide +kernel
theorem dX7_contoursNow_4 : decode cX7_contoursNow 4 = .ok (.iload_n 1, 1) := by decide +kernel
theorem dX7_contoursNow_5 : decode cX7_contoursNow 5 = .ok (.aaload, 1) := by decide +kernel
theorem dX7_contoursNow_6 : decode cX7_contoursNow 6 = .ok (.astore_n 2, 1) := by decide +kernel
theorem dX7_contoursNow_7 : decode cX7_contoursNow 7 = .ok (.sipush 16900, 3) := by decide +kernel
theorem dX7_contoursNow_10 : decode cX7_contoursNow 10 = .ok (.newarray .boolean, 2) := by decide +kernel
theorem dX7_contoursNow_12 : decode cX7_contoursNow 12 = .ok (.astore_n 3, 1) := by decide +kernel
theorem dX7_contoursNow_13 : decode cX7_contoursNow 13 = .ok (.bipush 64, 2) := by decide +kernel
theorem dX7_contoursNow_15 : decode cX7_contoursNow 15 = .ok (.newarray .int, 2) := by decide +kernel
theorem dX7_contoursNow_17 : decode cX7_contoursNow 17 = .ok (.astore 4, 2) := by decide +kernel
theorem dX7_contoursNow_19 : decode cX7_contoursNow 19 = .ok (.iconst 1, 1) := by decide +kernel
theorem dX7_contoursNow_20 : decode cX7_contoursNow 20 = .ok (.istore 5, 2) := by decide +kernel
theorem dX7_contoursNow_22 : decode cX7_contoursNow 22 = .ok (.bipush (-32), 2) := by decide +kernel
theorem dX7_contoursNow_24 : decode cX7_contoursNow 24 = .ok (.istore 6, 2) := by decide +kernel
theorem dX7_contoursNow_26 : decode cX7_contoursNow 26 = .ok (.iload 6, 2) := by decide +kernel
theorem dX7_contoursNow_28 : decode cX7_contoursNow 28 = .ok (.bipush 32, 2) := by decide +kernel
theorem dX7_contoursNow_30 : decode cX7_contoursNow 30 = .ok (.if_icmp .gt 402, 3) := by decide +kernel
theorem dX7_contoursNow_33 : decode cX7_contoursNow 33 = .ok (.bipush (-32), 2) := by decide +kernel
theorem dX7_contoursNow_35 : decode cX7_contoursNow 35 = .ok (.istore 7, 2) := by decide +kernel
theorem dX7_contoursNow_37 : decode cX7_contoursNow 37 = .ok (.iload 7, 2) := by decide +kernel
theorem dX7_contoursNow_39 : decode cX7_contoursNow 39 = .ok (.bipush 32, 2) := by decide +kernel
theorem dX7_contoursNow_41 : decode cX7_contoursNow 41 = .ok (.if_icmp .gt 385, 3) := by decide +kernel
theorem dX7_contoursNow_44 : decode cX7_contoursNow 44 = .ok (.iconst 0, 1) := by decide +kernel
theorem dX7_contoursNow_45 : decode cX7_contoursNow 45 = .ok (.istore 8, 2) := by decide +kernel
theorem dX7_contoursNow_47 : decode cX7_contoursNow 47 = .ok (.iload 8, 2) := by decide +kernel
theorem dX7_contoursNow_49 : decode cX7_contoursNow 49 = .ok (.iconst 2, 1) := by decide +kernel
theorem dX7_contoursNow_50 : decode cX7_contoursNow 50 = .ok (.if_icmp .ge 370, 3) := by decide +kernel
theorem dX7_contoursNow_53 : decode cX7_contoursNow 53 = .ok (.iload 6, 2) := by decide +kernel
theorem dX7_contoursNow_55 : decode cX7_contoursNow 55 = .ok (.bipush (-32), 2) := by decide +kernel
theorem dX7_contoursNow_57 : decode cX7_contoursNow 57 = .ok (.isub, 1) := by decide +kernel
theorem dX7_contoursNow_58 : decode cX7_contoursNow 58 = .ok (.bipush 65, 2) := by decide +kernel
theorem dX7_contoursNow_60 : decode cX7_contoursNow 60 = .ok (.imul, 1) := by decide +kernel
theorem dX7_contoursNow_61 : decode cX7_contoursNow 61 = .ok (.iload 7, 2) := by decide +kernel
theorem dX7_contoursNow_63 : decode cX7_contoursNow 63 = .ok (.iadd, 1) := by decide +kernel
theorem dX7_contoursNow_64 : decode cX7_contoursNow 64 = .ok (.bipush (-32), 2) := by decide +kernel
theorem dX7_contoursNow_66 : decode cX7_contoursNow 66 = .ok (.isub, 1) := by decide +kernel
theorem dX7_contoursNow_67 : decode cX7_contoursNow 67 = .ok (.iconst 4, 1) := by decide +kernel
theorem dX7_contoursNow_68 : decode cX7_contoursNow 68 = .ok (.imul, 1) := by decide +kernel
theorem dX7_contoursNow_69 : decode cX7_contoursNow 69 = .ok (.iload 8, 2) := by decide +kernel
theorem dX7_contoursNow_71 : decode cX7_contoursNow 71 = .ok (.iadd, 1) := by decide +kernel
theorem dX7_contoursNow_72 : decode cX7_contoursNow 72 = .ok (.istore 9, 2) := by decide +kernel
theorem dX7_contoursNow_74 : decode cX7_contoursNow 74 = .ok (.aload_n 2, 1) := by decide +kernel
theorem dX7_contoursNow_75 : decode cX7_contoursNow 75 = .ok (.iload 7, 2) := by decide +kernel
theorem dX7_contoursNow_77 : decode cX7_contoursNow 77 = .ok (.iload 6, 2) := by decide +kernel
theorem dX7_contoursNow_79 : decode cX7_contoursNow 79 = .ok (.iload 8, 2) := by decide +kernel
theorem dX7_contoursNow_81 : decode cX7_contoursNow 81 = .ok (.invokestatic 120, 3) := by decide +kernel
theorem dX7_contoursNow_84 : decode cX7_contoursNow 84 = .ok (.ifCond .eq 330, 3) := by decide +kernel
theorem dX7_contoursNow_87 : decode cX7_contoursNow 87 = .ok (.aload_n 3, 1) := by decide +kernel
theorem dX7_contoursNow_88 : decode cX7_contoursNow 88 = .ok (.iload 9, 2) := by decide +kernel
theorem dX7_contoursNow_90 : decode cX7_contoursNow 90 = .ok (.baload, 1) := by decide +kernel
theorem dX7_contoursNow_91 : decode cX7_contoursNow 91 = .ok (.ifCond .eq 6, 3) := by decide +kernel
theorem dX7_contoursNow_94 : decode cX7_contoursNow 94 = .ok (.goto 320, 3) := by decide +kernel
theorem dX7_contoursNow_97 : decode cX7_contoursNow 97 = .ok (.aload 4, 2) := by decide +kernel
theorem dX7_contoursNow_99 : decode cX7_contoursNow 99 = .ok (.iconst 0, 1) := by decide +kernel
theorem dX7_contoursNow_100 : decode cX7_contoursNow 100 = .ok (.dup2, 1) := by decide +kernel
theorem dX7_contoursNow_101 : decode cX7_contoursNow 101 = .ok (.iaload, 1) := by decide +kernel
theorem dX7_contoursNow_102 : decode cX7_contoursNow 102 = .ok (.iconst 1, 1) := by decide +kernel
theorem dX7_contoursNow_103 : decode cX7_contoursNow 103 = .ok (.iadd, 1) := by decide +kernel
theorem dX7_contoursNow_104 : decode cX7_contoursNow 104 = .ok (.iastore, 1) := by decide +kernel
theorem dX7_contoursNow_105 : decode cX7_contoursNow 105 = .ok (.iload 5, 2) := by decide +kernel
theorem dX7_contoursNow_107 : decode cX7_contoursNow 107 = .ok (.istore 10, 2) := by decide +kernel
theorem dX7_contoursNow_109 : decode cX7_contoursNow 109 = .ok (.iinc 5 2, 3) := by decide +kernel
theorem dX7_contoursNow_112 : decode cX7_contoursNow 112 = .ok (.iload 7, 2) := by decide +kernel
theorem dX7_contoursNow_114 : decode cX7_contoursNow 114 = .ok (.istore 11, 2) := by decide +kernel
theorem dX7_contoursNow_116 : decode cX7_contoursNow 116 = .ok (.iload 6, 2) := by decide +kernel
theorem dX7_contoursNow_118 : decode cX7_contoursNow 118 = .ok (.istore 12, 2) := by decide +kernel
theorem dX7_contoursNow_120 : decode cX7_contoursNow 120 = .ok (.iload 8, 2) := by decide +kernel
theorem dX7_contoursNow_122 : decode cX7_contoursNow 122 = .ok (.istore 13, 2) := by decide +kernel
theorem dX7_contoursNow_124 : decode cX7_contoursNow 124 = .ok (.iconst 0, 1) := by decide +kernel
theorem dX7_contoursNow_125 : decode cX7_contoursNow 125 = .ok (.istore 14, 2) := by decide +kernel
theorem dX7_contoursNow_127 : decode cX7_contoursNow 127 = .ok (.iconst (-1), 1) := by decide +kernel
theorem dX7_contoursNow_128 : decode cX7_contoursNow 128 = .ok (.istore 15, 2) := by decide +kernel
theorem dX7_contoursNow_130 : decode cX7_contoursNow 130 = .ok (.iload 9, 2) := by decide +kernel
theorem dX7_contoursNow_132 : decode cX7_contoursNow 132 = .ok (.istore 16, 2) := by decide +kernel
theorem dX7_contoursNow_134 : decode cX7_contoursNow 134 = .ok (.aload_n 3, 1) := by decide +kernel
theorem dX7_contoursNow_135 : decode cX7_contoursNow 135 = .ok (.iload 16, 2) := by decide +kernel
theorem dX7_contoursNow_137 : decode cX7_contoursNow 137 = .ok (.baload, 1) := by decide +kernel
theorem dX7_contoursNow_138 : decode cX7_contoursNow 138 = .ok (.ifCond .ne 164, 3) := by decide +kernel
theorem dX7_contoursNow_141 : decode cX7_contoursNow 141 = .ok (.aload_n 3, 1) := by decide +kernel
theorem dX7_contoursNow_142 : decode cX7_contoursNow 142 = .ok (.iload 16, 2) := by decide +kernel
theorem dX7_contoursNow_144 : decode cX7_contoursNow 144 = .ok (.iconst 1, 1) := by decide +kernel
theorem dX7_contoursNow_145 : decode cX7_contoursNow 145 = .ok (.bastore, 1) := by decide +kernel
theorem dX7_contoursNow_146 : decode cX7_contoursNow 146 = .ok (.iload 13, 2) := by decide +kernel
theorem dX7_contoursNow_148 : decode cX7_contoursNow 148 = .ok (.iload 15, 2) := by decide +kernel
theorem dX7_contoursNow_150 : decode cX7_contoursNow 150 = .ok (.if_icmp .eq 25, 3) := by decide +kernel
theorem dX7_contoursNow_153 : decode cX7_contoursNow 153 = .ok (.iload 15, 2) := by decide +kernel
theorem dX7_contoursNow_155 : decode cX7_contoursNow 155 = .ok (.iconst (-1), 1) := by decide +kernel
theorem dX7_contoursNow_156 : decode cX7_contoursNow 156 = .ok (.if_icmp .eq 19, 3) := by decide +kernel
theorem dX7_contoursNow_159 : decode cX7_contoursNow 159 = .ok (.aload 4, 2) := by decide +kernel
theorem dX7_contoursNow_161 : decode cX7_contoursNow 161 = .ok (.iload 5, 2) := by decide +kernel
theorem dX7_contoursNow_163 : decode cX7_contoursNow 163 = .ok (.iload 11, 2) := by decide +kernel
theorem dX7_contoursNow_165 : decode cX7_contoursNow 165 = .ok (.iload 12, 2) := by decide +kernel
theorem dX7_contoursNow_167 : decode cX7_contoursNow 167 = .ok (.invokestatic 124, 3) := by decide +kernel
theorem dX7_contoursNow_170 : decode cX7_contoursNow 170 = .ok (.astore 4, 2) := by decide +kernel
theorem dX7_contoursNow_172 : decode cX7_contoursNow 172 = .ok (.iinc 5 2, 3) := by decide +kernel
theorem dX7_contoursNow_175 : decode cX7_contoursNow 175 = .ok (.iload 14, 2) := by decide +kernel
theorem dX7_contoursNow_177 : decode cX7_contoursNow 177 = .ok (.iload 13, 2) := by decide +kernel
theorem dX7_contoursNow_179 : decode cX7_contoursNow 179 = .ok (.iconst 1, 1) := by decide +kernel
theorem dX7_contoursNow_180 : decode cX7_contoursNow 180 = .ok (.if_icmp .ne 8, 3) := by decide +kernel
theorem dX7_contoursNow_183 : decode cX7_contoursNow 183 = .ok (.iload 11, 2) := by decide +kernel
theorem dX7_contoursNow_185 : decode cX7_contoursNow 185 = .ok (.goto 16, 3) := by decide +kernel
theorem dX7_contoursNow_188 : decode cX7_contoursNow 188 = .ok (.iload 13, 2) := by decide +kernel
theorem dX7_contoursNow_190 : decode cX7_contoursNow 190 = .ok (.iconst 3, 1) := by decide +kernel
theorem dX7_contoursNow_191 : decode cX7_contoursNow 191 = .ok (.if_icmp .ne 9, 3) := by decide +kernel
theorem dX7_contoursNow_194 : decode cX7_contoursNow 194 = .ok (.iload 11, 2) := by decide +kernel
theorem dX7_contoursNow_196 : decode cX7_contoursNow 196 = .ok (.ineg, 1) := by decide +kernel
theorem dX7_contoursNow_197 : decode cX7_contoursNow 197 = .ok (.goto 4, 3) := by decide +kernel
theorem dX7_contoursNow_200 : decode cX7_contoursNow 200 = .ok (.iconst 0, 1) := by decide +kernel
theorem dX7_contoursNow_201 : decode cX7_contoursNow 201 = .ok (.iadd, 1) := by decide +kernel
theorem dX7_contoursNow_202 : decode cX7_contoursNow 202 = .ok (.istore 14, 2) := by decide +kernel
theorem dX7_contoursNow_204 : decode cX7_contoursNow 204 = .ok (.iload 11, 2) := by decide +kernel
theorem dX7_contoursNow_206 : decode cX7_contoursNow 206 = .ok (.iload 13, 2) := by decide +kernel
theorem dX7_contoursNow_208 : decode cX7_contoursNow 208 = .ok (.invokestatic 128, 3) := by decide +kernel
theorem dX7_contoursNow_211 : decode cX7_contoursNow 211 = .ok (.iadd, 1) := by decide +kernel
theorem dX7_contoursNow_212 : decode cX7_contoursNow 212 = .ok (.istore 11, 2) := by decide +kernel
theorem dX7_contoursNow_214 : decode cX7_contoursNow 214 = .ok (.iload 12, 2) := by decide +kernel
theorem dX7_contoursNow_216 : decode cX7_contoursNow 216 = .ok (.iload 13, 2) := by decide +kernel
theorem dX7_contoursNow_218 : decode cX7_contoursNow 218 = .ok (.invokestatic 131, 3) := by decide +kernel
theorem dX7_contoursNow_221 : decode cX7_contoursNow 221 = .ok (.iadd, 1) := by decide +kernel
theorem dX7_contoursNow_222 : decode cX7_contoursNow 222 = .ok (.istore 12, 2) := by decide +kernel
theorem dX7_contoursNow_224 : decode cX7_contoursNow 224 = .ok (.iload 13, 2) := by decide +kernel
theorem dX7_contoursNow_226 : decode cX7_contoursNow 226 = .ok (.istore 15, 2) := by decide +kernel
theorem dX7_contoursNow_228 : decode cX7_contoursNow 228 = .ok (.iload 13, 2) := by decide +kernel
theorem dX7_contoursNow_230 : decode cX7_contoursNow 230 = .ok (.iconst 1, 1) := by decide +kernel
theorem dX7_contoursNow_231 : decode cX7_contoursNow 231 = .ok (.iadd, 1) := by decide +kernel
theorem dX7_contoursNow_232 : decode cX7_contoursNow 232 = .ok (.iconst 4, 1) := by decide +kernel
theorem dX7_contoursNow_233 : decode cX7_contoursNow 233 = .ok (.irem, 1) := by decide +kernel
theorem dX7_contoursNow_234 : decode cX7_contoursNow 234 = .ok (.istore 17, 2) := by decide +kernel
theorem dX7_contoursNow_236 : decode cX7_contoursNow 236 = .ok (.aload_n 2, 1) := by decide +kernel
theorem dX7_contoursNow_237 : decode cX7_contoursNow 237 = .ok (.iload 11, 2) := by decide +kernel
theorem dX7_contoursNow_239 : decode cX7_contoursNow 239 = .ok (.iload 12, 2) := by decide +kernel
theorem dX7_contoursNow_241 : decode cX7_contoursNow 241 = .ok (.iload 17, 2) := by decide +kernel
theorem dX7_contoursNow_243 : decode cX7_contoursNow 243 = .ok (.invokestatic 120, 3) := by decide +kernel
theorem dX7_contoursNow_246 : decode cX7_contoursNow 246 = .ok (.ifCond .ne 7, 3) := by decide +kernel
theorem dX7_contoursNow_249 : decode cX7_contoursNow 249 = .ok (.iload 13, 2) := by decide +kernel
theorem dX7_contoursNow_251 : decode cX7_contoursNow 251 = .ok (.istore 17, 2) := by decide +kernel
theorem dX7_contoursNow_253 : decode cX7_contoursNow 253 = .ok (.aload_n 2, 1) := by decide +kernel
theorem dX7_contoursNow_254 : decode cX7_contoursNow 254 = .ok (.iload 11, 2) := by decide +kernel
theorem dX7_contoursNow_256 : decode cX7_contoursNow 256 = .ok (.iload 12, 2) := by decide +kernel
theorem dX7_contoursNow_258 : decode cX7_contoursNow 258 = .ok (.iload 17, 2) := by decide +kernel
theorem dX7_contoursNow_260 : decode cX7_contoursNow 260 = .ok (.invokestatic 120, 3) := by decide +kernel
theorem dX7_contoursNow_263 : decode cX7_contoursNow 263 = .ok (.ifCond .ne 11, 3) := by decide +kernel
theorem dX7_contoursNow_266 : decode cX7_contoursNow 266 = .ok (.iload 13, 2) := by decide +kernel
theorem dX7_contoursNow_268 : decode cX7_contoursNow 268 = .ok (.iconst 3, 1) := by decide +kernel
theorem dX7_contoursNow_269 : decode cX7_contoursNow 269 = .ok (.iadd, 1) := by decide +kernel
theorem dX7_contoursNow_270 : decode cX7_contoursNow 270 = .ok (.iconst 4, 1) := by decide +kernel
theorem dX7_contoursNow_271 : decode cX7_contoursNow 271 = .ok (.irem, 1) := by decide +kernel
theorem dX7_contoursNow_272 : decode cX7_contoursNow 272 = .ok (.istore 17, 2) := by decide +kernel
theorem dX7_contoursNow_274 : decode cX7_contoursNow 274 = .ok (.iload 17, 2) := by decide +kernel
theorem dX7_contoursNow_276 : decode cX7_contoursNow 276 = .ok (.istore 13, 2) := by decide +kernel
theorem dX7_contoursNow_278 : decode cX7_contoursNow 278 = .ok (.iload 12, 2) := by decide +kernel
theorem dX7_contoursNow_280 : decode cX7_contoursNow 280 = .ok (.bipush (-32), 2) := by decide +kernel
theorem dX7_contoursNow_282 : decode cX7_contoursNow 282 = .ok (.isub, 1) := by decide +kernel
theorem dX7_contoursNow_283 : decode cX7_contoursNow 283 = .ok (.bipush 65, 2) := by decide +kernel
theorem dX7_contoursNow_285 : decode cX7_contoursNow 285 = .ok (.imul, 1) := by decide +kernel
theorem dX7_contoursNow_286 : decode cX7_contoursNow 286 = .ok (.iload 11, 2) := by decide +kernel
theorem dX7_contoursNow_288 : decode cX7_contoursNow 288 = .ok (.iadd, 1) := by decide +kernel
theorem dX7_contoursNow_289 : decode cX7_contoursNow 289 = .ok (.bipush (-32), 2) := by decide +kernel
theorem dX7_contoursNow_291 : decode cX7_contoursNow 291 = .ok (.isub, 1) := by decide +kernel
theorem dX7_contoursNow_292 : decode cX7_contoursNow 292 = .ok (.iconst 4, 1) := by decide +kernel
theorem dX7_contoursNow_293 : decode cX7_contoursNow 293 = .ok (.imul, 1) := by decide +kernel
theorem dX7_contoursNow_294 : decode cX7_contoursNow 294 = .ok (.iload 13, 2) := by decide +kernel
theorem dX7_contoursNow_296 : decode cX7_contoursNow 296 = .ok (.iadd, 1) := by decide +kernel
theorem dX7_contoursNow_297 : decode cX7_contoursNow 297 = .ok (.istore 16, 2) := by decide +kernel
theorem dX7_contoursNow_299 : decode cX7_contoursNow 299 = .ok (.goto (-165), 3) := by decide +kernel
theorem dX7_contoursNow_302 : decode cX7_contoursNow 302 = .ok (.aload 4, 2) := by decide +kernel
theorem dX7_contoursNow_304 : decode cX7_contoursNow 304 = .ok (.iload 5, 2) := by decide +kernel
theorem dX7_contoursNow_306 : decode cX7_contoursNow 306 = .ok (.iload 11, 2) := by decide +kernel
theorem dX7_contoursNow_308 : decode cX7_contoursNow 308 = .ok (.iload 12, 2) := by decide +kernel
theorem dX7_contoursNow_310 : decode cX7_contoursNow 310 = .ok (.invokestatic 124, 3) := by decide +kernel
theorem dX7_contoursNow_313 : decode cX7_contoursNow 313 = .ok (.astore 4, 2) := by decide +kernel
theorem dX7_contoursNow_315 : decode cX7_contoursNow 315 = .ok (.iinc 5 2, 3) := by decide +kernel
theorem dX7_contoursNow_318 : decode cX7_contoursNow 318 = .ok (.iload 5, 2) := by decide +kernel
theorem dX7_contoursNow_320 : decode cX7_contoursNow 320 = .ok (.iload 10, 2) := by decide +kernel
theorem dX7_contoursNow_322 : decode cX7_contoursNow 322 = .ok (.isub, 1) := by decide +kernel
theorem dX7_contoursNow_323 : decode cX7_contoursNow 323 = .ok (.iconst 2, 1) := by decide +kernel
theorem dX7_contoursNow_324 : decode cX7_contoursNow 324 = .ok (.isub, 1) := by decide +kernel
theorem dX7_contoursNow_325 : decode cX7_contoursNow 325 = .ok (.iconst 2, 1) := by decide +kernel
theorem dX7_contoursNow_326 : decode cX7_contoursNow 326 = .ok (.idiv, 1) := by decide +kernel
theorem dX7_contoursNow_327 : decode cX7_contoursNow 327 = .ok (.istore 17, 2) := by decide +kernel
theorem dX7_contoursNow_329 : decode cX7_contoursNow 329 = .ok (.aload 4, 2) := by decide +kernel
theorem dX7_contoursNow_331 : decode cX7_contoursNow 331 = .ok (.iload 5, 2) := by decide +kernel
theorem dX7_contoursNow_333 : decode cX7_contoursNow 333 = .ok (.iconst 2, 1) := by decide +kernel
theorem dX7_contoursNow_334 : decode cX7_contoursNow 334 = .ok (.isub, 1) := by decide +kernel
theorem dX7_contoursNow_335 : decode cX7_contoursNow 335 = .ok (.iaload, 1) := by decide +kernel
theorem dX7_contoursNow_336 : decode cX7_contoursNow 336 = .ok (.istore 18, 2) := by decide +kernel
theorem dX7_contoursNow_338 : decode cX7_contoursNow 338 = .ok (.aload 4, 2) := by decide +kernel
theorem dX7_contoursNow_340 : decode cX7_contoursNow 340 = .ok (.iload 5, 2) := by decide +kernel
theorem dX7_contoursNow_342 : decode cX7_contoursNow 342 = .ok (.iconst 1, 1) := by decide +kernel
theorem dX7_contoursNow_343 : decode cX7_contoursNow 343 = .ok (.isub, 1) := by decide +kernel
theorem dX7_contoursNow_344 : decode cX7_contoursNow 344 = .ok (.iaload, 1) := by decide +kernel
theorem dX7_contoursNow_345 : decode cX7_contoursNow 345 = .ok (.istore 19, 2) := by decide +kernel
theorem dX7_contoursNow_347 : decode cX7_contoursNow 347 = .ok (.iload 5, 2) := by decide +kernel
theorem dX7_contoursNow_349 : decode cX7_contoursNow 349 = .ok (.iconst 1, 1) := by decide +kernel
theorem dX7_contoursNow_350 : decode cX7_contoursNow 350 = .ok (.isub, 1) := by decide +kernel
theorem dX7_contoursNow_351 : decode cX7_contoursNow 351 = .ok (.istore 20, 2) := by decide +kernel
theorem dX7_contoursNow_353 : decode cX7_contoursNow 353 = .ok (.iload 20, 2) := by decide +kernel
theorem dX7_contoursNow_355 : decode cX7_contoursNow 355 = .ok (.iload 10, 2) := by decide +kernel
theorem dX7_contoursNow_357 : decode cX7_contoursNow 357 = .ok (.iconst 3, 1) := by decide +kernel
theorem dX7_contoursNow_358 : decode cX7_contoursNow 358 = .ok (.iadd, 1) := by decide +kernel
theorem dX7_contoursNow_359 : decode cX7_contoursNow 359 = .ok (.if_icmp .le 21, 3) := by decide +kernel
theorem dX7_contoursNow_362 : decode cX7_contoursNow 362 = .ok (.aload 4, 2) := by decide +kernel
theorem dX7_contoursNow_364 : decode cX7_contoursNow 364 = .ok (.iload 20, 2) := by decide +kernel
theorem dX7_contoursNow_366 : decode cX7_contoursNow 366 = .ok (.aload 4, 2) := by decide +kernel
theorem dX7_contoursNow_368 : decode cX7_contoursNow 368 = .ok (.iload 20, 2) := by decide +kernel
theorem dX7_contoursNow_370 : decode cX7_contoursNow 370 = .ok (.iconst 2, 1) := by decide +kernel
theorem dX7_contoursNow_371 : decode cX7_contoursNow 371 = .ok (.isub, 1) := by decide +kernel
theorem dX7_contoursNow_372 : decode cX7_contoursNow 372 = .ok (.iaload, 1) := by decide +kernel
theorem dX7_contoursNow_373 : decode cX7_contoursNow 373 = .ok (.iastore, 1) := by decide +kernel
theorem dX7_contoursNow_374 : decode cX7_contoursNow 374 = .ok (.iinc 20 (-1), 3) := by decide +kernel
theorem dX7_contoursNow_377 : decode cX7_contoursNow 377 = .ok (.goto (-24), 3) := by decide +kernel
theorem dX7_contoursNow_380 : decode cX7_contoursNow 380 = .ok (.aload 4, 2) := by decide +kernel
theorem dX7_contoursNow_382 : decode cX7_contoursNow 382 = .ok (.iload 10, 2) := by decide +kernel
theorem dX7_contoursNow_384 : decode cX7_contoursNow 384 = .ok (.iconst 2, 1) := by decide +kernel
theorem dX7_contoursNow_385 : decode cX7_contoursNow 385 = .ok (.iadd, 1) := by decide +kernel
theorem dX7_contoursNow_386 : decode cX7_contoursNow 386 = .ok (.iload 18, 2) := by decide +kernel
theorem dX7_contoursNow_388 : decode cX7_contoursNow 388 = .ok (.iastore, 1) := by decide +kernel
theorem dX7_contoursNow_389 : decode cX7_contoursNow 389 = .ok (.aload 4, 2) := by decide +kernel
theorem dX7_contoursNow_391 : decode cX7_contoursNow 391 = .ok (.iload 10, 2) := by decide +kernel
theorem dX7_contoursNow_393 : decode cX7_contoursNow 393 = .ok (.iconst 3, 1) := by decide +kernel
theorem dX7_contoursNow_394 : decode cX7_contoursNow 394 = .ok (.iadd, 1) := by decide +kernel
theorem dX7_contoursNow_395 : decode cX7_contoursNow 395 = .ok (.iload 19, 2) := by decide +kernel
theorem dX7_contoursNow_397 : decode cX7_contoursNow 397 = .ok (.iastore, 1) := by decide +kernel
theorem dX7_contoursNow_398 : decode cX7_contoursNow 398 = .ok (.aload 4, 2) := by decide +kernel
theorem dX7_contoursNow_400 : decode cX7_contoursNow 400 = .ok (.iload 10, 2) := by decide +kernel
theorem dX7_contoursNow_402 : decode cX7_contoursNow 402 = .ok (.iload 14, 2) := by decide +kernel
theorem dX7_contoursNow_404 : decode cX7_contoursNow 404 = .ok (.iastore, 1) := by decide +kernel
theorem dX7_contoursNow_405 : decode cX7_contoursNow 405 = .ok (.aload 4, 2) := by decide +kernel
theorem dX7_contoursNow_407 : decode cX7_contoursNow 407 = .ok (.iload 10, 2) := by decide +kernel
theorem dX7_contoursNow_409 : decode cX7_contoursNow 409 = .ok (.iconst 1, 1) := by decide +kernel
theorem dX7_contoursNow_410 : decode cX7_contoursNow 410 = .ok (.iadd, 1) := by decide +kernel
theorem dX7_contoursNow_411 : decode cX7_contoursNow 411 = .ok (.iload 17, 2) := by decide +kernel
theorem dX7_contoursNow_413 : decode cX7_contoursNow 413 = .ok (.iastore, 1) := by decide +kernel
theorem dX7_contoursNow_414 : decode cX7_contoursNow 414 = .ok (.iinc 8 1, 3) := by decide +kernel
theorem dX7_contoursNow_417 : decode cX7_contoursNow 417 = .ok (.goto (-370), 3) := by decide +kernel
theorem dX7_contoursNow_420 : decode cX7_contoursNow 420 = .ok (.iinc 7 1, 3) := by decide +kernel
theorem dX7_contoursNow_423 : decode cX7_contoursNow 423 = .ok (.goto (-386), 3) := by decide +kernel
theorem dX7_contoursNow_426 : decode cX7_contoursNow 426 = .ok (.iinc 6 1, 3) := by decide +kernel
theorem dX7_contoursNow_429 : decode cX7_contoursNow 429 = .ok (.goto (-403), 3) := by decide +kernel
theorem dX7_contoursNow_432 : decode cX7_contoursNow 432 = .ok (.aload 4, 2) := by decide +kernel
theorem dX7_contoursNow_434 : decode cX7_contoursNow 434 = .ok (.areturn, 1) := by decide +kernel
theorem dX7_put_0 : decode cX7_put 0 = .ok (.aload_n 0, 1) := by decide +kernel
theorem dX7_put_1 : decode cX7_put 1 = .ok (.astore 4, 2) := by decide +kernel
theorem dX7_put_3 : decode cX7_put 3 = .ok (.iload_n 1, 1) := by decide +kernel
theorem dX7_put_4 : decode cX7_put 4 = .ok (.iconst 4, 1) := by decide +kernel
theorem dX7_put_5 : decode cX7_put 5 = .ok (.iadd, 1) := by decide +kernel
theorem dX7_put_6 : decode cX7_put 6 = .ok (.aload_n 0, 1) := by decide +kernel
theorem dX7_put_7 : decode cX7_put 7 = .ok (.arraylength, 1) := by decide +kernel
theorem dX7_put_8 : decode cX7_put 8 = .ok (.if_icmp .le 23, 3) := by decide +kernel
theorem dX7_put_11 : decode cX7_put 11 = .ok (.iconst 2, 1) := by decide +kernel
theorem dX7_put_12 : decode cX7_put 12 = .ok (.aload_n 0, 1) := by decide +kernel
theorem dX7_put_13 : decode cX7_put 13 = .ok (.arraylength, 1) := by decide +kernel
theorem dX7_put_14 : decode cX7_put 14 = .ok (.imul, 1) := by decide +kernel
theorem dX7_put_15 : decode cX7_put 15 = .ok (.bipush 8, 2) := by decide +kernel
theorem dX7_put_17 : decode cX7_put 17 = .ok (.iadd, 1) := by decide +kernel
theorem dX7_put_18 : decode cX7_put 18 = .ok (.newarray .int, 2) := by decide +kernel
theorem dX7_put_20 : decode cX7_put 20 = .ok (.astore 4, 2) := by decide +kernel
theorem dX7_put_22 : decode cX7_put 22 = .ok (.aload_n 0, 1) := by decide +kernel
theorem dX7_put_23 : decode cX7_put 23 = .ok (.iconst 0, 1) := by decide +kernel
theorem dX7_put_24 : decode cX7_put 24 = .ok (.aload 4, 2) := by decide +kernel
theorem dX7_put_26 : decode cX7_put 26 = .ok (.iconst 0, 1) := by decide +kernel
theorem dX7_put_27 : decode cX7_put 27 = .ok (.iload_n 1, 1) := by decide +kernel
theorem dX7_put_28 : decode cX7_put 28 = .ok (.invokestatic 48, 3) := by decide +kernel
theorem dX7_put_31 : decode cX7_put 31 = .ok (.aload 4, 2) := by decide +kernel
theorem dX7_put_33 : decode cX7_put 33 = .ok (.iload_n 1, 1) := by decide +kernel
theorem dX7_put_34 : decode cX7_put 34 = .ok (.iload_n 2, 1) := by decide +kernel
theorem dX7_put_35 : decode cX7_put 35 = .ok (.iastore, 1) := by decide +kernel
theorem dX7_put_36 : decode cX7_put 36 = .ok (.aload 4, 2) := by decide +kernel
theorem dX7_put_38 : decode cX7_put 38 = .ok (.iload_n 1, 1) := by decide +kernel
theorem dX7_put_39 : decode cX7_put 39 = .ok (.iconst 1, 1) := by decide +kernel
theorem dX7_put_40 : decode cX7_put 40 = .ok (.iadd, 1) := by decide +kernel
theorem dX7_put_41 : decode cX7_put 41 = .ok (.iload_n 3, 1) := by decide +kernel
theorem dX7_put_42 : decode cX7_put 42 = .ok (.iastore, 1) := by decide +kernel
theorem dX7_put_43 : decode cX7_put 43 = .ok (.aload 4, 2) := by decide +kernel
theorem dX7_put_45 : decode cX7_put 45 = .ok (.areturn, 1) := by decide +kernel
theorem dX7_headOf_0 : decode cX7_headOf 0 = .ok (.iload_n 1, 1) := by decide +kernel
theorem dX7_headOf_1 : decode cX7_headOf 1 = .ok (.iconst 0, 1) := by decide +kernel
theorem dX7_headOf_2 : decode cX7_headOf 2 = .ok (.aload_n 0, 1) := by decide +kernel
theorem dX7_headOf_3 : decode cX7_headOf 3 = .ok (.iconst 0, 1) := by decide +kernel
theorem dX7_headOf_4 : decode cX7_headOf 4 = .ok (.iaload, 1) := by decide +kernel
theorem dX7_headOf_5 : decode cX7_headOf 5 = .ok (.iconst 1, 1) := by decide +kernel
theorem dX7_headOf_6 : decode cX7_headOf 6 = .ok (.isub, 1) := by decide +kernel
theorem dX7_headOf_7 : decode cX7_headOf 7 = .ok (.invokestatic 36, 3) := by decide +kernel
theorem dX7_headOf_10 : decode cX7_headOf 10 = .ok (.ifCond .ne 5, 3) := by decide +kernel
theorem dX7_headOf_13 : decode cX7_headOf 13 = .ok (.iconst (-1), 1) := by decide +kernel
theorem dX7_headOf_14 : decode cX7_headOf 14 = .ok (.ireturn, 1) := by decide +kernel
theorem dX7_headOf_15 : decode cX7_headOf 15 = .ok (.iconst 1, 1) := by decide +kernel
theorem dX7_headOf_16 : decode cX7_headOf 16 = .ok (.istore_n 2, 1) := by decide +kernel
theorem dX7_headOf_17 : decode cX7_headOf 17 = .ok (.iconst 0, 1) := by decide +kernel
theorem dX7_headOf_18 : decode cX7_headOf 18 = .ok (.istore_n 3, 1) := by decide +kernel
theorem dX7_headOf_19 : decode cX7_headOf 19 = .ok (.iload_n 3, 1) := by decide +kernel
theorem dX7_headOf_20 : decode cX7_headOf 20 = .ok (.iload_n 1, 1) := by decide +kernel
theorem dX7_headOf_21 : decode cX7_headOf 21 = .ok (.if_icmp .ge 21, 3) := by decide +kernel
theorem dX7_headOf_24 : decode cX7_headOf 24 = .ok (.iload_n 2, 1) := by decide +kernel
theorem dX7_headOf_25 : decode cX7_headOf 25 = .ok (.iconst 2, 1) := by decide +kernel
theorem dX7_headOf_26 : decode cX7_headOf 26 = .ok (.iconst 2, 1) := by decide +kernel
theorem dX7_headOf_27 : decode cX7_headOf 27 = .ok (.aload_n 0, 1) := by decide +kernel
theorem dX7_headOf_28 : decode cX7_headOf 28 = .ok (.iload_n 2, 1) := by decide +kernel
theorem dX7_headOf_29 : decode cX7_headOf 29 = .ok (.iconst 1, 1) := by decide +kernel
theorem dX7_headOf_30 : decode cX7_headOf 30 = .ok (.iadd, 1) := by decide +kernel
theorem dX7_headOf_31 : decode cX7_headOf 31 = .ok (.iaload, 1) := by decide +kernel
theorem dX7_headOf_32 : decode cX7_headOf 32 = .ok (.imul, 1) := by decide +kernel
theorem dX7_headOf_33 : decode cX7_headOf 33 = .ok (.iadd, 1) := by decide +kernel
theorem dX7_headOf_34 : decode cX7_headOf 34 = .ok (.iadd, 1) := by decide +kernel
theorem dX7_headOf_35 : decode cX7_headOf 35 = .ok (.istore_n 2, 1) := by decide +kernel
theorem dX7_headOf_36 : decode cX7_headOf 36 = .ok (.iinc 3 1, 3) := by decide +kernel
theorem dX7_headOf_39 : decode cX7_headOf 39 = .ok (.goto (-20), 3) := by decide +kernel
theorem dX7_headOf_42 : decode cX7_headOf 42 = .ok (.iload_n 2, 1) := by decide +kernel
theorem dX7_headOf_43 : decode cX7_headOf 43 = .ok (.ireturn, 1) := by decide +kernel
theorem dX7_contours_0 : decode cX7_contours 0 = .ok (.aload_n 0, 1) := by decide +kernel
theorem dX7_contours_1 : decode cX7_contours 1 = .ok (.iconst 0, 1) := by decide +kernel
theorem dX7_contours_2 : decode cX7_contours 2 = .ok (.putfield 33, 3) := by decide +kernel
theorem dX7_contours_5 : decode cX7_contours 5 = .ok (.iload_n 1, 1) := by decide +kernel
theorem dX7_contours_6 : decode cX7_contours 6 = .ok (.invokestatic 76, 3) := by decide +kernel
theorem dX7_contours_9 : decode cX7_contours 9 = .ok (.ifCond .eq 13, 3) := by decide +kernel
theorem dX7_contours_12 : decode cX7_contours 12 = .ok (.aload_n 0, 1) := by decide +kernel
theorem dX7_contours_13 : decode cX7_contours 13 = .ok (.iload_n 1, 1) := by decide +kernel
theorem dX7_contours_14 : decode cX7_contours 14 = .ok (.invokevirtual 134, 3) := by decide +kernel
theorem dX7_contours_17 : decode cX7_contours 17 = .ok (.iconst 0, 1) := by decide +kernel
theorem dX7_contours_18 : decode cX7_contours 18 = .ok (.iaload, 1) := by decide +kernel
theorem dX7_contours_19 : decode cX7_contours 19 = .ok (.goto 8, 3) := by decide +kernel
theorem dX7_contours_22 : decode cX7_contours 22 = .ok (.aload_n 0, 1) := by decide +kernel
theorem dX7_contours_23 : decode cX7_contours 23 = .ok (.iconst 1, 1) := by decide +kernel
theorem dX7_contours_24 : decode cX7_contours 24 = .ok (.invokevirtual 61, 3) := by decide +kernel
theorem dX7_contours_27 : decode cX7_contours 27 = .ok (.ireturn, 1) := by decide +kernel
theorem dX7_ofContour_0 : decode cX7_ofContour 0 = .ok (.aload_n 0, 1) := by decide +kernel
theorem dX7_ofContour_1 : decode cX7_ofContour 1 = .ok (.iconst 0, 1) := by decide +kernel
theorem dX7_ofContour_2 : decode cX7_ofContour 2 = .ok (.putfield 33, 3) := by decide +kernel
theorem dX7_ofContour_5 : decode cX7_ofContour 5 = .ok (.iload_n 1, 1) := by decide +kernel
theorem dX7_ofContour_6 : decode cX7_ofContour 6 = .ok (.invokestatic 76, 3) := by decide +kernel
theorem dX7_ofContour_9 : decode cX7_ofContour 9 = .ok (.ifCond .ne 9, 3) := by decide +kernel
theorem dX7_ofContour_12 : decode cX7_ofContour 12 = .ok (.aload_n 0, 1) := by decide +kernel
theorem dX7_ofContour_13 : decode cX7_ofContour 13 = .ok (.iconst 1, 1) := by decide +kernel
theorem dX7_ofContour_14 : decode cX7_ofContour 14 = .ok (.invokevirtual 61, 3) := by decide +kernel
theorem dX7_ofContour_17 : decode cX7_ofContour 17 = .ok (.ireturn, 1) := by decide +kernel
theorem dX7_ofContour_18 : decode cX7_ofContour 18 = .ok (.aload_n 0, 1) := by decide +kernel
theorem dX7_ofContour_19 : decode cX7_ofContour 19 = .ok (.iload_n 1, 1) := by decide +kernel
theorem dX7_ofContour_20 : decode cX7_ofContour 20 = .ok (.invokevirtual 134, 3) := by decide +kernel
theorem dX7_ofContour_23 : decode cX7_ofContour 23 = .ok (.astore 4, 2) := by decide +kernel
theorem dX7_ofContour_25 : decode cX7_ofContour 25 = .ok (.aload 4, 2) := by decide +kernel
theorem dX7_ofContour_27 : decode cX7_ofContour 27 = .ok (.iload_n 2, 1) := by decide +kernel
theorem dX7_ofContour_28 : decode cX7_ofContour 28 = .ok (.invokestatic 138, 3) := by decide +kernel
theorem dX7_ofContour_31 : decode cX7_ofContour 31 = .ok (.istore 5, 2) := by decide +kernel
theorem dX7_ofContour_33 : decode cX7_ofContour 33 = .ok (.iload 5, 2) := by decide +kernel
theorem dX7_ofContour_35 : decode cX7_ofContour 35 = .ok (.iconst (-1), 1) := by decide +kernel
theorem dX7_ofContour_36 : decode cX7_ofContour 36 = .ok (.if_icmp .ne 11, 3) := by decide +kernel
theorem dX7_ofContour_39 : decode cX7_ofContour 39 = .ok (.aload_n 0, 1) := by decide +kernel
theorem dX7_ofContour_40 : decode cX7_ofContour 40 = .ok (.iconst 1, 1) := by decide +kernel
theorem dX7_ofContour_41 : decode cX7_ofContour 41 = .ok (.invokevirtual 61, 3) := by decide +kernel
theorem dX7_ofContour_44 : decode cX7_ofContour 44 = .ok (.goto 10, 3) := by decide +kernel
theorem dX7_ofContour_47 : decode cX7_ofContour 47 = .ok (.aload 4, 2) := by decide +kernel
theorem dX7_ofContour_49 : decode cX7_ofContour 49 = .ok (.iload 5, 2) := by decide +kernel
theorem dX7_ofContour_51 : decode cX7_ofContour 51 = .ok (.iload_n 3, 1) := by decide +kernel
theorem dX7_ofContour_52 : decode cX7_ofContour 52 = .ok (.iadd, 1) := by decide +kernel
theorem dX7_ofContour_53 : decode cX7_ofContour 53 = .ok (.iaload, 1) := by decide +kernel
theorem dX7_ofContour_54 : decode cX7_ofContour 54 = .ok (.ireturn, 1) := by decide +kernel
theorem dX7_corners_0 : decode cX7_corners 0 = .ok (.aload_n 0, 1) := by decide +kernel
theorem dX7_corners_1 : decode cX7_corners 1 = .ok (.iload_n 1, 1) := by decide +kernel
theorem dX7_corners_2 : decode cX7_corners 2 = .ok (.iload_n 2, 1) := by decide +kernel
theorem dX7_corners_3 : decode cX7_corners 3 = .ok (.iconst 1, 1) := by decide +kernel
theorem dX7_corners_4 : decode cX7_corners 4 = .ok (.invokevirtual 142, 3) := by decide +kernel
theorem dX7_corners_7 : decode cX7_corners 7 = .ok (.ireturn, 1) := by decide +kernel
theorem dX7_areaOf__0 : decode cX7_areaOf_ 0 = .ok (.aload_n 0, 1) := by decide +kernel
theorem dX7_areaOf__1 : decode cX7_areaOf_ 1 = .ok (.iload_n 1, 1) := by decide +kernel
theorem dX7_areaOf__2 : decode cX7_areaOf_ 2 = .ok (.iload_n 2, 1) := by decide +kernel
theorem dX7_areaOf__3 : decode cX7_areaOf_ 3 = .ok (.iconst 0, 1) := by decide +kernel
theorem dX7_areaOf__4 : decode cX7_areaOf_ 4 = .ok (.invokevirtual 142, 3) := by decide +kernel
theorem dX7_areaOf__7 : decode cX7_areaOf_ 7 = .ok (.ireturn, 1) := by decide +kernel
theorem dX7_corner_0 : decode cX7_corner 0 = .ok (.aload_n 0, 1) := by decide +kernel
theorem dX7_corner_1 : decode cX7_corner 1 = .ok (.iload_n 1, 1) := by decide +kernel
theorem dX7_corner_2 : decode cX7_corner 2 = .ok (.iload_n 2, 1) := by decide +kernel
theorem dX7_corner_3 : decode cX7_corner 3 = .ok (.invokevirtual 145, 3) := by decide +kernel
theorem dX7_corner_6 : decode cX7_corner 6 = .ok (.istore 5, 2) := by decide +kernel
theorem dX7_corner_8 : decode cX7_corner 8 = .ok (.aload_n 0, 1) := by decide +kernel
theorem dX7_corner_9 : decode cX7_corner 9 = .ok (.getfield 33, 3) := by decide +kernel
theorem dX7_corner_12 : decode cX7_corner 12 = .ok (.ifCond .eq 5, 3) := by decide +kernel
theorem dX7_corner_15 : decode cX7_corner 15 = .ok (.iconst 0, 1) := by decide +kernel
theorem dX7_corner_16 : decode cX7_corner 16 = .ok (.ireturn, 1) := by decide +kernel
theorem dX7_corner_17 : decode cX7_corner 17 = .ok (.iload_n 3, 1) := by decide +kernel
theorem dX7_corner_18 : decode cX7_corner 18 = .ok (.iconst 0, 1) := by decide +kernel
theorem dX7_corner_19 : decode cX7_corner 19 = .ok (.iload 5, 2) := by decide +kernel
theorem dX7_corner_21 : decode cX7_corner 21 = .ok (.iconst 1, 1) := by decide +kernel
theorem dX7_corner_22 : decode cX7_corner 22 = .ok (.isub, 1) := by decide +kernel
theorem dX7_corner_23 : decode cX7_corner 23 = .ok (.invokestatic 36, 3) := by decide +kernel
theorem dX7_corner_26 : decode cX7_corner 26 = .ok (.ifCond .eq 20, 3) := by decide +kernel
theorem dX7_corner_29 : decode cX7_corner 29 = .ok (.aload_n 0, 1) := by decide +kernel
theorem dX7_corner_30 : decode cX7_corner 30 = .ok (.iload_n 1, 1) := by decide +kernel
theorem dX7_corner_31 : decode cX7_corner 31 = .ok (.iload_n 2, 1) := by decide +kernel
theorem dX7_corner_32 : decode cX7_corner 32 = .ok (.iconst 2, 1) := by decide +kernel
theorem dX7_corner_33 : decode cX7_corner 33 = .ok (.iconst 2, 1) := by decide +kernel
theorem dX7_corner_34 : decode cX7_corner 34 = .ok (.iload_n 3, 1) := by decide +kernel
theorem dX7_corner_35 : decode cX7_corner 35 = .ok (.imul, 1) := by decide +kernel
theorem dX7_corner_36 : decode cX7_corner 36 = .ok (.iadd, 1) := by decide +kernel
theorem dX7_corner_37 : decode cX7_corner 37 = .ok (.iload 4, 2) := by decide +kernel
theorem dX7_corner_39 : decode cX7_corner 39 = .ok (.iadd, 1) := by decide +kernel
theorem dX7_corner_40 : decode cX7_corner 40 = .ok (.invokevirtual 142, 3) := by decide +kernel
theorem dX7_corner_43 : decode cX7_corner 43 = .ok (.goto 8, 3) := by decide +kernel
theorem dX7_corner_46 : decode cX7_corner 46 = .ok (.aload_n 0, 1) := by decide +kernel
theorem dX7_corner_47 : decode cX7_corner 47 = .ok (.iconst 1, 1) := by decide +kernel
theorem dX7_corner_48 : decode cX7_corner 48 = .ok (.invokevirtual 61, 3) := by decide +kernel
theorem dX7_corner_51 : decode cX7_corner 51 = .ok (.ireturn, 1) := by decide +kernel
theorem dX7_cornerX_0 : decode cX7_cornerX 0 = .ok (.aload_n 0, 1) := by decide +kernel
theorem dX7_cornerX_1 : decode cX7_cornerX 1 = .ok (.iload_n 1, 1) := by decide +kernel
theorem dX7_cornerX_2 : decode cX7_cornerX 2 = .ok (.iload_n 2, 1) := by decide +kernel
theorem dX7_cornerX_3 : decode cX7_cornerX 3 = .ok (.iload_n 3, 1) := by decide +kernel
theorem dX7_cornerX_4 : decode cX7_cornerX 4 = .ok (.iconst 0, 1) := by decide +kernel
theorem dX7_cornerX_5 : decode cX7_cornerX 5 = .ok (.invokevirtual 148, 3) := by decide +kernel
theorem dX7_cornerX_8 : decode cX7_cornerX 8 = .ok (.ireturn, 1) := by decide +kernel
theorem dX7_cornerY_0 : decode cX7_cornerY 0 = .ok (.aload_n 0, 1) := by decide +kernel
theorem dX7_cornerY_1 : decode cX7_cornerY 1 = .ok (.iload_n 1, 1) := by decide +kernel
theorem dX7_cornerY_2 : decode cX7_cornerY 2 = .ok (.iload_n 2, 1) := by decide +kernel
theorem dX7_cornerY_3 : decode cX7_cornerY 3 = .ok (.iload_n 3, 1) := by decide +kernel
theorem dX7_cornerY_4 : decode cX7_cornerY 4 = .ok (.iconst 1, 1) := by decide +kernel
theorem dX7_cornerY_5 : decode cX7_cornerY 5 = .ok (.invokevirtual 148, 3) := by decide +kernel
theorem dX7_cornerY_8 : decode cX7_cornerY 8 = .ok (.ireturn, 1) := by decide +kernel
theorem dX7_isRun_0 : decode cX7_isRun 0 = .ok (.aload_n 0, 1) := by decide +kernel
theorem dX7_isRun_1 : decode cX7_isRun 1 = .ok (.iload_n 1, 1) := by decide +kernel
theorem dX7_isRun_2 : decode cX7_isRun 2 = .ok (.iconst 1, 1) := by decide +kernel
theorem dX7_isRun_3 : decode cX7_isRun 3 = .ok (.isub, 1) := by decide +kernel
theorem dX7_isRun_4 : decode cX7_isRun 4 = .ok (.iload_n 3, 1) := by decide +kernel
theorem dX7_isRun_5 : decode cX7_isRun 5 = .ok (.invokestatic 95, 3) := by decide +kernel
theorem dX7_isRun_8 : decode cX7_isRun 8 = .ok (.ifCond .ne 12, 3) := by decide +kernel
theorem dX7_isRun_11 : decode cX7_isRun 11 = .ok (.aload_n 0, 1) := by decide +kernel
theorem dX7_isRun_12 : decode cX7_isRun 12 = .ok (.iload_n 2, 1) := by decide +kernel
theorem dX7_isRun_13 : decode cX7_isRun 13 = .ok (.iload_n 3, 1) := by decide +kernel
theorem dX7_isRun_14 : decode cX7_isRun 14 = .ok (.invokestatic 95, 3) := by decide +kernel
theorem dX7_isRun_17 : decode cX7_isRun 17 = .ok (.ifCond .eq 5, 3) := by decide +kernel
theorem dX7_isRun_20 : decode cX7_isRun 20 = .ok (.iconst 0, 1) := by decide +kernel
theorem dX7_isRun_21 : decode cX7_isRun 21 = .ok (.ireturn, 1) := by decide +kernel
theorem dX7_isRun_22 : decode cX7_isRun 22 = .ok (.iload_n 1, 1) := by decide +kernel
theorem dX7_isRun_23 : decode cX7_isRun 23 = .ok (.istore 4, 2) := by decide +kernel
theorem dX7_isRun_25 : decode cX7_isRun 25 = .ok (.iload 4, 2) := by decide +kernel
theorem dX7_isRun_27 : decode cX7_isRun 27 = .ok (.iload_n 2, 1) := by decide +kernel
theorem dX7_isRun_28 : decode cX7_isRun 28 = .ok (.if_icmp .ge 21, 3) := by decide +kernel
theorem dX7_isRun_31 : decode cX7_isRun 31 = .ok (.aload_n 0, 1) := by decide +kernel
theorem dX7_isRun_32 : decode cX7_isRun 32 = .ok (.iload 4, 2) := by decide +kernel
theorem dX7_isRun_34 : decode cX7_isRun 34 = .ok (.iload_n 3, 1) := by decide +kernel
theorem dX7_isRun_35 : decode cX7_isRun 35 = .ok (.invokestatic 95, 3) := by decide +kernel
theorem dX7_isRun_38 : decode cX7_isRun 38 = .ok (.ifCond .ne 5, 3) := by decide +kernel
theorem dX7_isRun_41 : decode cX7_isRun 41 = .ok (.iconst 0, 1) := by decide +kernel
theorem dX7_isRun_42 : decode cX7_isRun 42 = .ok (.ireturn, 1) := by decide +kernel
theorem dX7_isRun_43 : decode cX7_isRun 43 = .ok (.iinc 4 1, 3) := by decide +kernel
theorem dX7_isRun_46 : decode cX7_isRun 46 = .ok (.goto (-21), 3) := by decide +kernel
theorem dX7_isRun_49 : decode cX7_isRun 49 = .ok (.iconst 1, 1) := by decide +kernel
theorem dX7_isRun_50 : decode cX7_isRun 50 = .ok (.ireturn, 1) := by decide +kernel
theorem dX7_stripsNow_0 : decode cX7_stripsNow 0 = .ok (.aload_n 0, 1) := by decide +kernel
theorem dX7_stripsNow_1 : decode cX7_stripsNow 1 = .ok (.getfield 11, 3) := by decide +kernel
theorem dX7_stripsNow_4 : decode cX7_stripsNow 4 = .ok (.iload_n 1, 1) := by decide +kernel
theorem dX7_stripsNow_5 : decode cX7_stripsNow 5 = .ok (.aaload, 1) := by decide +kernel
theorem dX7_stripsNow_6 : decode cX7_stripsNow 6 = .ok (.astore_n 2, 1) := by decide +kernel
theorem dX7_stripsNow_7 : decode cX7_stripsNow 7 = .ok (.bipush 64, 2) := by decide +kernel
theorem dX7_stripsNow_9 : decode cX7_stripsNow 9 = .ok (.newarray .int, 2) := by decide +kernel
theorem dX7_stripsNow_11 : decode cX7_stripsNow 11 = .ok (.astore_n 3, 1) := by decide +kernel
theorem dX7_stripsNow_12 : decode cX7_stripsNow 12 = .ok (.iconst 1, 1) := by decide +kernel
theorem dX7_stripsNow_13 : decode cX7_stripsNow 13 = .ok (.istore 4, 2) := by decide +kernel
theorem dX7_stripsNow_15 : decode cX7_stripsNow 15 = .ok (.bipush (-32), 2) := by decide +kernel
theorem dX7_stripsNow_17 : decode cX7_stripsNow 17 = .ok (.istore 5, 2) := by decide +kernel
theorem dX7_stripsNow_19 : decode cX7_stripsNow 19 = .ok (.iload 5, 2) := by decide +kernel
theorem dX7_stripsNow_21 : decode cX7_stripsNow 21 = .ok (.bipush 31, 2) := by decide +kernel
theorem dX7_stripsNow_23 : decode cX7_stripsNow 23 = .ok (.if_icmp .gt 155, 3) := by decide +kernel
theorem dX7_stripsNow_26 : decode cX7_stripsNow 26 = .ok (.bipush (-32), 2) := by decide +kernel
theorem dX7_stripsNow_28 : decode cX7_stripsNow 28 = .ok (.istore 6, 2) := by decide +kernel
theorem dX7_stripsNow_30 : decode cX7_stripsNow 30 = .ok (.iload 6, 2) := by decide +kernel
theorem dX7_stripsNow_32 : decode cX7_stripsNow 32 = .ok (.bipush 31, 2) := by decide +kernel
theorem dX7_stripsNow_34 : decode cX7_stripsNow 34 = .ok (.if_icmp .gt 138, 3) := by decide +kernel
theorem dX7_stripsNow_37 : decode cX7_stripsNow 37 = .ok (.aload_n 2, 1) := by decide +kernel
theorem dX7_stripsNow_38 : decode cX7_stripsNow 38 = .ok (.iload 6, 2) := by decide +kernel
theorem dX7_stripsNow_40 : decode cX7_stripsNow 40 = .ok (.iload 5, 2) := by decide +kernel
theorem dX7_stripsNow_42 : decode cX7_stripsNow 42 = .ok (.invokestatic 95, 3) := by decide +kernel
theorem dX7_stripsNow_45 : decode cX7_stripsNow 45 = .ok (.ifCond .eq 121, 3) := by decide +kernel
theorem dX7_stripsNow_48 : decode cX7_stripsNow 48 = .ok (.aload_n 2, 1) := by decide +kernel
theorem dX7_stripsNow_49 : decode cX7_stripsNow 49 = .ok (.iload 6, 2) := by decide +kernel
theorem dX7_stripsNow_51 : decode cX7_stripsNow 51 = .ok (.iconst 1, 1) := by decide +kernel
theorem dX7_stripsNow_52 : decode cX7_stripsNow 52 = .ok (.isub, 1) := by decide +kernel
theorem dX7_stripsNow_53 : decode cX7_stripsNow 53 = .ok (.iload 5, 2) := by decide +kernel
theorem dX7_stripsNow_55 : decode cX7_stripsNow 55 = .ok (.invokestatic 95, 3) := by decide +kernel
theorem dX7_stripsNow_58 : decode cX7_stripsNow 58 = .ok (.ifCond .eq 6, 3) := by decide +kernel
theorem dX7_stripsNow_61 : decode cX7_stripsNow 61 = .ok (.goto 105, 3) := by decide +kernel
theorem dX7_stripsNow_64 : decode cX7_stripsNow 64 = .ok (.iload 6, 2) := by decide +kernel
theorem dX7_stripsNow_66 : decode cX7_stripsNow 66 = .ok (.istore 7, 2) := by decide +kernel
theorem dX7_stripsNow_68 : decode cX7_stripsNow 68 = .ok (.aload_n 2, 1) := by decide +kernel
theorem dX7_stripsNow_69 : decode cX7_stripsNow 69 = .ok (.iload 7, 2) := by decide +kernel
theorem dX7_stripsNow_71 : decode cX7_stripsNow 71 = .ok (.iload 5, 2) := by decide +kernel
theorem dX7_stripsNow_73 : decode cX7_stripsNow 73 = .ok (.invokestatic 95, 3) := by decide +kernel
theorem dX7_stripsNow_76 : decode cX7_stripsNow 76 = .ok (.ifCond .eq 9, 3) := by decide +kernel
theorem dX7_stripsNow_79 : decode cX7_stripsNow 79 = .ok (.iinc 7 1, 3) := by decide +kernel
theorem dX7_stripsNow_82 : decode cX7_stripsNow 82 = .ok (.goto (-14), 3) := by decide +kernel
theorem dX7_stripsNow_85 : decode cX7_stripsNow 85 = .ok (.aload_n 2, 1) := by decide +kernel
theorem dX7_stripsNow_86 : decode cX7_stripsNow 86 = .ok (.iload 6, 2) := by decide +kernel
theorem dX7_stripsNow_88 : decode cX7_stripsNow 88 = .ok (.iload 7, 2) := by decide +kernel
theorem dX7_stripsNow_90 : decode cX7_stripsNow 90 = .ok (.iload 5, 2) := by decide +kernel
theorem dX7_stripsNow_92 : decode cX7_stripsNow 92 = .ok (.iconst 1, 1) := by decide +kernel
theorem dX7_stripsNow_93 : decode cX7_stripsNow 93 = .ok (.isub, 1) := by decide +kernel
theorem dX7_stripsNow_94 : decode cX7_stripsNow 94 = .ok (.invokestatic 152, 3) := by decide +kernel
theorem dX7_stripsNow_97 : decode cX7_stripsNow 97 = .ok (.ifCond .eq 6, 3) := by decide +kernel
theorem dX7_stripsNow_100 : decode cX7_stripsNow 100 = .ok (.goto 66, 3) := by decide +kernel
theorem dX7_stripsNow_103 : decode cX7_stripsNow 103 = .ok (.iload 5, 2) := by decide +kernel
theorem dX7_stripsNow_105 : decode cX7_stripsNow 105 = .ok (.istore 8, 2) := by decide +kernel
theorem dX7_stripsNow_107 : decode cX7_stripsNow 107 = .ok (.aload_n 2, 1) := by decide +kernel
theorem dX7_stripsNow_108 : decode cX7_stripsNow 108 = .ok (.iload 6, 2) := by decide +kernel
theorem dX7_stripsNow_110 : decode cX7_stripsNow 110 = .ok (.iload 7, 2) := by decide +kernel
theorem dX7_stripsNow_112 : decode cX7_stripsNow 112 = .ok (.iload 8, 2) := by decide +kernel
theorem dX7_stripsNow_114 : decode cX7_stripsNow 114 = .ok (.invokestatic 152, 3) := by decide +kernel
theorem dX7_stripsNow_117 : decode cX7_stripsNow 117 = .ok (.ifCond .eq 9, 3) := by decide +kernel
theorem dX7_stripsNow_120 : decode cX7_stripsNow 120 = .ok (.iinc 8 1, 3) := by decide +kernel
theorem dX7_stripsNow_123 : decode cX7_stripsNow 123 = .ok (.goto (-16), 3) := by decide +kernel
theorem dX7_stripsNow_126 : decode cX7_stripsNow 126 = .ok (.aload_n 3, 1) := by decide +kernel
theorem dX7_stripsNow_127 : decode cX7_stripsNow 127 = .ok (.iconst 0, 1) := by decide +kernel
theorem dX7_stripsNow_128 : decode cX7_stripsNow 128 = .ok (.dup2, 1) := by decide +kernel
theorem dX7_stripsNow_129 : decode cX7_stripsNow 129 = .ok (.iaload, 1) := by decide +kernel
theorem dX7_stripsNow_130 : decode cX7_stripsNow 130 = .ok (.iconst 1, 1) := by decide +kernel
theorem dX7_stripsNow_131 : decode cX7_stripsNow 131 = .ok (.iadd, 1) := by decide +kernel
theorem dX7_stripsNow_132 : decode cX7_stripsNow 132 = .ok (.iastore, 1) := by decide +kernel
theorem dX7_stripsNow_133 : decode cX7_stripsNow 133 = .ok (.aload_n 3, 1) := by decide +kernel
theorem dX7_stripsNow_134 : decode cX7_stripsNow 134 = .ok (.iload 4, 2) := by decide +kernel
theorem dX7_stripsNow_136 : decode cX7_stripsNow 136 = .ok (.iload 6, 2) := by decide +kernel
theorem dX7_stripsNow_138 : decode cX7_stripsNow 138 = .ok (.iload 5, 2) := by decide +kernel
theorem dX7_stripsNow_140 : decode cX7_stripsNow 140 = .ok (.invokestatic 124, 3) := by decide +kernel
theorem dX7_stripsNow_143 : decode cX7_stripsNow 143 = .ok (.astore_n 3, 1) := by decide +kernel
theorem dX7_stripsNow_144 : decode cX7_stripsNow 144 = .ok (.aload_n 3, 1) := by decide +kernel
theorem dX7_stripsNow_145 : decode cX7_stripsNow 145 = .ok (.iload 4, 2) := by decide +kernel
theorem dX7_stripsNow_147 : decode cX7_stripsNow 147 = .ok (.iconst 2, 1) := by decide +kernel
theorem dX7_stripsNow_148 : decode cX7_stripsNow 148 = .ok (.iadd, 1) := by decide +kernel
theorem dX7_stripsNow_149 : decode cX7_stripsNow 149 = .ok (.iload 7, 2) := by decide +kernel
theorem dX7_stripsNow_151 : decode cX7_stripsNow 151 = .ok (.iload 6, 2) := by decide +kernel
theorem dX7_stripsNow_153 : decode cX7_stripsNow 153 = .ok (.isub, 1) := by decide +kernel
theorem dX7_stripsNow_154 : decode cX7_stripsNow 154 = .ok (.iload 8, 2) := by decide +kernel
theorem dX7_stripsNow_156 : decode cX7_stripsNow 156 = .ok (.iload 5, 2) := by decide +kernel
theorem dX7_stripsNow_158 : decode cX7_stripsNow 158 = .ok (.isub, 1) := by decide +kernel
theorem dX7_stripsNow_159 : decode cX7_stripsNow 159 = .ok (.invokestatic 124, 3) := by decide +kernel
theorem dX7_stripsNow_162 : decode cX7_stripsNow 162 = .ok (.astore_n 3, 1) := by decide +kernel
theorem dX7_stripsNow_163 : decode cX7_stripsNow 163 = .ok (.iinc 4 4, 3) := by decide +kernel
theorem dX7_stripsNow_166 : decode cX7_stripsNow 166 = .ok (.iinc 6 1, 3) := by decide +kernel
theorem dX7_stripsNow_169 : decode cX7_stripsNow 169 = .ok (.goto (-139), 3) := by decide +kernel
theorem dX7_stripsNow_172 : decode cX7_stripsNow 172 = .ok (.iinc 5 1, 3) := by decide +kernel
theorem dX7_stripsNow_175 : decode cX7_stripsNow 175 = .ok (.goto (-156), 3) := by decide +kernel
theorem dX7_stripsNow_178 : decode cX7_stripsNow 178 = .ok (.aload_n 3, 1) := by decide +kernel
theorem dX7_stripsNow_179 : decode cX7_stripsNow 179 = .ok (.areturn, 1) := by decide +kernel
theorem dX7_strips_0 : decode cX7_strips 0 = .ok (.aload_n 0, 1) := by decide +kernel
theorem dX7_strips_1 : decode cX7_strips 1 = .ok (.iconst 0, 1) := by decide +kernel
theorem dX7_strips_2 : decode cX7_strips 2 = .ok (.putfield 33, 3) := by decide +kernel
theorem dX7_strips_5 : decode cX7_strips 5 = .ok (.iload_n 1, 1) := by decide +kernel
theorem dX7_strips_6 : decode cX7_strips 6 = .ok (.invokestatic 76, 3) := by decide +kernel
theorem dX7_strips_9 : decode cX7_strips 9 = .ok (.ifCond .eq 13, 3) := by decide +kernel
theorem dX7_strips_12 : decode cX7_strips 12 = .ok (.aload_n 0, 1) := by decide +kernel
theorem dX7_strips_13 : decode cX7_strips 13 = .ok (.iload_n 1, 1) := by decide +kernel
theorem dX7_strips_14 : decode cX7_strips 14 = .ok (.invokevirtual 155, 3) := by decide +kernel
theorem dX7_strips_17 : decode cX7_strips 17 = .ok (.iconst 0, 1) := by decide +kernel
theorem dX7_strips_18 : decode cX7_strips 18 = .ok (.iaload, 1) := by decide +kernel
theorem dX7_strips_19 : decode cX7_strips 19 = .ok (.goto 8, 3) := by decide +kernel
theorem dX7_strips_22 : decode cX7_strips 22 = .ok (.aload_n 0, 1) := by decide +kernel
theorem dX7_strips_23 : decode cX7_strips 23 = .ok (.iconst 1, 1) := by decide +kernel
theorem dX7_strips_24 : decode cX7_strips 24 = .ok (.invokevirtual 61, 3) := by decide +kernel
theorem dX7_strips_27 : decode cX7_strips 27 = .ok (.ireturn, 1) := by decide +kernel
theorem dX7_strip_0 : decode cX7_strip 0 = .ok (.aload_n 0, 1) := by decide +kernel
theorem dX7_strip_1 : decode cX7_strip 1 = .ok (.iconst 0, 1) := by decide +kernel
theorem dX7_strip_2 : decode cX7_strip 2 = .ok (.putfield 33, 3) := by decide +kernel
theorem dX7_strip_5 : decode cX7_strip 5 = .ok (.iload_n 1, 1) := by decide +kernel
theorem dX7_strip_6 : decode cX7_strip 6 = .ok (.invokestatic 76, 3) := by decide +kernel
theorem dX7_strip_9 : decode cX7_strip 9 = .ok (.ifCond .ne 9, 3) := by decide +kernel
theorem dX7_strip_12 : decode cX7_strip 12 = .ok (.aload_n 0, 1) := by decide +kernel
theorem dX7_strip_13 : decode cX7_strip 13 = .ok (.iconst 1, 1) := by decide +kernel
theorem dX7_strip_14 : decode cX7_strip 14 = .ok (.invokevirtual 61, 3) := by decide +kernel
theorem dX7_strip_17 : decode cX7_strip 17 = .ok (.ireturn, 1) := by decide +kernel
theorem dX7_strip_18 : decode cX7_strip 18 = .ok (.aload_n 0, 1) := by decide +kernel
theorem dX7_strip_19 : decode cX7_strip 19 = .ok (.iload_n 1, 1) := by decide +kernel
theorem dX7_strip_20 : decode cX7_strip 20 = .ok (.invokevirtual 155, 3) := by decide +kernel
theorem dX7_strip_23 : decode cX7_strip 23 = .ok (.astore 4, 2) := by decide +kernel
theorem dX7_strip_25 : decode cX7_strip 25 = .ok (.iload_n 2, 1) := by decide +kernel
theorem dX7_strip_26 : decode cX7_strip 26 = .ok (.iconst 0, 1) := by decide +kernel
theorem dX7_strip_27 : decode cX7_strip 27 = .ok (.aload 4, 2) := by decide +kernel
theorem dX7_strip_29 : decode cX7_strip 29 = .ok (.iconst 0, 1) := by decide +kernel
theorem dX7_strip_30 : decode cX7_strip 30 = .ok (.iaload, 1) := by decide +kernel
theorem dX7_strip_31 : decode cX7_strip 31 = .ok (.iconst 1, 1) := by decide +kernel
theorem dX7_strip_32 : decode cX7_strip 32 = .ok (.isub, 1) := by decide +kernel
theorem dX7_strip_33 : decode cX7_strip 33 = .ok (.invokestatic 36, 3) := by decide +kernel
theorem dX7_strip_36 : decode cX7_strip 36 = .ok (.ifCond .ne 9, 3) := by decide +kernel
theorem dX7_strip_39 : decode cX7_strip 39 = .ok (.aload_n 0, 1) := by decide +kernel
theorem dX7_strip_40 : decode cX7_strip 40 = .ok (.iconst 1, 1) := by decide +kernel
theorem dX7_strip_41 : decode cX7_strip 41 = .ok (.invokevirtual 61, 3) := by decide +kernel
theorem dX7_strip_44 : decode cX7_strip 44 = .ok (.ireturn, 1) := by decide +kernel
theorem dX7_strip_45 : decode cX7_strip 45 = .ok (.iload_n 3, 1) := by decide +kernel
theorem dX7_strip_46 : decode cX7_strip 46 = .ok (.iconst 0, 1) := by decide +kernel
theorem dX7_strip_47 : decode cX7_strip 47 = .ok (.iconst 3, 1) := by decide +kernel
theorem dX7_strip_48 : decode cX7_strip 48 = .ok (.invokestatic 36, 3) := by decide +kernel
theorem dX7_strip_51 : decode cX7_strip 51 = .ok (.ifCond .eq 16, 3) := by decide +kernel
theorem dX7_strip_54 : decode cX7_strip 54 = .ok (.aload 4, 2) := by decide +kernel
theorem dX7_strip_56 : decode cX7_strip 56 = .ok (.iconst 1, 1) := by decide +kernel
theorem dX7_strip_57 : decode cX7_strip 57 = .ok (.iconst 4, 1) := by decide +kernel
theorem dX7_strip_58 : decode cX7_strip 58 = .ok (.iload_n 2, 1) := by decide +kernel
theorem dX7_strip_59 : decode cX7_strip 59 = .ok (.imul, 1) := by decide +kernel
theorem dX7_strip_60 : decode cX7_strip 60 = .ok (.iadd, 1) := by decide +kernel
theorem dX7_strip_61 : decode cX7_strip 61 = .ok (.iload_n 3, 1) := by decide +kernel
theorem dX7_strip_62 : decode cX7_strip 62 = .ok (.iadd, 1) := by decide +kernel
theorem dX7_strip_63 : decode cX7_strip 63 = .ok (.iaload, 1) := by decide +kernel
theorem dX7_strip_64 : decode cX7_strip 64 = .ok (.goto 8, 3) := by decide +kernel
theorem dX7_strip_67 : decode cX7_strip 67 = .ok (.aload_n 0, 1) := by decide +kernel
theorem dX7_strip_68 : decode cX7_strip 68 = .ok (.iconst 2, 1) := by decide +kernel
theorem dX7_strip_69 : decode cX7_strip 69 = .ok (.invokevirtual 61, 3) := by decide +kernel
theorem dX7_strip_72 : decode cX7_strip 72 = .ok (.ireturn, 1) := by decide +kernel
theorem dX7_isOnLine_0 : decode cX7_isOnLine 0 = .ok (.iload_n 2, 1) := by decide +kernel
theorem dX7_isOnLine_1 : decode cX7_isOnLine 1 = .ok (.ifCond .ne 7, 3) := by decide +kernel
theorem dX7_isOnLine_4 : decode cX7_isOnLine 4 = .ok (.iload_n 1, 1) := by decide +kernel
theorem dX7_isOnLine_5 : decode cX7_isOnLine 5 = .ok (.goto 26, 3) := by decide +kernel
theorem dX7_isOnLine_8 : decode cX7_isOnLine 8 = .ok (.iload_n 2, 1) := by decide +kernel
theorem dX7_isOnLine_9 : decode cX7_isOnLine 9 = .ok (.iconst 1, 1) := by decide +kernel
theorem dX7_isOnLine_10 : decode cX7_isOnLine 10 = .ok (.if_icmp .ne 7, 3) := by decide +kernel
theorem dX7_isOnLine_13 : decode cX7_isOnLine 13 = .ok (.iload_n 0, 1) := by decide +kernel
theorem dX7_isOnLine_14 : decode cX7_isOnLine 14 = .ok (.goto 17, 3) := by decide +kernel
theorem dX7_isOnLine_17 : decode cX7_isOnLine 17 = .ok (.iload_n 2, 1) := by decide +kernel
theorem dX7_isOnLine_18 : decode cX7_isOnLine 18 = .ok (.iconst 2, 1) := by decide +kernel
theorem dX7_isOnLine_19 : decode cX7_isOnLine 19 = .ok (.if_icmp .ne 9, 3) := by decide +kernel
theorem dX7_isOnLine_22 : decode cX7_isOnLine 22 = .ok (.iload_n 0, 1) := by decide +kernel
theorem dX7_isOnLine_23 : decode cX7_isOnLine 23 = .ok (.iload_n 1, 1) := by decide +kernel
theorem dX7_isOnLine_24 : decode cX7_isOnLine 24 = .ok (.iadd, 1) := by decide +kernel
theorem dX7_isOnLine_25 : decode cX7_isOnLine 25 = .ok (.goto 6, 3) := by decide +kernel
theorem dX7_isOnLine_28 : decode cX7_isOnLine 28 = .ok (.iload_n 0, 1) := by decide +kernel
theorem dX7_isOnLine_29 : decode cX7_isOnLine 29 = .ok (.iload_n 1, 1) := by decide +kernel
theorem dX7_isOnLine_30 : decode cX7_isOnLine 30 = .ok (.isub, 1) := by decide +kernel
theorem dX7_isOnLine_31 : decode cX7_isOnLine 31 = .ok (.istore 5, 2) := by decide +kernel
theorem dX7_isOnLine_33 : decode cX7_isOnLine 33 = .ok (.iload 5, 2) := by decide +kernel
theorem dX7_isOnLine_35 : decode cX7_isOnLine 35 = .ok (.iload 4, 2) := by decide +kernel
theorem dX7_isOnLine_37 : decode cX7_isOnLine 37 = .ok (.isub, 1) := by decide +kernel
theorem dX7_isOnLine_38 : decode cX7_isOnLine 38 = .ok (.iload_n 3, 1) := by decide +kernel
theorem dX7_isOnLine_39 : decode cX7_isOnLine 39 = .ok (.irem, 1) := by decide +kernel
theorem dX7_isOnLine_40 : decode cX7_isOnLine 40 = .ok (.ifCond .ne 7, 3) := by decide +kernel
theorem dX7_isOnLine_43 : decode cX7_isOnLine 43 = .ok (.iconst 1, 1) := by decide +kernel
theorem dX7_isOnLine_44 : decode cX7_isOnLine 44 = .ok (.goto 4, 3) := by decide +kernel
theorem dX7_isOnLine_47 : decode cX7_isOnLine 47 = .ok (.iconst 0, 1) := by decide +kernel
theorem dX7_isOnLine_48 : decode cX7_isOnLine 48 = .ok (.ireturn, 1) := by decide +kernel
theorem dX7_hatching_0 : decode cX7_hatching 0 = .ok (.aload_n 0, 1) := by decide +kernel
theorem dX7_hatching_1 : decode cX7_hatching 1 = .ok (.iconst 0, 1) := by decide +kernel
theorem dX7_hatching_2 : decode cX7_hatching 2 = .ok (.putfield 33, 3) := by decide +kernel
theorem dX7_hatching_5 : decode cX7_hatching 5 = .ok (.iload_n 1, 1) := by decide +kernel
theorem dX7_hatching_6 : decode cX7_hatching 6 = .ok (.invokestatic 76, 3) := by decide +kernel
theorem dX7_hatching_9 : decode cX7_hatching 9 = .ok (.ifCond .ne 9, 3) := by decide +kernel
theorem dX7_hatching_12 : decode cX7_hatching 12 = .ok (.aload_n 0, 1) := by decide +kernel
theorem dX7_hatching_13 : decode cX7_hatching 13 = .ok (.iconst 1, 1) := by decide +kernel
theorem dX7_hatching_14 : decode cX7_hatching 14 = .ok (.invokevirtual 61, 3) := by decide +kernel
theorem dX7_hatching_17 : decode cX7_hatching 17 = .ok (.ireturn, 1) := by decide +kernel
theorem dX7_hatching_18 : decode cX7_hatching 18 = .ok (.iload_n 2, 1) := by decide +kernel
theorem dX7_hatching_19 : decode cX7_hatching 19 = .ok (.iconst 0, 1) := by decide +kernel
theorem dX7_hatching_20 : decode cX7_hatching 20 = .ok (.iconst 3, 1) := by decide +kernel
theorem dX7_hatching_21 : decode cX7_hatching 21 = .ok (.invokestatic 36, 3) := by decide +kernel
theorem dX7_hatching_24 : decode cX7_hatching 24 = .ok (.ifCond .eq 25, 3) := by decide +kernel
theorem dX7_hatching_27 : decode cX7_hatching 27 = .ok (.iload_n 3, 1) := by decide +kernel
theorem dX7_hatching_28 : decode cX7_hatching 28 = .ok (.iconst 1, 1) := by decide +kernel
theorem dX7_hatching_29 : decode cX7_hatching 29 = .ok (.bipush 20, 2) := by decide +kernel
theorem dX7_hatching_31 : decode cX7_hatching 31 = .ok (.invokestatic 36, 3) := by decide +kernel
theorem dX7_hatching_34 : decode cX7_hatching 34 = .ok (.ifCond .eq 15, 3) := by decide +kernel
theorem dX7_hatching_37 : decode cX7_hatching 37 = .ok (.iload 4, 2) := by decide +kernel
theorem dX7_hatching_39 : decode cX7_hatching 39 = .ok (.bipush (-100), 2) := by decide +kernel
theorem dX7_hatching_41 : decode cX7_hatching 41 = .ok (.bipush 100, 2) := by decide +kernel
theorem dX7_hatching_43 : decode cX7_hatching 43 = .ok (.invokestatic 36, 3) := by decide +kernel
theorem dX7_hatching_46 : decode cX7_hatching 46 = .ok (.ifCond .ne 9, 3) := by decide +kernel
theorem dX7_hatching_49 : decode cX7_hatching 49 = .ok (.aload_n 0, 1) := by decide +kernel
theorem dX7_hatching_50 : decode cX7_hatching 50 = .ok (.iconst 2, 1) := by decide +kernel
theorem dX7_hatching_51 : decode cX7_hatching 51 = .ok (.invokevirtual 61, 3) := by decide +kernel
theorem dX7_hatching_54 : decode cX7_hatching 54 = .ok (.ireturn, 1) := by decide +kernel
theorem dX7_hatching_55 : decode cX7_hatching 55 = .ok (.iconst 0, 1) := by decide +kernel
theorem dX7_hatching_56 : decode cX7_hatching 56 = .ok (.istore 6, 2) := by decide +kernel
theorem dX7_hatching_58 : decode cX7_hatching 58 = .ok (.bipush (-32), 2) := by decide +kernel
theorem dX7_hatching_60 : decode cX7_hatching 60 = .ok (.istore 7, 2) := by decide +kernel
theorem dX7_hatching_62 : decode cX7_hatching 62 = .ok (.iload 7, 2) := by decide +kernel
theorem dX7_hatching_64 : decode cX7_hatching 64 = .ok (.bipush 31, 2) := by decide +kernel
theorem dX7_hatching_66 : decode cX7_hatching 66 = .ok (.if_icmp .gt 134, 3) := by decide +kernel
theorem dX7_hatching_69 : decode cX7_hatching 69 = .ok (.bipush (-32), 2) := by decide +kernel
theorem dX7_hatching_71 : decode cX7_hatching 71 = .ok (.istore 8, 2) := by decide +kernel
theorem dX7_hatching_73 : decode cX7_hatching 73 = .ok (.iload 8, 2) := by decide +kernel
theorem dX7_hatching_75 : decode cX7_hatching 75 = .ok (.bipush 31, 2) := by decide +kernel
theorem dX7_hatching_77 : decode cX7_hatching 77 = .ok (.if_icmp .gt 117, 3) := by decide +kernel
theorem dX7_hatching_80 : decode cX7_hatching 80 = .ok (.aload_n 0, 1) := by decide +kernel
theorem dX7_hatching_81 : decode cX7_hatching 81 = .ok (.getfield 11, 3) := by decide +kernel
theorem dX7_hatching_84 : decode cX7_hatching 84 = .ok (.iload_n 1, 1) := by decide +kernel
theorem dX7_hatching_85 : decode cX7_hatching 85 = .ok (.aaload, 1) := by decide +kernel
theorem dX7_hatching_86 : decode cX7_hatching 86 = .ok (.iload 7, 2) := by decide +kernel
theorem dX7_hatching_88 : decode cX7_hatching 88 = .ok (.iload 8, 2) := by decide +kernel
theorem dX7_hatching_90 : decode cX7_hatching 90 = .ok (.invokestatic 44, 3) := by decide +kernel
theorem dX7_hatching_93 : decode cX7_hatching 93 = .ok (.baload, 1) := by decide +kernel
theorem dX7_hatching_94 : decode cX7_hatching 94 = .ok (.ifCond .eq 94, 3) := by decide +kernel
theorem dX7_hatching_97 : decode cX7_hatching 97 = .ok (.iload 7, 2) := by decide +kernel
theorem dX7_hatching_99 : decode cX7_hatching 99 = .ok (.iload 8, 2) := by decide +kernel
theorem dX7_hatching_101 : decode cX7_hatching 101 = .ok (.iload_n 2, 1) := by decide +kernel
theorem dX7_hatching_102 : decode cX7_hatching 102 = .ok (.iload_n 3, 1) := by decide +kernel
theorem dX7_hatching_103 : decode cX7_hatching 103 = .ok (.iload 4, 2) := by decide +kernel
theorem dX7_hatching_105 : decode cX7_hatching 105 = .ok (.invokestatic 158, 3) := by decide +kernel
theorem dX7_hatching_108 : decode cX7_hatching 108 = .ok (.ifCond .ne 6, 3) := by decide +kernel
theorem dX7_hatching_111 : decode cX7_hatching 111 = .ok (.goto 77, 3) := by decide +kernel
theorem dX7_hatching_114 : decode cX7_hatching 114 = .ok (.iload_n 2, 1) := by decide +kernel
theorem dX7_hatching_115 : decode cX7_hatching 115 = .ok (.iconst 1, 1) := by decide +kernel
theorem dX7_hatching_116 : decode cX7_hatching 116 = .ok (.if_icmp .ne 8, 3) := by decide +kernel
theorem dX7_hatching_119 : decode cX7_hatching 119 = .ok (.iload 7, 2) := by decide +kernel
theorem dX7_hatching_121 : decode cX7_hatching 121 = .ok (.goto 7, 3) := by decide +kernel
theorem dX7_hatching_124 : decode cX7_hatching 124 = .ok (.iload 7, 2) := by decide +kernel
theorem dX7_hatching_126 : decode cX7_hatching 126 = .ok (.iconst 1, 1) := by decide +kernel
theorem dX7_hatching_127 : decode cX7_hatching 127 = .ok (.isub, 1) := by decide +kernel
theorem dX7_hatching_128 : decode cX7_hatching 128 = .ok (.istore 9, 2) := by decide +kernel
theorem dX7_hatching_130 : decode cX7_hatching 130 = .ok (.iload_n 2, 1) := by decide +kernel
theorem dX7_hatching_131 : decode cX7_hatching 131 = .ok (.ifCond .ne 8, 3) := by decide +kernel
theorem dX7_hatching_134 : decode cX7_hatching 134 = .ok (.iload 8, 2) := by decide +kernel
theorem dX7_hatching_136 : decode cX7_hatching 136 = .ok (.goto 19, 3) := by decide +kernel
theorem dX7_hatching_139 : decode cX7_hatching 139 = .ok (.iload_n 2, 1) := by decide +kernel
theorem dX7_hatching_140 : decode cX7_hatching 140 = .ok (.iconst 2, 1) := by decide +kernel
theorem dX7_hatching_141 : decode cX7_hatching 141 = .ok (.if_icmp .ne 10, 3) := by decide +kernel
theorem dX7_hatching_144 : decode cX7_hatching 144 = .ok (.iload 8, 2) := by decide +kernel
theorem dX7_hatching_146 : decode cX7_hatching 146 = .ok (.iconst 1, 1) := by decide +kernel
theorem dX7_hatching_147 : decode cX7_hatching 147 = .ok (.iadd, 1) := by decide +kernel
theorem dX7_hatching_148 : decode cX7_hatching 148 = .ok (.goto 7, 3) := by decide +kernel
theorem dX7_hatching_151 : decode cX7_hatching 151 = .ok (.iload 8, 2) := by decide +kernel
theorem dX7_hatching_153 : decode cX7_hatching 153 = .ok (.iconst 1, 1) := by decide +kernel
theorem dX7_hatching_154 : decode cX7_hatching 154 = .ok (.isub, 1) := by decide +kernel
theorem dX7_hatching_155 : decode cX7_hatching 155 = .ok (.istore 10, 2) := by decide +kernel
theorem dX7_hatching_157 : decode cX7_hatching 157 = .ok (.iload 6, 2) := by decide +kernel
theorem dX7_hatching_159 : decode cX7_hatching 159 = .ok (.iload 5, 2) := by decide +kernel
theorem dX7_hatching_161 : decode cX7_hatching 161 = .ok (.ifCond .eq 23, 3) := by decide +kernel
theorem dX7_hatching_164 : decode cX7_hatching 164 = .ok (.aload_n 0, 1) := by decide +kernel
theorem dX7_hatching_165 : decode cX7_hatching 165 = .ok (.getfield 11, 3) := by decide +kernel
theorem dX7_hatching_168 : decode cX7_hatching 168 = .ok (.iload_n 1, 1) := by decide +kernel
theorem dX7_hatching_169 : decode cX7_hatching 169 = .ok (.aaload, 1) := by decide +kernel
theorem dX7_hatching_170 : decode cX7_hatching 170 = .ok (.iload 9, 2) := by decide +kernel
theorem dX7_hatching_172 : decode cX7_hatching 172 = .ok (.iload 10, 2) := by decide +kernel
theorem dX7_hatching_174 : decode cX7_hatching 174 = .ok (.invokestatic 95, 3) := by decide +kernel
theorem dX7_hatching_177 : decode cX7_hatching 177 = .ok (.ifCond .eq 7, 3) := by decide +kernel
theorem dX7_hatching_180 : decode cX7_hatching 180 = .ok (.iconst 0, 1) := by decide +kernel
theorem dX7_hatching_181 : decode cX7_hatching 181 = .ok (.goto 4, 3) := by decide +kernel
theorem dX7_hatching_184 : decode cX7_hatching 184 = .ok (.iconst 1, 1) := by decide +kernel
theorem dX7_hatching_185 : decode cX7_hatching 185 = .ok (.iadd, 1) := by decide +kernel
theorem dX7_hatching_186 : decode cX7_hatching 186 = .ok (.istore 6, 2) := by decide +kernel
theorem dX7_hatching_188 : decode cX7_hatching 188 = .ok (.iinc 8 1, 3) := by decide +kernel
theorem dX7_hatching_191 : decode cX7_hatching 191 = .ok (.goto (-118), 3) := by decide +kernel
theorem dX7_hatching_194 : decode cX7_hatching 194 = .ok (.iinc 7 1, 3) := by decide +kernel
theorem dX7_hatching_197 : decode cX7_hatching 197 = .ok (.goto (-135), 3) := by decide +kernel
theorem dX7_hatching_200 : decode cX7_hatching 200 = .ok (.iload 6, 2) := by decide +kernel
theorem dX7_hatching_202 : decode cX7_hatching 202 = .ok (.ireturn, 1) := by decide +kernel
theorem dX7_hatch_0 : decode cX7_hatch 0 = .ok (.aload_n 0, 1) := by decide +kernel
theorem dX7_hatch_1 : decode cX7_hatch 1 = .ok (.iload_n 1, 1) := by decide +kernel
theorem dX7_hatch_2 : decode cX7_hatch 2 = .ok (.iload_n 2, 1) := by decide +kernel
theorem dX7_hatch_3 : decode cX7_hatch 3 = .ok (.iload_n 3, 1) := by decide +kernel
theorem dX7_hatch_4 : decode cX7_hatch 4 = .ok (.iload 4, 2) := by decide +kernel
theorem dX7_hatch_6 : decode cX7_hatch 6 = .ok (.iconst 1, 1) := by decide +kernel
theorem dX7_hatch_7 : decode cX7_hatch 7 = .ok (.invokevirtual 162, 3) := by decide +kernel
theorem dX7_hatch_10 : decode cX7_hatch 10 = .ok (.ireturn, 1) := by decide +kernel
theorem dX7_hatched_0 : decode cX7_hatched 0 = .ok (.aload_n 0, 1) := by decide +kernel
theorem dX7_hatched_1 : decode cX7_hatched 1 = .ok (.iload_n 1, 1) := by decide +kernel
theorem dX7_hatched_2 : decode cX7_hatched 2 = .ok (.iload_n 2, 1) := by decide +kernel
theorem dX7_hatched_3 : decode cX7_hatched 3 = .ok (.iload_n 3, 1) := by decide +kernel
theorem dX7_hatched_4 : decode cX7_hatched 4 = .ok (.iload 4, 2) := by decide +kernel
theorem dX7_hatched_6 : decode cX7_hatched 6 = .ok (.iconst 0, 1) := by decide +kernel
theorem dX7_hatched_7 : decode cX7_hatched 7 = .ok (.invokevirtual 162, 3) := by decide +kernel
theorem dX7_hatched_10 : decode cX7_hatched 10 = .ok (.ireturn, 1) := by decide +kernel
theorem dX7_apart_0 : decode cX7_apart 0 = .ok (.aload_n 0, 1) := by decide +kernel
theorem dX7_apart_1 : decode cX7_apart 1 = .ok (.iconst 0, 1) := by decide +kernel
theorem dX7_apart_2 : decode cX7_apart 2 = .ok (.putfield 33, 3) := by decide +kernel
theorem dX7_apart_5 : decode cX7_apart 5 = .ok (.iload_n 1, 1) := by decide +kernel
theorem dX7_apart_6 : decode cX7_apart 6 = .ok (.invokestatic 76, 3) := by decide +kernel
theorem dX7_apart_9 : decode cX7_apart 9 = .ok (.ifCond .eq 10, 3) := by decide +kernel
theorem dX7_apart_12 : decode cX7_apart 12 = .ok (.iload_n 2, 1) := by decide +kernel
theorem dX7_apart_13 : decode cX7_apart 13 = .ok (.invokestatic 76, 3) := by decide +kernel
theorem dX7_apart_16 : decode cX7_apart 16 = .ok (.ifCond .ne 9, 3) := by decide +kernel
theorem dX7_apart_19 : decode cX7_apart 19 = .ok (.aload_n 0, 1) := by decide +kernel
theorem dX7_apart_20 : decode cX7_apart 20 = .ok (.iconst 1, 1) := by decide +kernel
theorem dX7_apart_21 : decode cX7_apart 21 = .ok (.invokevirtual 61, 3) := by decide +kernel
theorem dX7_apart_24 : decode cX7_apart 24 = .ok (.ireturn, 1) := by decide +kernel
theorem dX7_apart_25 : decode cX7_apart 25 = .ok (.aload_n 0, 1) := by decide +kernel
theorem dX7_apart_26 : decode cX7_apart 26 = .ok (.getfield 11, 3) := by decide +kernel
theorem dX7_apart_29 : decode cX7_apart 29 = .ok (.iload_n 1, 1) := by decide +kernel
theorem dX7_apart_30 : decode cX7_apart 30 = .ok (.aaload, 1) := by decide +kernel
theorem dX7_apart_31 : decode cX7_apart 31 = .ok (.invokestatic 57, 3) := by decide +kernel
theorem dX7_apart_34 : decode cX7_apart 34 = .ok (.ifCond .eq 15, 3) := by decide +kernel
theorem dX7_apart_37 : decode cX7_apart 37 = .ok (.aload_n 0, 1) := by decide +kernel
theorem dX7_apart_38 : decode cX7_apart 38 = .ok (.getfield 11, 3) := by decide +kernel
theorem dX7_apart_41 : decode cX7_apart 41 = .ok (.iload_n 2, 1) := by decide +kernel
theorem dX7_apart_42 : decode cX7_apart 42 = .ok (.aaload, 1) := by decide +kernel
theorem dX7_apart_43 : decode cX7_apart 43 = .ok (.invokestatic 57, 3) := by decide +kernel
theorem dX7_apart_46 : decode cX7_apart 46 = .ok (.ifCond .ne 5, 3) := by decide +kernel
theorem dX7_apart_49 : decode cX7_apart 49 = .ok (.iconst (-1), 1) := by decide +kernel
theorem dX7_apart_50 : decode cX7_apart 50 = .ok (.ireturn, 1) := by decide +kernel
theorem dX7_apart_51 : decode cX7_apart 51 = .ok (.aload_n 0, 1) := by decide +kernel
theorem dX7_apart_52 : decode cX7_apart 52 = .ok (.getfield 11, 3) := by decide +kernel
theorem dX7_apart_55 : decode cX7_apart 55 = .ok (.iload_n 1, 1) := by decide +kernel
theorem dX7_apart_56 : decode cX7_apart 56 = .ok (.aaload, 1) := by decide +kernel
theorem dX7_apart_57 : decode cX7_apart 57 = .ok (.astore_n 3, 1) := by decide +kernel
theorem dX7_apart_58 : decode cX7_apart 58 = .ok (.iconst 0, 1) := by decide +kernel
theorem dX7_apart_59 : decode cX7_apart 59 = .ok (.istore 4, 2) := by decide +kernel
theorem dX7_apart_61 : decode cX7_apart 61 = .ok (.iconst 0, 1) := by decide +kernel
theorem dX7_apart_62 : decode cX7_apart 62 = .ok (.istore 5, 2) := by decide +kernel
theorem dX7_apart_64 : decode cX7_apart 64 = .ok (.iload 5, 2) := by decide +kernel
theorem dX7_apart_66 : decode cX7_apart 66 = .ok (.sipush 4096, 3) := by decide +kernel
theorem dX7_apart_69 : decode cX7_apart 69 = .ok (.if_icmp .ge 31, 3) := by decide +kernel
theorem dX7_apart_72 : decode cX7_apart 72 = .ok (.aload_n 3, 1) := by decide +kernel
theorem dX7_apart_73 : decode cX7_apart 73 = .ok (.iload 5, 2) := by decide +kernel
theorem dX7_apart_75 : decode cX7_apart 75 = .ok (.baload, 1) := by decide +kernel
theorem dX7_apart_76 : decode cX7_apart 76 = .ok (.ifCond .eq 18, 3) := by decide +kernel
theorem dX7_apart_79 : decode cX7_apart 79 = .ok (.aload_n 0, 1) := by decide +kernel
theorem dX7_apart_80 : decode cX7_apart 80 = .ok (.getfield 11, 3) := by decide +kernel
theorem dX7_apart_83 : decode cX7_apart 83 = .ok (.iload_n 2, 1) := by decide +kernel
theorem dX7_apart_84 : decode cX7_apart 84 = .ok (.aaload, 1) := by decide +kernel
theorem dX7_apart_85 : decode cX7_apart 85 = .ok (.iload 5, 2) := by decide +kernel
theorem dX7_apart_87 : decode cX7_apart 87 = .ok (.baload, 1) := by decide +kernel
theorem dX7_apart_88 : decode cX7_apart 88 = .ok (.ifCond .eq 6, 3) := by decide +kernel
theorem dX7_apart_91 : decode cX7_apart 91 = .ok (.iload 4, 2) := by decide +kernel
theorem dX7_apart_93 : decode cX7_apart 93 = .ok (.ireturn, 1) := by decide +kernel
theorem dX7_apart_94 : decode cX7_apart 94 = .ok (.iinc 5 1, 3) := by decide +kernel
theorem dX7_apart_97 : decode cX7_apart 97 = .ok (.goto (-33), 3) := by decide +kernel
theorem dX7_apart_100 : decode cX7_apart 100 = .ok (.sipush 4096, 3) := by decide +kernel
theorem dX7_apart_103 : decode cX7_apart 103 = .ok (.newarray .boolean, 2) := by decide +kernel
theorem dX7_apart_105 : decode cX7_apart 105 = .ok (.astore 5, 2) := by decide +kernel
theorem dX7_apart_107 : decode cX7_apart 107 = .ok (.bipush (-32), 2) := by decide +kernel
theorem dX7_apart_109 : decode cX7_apart 109 = .ok (.istore 6, 2) := by decide +kernel
theorem dX7_apart_111 : decode cX7_apart 111 = .ok (.iload 6, 2) := by decide +kernel
theorem dX7_apart_113 : decode cX7_apart 113 = .ok (.bipush 31, 2) := by decide +kernel
theorem dX7_apart_115 : decode cX7_apart 115 = .ok (.if_icmp .gt 106, 3) := by decide +kernel
theorem dX7_apart_118 : decode cX7_apart 118 = .ok (.bipush (-32), 2) := by decide +kernel
theorem dX7_apart_120 : decode cX7_apart 120 = .ok (.istore 7, 2) := by decide +kernel
theorem dX7_apart_122 : decode cX7_apart 122 = .ok (.iload 7, 2) := by decide +kernel
theorem dX7_apart_124 : decode cX7_apart 124 = .ok (.bipush 31, 2) := by decide +kernel
theorem dX7_apart_126 : decode cX7_apart 126 = .ok (.if_icmp .gt 89, 3) := by decide +kernel
theorem dX7_apart_129 : decode cX7_apart 129 = .ok (.aload_n 3, 1) := by decide +kernel
theorem dX7_apart_130 : decode cX7_apart 130 = .ok (.iload 6, 2) := by decide +kernel
theorem dX7_apart_132 : decode cX7_apart 132 = .ok (.iload 7, 2) := by decide +kernel
theorem dX7_apart_134 : decode cX7_apart 134 = .ok (.invokestatic 44, 3) := by decide +kernel
theorem dX7_apart_137 : decode cX7_apart 137 = .ok (.baload, 1) := by decide +kernel
theorem dX7_apart_138 : decode cX7_apart 138 = .ok (.ifCond .ne 6, 3) := by decide +kernel
theorem dX7_apart_141 : decode cX7_apart 141 = .ok (.goto 68, 3) := by decide +kernel
theorem dX7_apart_144 : decode cX7_apart 144 = .ok (.iconst 0, 1) := by decide +kernel
theorem dX7_apart_145 : decode cX7_apart 145 = .ok (.istore 8, 2) := by decide +kernel
theorem dX7_apart_147 : decode cX7_apart 147 = .ok (.iload 8, 2) := by decide +kernel
theorem dX7_apart_149 : decode cX7_apart 149 = .ok (.bipush 9, 2) := by decide +kernel
theorem dX7_apart_151 : decode cX7_apart 151 = .ok (.if_icmp .ge 58, 3) := by decide +kernel
theorem dX7_apart_154 : decode cX7_apart 154 = .ok (.iload 6, 2) := by decide +kernel
theorem dX7_apart_156 : decode cX7_apart 156 = .ok (.iload 8, 2) := by decide +kernel
theorem dX7_apart_158 : decode cX7_apart 158 = .ok (.iconst 3, 1) := by decide +kernel
theorem dX7_apart_159 : decode cX7_apart 159 = .ok (.irem, 1) := by decide +kernel
theorem dX7_apart_160 : decode cX7_apart 160 = .ok (.iadd, 1) := by decide +kernel
theorem dX7_apart_161 : decode cX7_apart 161 = .ok (.iconst 1, 1) := by decide +kernel
theorem dX7_apart_162 : decode cX7_apart 162 = .ok (.isub, 1) := by decide +kernel
theorem dX7_apart_163 : decode cX7_apart 163 = .ok (.iload 7, 2) := by decide +kernel
theorem dX7_apart_165 : decode cX7_apart 165 = .ok (.iload 8, 2) := by decide +kernel
theorem dX7_apart_167 : decode cX7_apart 167 = .ok (.iconst 3, 1) := by decide +kernel
theorem dX7_apart_168 : decode cX7_apart 168 = .ok (.idiv, 1) := by decide +kernel
theorem dX7_apart_169 : decode cX7_apart 169 = .ok (.iadd, 1) := by decide +kernel
theorem dX7_apart_170 : decode cX7_apart 170 = .ok (.iconst 1, 1) := by decide +kernel
theorem dX7_apart_171 : decode cX7_apart 171 = .ok (.isub, 1) := by decide +kernel
theorem dX7_apart_172 : decode cX7_apart 172 = .ok (.invokestatic 40, 3) := by decide +kernel
theorem dX7_apart_175 : decode cX7_apart 175 = .ok (.ifCond .eq 28, 3) := by decide +kernel
theorem dX7_apart_178 : decode cX7_apart 178 = .ok (.aload 5, 2) := by decide +kernel
theorem dX7_apart_180 : decode cX7_apart 180 = .ok (.iload 6, 2) := by decide +kernel
theorem dX7_apart_182 : decode cX7_apart 182 = .ok (.iload 8, 2) := by decide +kernel
theorem dX7_apart_184 : decode cX7_apart 184 = .ok (.iconst 3, 1) := by decide +kernel
theorem dX7_apart_185 : decode cX7_apart 185 = .ok (.irem, 1) := by decide +kernel
theorem dX7_apart_186 : decode cX7_apart 186 = .ok (.iadd, 1) := by decide +kernel
theorem dX7_apart_187 : decode cX7_apart 187 = .ok (.iconst 1, 1) := by decide +kernel
theorem dX7_apart_188 : decode cX7_apart 188 = .ok (.isub, 1) := by decide +kernel
theorem dX7_apart_189 : decode cX7_apart 189 = .ok (.iload 7, 2) := by decide +kernel
theorem dX7_apart_191 : decode cX7_apart 191 = .ok (.iload 8, 2) := by decide +kernel
theorem dX7_apart_193 : decode cX7_apart 193 = .ok (.iconst 3, 1) := by decide +kernel
theorem dX7_apart_194 : decode cX7_apart 194 = .ok (.idiv, 1) := by decide +kernel
theorem dX7_apart_195 : decode cX7_apart 195 = .ok (.iadd, 1) := by decide +kernel
theorem dX7_apart_196 : decode cX7_apart 196 = .ok (.iconst 1, 1) := by decide +kernel
theorem dX7_apart_197 : decode cX7_apart 197 = .ok (.isub, 1) := by decide +kernel
theorem dX7_apart_198 : decode cX7_apart 198 = .ok (.invokestatic 44, 3) := by decide +kernel
theorem dX7_apart_201 : decode cX7_apart 201 = .ok (.iconst 1, 1) := by decide +kernel
theorem dX7_apart_202 : decode cX7_apart 202 = .ok (.bastore, 1) := by decide +kernel
theorem dX7_apart_203 : decode cX7_apart 203 = .ok (.iinc 8 1, 3) := by decide +kernel
theorem dX7_apart_206 : decode cX7_apart 206 = .ok (.goto (-59), 3) := by decide +kernel
theorem dX7_apart_209 : decode cX7_apart 209 = .ok (.iinc 7 1, 3) := by decide +kernel
theorem dX7_apart_212 : decode cX7_apart 212 = .ok (.goto (-90), 3) := by decide +kernel
theorem dX7_apart_215 : decode cX7_apart 215 = .ok (.iinc 6 1, 3) := by decide +kernel
theorem dX7_apart_218 : decode cX7_apart 218 = .ok (.goto (-107), 3) := by decide +kernel
theorem dX7_apart_221 : decode cX7_apart 221 = .ok (.aload 5, 2) := by decide +kernel
theorem dX7_apart_223 : decode cX7_apart 223 = .ok (.astore_n 3, 1) := by decide +kernel
theorem dX7_apart_224 : decode cX7_apart 224 = .ok (.iinc 4 1, 3) := by decide +kernel
theorem dX7_apart_227 : decode cX7_apart 227 = .ok (.goto (-166), 3) := by decide +kernel
theorem dX7_isSameForm_0 : decode cX7_isSameForm 0 = .ok (.aload_n 0, 1) := by decide +kernel
theorem dX7_isSameForm_1 : decode cX7_isSameForm 1 = .ok (.iload_n 1, 1) := by decide +kernel
theorem dX7_isSameForm_2 : decode cX7_isSameForm 2 = .ok (.invokestatic 76, 3) := by decide +kernel
theorem dX7_isSameForm_5 : decode cX7_isSameForm 5 = .ok (.ifCond .eq 14, 3) := by decide +kernel
theorem dX7_isSameForm_8 : decode cX7_isSameForm 8 = .ok (.iload_n 2, 1) := by decide +kernel
theorem dX7_isSameForm_9 : decode cX7_isSameForm 9 = .ok (.invokestatic 76, 3) := by decide +kernel
theorem dX7_isSameForm_12 : decode cX7_isSameForm 12 = .ok (.ifCond .eq 7, 3) := by decide +kernel
theorem dX7_isSameForm_15 : decode cX7_isSameForm 15 = .ok (.iconst 0, 1) := by decide +kernel
theorem dX7_isSameForm_16 : decode cX7_isSameForm 16 = .ok (.goto 4, 3) := by decide +kernel
theorem dX7_isSameForm_19 : decode cX7_isSameForm 19 = .ok (.iconst 1, 1) := by decide +kernel
theorem dX7_isSameForm_20 : decode cX7_isSameForm 20 = .ok (.putfield 33, 3) := by decide +kernel
theorem dX7_isSameForm_23 : decode cX7_isSameForm 23 = .ok (.aload_n 0, 1) := by decide +kernel
theorem dX7_isSameForm_24 : decode cX7_isSameForm 24 = .ok (.getfield 33, 3) := by decide +kernel
theorem dX7_isSameForm_27 : decode cX7_isSameForm 27 = .ok (.ifCond .eq 5, 3) := by decide +kernel
theorem dX7_isSameForm_30 : decode cX7_isSameForm 30 = .ok (.iconst 0, 1) := by decide +kernel
theorem dX7_isSameForm_31 : decode cX7_isSameForm 31 = .ok (.ireturn, 1) := by decide +kernel
theorem dX7_isSameForm_32 : decode cX7_isSameForm 32 = .ok (.aload_n 0, 1) := by decide +kernel
theorem dX7_isSameForm_33 : decode cX7_isSameForm 33 = .ok (.iload_n 2, 1) := by decide +kernel
theorem dX7_isSameForm_34 : decode cX7_isSameForm 34 = .ok (.iconst 0, 1) := by decide +kernel
theorem dX7_isSameForm_35 : decode cX7_isSameForm 35 = .ok (.invokevirtual 117, 3) := by decide +kernel
theorem dX7_isSameForm_38 : decode cX7_isSameForm 38 = .ok (.aload_n 0, 1) := by decide +kernel
theorem dX7_isSameForm_39 : decode cX7_isSameForm 39 = .ok (.iload_n 1, 1) := by decide +kernel
theorem dX7_isSameForm_40 : decode cX7_isSameForm 40 = .ok (.iconst 0, 1) := by decide +kernel
theorem dX7_isSameForm_41 : decode cX7_isSameForm 41 = .ok (.invokevirtual 117, 3) := by decide +kernel
theorem dX7_isSameForm_44 : decode cX7_isSameForm 44 = .ok (.isub, 1) := by decide +kernel
theorem dX7_isSameForm_45 : decode cX7_isSameForm 45 = .ok (.istore_n 3, 1) := by decide +kernel
theorem dX7_isSameForm_46 : decode cX7_isSameForm 46 = .ok (.aload_n 0, 1) := by decide +kernel
theorem dX7_isSameForm_47 : decode cX7_isSameForm 47 = .ok (.iload_n 2, 1) := by decide +kernel
theorem dX7_isSameForm_48 : decode cX7_isSameForm 48 = .ok (.iconst 1, 1) := by decide +kernel
theorem dX7_isSameForm_49 : decode cX7_isSameForm 49 = .ok (.invokevirtual 117, 3) := by decide +kernel
theorem dX7_isSameForm_52 : decode cX7_isSameForm 52 = .ok (.aload_n 0, 1) := by decide +kernel
theorem dX7_isSameForm_53 : decode cX7_isSameForm 53 = .ok (.iload_n 1, 1) := by decide +kernel
theorem dX7_isSameForm_54 : decode cX7_isSameForm 54 = .ok (.iconst 1, 1) := by decide +kernel
theorem dX7_isSameForm_55 : decode cX7_isSameForm 55 = .ok (.invokevirtual 117, 3) := by decide +kernel
theorem dX7_isSameForm_58 : decode cX7_isSameForm 58 = .ok (.isub, 1) := by decide +kernel
theorem dX7_isSameForm_59 : decode cX7_isSameForm 59 = .ok (.istore 4, 2) := by decide +kernel
theorem dX7_isSameForm_61 : decode cX7_isSameForm 61 = .ok (.aload_n 0, 1) := by decide +kernel
theorem dX7_isSameForm_62 : decode cX7_isSameForm 62 = .ok (.getfield 11, 3) := by decide +kernel
theorem dX7_isSameForm_65 : decode cX7_isSameForm 65 = .ok (.iload_n 1, 1) := by decide +kernel
theorem dX7_isSameForm_66 : decode cX7_isSameForm 66 = .ok (.aaload, 1) := by decide +kernel
theorem dX7_isSameForm_67 : decode cX7_isSameForm 67 = .ok (.invokestatic 57, 3) := by decide +kernel
theorem dX7_isSameForm_70 : decode cX7_isSameForm 70 = .ok (.aload_n 0, 1) := by decide +kernel
theorem dX7_isSameForm_71 : decode cX7_isSameForm 71 = .ok (.getfield 11, 3) := by decide +kernel
theorem dX7_isSameForm_74 : decode cX7_isSameForm 74 = .ok (.iload_n 2, 1) := by decide +kernel
theorem dX7_isSameForm_75 : decode cX7_isSameForm 75 = .ok (.aaload, 1) := by decide +kernel
theorem dX7_isSameForm_76 : decode cX7_isSameForm 76 = .ok (.invokestatic 57, 3) := by decide +kernel
theorem dX7_isSameForm_79 : decode cX7_isSameForm 79 = .ok (.if_icmp .eq 5, 3) := by decide +kernel
theorem dX7_isSameForm_82 : decode cX7_isSameForm 82 = .ok (.iconst 0, 1) := by decide +kernel
theorem dX7_isSameForm_83 : decode cX7_isSameForm 83 = .ok (.ireturn, 1) := by decide +kernel
theorem dX7_isSameForm_84 : decode cX7_isSameForm 84 = .ok (.bipush (-32), 2) := by decide +kernel
theorem dX7_isSameForm_86 : decode cX7_isSameForm 86 = .ok (.istore 5, 2) := by decide +kernel
theorem dX7_isSameForm_88 : decode cX7_isSameForm 88 = .ok (.iload 5, 2) := by decide +kernel
theorem dX7_isSameForm_90 : decode cX7_isSameForm 90 = .ok (.bipush 31, 2) := by decide +kernel
theorem dX7_isSameForm_92 : decode cX7_isSameForm 92 = .ok (.if_icmp .gt 66, 3) := by decide +kernel
theorem dX7_isSameForm_95 : decode cX7_isSameForm 95 = .ok (.bipush (-32), 2) := by decide +kernel
theorem dX7_isSameForm_97 : decode cX7_isSameForm 97 = .ok (.istore 6, 2) := by decide +kernel
theorem dX7_isSameForm_99 : decode cX7_isSameForm 99 = .ok (.iload 6, 2) := by decide +kernel
theorem dX7_isSameForm_101 : decode cX7_isSameForm 101 = .ok (.bipush 31, 2) := by decide +kernel
theorem dX7_isSameForm_103 : decode cX7_isSameForm 103 = .ok (.if_icmp .gt 49, 3) := by decide +kernel
theorem dX7_isSameForm_106 : decode cX7_isSameForm 106 = .ok (.aload_n 0, 1) := by decide +kernel
theorem dX7_isSameForm_107 : decode cX7_isSameForm 107 = .ok (.getfield 11, 3) := by decide +kernel
theorem dX7_isSameForm_110 : decode cX7_isSameForm 110 = .ok (.iload_n 1, 1) := by decide +kernel
theorem dX7_isSameForm_111 : decode cX7_isSameForm 111 = .ok (.aaload, 1) := by decide +kernel
theorem dX7_isSameForm_112 : decode cX7_isSameForm 112 = .ok (.iload 5, 2) := by decide +kernel
theorem dX7_isSameForm_114 : decode cX7_isSameForm 114 = .ok (.iload 6, 2) := by decide +kernel
theorem dX7_isSameForm_116 : decode cX7_isSameForm 116 = .ok (.invokestatic 44, 3) := by decide +kernel
theorem dX7_isSameForm_119 : decode cX7_isSameForm 119 = .ok (.baload, 1) := by decide +kernel
theorem dX7_isSameForm_120 : decode cX7_isSameForm 120 = .ok (.ifCond .eq 26, 3) := by decide +kernel
theorem dX7_isSameForm_123 : decode cX7_isSameForm 123 = .ok (.aload_n 0, 1) := by decide +kernel
theorem dX7_isSameForm_124 : decode cX7_isSameForm 124 = .ok (.getfield 11, 3) := by decide +kernel
theorem dX7_isSameForm_127 : decode cX7_isSameForm 127 = .ok (.iload_n 2, 1) := by decide +kernel
theorem dX7_isSameForm_128 : decode cX7_isSameForm 128 = .ok (.aaload, 1) := by decide +kernel
theorem dX7_isSameForm_129 : decode cX7_isSameForm 129 = .ok (.iload 5, 2) := by decide +kernel
theorem dX7_isSameForm_131 : decode cX7_isSameForm 131 = .ok (.iload_n 3, 1) := by decide +kernel
theorem dX7_isSameForm_132 : decode cX7_isSameForm 132 = .ok (.iadd, 1) := by decide +kernel
theorem dX7_isSameForm_133 : decode cX7_isSameForm 133 = .ok (.iload 6, 2) := by decide +kernel
theorem dX7_isSameForm_135 : decode cX7_isSameForm 135 = .ok (.iload 4, 2) := by decide +kernel
theorem dX7_isSameForm_137 : decode cX7_isSameForm 137 = .ok (.iadd, 1) := by decide +kernel
theorem dX7_isSameForm_138 : decode cX7_isSameForm 138 = .ok (.invokestatic 95, 3) := by decide +kernel
theorem dX7_isSameForm_141 : decode cX7_isSameForm 141 = .ok (.ifCond .ne 5, 3) := by decide +kernel
theorem dX7_isSameForm_144 : decode cX7_isSameForm 144 = .ok (.iconst 0, 1) := by decide +kernel
theorem dX7_isSameForm_145 : decode cX7_isSameForm 145 = .ok (.ireturn, 1) := by decide +kernel
theorem dX7_isSameForm_146 : decode cX7_isSameForm 146 = .ok (.iinc 6 1, 3) := by decide +kernel
theorem dX7_isSameForm_149 : decode cX7_isSameForm 149 = .ok (.goto (-50), 3) := by decide +kernel
theorem dX7_isSameForm_152 : decode cX7_isSameForm 152 = .ok (.iinc 5 1, 3) := by decide +kernel
theorem dX7_isSameForm_155 : decode cX7_isSameForm 155 = .ok (.goto (-67), 3) := by decide +kernel
theorem dX7_isSameForm_158 : decode cX7_isSameForm 158 = .ok (.iconst 1, 1) := by decide +kernel
theorem dX7_isSameForm_159 : decode cX7_isSameForm 159 = .ok (.ireturn, 1) := by decide +kernel
theorem dX7_middleX_0 : decode cX7_middleX 0 = .ok (.aload_n 0, 1) := by decide +kernel
theorem dX7_middleX_1 : decode cX7_middleX 1 = .ok (.iload_n 1, 1) := by decide +kernel
theorem dX7_middleX_2 : decode cX7_middleX 2 = .ok (.invokestatic 76, 3) := by decide +kernel
theorem dX7_middleX_5 : decode cX7_middleX 5 = .ok (.ifCond .eq 7, 3) := by decide +kernel
theorem dX7_middleX_8 : decode cX7_middleX 8 = .ok (.iconst 0, 1) := by decide +kernel
theorem dX7_middleX_9 : decode cX7_middleX 9 = .ok (.goto 4, 3) := by decide +kernel
theorem dX7_middleX_12 : decode cX7_middleX 12 = .ok (.iconst 1, 1) := by decide +kernel
theorem dX7_middleX_13 : decode cX7_middleX 13 = .ok (.putfield 33, 3) := by decide +kernel
theorem dX7_middleX_16 : decode cX7_middleX 16 = .ok (.aload_n 0, 1) := by decide +kernel
theorem dX7_middleX_17 : decode cX7_middleX 17 = .ok (.getfield 33, 3) := by decide +kernel
theorem dX7_middleX_20 : decode cX7_middleX 20 = .ok (.ifCond .eq 5, 3) := by decide +kernel
theorem dX7_middleX_23 : decode cX7_middleX 23 = .ok (.dconst 0, 1) := by decide +kernel
theorem dX7_middleX_24 : decode cX7_middleX 24 = .ok (.dreturn, 1) := by decide +kernel
theorem dX7_middleX_25 : decode cX7_middleX 25 = .ok (.iconst 0, 1) := by decide +kernel
theorem dX7_middleX_26 : decode cX7_middleX 26 = .ok (.istore_n 2, 1) := by decide +kernel
theorem dX7_middleX_27 : decode cX7_middleX 27 = .ok (.bipush (-32), 2) := by decide +kernel
theorem dX7_middleX_29 : decode cX7_middleX 29 = .ok (.istore_n 3, 1) := by decide +kernel
theorem dX7_middleX_30 : decode cX7_middleX 30 = .ok (.iload_n 3, 1) := by decide +kernel
theorem dX7_middleX_31 : decode cX7_middleX 31 = .ok (.bipush 31, 2) := by decide +kernel
theorem dX7_middleX_33 : decode cX7_middleX 33 = .ok (.if_icmp .gt 50, 3) := by decide +kernel
theorem dX7_middleX_36 : decode cX7_middleX 36 = .ok (.bipush (-32), 2) := by decide +kernel
theorem dX7_middleX_38 : decode cX7_middleX 38 = .ok (.istore 4, 2) := by decide +kernel
theorem dX7_middleX_40 : decode cX7_middleX 40 = .ok (.iload 4, 2) := by decide +kernel
theorem dX7_middleX_42 : decode cX7_middleX 42 = .ok (.bipush 31, 2) := by decide +kernel
theorem dX7_middleX_44 : decode cX7_middleX 44 = .ok (.if_icmp .gt 33, 3) := by decide +kernel
theorem dX7_middleX_47 : decode cX7_middleX 47 = .ok (.iload_n 2, 1) := by decide +kernel
theorem dX7_middleX_48 : decode cX7_middleX 48 = .ok (.aload_n 0, 1) := by decide +kernel
theorem dX7_middleX_49 : decode cX7_middleX 49 = .ok (.getfield 11, 3) := by decide +kernel
theorem dX7_middleX_52 : decode cX7_middleX 52 = .ok (.iload_n 1, 1) := by decide +kernel
theorem dX7_middleX_53 : decode cX7_middleX 53 = .ok (.aaload, 1) := by decide +kernel
theorem dX7_middleX_54 : decode cX7_middleX 54 = .ok (.iload_n 3, 1) := by decide +kernel
theorem dX7_middleX_55 : decode cX7_middleX 55 = .ok (.iload 4, 2) := by decide +kernel
theorem dX7_middleX_57 : decode cX7_middleX 57 = .ok (.invokestatic 44, 3) := by decide +kernel
theorem dX7_middleX_60 : decode cX7_middleX 60 = .ok (.baload, 1) := by decide +kernel
theorem dX7_middleX_61 : decode cX7_middleX 61 = .ok (.ifCond .eq 7, 3) := by decide +kernel
theorem dX7_middleX_64 : decode cX7_middleX 64 = .ok (.iload_n 3, 1) := by decide +kernel
theorem dX7_middleX_65 : decode cX7_middleX 65 = .ok (.goto 4, 3) := by decide +kernel
theorem dX7_middleX_68 : decode cX7_middleX 68 = .ok (.iconst 0, 1) := by decide +kernel
theorem dX7_middleX_69 : decode cX7_middleX 69 = .ok (.iadd, 1) := by decide +kernel
theorem dX7_middleX_70 : decode cX7_middleX 70 = .ok (.istore_n 2, 1) := by decide +kernel
theorem dX7_middleX_71 : decode cX7_middleX 71 = .ok (.iinc 4 1, 3) := by decide +kernel
theorem dX7_middleX_74 : decode cX7_middleX 74 = .ok (.goto (-34), 3) := by decide +kernel
theorem dX7_middleX_77 : decode cX7_middleX 77 = .ok (.iinc 3 1, 3) := by decide +kernel
theorem dX7_middleX_80 : decode cX7_middleX 80 = .ok (.goto (-50), 3) := by decide +kernel
theorem dX7_middleX_83 : decode cX7_middleX 83 = .ok (.aload_n 0, 1) := by decide +kernel
theorem dX7_middleX_84 : decode cX7_middleX 84 = .ok (.getfield 11, 3) := by decide +kernel
theorem dX7_middleX_87 : decode cX7_middleX 87 = .ok (.iload_n 1, 1) := by decide +kernel
theorem dX7_middleX_88 : decode cX7_middleX 88 = .ok (.aaload, 1) := by decide +kernel
theorem dX7_middleX_89 : decode cX7_middleX 89 = .ok (.invokestatic 57, 3) := by decide +kernel
theorem dX7_middleX_92 : decode cX7_middleX 92 = .ok (.istore_n 3, 1) := by decide +kernel
theorem dX7_middleX_93 : decode cX7_middleX 93 = .ok (.iload_n 3, 1) := by decide +kernel
theorem dX7_middleX_94 : decode cX7_middleX 94 = .ok (.ifCond .ne 7, 3) := by decide +kernel
theorem dX7_middleX_97 : decode cX7_middleX 97 = .ok (.dconst 0, 1) := by decide +kernel
theorem dX7_middleX_98 : decode cX7_middleX 98 = .ok (.goto 8, 3) := by decide +kernel
theorem dX7_middleX_101 : decode cX7_middleX 101 = .ok (.iload_n 2, 1) := by decide +kernel
theorem dX7_middleX_102 : decode cX7_middleX 102 = .ok (.i2d, 1) := by decide +kernel
theorem dX7_middleX_103 : decode cX7_middleX 103 = .ok (.iload_n 3, 1) := by decide +kernel
theorem dX7_middleX_104 : decode cX7_middleX 104 = .ok (.i2d, 1) := by decide +kernel
theorem dX7_middleX_105 : decode cX7_middleX 105 = .ok (.ddiv, 1) := by decide +kernel
theorem dX7_middleX_106 : decode cX7_middleX 106 = .ok (.dreturn, 1) := by decide +kernel
theorem dX7_digest_0 : decode cX7_digest 0 = .ok (.aload_n 0, 1) := by decide +kernel
theorem dX7_digest_1 : decode cX7_digest 1 = .ok (.iconst 0, 1) := by decide +kernel
theorem dX7_digest_2 : decode cX7_digest 2 = .ok (.putfield 33, 3) := by decide +kernel
theorem dX7_digest_5 : decode cX7_digest 5 = .ok (.ldc2_w 166, 3) := by decide +kernel
theorem dX7_digest_8 : decode cX7_digest 8 = .ok (.aload_n 0, 1) := by decide +kernel
theorem dX7_digest_9 : decode cX7_digest 9 = .ok (.getfield 21, 3) := by decide +kernel
theorem dX7_digest_12 : decode cX7_digest 12 = .ok (.i2l, 1) := by decide +kernel
theorem dX7_digest_13 : decode cX7_digest 13 = .ok (.ladd, 1) := by decide +kernel
theorem dX7_digest_14 : decode cX7_digest 14 = .ok (.lstore_n 1, 1) := by decide +kernel
theorem dX7_digest_15 : decode cX7_digest 15 = .ok (.iconst 0, 1) := by decide +kernel
theorem dX7_digest_16 : decode cX7_digest 16 = .ok (.istore_n 3, 1) := by decide +kernel
theorem dX7_digest_17 : decode cX7_digest 17 = .ok (.iload_n 3, 1) := by decide +kernel
theorem dX7_digest_18 : decode cX7_digest 18 = .ok (.bipush 8, 2) := by decide +kernel
theorem dX7_digest_20 : decode cX7_digest 20 = .ok (.if_icmp .ge 235, 3) := by decide +kernel
theorem dX7_digest_23 : decode cX7_digest 23 = .ok (.lload_n 1, 1) := by decide +kernel
theorem dX7_digest_24 : decode cX7_digest 24 = .ok (.ldc2_w 168, 3) := by decide +kernel
theorem dX7_digest_27 : decode cX7_digest 27 = .ok (.lmul, 1) := by decide +kernel
theorem dX7_digest_28 : decode cX7_digest 28 = .ok (.aload_n 0, 1) := by decide +kernel
theorem dX7_digest_29 : decode cX7_digest 29 = .ok (.getfield 11, 3) := by decide +kernel
theorem dX7_digest_32 : decode cX7_digest 32 = .ok (.iload_n 3, 1) := by decide +kernel
theorem dX7_digest_33 : decode cX7_digest 33 = .ok (.aaload, 1) := by decide +kernel
theorem dX7_digest_34 : decode cX7_digest 34 = .ok (.invokestatic 57, 3) := by decide +kernel
theorem dX7_digest_37 : decode cX7_digest 37 = .ok (.i2l, 1) := by decide +kernel
theorem dX7_digest_38 : decode cX7_digest 38 = .ok (.ladd, 1) := by decide +kernel
theorem dX7_digest_39 : decode cX7_digest 39 = .ok (.ldc2_w 168, 3) := by decide +kernel
theorem dX7_digest_42 : decode cX7_digest 42 = .ok (.lmul, 1) := by decide +kernel
theorem dX7_digest_43 : decode cX7_digest 43 = .ok (.aload_n 0, 1) := by decide +kernel
theorem dX7_digest_44 : decode cX7_digest 44 = .ok (.iload_n 3, 1) := by decide +kernel
theorem dX7_digest_45 : decode cX7_digest 45 = .ok (.invokevirtual 111, 3) := by decide +kernel
theorem dX7_digest_48 : decode cX7_digest 48 = .ok (.i2l, 1) := by decide +kernel
theorem dX7_digest_49 : decode cX7_digest 49 = .ok (.ladd, 1) := by decide +kernel
theorem dX7_digest_50 : decode cX7_digest 50 = .ok (.ldc2_w 168, 3) := by decide +kernel
theorem dX7_digest_53 : decode cX7_digest 53 = .ok (.lmul, 1) := by decide +kernel
theorem dX7_digest_54 : decode cX7_digest 54 = .ok (.aload_n 0, 1) := by decide +kernel
theorem dX7_digest_55 : decode cX7_digest 55 = .ok (.getfield 11, 3) := by decide +kernel
theorem dX7_digest_58 : decode cX7_digest 58 = .ok (.iload_n 3, 1) := by decide +kernel
theorem dX7_digest_59 : decode cX7_digest 59 = .ok (.aaload, 1) := by decide +kernel
theorem dX7_digest_60 : decode cX7_digest 60 = .ok (.iconst 1, 1) := by decide +kernel
theorem dX7_digest_61 : decode cX7_digest 61 = .ok (.invokestatic 99, 3) := by decide +kernel
theorem dX7_digest_64 : decode cX7_digest 64 = .ok (.invokestatic 103, 3) := by decide +kernel
theorem dX7_digest_67 : decode cX7_digest 67 = .ok (.i2l, 1) := by decide +kernel
theorem dX7_digest_68 : decode cX7_digest 68 = .ok (.ladd, 1) := by decide +kernel
theorem dX7_digest_69 : decode cX7_digest 69 = .ok (.ldc2_w 168, 3) := by decide +kernel
theorem dX7_digest_72 : decode cX7_digest 72 = .ok (.lmul, 1) := by decide +kernel
theorem dX7_digest_73 : decode cX7_digest 73 = .ok (.aload_n 0, 1) := by decide +kernel
theorem dX7_digest_74 : decode cX7_digest 74 = .ok (.iload_n 3, 1) := by decide +kernel
theorem dX7_digest_75 : decode cX7_digest 75 = .ok (.invokevirtual 114, 3) := by decide +kernel
theorem dX7_digest_78 : decode cX7_digest 78 = .ok (.i2l, 1) := by decide +kernel
theorem dX7_digest_79 : decode cX7_digest 79 = .ok (.ladd, 1) := by decide +kernel
theorem dX7_digest_80 : decode cX7_digest 80 = .ok (.lstore_n 1, 1) := by decide +kernel
theorem dX7_digest_81 : decode cX7_digest 81 = .ok (.iconst 0, 1) := by decide +kernel
theorem dX7_digest_82 : decode cX7_digest 82 = .ok (.istore 4, 2) := by decide +kernel
theorem dX7_digest_84 : decode cX7_digest 84 = .ok (.iload 4, 2) := by decide +kernel
theorem dX7_digest_86 : decode cX7_digest 86 = .ok (.iconst 4, 1) := by decide +kernel
theorem dX7_digest_87 : decode cX7_digest 87 = .ok (.if_icmp .ge 24, 3) := by decide +kernel
theorem dX7_digest_90 : decode cX7_digest 90 = .ok (.lload_n 1, 1) := by decide +kernel
theorem dX7_digest_91 : decode cX7_digest 91 = .ok (.ldc2_w 168, 3) := by decide +kernel
theorem dX7_digest_94 : decode cX7_digest 94 = .ok (.lmul, 1) := by decide +kernel
theorem dX7_digest_95 : decode cX7_digest 95 = .ok (.aload_n 0, 1) := by decide +kernel
theorem dX7_digest_96 : decode cX7_digest 96 = .ok (.iload_n 3, 1) := by decide +kernel
theorem dX7_digest_97 : decode cX7_digest 97 = .ok (.iload 4, 2) := by decide +kernel
theorem dX7_digest_99 : decode cX7_digest 99 = .ok (.invokevirtual 117, 3) := by decide +kernel
theorem dX7_digest_102 : decode cX7_digest 102 = .ok (.i2l, 1) := by decide +kernel
theorem dX7_digest_103 : decode cX7_digest 103 = .ok (.ladd, 1) := by decide +kernel
theorem dX7_digest_104 : decode cX7_digest 104 = .ok (.lstore_n 1, 1) := by decide +kernel
theorem dX7_digest_105 : decode cX7_digest 105 = .ok (.iinc 4 1, 3) := by decide +kernel
theorem dX7_digest_108 : decode cX7_digest 108 = .ok (.goto (-24), 3) := by decide +kernel
theorem dX7_digest_111 : decode cX7_digest 111 = .ok (.aload_n 0, 1) := by decide +kernel
theorem dX7_digest_112 : decode cX7_digest 112 = .ok (.iload_n 3, 1) := by decide +kernel
theorem dX7_digest_113 : decode cX7_digest 113 = .ok (.invokevirtual 134, 3) := by decide +kernel
theorem dX7_digest_116 : decode cX7_digest 116 = .ok (.astore 4, 2) := by decide +kernel
theorem dX7_digest_118 : decode cX7_digest 118 = .ok (.lload_n 1, 1) := by decide +kernel
theorem dX7_digest_119 : decode cX7_digest 119 = .ok (.ldc2_w 168, 3) := by decide +kernel
theorem dX7_digest_122 : decode cX7_digest 122 = .ok (.lmul, 1) := by decide +kernel
theorem dX7_digest_123 : decode cX7_digest 123 = .ok (.aload 4, 2) := by decide +kernel
theorem dX7_digest_125 : decode cX7_digest 125 = .ok (.iconst 0, 1) := by decide +kernel
theorem dX7_digest_126 : decode cX7_digest 126 = .ok (.iaload, 1) := by decide +kernel
theorem dX7_digest_127 : decode cX7_digest 127 = .ok (.i2l, 1) := by decide +kernel
theorem dX7_digest_128 : decode cX7_digest 128 = .ok (.ladd, 1) := by decide +kernel
theorem dX7_digest_129 : decode cX7_digest 129 = .ok (.lstore_n 1, 1) := by decide +kernel
theorem dX7_digest_130 : decode cX7_digest 130 = .ok (.iconst 0, 1) := by decide +kernel
theorem dX7_digest_131 : decode cX7_digest 131 = .ok (.istore 5, 2) := by decide +kernel
theorem dX7_digest_133 : decode cX7_digest 133 = .ok (.iload 5, 2) := by decide +kernel
theorem dX7_digest_135 : decode cX7_digest 135 = .ok (.aload 4, 2) := by decide +kernel
theorem dX7_digest_137 : decode cX7_digest 137 = .ok (.iconst 0, 1) := by decide +kernel
theorem dX7_digest_138 : decode cX7_digest 138 = .ok (.iaload, 1) := by decide +kernel
theorem dX7_digest_139 : decode cX7_digest 139 = .ok (.if_icmp .ge 70, 3) := by decide +kernel
theorem dX7_digest_142 : decode cX7_digest 142 = .ok (.aload 4, 2) := by decide +kernel
theorem dX7_digest_144 : decode cX7_digest 144 = .ok (.iload 5, 2) := by decide +kernel
theorem dX7_digest_146 : decode cX7_digest 146 = .ok (.invokestatic 138, 3) := by decide +kernel
theorem dX7_digest_149 : decode cX7_digest 149 = .ok (.istore 6, 2) := by decide +kernel
theorem dX7_digest_151 : decode cX7_digest 151 = .ok (.lload_n 1, 1) := by decide +kernel
theorem dX7_digest_152 : decode cX7_digest 152 = .ok (.ldc2_w 168, 3) := by decide +kernel
theorem dX7_digest_155 : decode cX7_digest 155 = .ok (.lmul, 1) := by decide +kernel
theorem dX7_digest_156 : decode cX7_digest 156 = .ok (.aload 4, 2) := by decide +kernel
theorem dX7_digest_158 : decode cX7_digest 158 = .ok (.iload 6, 2) := by decide +kernel
theorem dX7_digest_160 : decode cX7_digest 160 = .ok (.iconst 1, 1) := by decide +kernel
theorem dX7_digest_161 : decode cX7_digest 161 = .ok (.iadd, 1) := by decide +kernel
theorem dX7_digest_162 : decode cX7_digest 162 = .ok (.iaload, 1) := by decide +kernel
theorem dX7_digest_163 : decode cX7_digest 163 = .ok (.i2l, 1) := by decide +kernel
theorem dX7_digest_164 : decode cX7_digest 164 = .ok (.ladd, 1) := by decide +kernel
theorem dX7_digest_165 : decode cX7_digest 165 = .ok (.ldc2_w 168, 3) := by decide +kernel
theorem dX7_digest_168 : decode cX7_digest 168 = .ok (.lmul, 1) := by decide +kernel
theorem dX7_digest_169 : decode cX7_digest 169 = .ok (.aload 4, 2) := by decide +kernel
theorem dX7_digest_171 : decode cX7_digest 171 = .ok (.iload 6, 2) := by decide +kernel
theorem dX7_digest_173 : decode cX7_digest 173 = .ok (.iaload, 1) := by decide +kernel
theorem dX7_digest_174 : decode cX7_digest 174 = .ok (.i2l, 1) := by decide +kernel
theorem dX7_digest_175 : decode cX7_digest 175 = .ok (.ladd, 1) := by decide +kernel
theorem dX7_digest_176 : decode cX7_digest 176 = .ok (.ldc2_w 168, 3) := by decide +kernel
theorem dX7_digest_179 : decode cX7_digest 179 = .ok (.lmul, 1) := by decide +kernel
theorem dX7_digest_180 : decode cX7_digest 180 = .ok (.aload 4, 2) := by decide +kernel
theorem dX7_digest_182 : decode cX7_digest 182 = .ok (.iload 6, 2) := by decide +kernel
theorem dX7_digest_184 : decode cX7_digest 184 = .ok (.iconst 2, 1) := by decide +kernel
theorem dX7_digest_185 : decode cX7_digest 185 = .ok (.iadd, 1) := by decide +kernel
theorem dX7_digest_186 : decode cX7_digest 186 = .ok (.iaload, 1) := by decide +kernel
theorem dX7_digest_187 : decode cX7_digest 187 = .ok (.i2l, 1) := by decide +kernel
theorem dX7_digest_188 : decode cX7_digest 188 = .ok (.ladd, 1) := by decide +kernel
theorem dX7_digest_189 : decode cX7_digest 189 = .ok (.ldc2_w 168, 3) := by decide +kernel
theorem dX7_digest_192 : decode cX7_digest 192 = .ok (.lmul, 1) := by decide +kernel
theorem dX7_digest_193 : decode cX7_digest 193 = .ok (.aload 4, 2) := by decide +kernel
theorem dX7_digest_195 : decode cX7_digest 195 = .ok (.iload 6, 2) := by decide +kernel
theorem dX7_digest_197 : decode cX7_digest 197 = .ok (.iconst 3, 1) := by decide +kernel
theorem dX7_digest_198 : decode cX7_digest 198 = .ok (.iadd, 1) := by decide +kernel
theorem dX7_digest_199 : decode cX7_digest 199 = .ok (.iaload, 1) := by decide +kernel
theorem dX7_digest_200 : decode cX7_digest 200 = .ok (.i2l, 1) := by decide +kernel
theorem dX7_digest_201 : decode cX7_digest 201 = .ok (.ladd, 1) := by decide +kernel
theorem dX7_digest_202 : decode cX7_digest 202 = .ok (.lstore_n 1, 1) := by decide +kernel
theorem dX7_digest_203 : decode cX7_digest 203 = .ok (.iinc 5 1, 3) := by decide +kernel
theorem dX7_digest_206 : decode cX7_digest 206 = .ok (.goto (-73), 3) := by decide +kernel
theorem dX7_digest_209 : decode cX7_digest 209 = .ok (.aload_n 0, 1) := by decide +kernel
theorem dX7_digest_210 : decode cX7_digest 210 = .ok (.iload_n 3, 1) := by decide +kernel
theorem dX7_digest_211 : decode cX7_digest 211 = .ok (.invokevirtual 155, 3) := by decide +kernel
theorem dX7_digest_214 : decode cX7_digest 214 = .ok (.astore 5, 2) := by decide +kernel
theorem dX7_digest_216 : decode cX7_digest 216 = .ok (.iconst 0, 1) := by decide +kernel
theorem dX7_digest_217 : decode cX7_digest 217 = .ok (.istore 6, 2) := by decide +kernel
theorem dX7_digest_219 : decode cX7_digest 219 = .ok (.iload 6, 2) := by decide +kernel
theorem dX7_digest_221 : decode cX7_digest 221 = .ok (.iconst 4, 1) := by decide +kernel
theorem dX7_digest_222 : decode cX7_digest 222 = .ok (.aload 5, 2) := by decide +kernel
theorem dX7_digest_224 : decode cX7_digest 224 = .ok (.iconst 0, 1) := by decide +kernel
theorem dX7_digest_225 : decode cX7_digest 225 = .ok (.iaload, 1) := by decide +kernel
theorem dX7_digest_226 : decode cX7_digest 226 = .ok (.imul, 1) := by decide +kernel
theorem dX7_digest_227 : decode cX7_digest 227 = .ok (.if_icmp .gt 22, 3) := by decide +kernel
theorem dX7_digest_230 : decode cX7_digest 230 = .ok (.lload_n 1, 1) := by decide +kernel
theorem dX7_digest_231 : decode cX7_digest 231 = .ok (.ldc2_w 168, 3) := by decide +kernel
theorem dX7_digest_234 : decode cX7_digest 234 = .ok (.lmul, 1) := by decide +kernel
theorem dX7_digest_235 : decode cX7_digest 235 = .ok (.aload 5, 2) := by decide +kernel
theorem dX7_digest_237 : decode cX7_digest 237 = .ok (.iload 6, 2) := by decide +kernel
theorem dX7_digest_239 : decode cX7_digest 239 = .ok (.iaload, 1) := by decide +kernel
theorem dX7_digest_240 : decode cX7_digest 240 = .ok (.i2l, 1) := by decide +kernel
theorem dX7_digest_241 : decode cX7_digest 241 = .ok (.ladd, 1) := by decide +kernel
theorem dX7_digest_242 : decode cX7_digest 242 = .ok (.lstore_n 1, 1) := by decide +kernel
theorem dX7_digest_243 : decode cX7_digest 243 = .ok (.iinc 6 1, 3) := by decide +kernel
theorem dX7_digest_246 : decode cX7_digest 246 = .ok (.goto (-27), 3) := by decide +kernel
theorem dX7_digest_249 : decode cX7_digest 249 = .ok (.iinc 3 1, 3) := by decide +kernel
theorem dX7_digest_252 : decode cX7_digest 252 = .ok (.goto (-235), 3) := by decide +kernel
theorem dX7_digest_255 : decode cX7_digest 255 = .ok (.lload_n 1, 1) := by decide +kernel
theorem dX7_digest_256 : decode cX7_digest 256 = .ok (.ldc2_w 168, 3) := by decide +kernel
theorem dX7_digest_259 : decode cX7_digest 259 = .ok (.lmul, 1) := by decide +kernel
theorem dX7_digest_260 : decode cX7_digest 260 = .ok (.aload_n 0, 1) := by decide +kernel
theorem dX7_digest_261 : decode cX7_digest 261 = .ok (.getfield 54, 3) := by decide +kernel
theorem dX7_digest_264 : decode cX7_digest 264 = .ok (.i2l, 1) := by decide +kernel
theorem dX7_digest_265 : decode cX7_digest 265 = .ok (.ladd, 1) := by decide +kernel
theorem dX7_digest_266 : decode cX7_digest 266 = .ok (.lreturn, 1) := by decide +kernel
theorem dJ13_bitCount_95d88_0 : decode cJ13_bitCount_95d88 0 = .ok (.lload_n 0, 1) := by decide +kernel
theorem dJ13_bitCount_95d88_1 : decode cJ13_bitCount_95d88 1 = .ok (.lload_n 0, 1) := by decide +kernel
theorem dJ13_bitCount_95d88_2 : decode cJ13_bitCount_95d88 2 = .ok (.iconst 1, 1) := by decide +kernel
theorem dJ13_bitCount_95d88_3 : decode cJ13_bitCount_95d88 3 = .ok (.lushr, 1) := by decide +kernel
theorem dJ13_bitCount_95d88_4 : decode cJ13_bitCount_95d88 4 = .ok (.ldc2_w 314, 3) := by decide +kernel
theorem dJ13_bitCount_95d88_7 : decode cJ13_bitCount_95d88 7 = .ok (.land, 1) := by decide +kernel
theorem dJ13_bitCount_95d88_8 : decode cJ13_bitCount_95d88 8 = .ok (.lsub, 1) := by decide +kernel
theorem dJ13_bitCount_95d88_9 : decode cJ13_bitCount_95d88 9 = .ok (.lstore_n 0, 1) := by decide +kernel
theorem dJ13_bitCount_95d88_10 : decode cJ13_bitCount_95d88 10 = .ok (.lload_n 0, 1) := by decide +kernel
theorem dJ13_bitCount_95d88_11 : decode cJ13_bitCount_95d88 11 = .ok (.ldc2_w 316, 3) := by decide +kernel
theorem dJ13_bitCount_95d88_14 : decode cJ13_bitCount_95d88 14 = .ok (.land, 1) := by decide +kernel
theorem dJ13_bitCount_95d88_15 : decode cJ13_bitCount_95d88 15 = .ok (.lload_n 0, 1) := by decide +kernel
theorem dJ13_bitCount_95d88_16 : decode cJ13_bitCount_95d88 16 = .ok (.iconst 2, 1) := by decide +kernel
theorem dJ13_bitCount_95d88_17 : decode cJ13_bitCount_95d88 17 = .ok (.lushr, 1) := by decide +kernel
theorem dJ13_bitCount_95d88_18 : decode cJ13_bitCount_95d88 18 = .ok (.ldc2_w 316, 3) := by decide +kernel
theorem dJ13_bitCount_95d88_21 : decode cJ13_bitCount_95d88 21 = .ok (.land, 1) := by decide +kernel
theorem dJ13_bitCount_95d88_22 : decode cJ13_bitCount_95d88 22 = .ok (.ladd, 1) := by decide +kernel
theorem dJ13_bitCount_95d88_23 : decode cJ13_bitCount_95d88 23 = .ok (.lstore_n 0, 1) := by decide +kernel
theorem dJ13_bitCount_95d88_24 : decode cJ13_bitCount_95d88 24 = .ok (.lload_n 0, 1) := by decide +kernel
theorem dJ13_bitCount_95d88_25 : decode cJ13_bitCount_95d88 25 = .ok (.lload_n 0, 1) := by decide +kernel
theorem dJ13_bitCount_95d88_26 : decode cJ13_bitCount_95d88 26 = .ok (.iconst 4, 1) := by decide +kernel
theorem dJ13_bitCount_95d88_27 : decode cJ13_bitCount_95d88 27 = .ok (.lushr, 1) := by decide +kernel
theorem dJ13_bitCount_95d88_28 : decode cJ13_bitCount_95d88 28 = .ok (.ladd, 1) := by decide +kernel
theorem dJ13_bitCount_95d88_29 : decode cJ13_bitCount_95d88 29 = .ok (.ldc2_w 318, 3) := by decide +kernel
theorem dJ13_bitCount_95d88_32 : decode cJ13_bitCount_95d88 32 = .ok (.land, 1) := by decide +kernel
theorem dJ13_bitCount_95d88_33 : decode cJ13_bitCount_95d88 33 = .ok (.lstore_n 0, 1) := by decide +kernel
theorem dJ13_bitCount_95d88_34 : decode cJ13_bitCount_95d88 34 = .ok (.lload_n 0, 1) := by decide +kernel
theorem dJ13_bitCount_95d88_35 : decode cJ13_bitCount_95d88 35 = .ok (.lload_n 0, 1) := by decide +kernel
theorem dJ13_bitCount_95d88_36 : decode cJ13_bitCount_95d88 36 = .ok (.bipush 8, 2) := by decide +kernel
theorem dJ13_bitCount_95d88_38 : decode cJ13_bitCount_95d88 38 = .ok (.lushr, 1) := by decide +kernel
theorem dJ13_bitCount_95d88_39 : decode cJ13_bitCount_95d88 39 = .ok (.ladd, 1) := by decide +kernel
theorem dJ13_bitCount_95d88_40 : decode cJ13_bitCount_95d88 40 = .ok (.lstore_n 0, 1) := by decide +kernel
theorem dJ13_bitCount_95d88_41 : decode cJ13_bitCount_95d88 41 = .ok (.lload_n 0, 1) := by decide +kernel
theorem dJ13_bitCount_95d88_42 : decode cJ13_bitCount_95d88 42 = .ok (.lload_n 0, 1) := by decide +kernel
theorem dJ13_bitCount_95d88_43 : decode cJ13_bitCount_95d88 43 = .ok (.bipush 16, 2) := by decide +kernel
theorem dJ13_bitCount_95d88_45 : decode cJ13_bitCount_95d88 45 = .ok (.lushr, 1) := by decide +kernel
theorem dJ13_bitCount_95d88_46 : decode cJ13_bitCount_95d88 46 = .ok (.ladd, 1) := by decide +kernel
theorem dJ13_bitCount_95d88_47 : decode cJ13_bitCount_95d88 47 = .ok (.lstore_n 0, 1) := by decide +kernel
theorem dJ13_bitCount_95d88_48 : decode cJ13_bitCount_95d88 48 = .ok (.lload_n 0, 1) := by decide +kernel
theorem dJ13_bitCount_95d88_49 : decode cJ13_bitCount_95d88 49 = .ok (.lload_n 0, 1) := by decide +kernel
theorem dJ13_bitCount_95d88_50 : decode cJ13_bitCount_95d88 50 = .ok (.bipush 32, 2) := by decide +kernel
theorem dJ13_bitCount_95d88_52 : decode cJ13_bitCount_95d88 52 = .ok (.lushr, 1) := by decide +kernel
theorem dJ13_bitCount_95d88_53 : decode cJ13_bitCount_95d88 53 = .ok (.ladd, 1) := by decide +kernel
theorem dJ13_bitCount_95d88_54 : decode cJ13_bitCount_95d88 54 = .ok (.lstore_n 0, 1) := by decide +kernel
theorem dJ13_bitCount_95d88_55 : decode cJ13_bitCount_95d88 55 = .ok (.lload_n 0, 1) := by decide +kernel
theorem dJ13_bitCount_95d88_56 : decode cJ13_bitCount_95d88 56 = .ok (.l2i, 1) := by decide +kernel
theorem dJ13_bitCount_95d88_57 : decode cJ13_bitCount_95d88 57 = .ok (.bipush 127, 2) := by decide +kernel
theorem dJ13_bitCount_95d88_59 : decode cJ13_bitCount_95d88 59 = .ok (.iand, 1) := by decide +kernel
theorem dJ13_bitCount_95d88_60 : decode cJ13_bitCount_95d88 60 = .ok (.ireturn, 1) := by decide +kernel
theorem dJ9_abs_0f7a4_0 : decode cJ9_abs_0f7a4 0 = .ok (.iload_n 0, 1) := by decide +kernel
theorem dJ9_abs_0f7a4_1 : decode cJ9_abs_0f7a4 1 = .ok (.ifCond .ge 8, 3) := by decide +kernel
theorem dJ9_abs_0f7a4_4 : decode cJ9_abs_0f7a4 4 = .ok (.iload_n 0, 1) := by decide +kernel
theorem dJ9_abs_0f7a4_5 : decode cJ9_abs_0f7a4 5 = .ok (.ineg, 1) := by decide +kernel
theorem dJ9_abs_0f7a4_6 : decode cJ9_abs_0f7a4 6 = .ok (.goto 4, 3) := by decide +kernel
theorem dJ9_abs_0f7a4_9 : decode cJ9_abs_0f7a4 9 = .ok (.iload_n 0, 1) := by decide +kernel
theorem dJ9_abs_0f7a4_10 : decode cJ9_abs_0f7a4 10 = .ok (.ireturn, 1) := by decide +kernel
theorem dJ9_max_7cf53_0 : decode cJ9_max_7cf53 0 = .ok (.iload_n 0, 1) := by decide +kernel
theorem dJ9_max_7cf53_1 : decode cJ9_max_7cf53 1 = .ok (.iload_n 1, 1) := by decide +kernel
theorem dJ9_max_7cf53_2 : decode cJ9_max_7cf53 2 = .ok (.if_icmp .lt 7, 3) := by decide +kernel
theorem dJ9_max_7cf53_5 : decode cJ9_max_7cf53 5 = .ok (.iload_n 0, 1) := by decide +kernel
theorem dJ9_max_7cf53_6 : decode cJ9_max_7cf53 6 = .ok (.goto 4, 3) := by decide +kernel
theorem dJ9_max_7cf53_9 : decode cJ9_max_7cf53 9 = .ok (.iload_n 1, 1) := by decide +kernel
theorem dJ9_max_7cf53_10 : decode cJ9_max_7cf53 10 = .ok (.ireturn, 1) := by decide +kernel
theorem dJ9_min_7cf53_0 : decode cJ9_min_7cf53 0 = .ok (.iload_n 0, 1) := by decide +kernel
theorem dJ9_min_7cf53_1 : decode cJ9_min_7cf53 1 = .ok (.iload_n 1, 1) := by decide +kernel
theorem dJ9_min_7cf53_2 : decode cJ9_min_7cf53 2 = .ok (.if_icmp .gt 7, 3) := by decide +kernel
theorem dJ9_min_7cf53_5 : decode cJ9_min_7cf53 5 = .ok (.iload_n 0, 1) := by decide +kernel
theorem dJ9_min_7cf53_6 : decode cJ9_min_7cf53 6 = .ok (.goto 4, 3) := by decide +kernel
theorem dJ9_min_7cf53_9 : decode cJ9_min_7cf53 9 = .ok (.iload_n 1, 1) := by decide +kernel
theorem dJ9_min_7cf53_10 : decode cJ9_min_7cf53 10 = .ok (.ireturn, 1) := by decide +kernel
theorem dJ7_fill_d0a16_0 : decode cJ7_fill_d0a16 0 = .ok (.iconst 0, 1) := by decide +kernel
theorem dJ7_fill_d0a16_1 : decode cJ7_fill_d0a16 1 = .ok (.istore_n 3, 1) := by decide +kernel
theorem dJ7_fill_d0a16_2 : decode cJ7_fill_d0a16 2 = .ok (.aload_n 0, 1) := by decide +kernel
theorem dJ7_fill_d0a16_3 : decode cJ7_fill_d0a16 3 = .ok (.arraylength, 1) := by decide +kernel
theorem dJ7_fill_d0a16_4 : decode cJ7_fill_d0a16 4 = .ok (.istore 4, 2) := by decide +kernel
theorem dJ7_fill_d0a16_6 : decode cJ7_fill_d0a16 6 = .ok (.iload_n 3, 1) := by decide +kernel
theorem dJ7_fill_d0a16_7 : decode cJ7_fill_d0a16 7 = .ok (.iload 4, 2) := by decide +kernel
theorem dJ7_fill_d0a16_9 : decode cJ7_fill_d0a16 9 = .ok (.if_icmp .ge 13, 3) := by decide +kernel
theorem dJ7_fill_d0a16_12 : decode cJ7_fill_d0a16 12 = .ok (.aload_n 0, 1) := by decide +kernel
theorem dJ7_fill_d0a16_13 : decode cJ7_fill_d0a16 13 = .ok (.iload_n 3, 1) := by decide +kernel
theorem dJ7_fill_d0a16_14 : decode cJ7_fill_d0a16 14 = .ok (.lload_n 1, 1) := by decide +kernel
theorem dJ7_fill_d0a16_15 : decode cJ7_fill_d0a16 15 = .ok (.lastore, 1) := by decide +kernel
theorem dJ7_fill_d0a16_16 : decode cJ7_fill_d0a16 16 = .ok (.iinc 3 1, 3) := by decide +kernel
theorem dJ7_fill_d0a16_19 : decode cJ7_fill_d0a16 19 = .ok (.goto (-13), 3) := by decide +kernel
theorem dJ7_fill_d0a16_22 : decode cJ7_fill_d0a16 22 = .ok (.return_, 1) := by decide +kernel
theorem dJ7_fill_53178_0 : decode cJ7_fill_53178 0 = .ok (.iconst 0, 1) := by decide +kernel
theorem dJ7_fill_53178_1 : decode cJ7_fill_53178 1 = .ok (.istore_n 2, 1) := by decide +kernel
theorem dJ7_fill_53178_2 : decode cJ7_fill_53178 2 = .ok (.aload_n 0, 1) := by decide +kernel
theorem dJ7_fill_53178_3 : decode cJ7_fill_53178 3 = .ok (.arraylength, 1) := by decide +kernel
theorem dJ7_fill_53178_4 : decode cJ7_fill_53178 4 = .ok (.istore_n 3, 1) := by decide +kernel
theorem dJ7_fill_53178_5 : decode cJ7_fill_53178 5 = .ok (.iload_n 2, 1) := by decide +kernel
theorem dJ7_fill_53178_6 : decode cJ7_fill_53178 6 = .ok (.iload_n 3, 1) := by decide +kernel
theorem dJ7_fill_53178_7 : decode cJ7_fill_53178 7 = .ok (.if_icmp .ge 13, 3) := by decide +kernel
theorem dJ7_fill_53178_10 : decode cJ7_fill_53178 10 = .ok (.aload_n 0, 1) := by decide +kernel
theorem dJ7_fill_53178_11 : decode cJ7_fill_53178 11 = .ok (.iload_n 2, 1) := by decide +kernel
theorem dJ7_fill_53178_12 : decode cJ7_fill_53178 12 = .ok (.iload_n 1, 1) := by decide +kernel
theorem dJ7_fill_53178_13 : decode cJ7_fill_53178 13 = .ok (.iastore, 1) := by decide +kernel
theorem dJ7_fill_53178_14 : decode cJ7_fill_53178 14 = .ok (.iinc 2 1, 3) := by decide +kernel
theorem dJ7_fill_53178_17 : decode cJ7_fill_53178 17 = .ok (.goto (-12), 3) := by decide +kernel
theorem dJ7_fill_53178_20 : decode cJ7_fill_53178 20 = .ok (.return_, 1) := by decide +kernel
theorem dL_moveTo_0 : decode cL_moveTo 0 = .ok (.aload_n 3, 1) := by decide +kernel
theorem dL_moveTo_1 : decode cL_moveTo 1 = .ok (.iconst 0, 1) := by decide +kernel
theorem dL_moveTo_2 : decode cL_moveTo 2 = .ok (.aload_n 0, 1) := by decide +kernel
theorem dL_moveTo_3 : decode cL_moveTo 3 = .ok (.iload_n 1, 1) := by decide +kernel
theorem dL_moveTo_4 : decode cL_moveTo 4 = .ok (.iload_n 2, 1) := by decide +kernel
theorem dL_moveTo_5 : decode cL_moveTo 5 = .ok (.invokevirtual 7, 3) := by decide +kernel
theorem dL_moveTo_8 : decode cL_moveTo 8 = .ok (.i2l, 1) := by decide +kernel
theorem dL_moveTo_9 : decode cL_moveTo 9 = .ok (.lastore, 1) := by decide +kernel
theorem dL_moveTo_10 : decode cL_moveTo 10 = .ok (.goto 7, 3) := by decide +kernel
theorem dL_moveTo_13 : decode cL_moveTo 13 = .ok (.astore 4, 2) := by decide +kernel
theorem dL_moveTo_15 : decode cL_moveTo 15 = .ok (.iconst 1, 1) := by decide +kernel
theorem dL_moveTo_16 : decode cL_moveTo 16 = .ok (.ireturn, 1) := by decide +kernel
theorem dL_moveTo_17 : decode cL_moveTo 17 = .ok (.iconst 0, 1) := by decide +kernel
theorem dL_moveTo_18 : decode cL_moveTo 18 = .ok (.ireturn, 1) := by decide +kernel
theorem dL_lineX_0 : decode cL_lineX 0 = .ok (.aload_n 2, 1) := by decide +kernel
theorem dL_lineX_1 : decode cL_lineX 1 = .ok (.iconst 0, 1) := by decide +kernel
theorem dL_lineX_2 : decode cL_lineX 2 = .ok (.aload_n 0, 1) := by decide +kernel
theorem dL_lineX_3 : decode cL_lineX 3 = .ok (.iload_n 1, 1) := by decide +kernel
theorem dL_lineX_4 : decode cL_lineX 4 = .ok (.invokevirtual 15, 3) := by decide +kernel
theorem dL_lineX_7 : decode cL_lineX 7 = .ok (.i2l, 1) := by decide +kernel
theorem dL_lineX_8 : decode cL_lineX 8 = .ok (.lastore, 1) := by decide +kernel
theorem dL_lineX_9 : decode cL_lineX 9 = .ok (.goto 9, 3) := by decide +kernel
theorem dL_lineX_12 : decode cL_lineX 12 = .ok (.astore_n 3, 1) := by decide +kernel
theorem dL_lineX_13 : decode cL_lineX 13 = .ok (.iconst 1, 1) := by decide +kernel
theorem dL_lineX_14 : decode cL_lineX 14 = .ok (.ireturn, 1) := by decide +kernel
theorem dL_lineX_15 : decode cL_lineX 15 = .ok (.astore_n 3, 1) := by decide +kernel
theorem dL_lineX_16 : decode cL_lineX 16 = .ok (.iconst 2, 1) := by decide +kernel
theorem dL_lineX_17 : decode cL_lineX 17 = .ok (.ireturn, 1) := by decide +kernel
theorem dL_lineX_18 : decode cL_lineX 18 = .ok (.iconst 0, 1) := by decide +kernel
theorem dL_lineX_19 : decode cL_lineX 19 = .ok (.ireturn, 1) := by decide +kernel
theorem dL_lineY_0 : decode cL_lineY 0 = .ok (.aload_n 2, 1) := by decide +kernel
theorem dL_lineY_1 : decode cL_lineY 1 = .ok (.iconst 0, 1) := by decide +kernel
theorem dL_lineY_2 : decode cL_lineY 2 = .ok (.aload_n 0, 1) := by decide +kernel
theorem dL_lineY_3 : decode cL_lineY 3 = .ok (.iload_n 1, 1) := by decide +kernel
theorem dL_lineY_4 : decode cL_lineY 4 = .ok (.invokevirtual 21, 3) := by decide +kernel
theorem dL_lineY_7 : decode cL_lineY 7 = .ok (.i2l, 1) := by decide +kernel
theorem dL_lineY_8 : decode cL_lineY 8 = .ok (.lastore, 1) := by decide +kernel
theorem dL_lineY_9 : decode cL_lineY 9 = .ok (.goto 9, 3) := by decide +kernel
theorem dL_lineY_12 : decode cL_lineY 12 = .ok (.astore_n 3, 1) := by decide +kernel
theorem dL_lineY_13 : decode cL_lineY 13 = .ok (.iconst 1, 1) := by decide +kernel
theorem dL_lineY_14 : decode cL_lineY 14 = .ok (.ireturn, 1) := by decide +kernel
theorem dL_lineY_15 : decode cL_lineY 15 = .ok (.astore_n 3, 1) := by decide +kernel
theorem dL_lineY_16 : decode cL_lineY 16 = .ok (.iconst 2, 1) := by decide +kernel
theorem dL_lineY_17 : decode cL_lineY 17 = .ok (.ireturn, 1) := by decide +kernel
theorem dL_lineY_18 : decode cL_lineY 18 = .ok (.iconst 0, 1) := by decide +kernel
theorem dL_lineY_19 : decode cL_lineY 19 = .ok (.ireturn, 1) := by decide +kernel
theorem dL_close_0 : decode cL_close 0 = .ok (.aload_n 3, 1) := by decide +kernel
theorem dL_close_1 : decode cL_close 1 = .ok (.iconst 0, 1) := by decide +kernel
theorem dL_close_2 : decode cL_close 2 = .ok (.aload_n 0, 1) := by decide +kernel
theorem dL_close_3 : decode cL_close 3 = .ok (.iload_n 1, 1) := by decide +kernel
theorem dL_close_4 : decode cL_close 4 = .ok (.iload_n 2, 1) := by decide +kernel
theorem dL_close_5 : decode cL_close 5 = .ok (.invokevirtual 24, 3) := by decide +kernel
theorem dL_close_8 : decode cL_close 8 = .ok (.i2l, 1) := by decide +kernel
theorem dL_close_9 : decode cL_close 9 = .ok (.lastore, 1) := by decide +kernel
theorem dL_close_10 : decode cL_close 10 = .ok (.goto 11, 3) := by decide +kernel
theorem dL_close_13 : decode cL_close 13 = .ok (.astore 4, 2) := by decide +kernel
theorem dL_close_15 : decode cL_close 15 = .ok (.iconst 1, 1) := by decide +kernel
theorem dL_close_16 : decode cL_close 16 = .ok (.ireturn, 1) := by decide +kernel
theorem dL_close_17 : decode cL_close 17 = .ok (.astore 4, 2) := by decide +kernel
theorem dL_close_19 : decode cL_close 19 = .ok (.iconst 2, 1) := by decide +kernel
theorem dL_close_20 : decode cL_close 20 = .ok (.ireturn, 1) := by decide +kernel
theorem dL_close_21 : decode cL_close 21 = .ok (.iconst 0, 1) := by decide +kernel
theorem dL_close_22 : decode cL_close 22 = .ok (.ireturn, 1) := by decide +kernel
theorem dL_addRectangle_0 : decode cL_addRectangle 0 = .ok (.aload 6, 2) := by decide +kernel
theorem dL_addRectangle_2 : decode cL_addRectangle 2 = .ok (.iconst 0, 1) := by decide +kernel
theorem dL_addRectangle_3 : decode cL_addRectangle 3 = .ok (.aload_n 0, 1) := by decide +kernel
theorem dL_addRectangle_4 : decode cL_addRectangle 4 = .ok (.iload_n 1, 1) := by decide +kernel
theorem dL_addRectangle_5 : decode cL_addRectangle 5 = .ok (.iload_n 2, 1) := by decide +kernel
theorem dL_addRectangle_6 : decode cL_addRectangle 6 = .ok (.iload_n 3, 1) := by decide +kernel
theorem dL_addRectangle_7 : decode cL_addRectangle 7 = .ok (.iload 4, 2) := by decide +kernel
theorem dL_addRectangle_9 : decode cL_addRectangle 9 = .ok (.iload 5, 2) := by decide +kernel
theorem dL_addRectangle_11 : decode cL_addRectangle 11 = .ok (.invokevirtual 29, 3) := by decide +kernel
theorem dL_addRectangle_14 : decode cL_addRectangle 14 = .ok (.i2l, 1) := by decide +kernel
theorem dL_addRectangle_15 : decode cL_addRectangle 15 = .ok (.lastore, 1) := by decide +kernel
theorem dL_addRectangle_16 : decode cL_addRectangle 16 = .ok (.goto 15, 3) := by decide +kernel
theorem dL_addRectangle_19 : decode cL_addRectangle 19 = .ok (.astore 7, 2) := by decide +kernel
theorem dL_addRectangle_21 : decode cL_addRectangle 21 = .ok (.iconst 1, 1) := by decide +kernel
theorem dL_addRectangle_22 : decode cL_addRectangle 22 = .ok (.ireturn, 1) := by decide +kernel
theorem dL_addRectangle_23 : decode cL_addRectangle 23 = .ok (.astore 7, 2) := by decide +kernel
theorem dL_addRectangle_25 : decode cL_addRectangle 25 = .ok (.iconst 2, 1) := by decide +kernel
theorem dL_addRectangle_26 : decode cL_addRectangle 26 = .ok (.ireturn, 1) := by decide +kernel
theorem dL_addRectangle_27 : decode cL_addRectangle 27 = .ok (.astore 7, 2) := by decide +kernel
theorem dL_addRectangle_29 : decode cL_addRectangle 29 = .ok (.iconst 3, 1) := by decide +kernel
theorem dL_addRectangle_30 : decode cL_addRectangle 30 = .ok (.ireturn, 1) := by decide +kernel
theorem dL_addRectangle_31 : decode cL_addRectangle 31 = .ok (.iconst 0, 1) := by decide +kernel
theorem dL_addRectangle_32 : decode cL_addRectangle 32 = .ok (.ireturn, 1) := by decide +kernel
theorem dL_combine_0 : decode cL_combine 0 = .ok (.aload 5, 2) := by decide +kernel
theorem dL_combine_2 : decode cL_combine 2 = .ok (.iconst 0, 1) := by decide +kernel
theorem dL_combine_3 : decode cL_combine 3 = .ok (.aload_n 0, 1) := by decide +kernel
theorem dL_combine_4 : decode cL_combine 4 = .ok (.iload_n 1, 1) := by decide +kernel
theorem dL_combine_5 : decode cL_combine 5 = .ok (.iload_n 2, 1) := by decide +kernel
theorem dL_combine_6 : decode cL_combine 6 = .ok (.iload_n 3, 1) := by decide +kernel
theorem dL_combine_7 : decode cL_combine 7 = .ok (.iload 4, 2) := by decide +kernel
theorem dL_combine_9 : decode cL_combine 9 = .ok (.invokevirtual 33, 3) := by decide +kernel
theorem dL_combine_12 : decode cL_combine 12 = .ok (.i2l, 1) := by decide +kernel
theorem dL_combine_13 : decode cL_combine 13 = .ok (.lastore, 1) := by decide +kernel
theorem dL_combine_14 : decode cL_combine 14 = .ok (.goto 11, 3) := by decide +kernel
theorem dL_combine_17 : decode cL_combine 17 = .ok (.astore 6, 2) := by decide +kernel
theorem dL_combine_19 : decode cL_combine 19 = .ok (.iconst 1, 1) := by decide +kernel
theorem dL_combine_20 : decode cL_combine 20 = .ok (.ireturn, 1) := by decide +kernel
theorem dL_combine_21 : decode cL_combine 21 = .ok (.astore 6, 2) := by decide +kernel
theorem dL_combine_23 : decode cL_combine 23 = .ok (.iconst 2, 1) := by decide +kernel
theorem dL_combine_24 : decode cL_combine 24 = .ok (.ireturn, 1) := by decide +kernel
theorem dL_combine_25 : decode cL_combine 25 = .ok (.iconst 0, 1) := by decide +kernel
theorem dL_combine_26 : decode cL_combine 26 = .ok (.ireturn, 1) := by decide +kernel
theorem dL_move_0 : decode cL_move 0 = .ok (.aload 4, 2) := by decide +kernel
theorem dL_move_2 : decode cL_move 2 = .ok (.iconst 0, 1) := by decide +kernel
theorem dL_move_3 : decode cL_move 3 = .ok (.aload_n 0, 1) := by decide +kernel
theorem dL_move_4 : decode cL_move 4 = .ok (.iload_n 1, 1) := by decide +kernel
theorem dL_move_5 : decode cL_move 5 = .ok (.iload_n 2, 1) := by decide +kernel
theorem dL_move_6 : decode cL_move 6 = .ok (.iload_n 3, 1) := by decide +kernel
theorem dL_move_7 : decode cL_move 7 = .ok (.invokevirtual 37, 3) := by decide +kernel
theorem dL_move_10 : decode cL_move 10 = .ok (.i2l, 1) := by decide +kernel
theorem dL_move_11 : decode cL_move 11 = .ok (.lastore, 1) := by decide +kernel
theorem dL_move_12 : decode cL_move 12 = .ok (.goto 15, 3) := by decide +kernel
theorem dL_move_15 : decode cL_move 15 = .ok (.astore 5, 2) := by decide +kernel
theorem dL_move_17 : decode cL_move 17 = .ok (.iconst 1, 1) := by decide +kernel
theorem dL_move_18 : decode cL_move 18 = .ok (.ireturn, 1) := by decide +kernel
theorem dL_move_19 : decode cL_move 19 = .ok (.astore 5, 2) := by decide +kernel
theorem dL_move_21 : decode cL_move 21 = .ok (.iconst 2, 1) := by decide +kernel
theorem dL_move_22 : decode cL_move 22 = .ok (.ireturn, 1) := by decide +kernel
theorem dL_move_23 : decode cL_move 23 = .ok (.astore 5, 2) := by decide +kernel
theorem dL_move_25 : decode cL_move 25 = .ok (.iconst 3, 1) := by decide +kernel
theorem dL_move_26 : decode cL_move 26 = .ok (.ireturn, 1) := by decide +kernel
theorem dL_move_27 : decode cL_move 27 = .ok (.iconst 0, 1) := by decide +kernel
theorem dL_move_28 : decode cL_move 28 = .ok (.ireturn, 1) := by decide +kernel
theorem dL_turn_0 : decode cL_turn 0 = .ok (.aload_n 3, 1) := by decide +kernel
theorem dL_turn_1 : decode cL_turn 1 = .ok (.iconst 0, 1) := by decide +kernel
theorem dL_turn_2 : decode cL_turn 2 = .ok (.aload_n 0, 1) := by decide +kernel
theorem dL_turn_3 : decode cL_turn 3 = .ok (.iload_n 1, 1) := by decide +kernel
theorem dL_turn_4 : decode cL_turn 4 = .ok (.iload_n 2, 1) := by decide +kernel
theorem dL_turn_5 : decode cL_turn 5 = .ok (.invokevirtual 41, 3) := by decide +kernel
theorem dL_turn_8 : decode cL_turn 8 = .ok (.i2l, 1) := by decide +kernel
theorem dL_turn_9 : decode cL_turn 9 = .ok (.lastore, 1) := by decide +kernel
theorem dL_turn_10 : decode cL_turn 10 = .ok (.goto 11, 3) := by decide +kernel
theorem dL_turn_13 : decode cL_turn 13 = .ok (.astore 4, 2) := by decide +kernel
theorem dL_turn_15 : decode cL_turn 15 = .ok (.iconst 1, 1) := by decide +kernel
theorem dL_turn_16 : decode cL_turn 16 = .ok (.ireturn, 1) := by decide +kernel
theorem dL_turn_17 : decode cL_turn 17 = .ok (.astore 4, 2) := by decide +kernel
theorem dL_turn_19 : decode cL_turn 19 = .ok (.iconst 2, 1) := by decide +kernel
theorem dL_turn_20 : decode cL_turn 20 = .ok (.ireturn, 1) := by decide +kernel
theorem dL_turn_21 : decode cL_turn 21 = .ok (.iconst 0, 1) := by decide +kernel
theorem dL_turn_22 : decode cL_turn 22 = .ok (.ireturn, 1) := by decide +kernel
theorem dL_mirror_0 : decode cL_mirror 0 = .ok (.aload_n 2, 1) := by decide +kernel
theorem dL_mirror_1 : decode cL_mirror 1 = .ok (.iconst 0, 1) := by decide +kernel
theorem dL_mirror_2 : decode cL_mirror 2 = .ok (.aload_n 0, 1) := by decide +kernel
theorem dL_mirror_3 : decode cL_mirror 3 = .ok (.iload_n 1, 1) := by decide +kernel
theorem dL_mirror_4 : decode cL_mirror 4 = .ok (.invokevirtual 44, 3) := by decide +kernel
theorem dL_mirror_7 : decode cL_mirror 7 = .ok (.i2l, 1) := by decide +kernel
theorem dL_mirror_8 : decode cL_mirror 8 = .ok (.lastore, 1) := by decide +kernel
theorem dL_mirror_9 : decode cL_mirror 9 = .ok (.goto 6, 3) := by decide +kernel
theorem dL_mirror_12 : decode cL_mirror 12 = .ok (.astore_n 3, 1) := by decide +kernel
theorem dL_mirror_13 : decode cL_mirror 13 = .ok (.iconst 1, 1) := by decide +kernel
theorem dL_mirror_14 : decode cL_mirror 14 = .ok (.ireturn, 1) := by decide +kernel
theorem dL_mirror_15 : decode cL_mirror 15 = .ok (.iconst 0, 1) := by decide +kernel
theorem dL_mirror_16 : decode cL_mirror 16 = .ok (.ireturn, 1) := by decide +kernel
theorem dL_grow_0 : decode cL_grow 0 = .ok (.aload 4, 2) := by decide +kernel
theorem dL_grow_2 : decode cL_grow 2 = .ok (.iconst 0, 1) := by decide +kernel
theorem dL_grow_3 : decode cL_grow 3 = .ok (.aload_n 0, 1) := by decide +kernel
theorem dL_grow_4 : decode cL_grow 4 = .ok (.iload_n 1, 1) := by decide +kernel
theorem dL_grow_5 : decode cL_grow 5 = .ok (.iload_n 2, 1) := by decide +kernel
theorem dL_grow_6 : decode cL_grow 6 = .ok (.iload_n 3, 1) := by decide +kernel
theorem dL_grow_7 : decode cL_grow 7 = .ok (.invokevirtual 47, 3) := by decide +kernel
theorem dL_grow_10 : decode cL_grow 10 = .ok (.i2l, 1) := by decide +kernel
theorem dL_grow_11 : decode cL_grow 11 = .ok (.lastore, 1) := by decide +kernel
theorem dL_grow_12 : decode cL_grow 12 = .ok (.goto 15, 3) := by decide +kernel
theorem dL_grow_15 : decode cL_grow 15 = .ok (.astore 5, 2) := by decide +kernel
theorem dL_grow_17 : decode cL_grow 17 = .ok (.iconst 1, 1) := by decide +kernel
theorem dL_grow_18 : decode cL_grow 18 = .ok (.ireturn, 1) := by decide +kernel
theorem dL_grow_19 : decode cL_grow 19 = .ok (.astore 5, 2) := by decide +kernel
theorem dL_grow_21 : decode cL_grow 21 = .ok (.iconst 2, 1) := by decide +kernel
theorem dL_grow_22 : decode cL_grow 22 = .ok (.ireturn, 1) := by decide +kernel
theorem dL_grow_23 : decode cL_grow 23 = .ok (.astore 5, 2) := by decide +kernel
theorem dL_grow_25 : decode cL_grow 25 = .ok (.iconst 3, 1) := by decide +kernel
theorem dL_grow_26 : decode cL_grow 26 = .ok (.ireturn, 1) := by decide +kernel
theorem dL_grow_27 : decode cL_grow 27 = .ok (.iconst 0, 1) := by decide +kernel
theorem dL_grow_28 : decode cL_grow 28 = .ok (.ireturn, 1) := by decide +kernel
theorem dL_shrink_0 : decode cL_shrink 0 = .ok (.aload 4, 2) := by decide +kernel
theorem dL_shrink_2 : decode cL_shrink 2 = .ok (.iconst 0, 1) := by decide +kernel
theorem dL_shrink_3 : decode cL_shrink 3 = .ok (.aload_n 0, 1) := by decide +kernel
theorem dL_shrink_4 : decode cL_shrink 4 = .ok (.iload_n 1, 1) := by decide +kernel
theorem dL_shrink_5 : decode cL_shrink 5 = .ok (.iload_n 2, 1) := by decide +kernel
theorem dL_shrink_6 : decode cL_shrink 6 = .ok (.iload_n 3, 1) := by decide +kernel
theorem dL_shrink_7 : decode cL_shrink 7 = .ok (.invokevirtual 50, 3) := by decide +kernel
theorem dL_shrink_10 : decode cL_shrink 10 = .ok (.i2l, 1) := by decide +kernel
theorem dL_shrink_11 : decode cL_shrink 11 = .ok (.lastore, 1) := by decide +kernel
theorem dL_shrink_12 : decode cL_shrink 12 = .ok (.goto 11, 3) := by decide +kernel
theorem dL_shrink_15 : decode cL_shrink 15 = .ok (.astore 5, 2) := by decide +kernel
theorem dL_shrink_17 : decode cL_shrink 17 = .ok (.iconst 1, 1) := by decide +kernel
theorem dL_shrink_18 : decode cL_shrink 18 = .ok (.ireturn, 1) := by decide +kernel
theorem dL_shrink_19 : decode cL_shrink 19 = .ok (.astore 5, 2) := by decide +kernel
theorem dL_shrink_21 : decode cL_shrink 21 = .ok (.iconst 2, 1) := by decide +kernel
theorem dL_shrink_22 : decode cL_shrink 22 = .ok (.ireturn, 1) := by decide +kernel
theorem dL_shrink_23 : decode cL_shrink 23 = .ok (.iconst 0, 1) := by decide +kernel
theorem dL_shrink_24 : decode cL_shrink 24 = .ok (.ireturn, 1) := by decide +kernel
theorem dL_fill_0 : decode cL_fill 0 = .ok (.aload_n 2, 1) := by decide +kernel
theorem dL_fill_1 : decode cL_fill 1 = .ok (.iconst 0, 1) := by decide +kernel
theorem dL_fill_2 : decode cL_fill 2 = .ok (.aload_n 0, 1) := by decide +kernel
theorem dL_fill_3 : decode cL_fill 3 = .ok (.iload_n 1, 1) := by decide +kernel
theorem dL_fill_4 : decode cL_fill 4 = .ok (.invokevirtual 53, 3) := by decide +kernel
theorem dL_fill_7 : decode cL_fill 7 = .ok (.i2l, 1) := by decide +kernel
theorem dL_fill_8 : decode cL_fill 8 = .ok (.lastore, 1) := by decide +kernel
theorem dL_fill_9 : decode cL_fill 9 = .ok (.goto 6, 3) := by decide +kernel
theorem dL_fill_12 : decode cL_fill 12 = .ok (.astore_n 3, 1) := by decide +kernel
theorem dL_fill_13 : decode cL_fill 13 = .ok (.iconst 1, 1) := by decide +kernel
theorem dL_fill_14 : decode cL_fill 14 = .ok (.ireturn, 1) := by decide +kernel
theorem dL_fill_15 : decode cL_fill 15 = .ok (.iconst 0, 1) := by decide +kernel
theorem dL_fill_16 : decode cL_fill 16 = .ok (.ireturn, 1) := by decide +kernel
theorem dL_keepPiece_0 : decode cL_keepPiece 0 = .ok (.aload 4, 2) := by decide +kernel
theorem dL_keepPiece_2 : decode cL_keepPiece 2 = .ok (.iconst 0, 1) := by decide +kernel
theorem dL_keepPiece_3 : decode cL_keepPiece 3 = .ok (.aload_n 0, 1) := by decide +kernel
theorem dL_keepPiece_4 : decode cL_keepPiece 4 = .ok (.iload_n 1, 1) := by decide +kernel
theorem dL_keepPiece_5 : decode cL_keepPiece 5 = .ok (.iload_n 2, 1) := by decide +kernel
theorem dL_keepPiece_6 : decode cL_keepPiece 6 = .ok (.iload_n 3, 1) := by decide +kernel
theorem dL_keepPiece_7 : decode cL_keepPiece 7 = .ok (.invokevirtual 56, 3) := by decide +kernel
theorem dL_keepPiece_10 : decode cL_keepPiece 10 = .ok (.i2l, 1) := by decide +kernel
theorem dL_keepPiece_11 : decode cL_keepPiece 11 = .ok (.lastore, 1) := by decide +kernel
theorem dL_keepPiece_12 : decode cL_keepPiece 12 = .ok (.goto 7, 3) := by decide +kernel
theorem dL_keepPiece_15 : decode cL_keepPiece 15 = .ok (.astore 5, 2) := by decide +kernel
theorem dL_keepPiece_17 : decode cL_keepPiece 17 = .ok (.iconst 1, 1) := by decide +kernel
theorem dL_keepPiece_18 : decode cL_keepPiece 18 = .ok (.ireturn, 1) := by decide +kernel
end
section
theorem dL_keepPiece_19 : decode cL_keepPiece 19 = .ok (.iconst 0, 1) := by decide +kernel
theorem dL_keepPiece_20 : decode cL_keepPiece 20 = .ok (.ireturn, 1) := by decide +kernel
theorem dL_clear_0 : decode cL_clear 0 = .ok (.aload_n 2, 1) := by decide +kernel
theorem dL_clear_1 : decode cL_clear 1 = .ok (.iconst 0, 1) := by decide +kernel
theorem dL_clear_2 : decode cL_clear 2 = .ok (.aload_n 0, 1) := by decide +kernel
theorem dL_clear_3 : decode cL_clear 3 = .ok (.iload_n 1, 1) := by decide +kernel
theorem dL_clear_4 : decode cL_clear 4 = .ok (.invokevirtual 59, 3) := by decide +kernel
theorem dL_clear_7 : decode cL_clear 7 = .ok (.i2l, 1) := by decide +kernel
theorem dL_clear_8 : decode cL_clear 8 = .ok (.lastore, 1) := by decide +kernel
theorem dL_clear_9 : decode cL_clear 9 = .ok (.goto 6, 3) := by decide +kernel
theorem dL_clear_12 : decode cL_clear 12 = .ok (.astore_n 3, 1) := by decide +kernel
theorem dL_clear_13 : decode cL_clear 13 = .ok (.iconst 1, 1) := by decide +kernel
theorem dL_clear_14 : decode cL_clear 14 = .ok (.ireturn, 1) := by decide +kernel
theorem dL_clear_15 : decode cL_clear 15 = .ok (.iconst 0, 1) := by decide +kernel
theorem dL_clear_16 : decode cL_clear 16 = .ok (.ireturn, 1) := by decide +kernel
theorem dL_area_0 : decode cL_area 0 = .ok (.aload_n 2, 1) := by decide +kernel
theorem dL_area_1 : decode cL_area 1 = .ok (.iconst 0, 1) := by decide +kernel
theorem dL_area_2 : decode cL_area 2 = .ok (.aload_n 0, 1) := by decide +kernel
theorem dL_area_3 : decode cL_area 3 = .ok (.iload_n 1, 1) := by decide +kernel
theorem dL_area_4 : decode cL_area 4 = .ok (.invokevirtual 62, 3) := by decide +kernel
theorem dL_area_7 : decode cL_area 7 = .ok (.i2l, 1) := by decide +kernel
theorem dL_area_8 : decode cL_area 8 = .ok (.lastore, 1) := by decide +kernel
theorem dL_area_9 : decode cL_area 9 = .ok (.goto 6, 3) := by decide +kernel
theorem dL_area_12 : decode cL_area 12 = .ok (.astore_n 3, 1) := by decide +kernel
theorem dL_area_13 : decode cL_area 13 = .ok (.iconst 1, 1) := by decide +kernel
theorem dL_area_14 : decode cL_area 14 = .ok (.ireturn, 1) := by decide +kernel
theorem dL_area_15 : decode cL_area 15 = .ok (.iconst 0, 1) := by decide +kernel
theorem dL_area_16 : decode cL_area 16 = .ok (.ireturn, 1) := by decide +kernel
theorem dL_edges_0 : decode cL_edges 0 = .ok (.aload_n 2, 1) := by decide +kernel
theorem dL_edges_1 : decode cL_edges 1 = .ok (.iconst 0, 1) := by decide +kernel
theorem dL_edges_2 : decode cL_edges 2 = .ok (.aload_n 0, 1) := by decide +kernel
theorem dL_edges_3 : decode cL_edges 3 = .ok (.iload_n 1, 1) := by decide +kernel
theorem dL_edges_4 : decode cL_edges 4 = .ok (.invokevirtual 65, 3) := by decide +kernel
theorem dL_edges_7 : decode cL_edges 7 = .ok (.i2l, 1) := by decide +kernel
theorem dL_edges_8 : decode cL_edges 8 = .ok (.lastore, 1) := by decide +kernel
theorem dL_edges_9 : decode cL_edges 9 = .ok (.goto 6, 3) := by decide +kernel
theorem dL_edges_12 : decode cL_edges 12 = .ok (.astore_n 3, 1) := by decide +kernel
theorem dL_edges_13 : decode cL_edges 13 = .ok (.iconst 1, 1) := by decide +kernel
theorem dL_edges_14 : decode cL_edges 14 = .ok (.ireturn, 1) := by decide +kernel
theorem dL_edges_15 : decode cL_edges 15 = .ok (.iconst 0, 1) := by decide +kernel
theorem dL_edges_16 : decode cL_edges 16 = .ok (.ireturn, 1) := by decide +kernel
theorem dL_pieces_0 : decode cL_pieces 0 = .ok (.aload_n 2, 1) := by decide +kernel
theorem dL_pieces_1 : decode cL_pieces 1 = .ok (.iconst 0, 1) := by decide +kernel
theorem dL_pieces_2 : decode cL_pieces 2 = .ok (.aload_n 0, 1) := by decide +kernel
theorem dL_pieces_3 : decode cL_pieces 3 = .ok (.iload_n 1, 1) := by decide +kernel
theorem dL_pieces_4 : decode cL_pieces 4 = .ok (.invokevirtual 68, 3) := by decide +kernel
theorem dL_pieces_7 : decode cL_pieces 7 = .ok (.i2l, 1) := by decide +kernel
theorem dL_pieces_8 : decode cL_pieces 8 = .ok (.lastore, 1) := by decide +kernel
theorem dL_pieces_9 : decode cL_pieces 9 = .ok (.goto 6, 3) := by decide +kernel
theorem dL_pieces_12 : decode cL_pieces 12 = .ok (.astore_n 3, 1) := by decide +kernel
theorem dL_pieces_13 : decode cL_pieces 13 = .ok (.iconst 1, 1) := by decide +kernel
theorem dL_pieces_14 : decode cL_pieces 14 = .ok (.ireturn, 1) := by decide +kernel
theorem dL_pieces_15 : decode cL_pieces 15 = .ok (.iconst 0, 1) := by decide +kernel
theorem dL_pieces_16 : decode cL_pieces 16 = .ok (.ireturn, 1) := by decide +kernel
theorem dL_holes_0 : decode cL_holes 0 = .ok (.aload_n 2, 1) := by decide +kernel
theorem dL_holes_1 : decode cL_holes 1 = .ok (.iconst 0, 1) := by decide +kernel
theorem dL_holes_2 : decode cL_holes 2 = .ok (.aload_n 0, 1) := by decide +kernel
theorem dL_holes_3 : decode cL_holes 3 = .ok (.iload_n 1, 1) := by decide +kernel
theorem dL_holes_4 : decode cL_holes 4 = .ok (.invokevirtual 71, 3) := by decide +kernel
theorem dL_holes_7 : decode cL_holes 7 = .ok (.i2l, 1) := by decide +kernel
theorem dL_holes_8 : decode cL_holes 8 = .ok (.lastore, 1) := by decide +kernel
theorem dL_holes_9 : decode cL_holes 9 = .ok (.goto 6, 3) := by decide +kernel
theorem dL_holes_12 : decode cL_holes 12 = .ok (.astore_n 3, 1) := by decide +kernel
theorem dL_holes_13 : decode cL_holes 13 = .ok (.iconst 1, 1) := by decide +kernel
theorem dL_holes_14 : decode cL_holes 14 = .ok (.ireturn, 1) := by decide +kernel
theorem dL_holes_15 : decode cL_holes 15 = .ok (.iconst 0, 1) := by decide +kernel
theorem dL_holes_16 : decode cL_holes 16 = .ok (.ireturn, 1) := by decide +kernel
theorem dL_has_0 : decode cL_has 0 = .ok (.aload 4, 2) := by decide +kernel
theorem dL_has_2 : decode cL_has 2 = .ok (.iconst 0, 1) := by decide +kernel
theorem dL_has_3 : decode cL_has 3 = .ok (.aload_n 0, 1) := by decide +kernel
theorem dL_has_4 : decode cL_has 4 = .ok (.iload_n 1, 1) := by decide +kernel
theorem dL_has_5 : decode cL_has 5 = .ok (.iload_n 2, 1) := by decide +kernel
theorem dL_has_6 : decode cL_has 6 = .ok (.iload_n 3, 1) := by decide +kernel
theorem dL_has_7 : decode cL_has 7 = .ok (.invokevirtual 74, 3) := by decide +kernel
theorem dL_has_10 : decode cL_has 10 = .ok (.ifCond .eq 7, 3) := by decide +kernel
theorem dL_has_13 : decode cL_has 13 = .ok (.lconst 1, 1) := by decide +kernel
theorem dL_has_14 : decode cL_has 14 = .ok (.goto 4, 3) := by decide +kernel
theorem dL_has_17 : decode cL_has 17 = .ok (.lconst 0, 1) := by decide +kernel
theorem dL_has_18 : decode cL_has 18 = .ok (.lastore, 1) := by decide +kernel
theorem dL_has_19 : decode cL_has 19 = .ok (.goto 7, 3) := by decide +kernel
theorem dL_has_22 : decode cL_has 22 = .ok (.astore 5, 2) := by decide +kernel
theorem dL_has_24 : decode cL_has 24 = .ok (.iconst 1, 1) := by decide +kernel
theorem dL_has_25 : decode cL_has 25 = .ok (.ireturn, 1) := by decide +kernel
theorem dL_has_26 : decode cL_has 26 = .ok (.iconst 0, 1) := by decide +kernel
theorem dL_has_27 : decode cL_has 27 = .ok (.ireturn, 1) := by decide +kernel
theorem dL_bound_0 : decode cL_bound 0 = .ok (.aload_n 3, 1) := by decide +kernel
theorem dL_bound_1 : decode cL_bound 1 = .ok (.iconst 0, 1) := by decide +kernel
theorem dL_bound_2 : decode cL_bound 2 = .ok (.aload_n 0, 1) := by decide +kernel
theorem dL_bound_3 : decode cL_bound 3 = .ok (.iload_n 1, 1) := by decide +kernel
theorem dL_bound_4 : decode cL_bound 4 = .ok (.iload_n 2, 1) := by decide +kernel
theorem dL_bound_5 : decode cL_bound 5 = .ok (.invokevirtual 78, 3) := by decide +kernel
theorem dL_bound_8 : decode cL_bound 8 = .ok (.i2l, 1) := by decide +kernel
theorem dL_bound_9 : decode cL_bound 9 = .ok (.lastore, 1) := by decide +kernel
theorem dL_bound_10 : decode cL_bound 10 = .ok (.goto 11, 3) := by decide +kernel
theorem dL_bound_13 : decode cL_bound 13 = .ok (.astore 4, 2) := by decide +kernel
theorem dL_bound_15 : decode cL_bound 15 = .ok (.iconst 1, 1) := by decide +kernel
theorem dL_bound_16 : decode cL_bound 16 = .ok (.ireturn, 1) := by decide +kernel
theorem dL_bound_17 : decode cL_bound 17 = .ok (.astore 4, 2) := by decide +kernel
theorem dL_bound_19 : decode cL_bound 19 = .ok (.iconst 2, 1) := by decide +kernel
theorem dL_bound_20 : decode cL_bound 20 = .ok (.ireturn, 1) := by decide +kernel
theorem dL_bound_21 : decode cL_bound 21 = .ok (.iconst 0, 1) := by decide +kernel
theorem dL_bound_22 : decode cL_bound 22 = .ok (.ireturn, 1) := by decide +kernel
theorem dL_contours_0 : decode cL_contours 0 = .ok (.aload_n 2, 1) := by decide +kernel
theorem dL_contours_1 : decode cL_contours 1 = .ok (.iconst 0, 1) := by decide +kernel
theorem dL_contours_2 : decode cL_contours 2 = .ok (.aload_n 0, 1) := by decide +kernel
theorem dL_contours_3 : decode cL_contours 3 = .ok (.iload_n 1, 1) := by decide +kernel
theorem dL_contours_4 : decode cL_contours 4 = .ok (.invokevirtual 81, 3) := by decide +kernel
theorem dL_contours_7 : decode cL_contours 7 = .ok (.i2l, 1) := by decide +kernel
theorem dL_contours_8 : decode cL_contours 8 = .ok (.lastore, 1) := by decide +kernel
theorem dL_contours_9 : decode cL_contours 9 = .ok (.goto 6, 3) := by decide +kernel
theorem dL_contours_12 : decode cL_contours 12 = .ok (.astore_n 3, 1) := by decide +kernel
theorem dL_contours_13 : decode cL_contours 13 = .ok (.iconst 1, 1) := by decide +kernel
theorem dL_contours_14 : decode cL_contours 14 = .ok (.ireturn, 1) := by decide +kernel
theorem dL_contours_15 : decode cL_contours 15 = .ok (.iconst 0, 1) := by decide +kernel
theorem dL_contours_16 : decode cL_contours 16 = .ok (.ireturn, 1) := by decide +kernel
theorem dL_corners_0 : decode cL_corners 0 = .ok (.aload_n 3, 1) := by decide +kernel
theorem dL_corners_1 : decode cL_corners 1 = .ok (.iconst 0, 1) := by decide +kernel
theorem dL_corners_2 : decode cL_corners 2 = .ok (.aload_n 0, 1) := by decide +kernel
theorem dL_corners_3 : decode cL_corners 3 = .ok (.iload_n 1, 1) := by decide +kernel
theorem dL_corners_4 : decode cL_corners 4 = .ok (.iload_n 2, 1) := by decide +kernel
theorem dL_corners_5 : decode cL_corners 5 = .ok (.invokevirtual 84, 3) := by decide +kernel
theorem dL_corners_8 : decode cL_corners 8 = .ok (.i2l, 1) := by decide +kernel
theorem dL_corners_9 : decode cL_corners 9 = .ok (.lastore, 1) := by decide +kernel
theorem dL_corners_10 : decode cL_corners 10 = .ok (.goto 7, 3) := by decide +kernel
theorem dL_corners_13 : decode cL_corners 13 = .ok (.astore 4, 2) := by decide +kernel
theorem dL_corners_15 : decode cL_corners 15 = .ok (.iconst 1, 1) := by decide +kernel
theorem dL_corners_16 : decode cL_corners 16 = .ok (.ireturn, 1) := by decide +kernel
theorem dL_corners_17 : decode cL_corners 17 = .ok (.iconst 0, 1) := by decide +kernel
theorem dL_corners_18 : decode cL_corners 18 = .ok (.ireturn, 1) := by decide +kernel
theorem dL_cornerX_0 : decode cL_cornerX 0 = .ok (.aload 4, 2) := by decide +kernel
theorem dL_cornerX_2 : decode cL_cornerX 2 = .ok (.iconst 0, 1) := by decide +kernel
theorem dL_cornerX_3 : decode cL_cornerX 3 = .ok (.aload_n 0, 1) := by decide +kernel
theorem dL_cornerX_4 : decode cL_cornerX 4 = .ok (.iload_n 1, 1) := by decide +kernel
theorem dL_cornerX_5 : decode cL_cornerX 5 = .ok (.iload_n 2, 1) := by decide +kernel
theorem dL_cornerX_6 : decode cL_cornerX 6 = .ok (.iload_n 3, 1) := by decide +kernel
theorem dL_cornerX_7 : decode cL_cornerX 7 = .ok (.invokevirtual 87, 3) := by decide +kernel
theorem dL_cornerX_10 : decode cL_cornerX 10 = .ok (.i2l, 1) := by decide +kernel
theorem dL_cornerX_11 : decode cL_cornerX 11 = .ok (.lastore, 1) := by decide +kernel
theorem dL_cornerX_12 : decode cL_cornerX 12 = .ok (.goto 7, 3) := by decide +kernel
theorem dL_cornerX_15 : decode cL_cornerX 15 = .ok (.astore 5, 2) := by decide +kernel
theorem dL_cornerX_17 : decode cL_cornerX 17 = .ok (.iconst 1, 1) := by decide +kernel
theorem dL_cornerX_18 : decode cL_cornerX 18 = .ok (.ireturn, 1) := by decide +kernel
theorem dL_cornerX_19 : decode cL_cornerX 19 = .ok (.iconst 0, 1) := by decide +kernel
theorem dL_cornerX_20 : decode cL_cornerX 20 = .ok (.ireturn, 1) := by decide +kernel
theorem dL_cornerY_0 : decode cL_cornerY 0 = .ok (.aload 4, 2) := by decide +kernel
theorem dL_cornerY_2 : decode cL_cornerY 2 = .ok (.iconst 0, 1) := by decide +kernel
theorem dL_cornerY_3 : decode cL_cornerY 3 = .ok (.aload_n 0, 1) := by decide +kernel
theorem dL_cornerY_4 : decode cL_cornerY 4 = .ok (.iload_n 1, 1) := by decide +kernel
theorem dL_cornerY_5 : decode cL_cornerY 5 = .ok (.iload_n 2, 1) := by decide +kernel
theorem dL_cornerY_6 : decode cL_cornerY 6 = .ok (.iload_n 3, 1) := by decide +kernel
theorem dL_cornerY_7 : decode cL_cornerY 7 = .ok (.invokevirtual 90, 3) := by decide +kernel
theorem dL_cornerY_10 : decode cL_cornerY 10 = .ok (.i2l, 1) := by decide +kernel
theorem dL_cornerY_11 : decode cL_cornerY 11 = .ok (.lastore, 1) := by decide +kernel
theorem dL_cornerY_12 : decode cL_cornerY 12 = .ok (.goto 7, 3) := by decide +kernel
theorem dL_cornerY_15 : decode cL_cornerY 15 = .ok (.astore 5, 2) := by decide +kernel
theorem dL_cornerY_17 : decode cL_cornerY 17 = .ok (.iconst 1, 1) := by decide +kernel
theorem dL_cornerY_18 : decode cL_cornerY 18 = .ok (.ireturn, 1) := by decide +kernel
theorem dL_cornerY_19 : decode cL_cornerY 19 = .ok (.iconst 0, 1) := by decide +kernel
theorem dL_cornerY_20 : decode cL_cornerY 20 = .ok (.ireturn, 1) := by decide +kernel
theorem dL_areaOf_0 : decode cL_areaOf 0 = .ok (.aload_n 3, 1) := by decide +kernel
theorem dL_areaOf_1 : decode cL_areaOf 1 = .ok (.iconst 0, 1) := by decide +kernel
theorem dL_areaOf_2 : decode cL_areaOf 2 = .ok (.aload_n 0, 1) := by decide +kernel
theorem dL_areaOf_3 : decode cL_areaOf 3 = .ok (.iload_n 1, 1) := by decide +kernel
theorem dL_areaOf_4 : decode cL_areaOf 4 = .ok (.iload_n 2, 1) := by decide +kernel
theorem dL_areaOf_5 : decode cL_areaOf 5 = .ok (.invokevirtual 93, 3) := by decide +kernel
theorem dL_areaOf_8 : decode cL_areaOf 8 = .ok (.i2l, 1) := by decide +kernel
theorem dL_areaOf_9 : decode cL_areaOf 9 = .ok (.lastore, 1) := by decide +kernel
theorem dL_areaOf_10 : decode cL_areaOf 10 = .ok (.goto 7, 3) := by decide +kernel
theorem dL_areaOf_13 : decode cL_areaOf 13 = .ok (.astore 4, 2) := by decide +kernel
theorem dL_areaOf_15 : decode cL_areaOf 15 = .ok (.iconst 1, 1) := by decide +kernel
theorem dL_areaOf_16 : decode cL_areaOf 16 = .ok (.ireturn, 1) := by decide +kernel
theorem dL_areaOf_17 : decode cL_areaOf 17 = .ok (.iconst 0, 1) := by decide +kernel
theorem dL_areaOf_18 : decode cL_areaOf 18 = .ok (.ireturn, 1) := by decide +kernel
theorem dL_strips_0 : decode cL_strips 0 = .ok (.aload_n 2, 1) := by decide +kernel
theorem dL_strips_1 : decode cL_strips 1 = .ok (.iconst 0, 1) := by decide +kernel
theorem dL_strips_2 : decode cL_strips 2 = .ok (.aload_n 0, 1) := by decide +kernel
theorem dL_strips_3 : decode cL_strips 3 = .ok (.iload_n 1, 1) := by decide +kernel
theorem dL_strips_4 : decode cL_strips 4 = .ok (.invokevirtual 96, 3) := by decide +kernel
theorem dL_strips_7 : decode cL_strips 7 = .ok (.i2l, 1) := by decide +kernel
theorem dL_strips_8 : decode cL_strips 8 = .ok (.lastore, 1) := by decide +kernel
theorem dL_strips_9 : decode cL_strips 9 = .ok (.goto 6, 3) := by decide +kernel
theorem dL_strips_12 : decode cL_strips 12 = .ok (.astore_n 3, 1) := by decide +kernel
theorem dL_strips_13 : decode cL_strips 13 = .ok (.iconst 1, 1) := by decide +kernel
theorem dL_strips_14 : decode cL_strips 14 = .ok (.ireturn, 1) := by decide +kernel
theorem dL_strips_15 : decode cL_strips 15 = .ok (.iconst 0, 1) := by decide +kernel
theorem dL_strips_16 : decode cL_strips 16 = .ok (.ireturn, 1) := by decide +kernel
theorem dL_strip_0 : decode cL_strip 0 = .ok (.aload 4, 2) := by decide +kernel
theorem dL_strip_2 : decode cL_strip 2 = .ok (.iconst 0, 1) := by decide +kernel
theorem dL_strip_3 : decode cL_strip 3 = .ok (.aload_n 0, 1) := by decide +kernel
theorem dL_strip_4 : decode cL_strip 4 = .ok (.iload_n 1, 1) := by decide +kernel
theorem dL_strip_5 : decode cL_strip 5 = .ok (.iload_n 2, 1) := by decide +kernel
theorem dL_strip_6 : decode cL_strip 6 = .ok (.iload_n 3, 1) := by decide +kernel
theorem dL_strip_7 : decode cL_strip 7 = .ok (.invokevirtual 99, 3) := by decide +kernel
theorem dL_strip_10 : decode cL_strip 10 = .ok (.i2l, 1) := by decide +kernel
theorem dL_strip_11 : decode cL_strip 11 = .ok (.lastore, 1) := by decide +kernel
theorem dL_strip_12 : decode cL_strip 12 = .ok (.goto 11, 3) := by decide +kernel
theorem dL_strip_15 : decode cL_strip 15 = .ok (.astore 5, 2) := by decide +kernel
theorem dL_strip_17 : decode cL_strip 17 = .ok (.iconst 1, 1) := by decide +kernel
theorem dL_strip_18 : decode cL_strip 18 = .ok (.ireturn, 1) := by decide +kernel
theorem dL_strip_19 : decode cL_strip 19 = .ok (.astore 5, 2) := by decide +kernel
theorem dL_strip_21 : decode cL_strip 21 = .ok (.iconst 2, 1) := by decide +kernel
theorem dL_strip_22 : decode cL_strip 22 = .ok (.ireturn, 1) := by decide +kernel
theorem dL_strip_23 : decode cL_strip 23 = .ok (.iconst 0, 1) := by decide +kernel
theorem dL_strip_24 : decode cL_strip 24 = .ok (.ireturn, 1) := by decide +kernel
theorem dL_hatch_0 : decode cL_hatch 0 = .ok (.aload 5, 2) := by decide +kernel
theorem dL_hatch_2 : decode cL_hatch 2 = .ok (.iconst 0, 1) := by decide +kernel
theorem dL_hatch_3 : decode cL_hatch 3 = .ok (.aload_n 0, 1) := by decide +kernel
theorem dL_hatch_4 : decode cL_hatch 4 = .ok (.iload_n 1, 1) := by decide +kernel
theorem dL_hatch_5 : decode cL_hatch 5 = .ok (.iload_n 2, 1) := by decide +kernel
theorem dL_hatch_6 : decode cL_hatch 6 = .ok (.iload_n 3, 1) := by decide +kernel
theorem dL_hatch_7 : decode cL_hatch 7 = .ok (.iload 4, 2) := by decide +kernel
theorem dL_hatch_9 : decode cL_hatch 9 = .ok (.invokevirtual 102, 3) := by decide +kernel
theorem dL_hatch_12 : decode cL_hatch 12 = .ok (.i2l, 1) := by decide +kernel
theorem dL_hatch_13 : decode cL_hatch 13 = .ok (.lastore, 1) := by decide +kernel
theorem dL_hatch_14 : decode cL_hatch 14 = .ok (.goto 11, 3) := by decide +kernel
theorem dL_hatch_17 : decode cL_hatch 17 = .ok (.astore 6, 2) := by decide +kernel
theorem dL_hatch_19 : decode cL_hatch 19 = .ok (.iconst 1, 1) := by decide +kernel
theorem dL_hatch_20 : decode cL_hatch 20 = .ok (.ireturn, 1) := by decide +kernel
theorem dL_hatch_21 : decode cL_hatch 21 = .ok (.astore 6, 2) := by decide +kernel
theorem dL_hatch_23 : decode cL_hatch 23 = .ok (.iconst 2, 1) := by decide +kernel
theorem dL_hatch_24 : decode cL_hatch 24 = .ok (.ireturn, 1) := by decide +kernel
theorem dL_hatch_25 : decode cL_hatch 25 = .ok (.iconst 0, 1) := by decide +kernel
theorem dL_hatch_26 : decode cL_hatch 26 = .ok (.ireturn, 1) := by decide +kernel
theorem dL_hatched_0 : decode cL_hatched 0 = .ok (.aload 5, 2) := by decide +kernel
theorem dL_hatched_2 : decode cL_hatched 2 = .ok (.iconst 0, 1) := by decide +kernel
theorem dL_hatched_3 : decode cL_hatched 3 = .ok (.aload_n 0, 1) := by decide +kernel
theorem dL_hatched_4 : decode cL_hatched 4 = .ok (.iload_n 1, 1) := by decide +kernel
theorem dL_hatched_5 : decode cL_hatched 5 = .ok (.iload_n 2, 1) := by decide +kernel
theorem dL_hatched_6 : decode cL_hatched 6 = .ok (.iload_n 3, 1) := by decide +kernel
theorem dL_hatched_7 : decode cL_hatched 7 = .ok (.iload 4, 2) := by decide +kernel
theorem dL_hatched_9 : decode cL_hatched 9 = .ok (.invokevirtual 105, 3) := by decide +kernel
theorem dL_hatched_12 : decode cL_hatched 12 = .ok (.i2l, 1) := by decide +kernel
theorem dL_hatched_13 : decode cL_hatched 13 = .ok (.lastore, 1) := by decide +kernel
theorem dL_hatched_14 : decode cL_hatched 14 = .ok (.goto 11, 3) := by decide +kernel
theorem dL_hatched_17 : decode cL_hatched 17 = .ok (.astore 6, 2) := by decide +kernel
theorem dL_hatched_19 : decode cL_hatched 19 = .ok (.iconst 1, 1) := by decide +kernel
theorem dL_hatched_20 : decode cL_hatched 20 = .ok (.ireturn, 1) := by decide +kernel
theorem dL_hatched_21 : decode cL_hatched 21 = .ok (.astore 6, 2) := by decide +kernel
theorem dL_hatched_23 : decode cL_hatched 23 = .ok (.iconst 2, 1) := by decide +kernel
theorem dL_hatched_24 : decode cL_hatched 24 = .ok (.ireturn, 1) := by decide +kernel
theorem dL_hatched_25 : decode cL_hatched 25 = .ok (.iconst 0, 1) := by decide +kernel
theorem dL_hatched_26 : decode cL_hatched 26 = .ok (.ireturn, 1) := by decide +kernel
theorem dL_apart_0 : decode cL_apart 0 = .ok (.aload_n 3, 1) := by decide +kernel
theorem dL_apart_1 : decode cL_apart 1 = .ok (.iconst 0, 1) := by decide +kernel
theorem dL_apart_2 : decode cL_apart 2 = .ok (.aload_n 0, 1) := by decide +kernel
theorem dL_apart_3 : decode cL_apart 3 = .ok (.iload_n 1, 1) := by decide +kernel
theorem dL_apart_4 : decode cL_apart 4 = .ok (.iload_n 2, 1) := by decide +kernel
theorem dL_apart_5 : decode cL_apart 5 = .ok (.invokevirtual 108, 3) := by decide +kernel
theorem dL_apart_8 : decode cL_apart 8 = .ok (.i2l, 1) := by decide +kernel
theorem dL_apart_9 : decode cL_apart 9 = .ok (.lastore, 1) := by decide +kernel
theorem dL_apart_10 : decode cL_apart 10 = .ok (.goto 7, 3) := by decide +kernel
theorem dL_apart_13 : decode cL_apart 13 = .ok (.astore 4, 2) := by decide +kernel
theorem dL_apart_15 : decode cL_apart 15 = .ok (.iconst 1, 1) := by decide +kernel
theorem dL_apart_16 : decode cL_apart 16 = .ok (.ireturn, 1) := by decide +kernel
theorem dL_apart_17 : decode cL_apart 17 = .ok (.iconst 0, 1) := by decide +kernel
theorem dL_apart_18 : decode cL_apart 18 = .ok (.ireturn, 1) := by decide +kernel
theorem dL_isSameForm_0 : decode cL_isSameForm 0 = .ok (.aload_n 3, 1) := by decide +kernel
theorem dL_isSameForm_1 : decode cL_isSameForm 1 = .ok (.iconst 0, 1) := by decide +kernel
theorem dL_isSameForm_2 : decode cL_isSameForm 2 = .ok (.aload_n 0, 1) := by decide +kernel
theorem dL_isSameForm_3 : decode cL_isSameForm 3 = .ok (.iload_n 1, 1) := by decide +kernel
theorem dL_isSameForm_4 : decode cL_isSameForm 4 = .ok (.iload_n 2, 1) := by decide +kernel
theorem dL_isSameForm_5 : decode cL_isSameForm 5 = .ok (.invokevirtual 111, 3) := by decide +kernel
theorem dL_isSameForm_8 : decode cL_isSameForm 8 = .ok (.ifCond .eq 7, 3) := by decide +kernel
theorem dL_isSameForm_11 : decode cL_isSameForm 11 = .ok (.lconst 1, 1) := by decide +kernel
theorem dL_isSameForm_12 : decode cL_isSameForm 12 = .ok (.goto 4, 3) := by decide +kernel
theorem dL_isSameForm_15 : decode cL_isSameForm 15 = .ok (.lconst 0, 1) := by decide +kernel
theorem dL_isSameForm_16 : decode cL_isSameForm 16 = .ok (.lastore, 1) := by decide +kernel
theorem dL_isSameForm_17 : decode cL_isSameForm 17 = .ok (.goto 7, 3) := by decide +kernel
theorem dL_isSameForm_20 : decode cL_isSameForm 20 = .ok (.astore 4, 2) := by decide +kernel
theorem dL_isSameForm_22 : decode cL_isSameForm 22 = .ok (.iconst 1, 1) := by decide +kernel
theorem dL_isSameForm_23 : decode cL_isSameForm 23 = .ok (.ireturn, 1) := by decide +kernel
theorem dL_isSameForm_24 : decode cL_isSameForm 24 = .ok (.iconst 0, 1) := by decide +kernel
theorem dL_isSameForm_25 : decode cL_isSameForm 25 = .ok (.ireturn, 1) := by decide +kernel
theorem dL_middleX_0 : decode cL_middleX 0 = .ok (.aload_n 2, 1) := by decide +kernel
theorem dL_middleX_1 : decode cL_middleX 1 = .ok (.iconst 0, 1) := by decide +kernel
theorem dL_middleX_2 : decode cL_middleX 2 = .ok (.aload_n 0, 1) := by decide +kernel
theorem dL_middleX_3 : decode cL_middleX 3 = .ok (.iload_n 1, 1) := by decide +kernel
theorem dL_middleX_4 : decode cL_middleX 4 = .ok (.invokevirtual 115, 3) := by decide +kernel
theorem dL_middleX_7 : decode cL_middleX 7 = .ok (.dastore, 1) := by decide +kernel
theorem dL_middleX_8 : decode cL_middleX 8 = .ok (.goto 6, 3) := by decide +kernel
theorem dL_middleX_11 : decode cL_middleX 11 = .ok (.astore_n 3, 1) := by decide +kernel
theorem dL_middleX_12 : decode cL_middleX 12 = .ok (.iconst 1, 1) := by decide +kernel
theorem dL_middleX_13 : decode cL_middleX 13 = .ok (.ireturn, 1) := by decide +kernel
theorem dL_middleX_14 : decode cL_middleX 14 = .ok (.iconst 0, 1) := by decide +kernel
theorem dL_middleX_15 : decode cL_middleX 15 = .ok (.ireturn, 1) := by decide +kernel
theorem dL_law_0 : decode cL_law 0 = .ok (.new 8, 3) := by decide +kernel
theorem dL_law_3 : decode cL_law 3 = .ok (.dup, 1) := by decide +kernel
theorem dL_law_4 : decode cL_law 4 = .ok (.invokespecial 119, 3) := by decide +kernel
theorem dL_law_7 : decode cL_law 7 = .ok (.astore_n 1, 1) := by decide +kernel
theorem dL_law_8 : decode cL_law 8 = .ok (.new 120, 3) := by decide +kernel
theorem dL_law_11 : decode cL_law 11 = .ok (.dup, 1) := by decide +kernel
theorem dL_law_12 : decode cL_law 12 = .ok (.invokespecial 122, 3) := by decide +kernel
theorem dL_law_15 : decode cL_law 15 = .ok (.astore_n 2, 1) := by decide +kernel
theorem dL_law_16 : decode cL_law 16 = .ok (.iconst 1, 1) := by decide +kernel
theorem dL_law_17 : decode cL_law 17 = .ok (.newarray .long, 2) := by decide +kernel
theorem dL_law_19 : decode cL_law 19 = .ok (.astore_n 3, 1) := by decide +kernel
theorem dL_law_20 : decode cL_law 20 = .ok (.iconst 1, 1) := by decide +kernel
theorem dL_law_21 : decode cL_law 21 = .ok (.newarray .double, 2) := by decide +kernel
theorem dL_law_23 : decode cL_law 23 = .ok (.astore 4, 2) := by decide +kernel
theorem dL_law_25 : decode cL_law 25 = .ok (.iconst 0, 1) := by decide +kernel
theorem dL_law_26 : decode cL_law 26 = .ok (.istore 5, 2) := by decide +kernel
theorem dL_law_28 : decode cL_law 28 = .ok (.iload 5, 2) := by decide +kernel
theorem dL_law_30 : decode cL_law 30 = .ok (.aload_n 0, 1) := by decide +kernel
theorem dL_law_31 : decode cL_law 31 = .ok (.arraylength, 1) := by decide +kernel
theorem dL_law_32 : decode cL_law 32 = .ok (.bipush 6, 2) := by decide +kernel
theorem dL_law_34 : decode cL_law 34 = .ok (.isub, 1) := by decide +kernel
theorem dL_law_35 : decode cL_law 35 = .ok (.if_icmp .gt 2482, 3) := by decide +kernel
theorem dL_law_38 : decode cL_law 38 = .ok (.aload_n 0, 1) := by decide +kernel
theorem dL_law_39 : decode cL_law 39 = .ok (.iload 5, 2) := by decide +kernel
theorem dL_law_41 : decode cL_law 41 = .ok (.iaload, 1) := by decide +kernel
theorem dL_law_42 : decode cL_law 42 = .ok (.bipush 63, 2) := by decide +kernel
theorem dL_law_44 : decode cL_law 44 = .ok (.iand, 1) := by decide +kernel
theorem dL_law_45 : decode cL_law 45 = .ok (.tableswitch 2466 0 34 #[155, 223, 279, 335, 403, 416, 520, 612, 692, 760, 816, 896, 976, 1032, 1112, 1168, 1181, 1237, 1293, 1349, 1405, 1492, 1560, 1616, 1684, 1764, 1844, 1912, 1968, 2048, 2140, 2232, 2300, 2375, 2452], 155) := by decide +kernel
theorem dL_law_200 : decode cL_law 200 = .ok (.aload_n 1, 1) := by decide +kernel
theorem dL_law_201 : decode cL_law 201 = .ok (.aload_n 0, 1) := by decide +kernel
theorem dL_law_202 : decode cL_law 202 = .ok (.iload 5, 2) := by decide +kernel
theorem dL_law_204 : decode cL_law 204 = .ok (.iconst 1, 1) := by decide +kernel
theorem dL_law_205 : decode cL_law 205 = .ok (.iadd, 1) := by decide +kernel
theorem dL_law_206 : decode cL_law 206 = .ok (.iaload, 1) := by decide +kernel
theorem dL_law_207 : decode cL_law 207 = .ok (.aload_n 0, 1) := by decide +kernel
theorem dL_law_208 : decode cL_law 208 = .ok (.iload 5, 2) := by decide +kernel
theorem dL_law_210 : decode cL_law 210 = .ok (.iconst 2, 1) := by decide +kernel
theorem dL_law_211 : decode cL_law 211 = .ok (.iadd, 1) := by decide +kernel
theorem dL_law_212 : decode cL_law 212 = .ok (.iaload, 1) := by decide +kernel
theorem dL_law_213 : decode cL_law 213 = .ok (.aload_n 3, 1) := by decide +kernel
theorem dL_law_214 : decode cL_law 214 = .ok (.invokestatic 123, 3) := by decide +kernel
theorem dL_law_217 : decode cL_law 217 = .ok (.istore 6, 2) := by decide +kernel
theorem dL_law_219 : decode cL_law 219 = .ok (.aload_n 2, 1) := by decide +kernel
theorem dL_law_220 : decode cL_law 220 = .ok (.aload_n 0, 1) := by decide +kernel
theorem dL_law_221 : decode cL_law 221 = .ok (.iload 5, 2) := by decide +kernel
theorem dL_law_223 : decode cL_law 223 = .ok (.iconst 1, 1) := by decide +kernel
theorem dL_law_224 : decode cL_law 224 = .ok (.iadd, 1) := by decide +kernel
theorem dL_law_225 : decode cL_law 225 = .ok (.iaload, 1) := by decide +kernel
theorem dL_law_226 : decode cL_law 226 = .ok (.aload_n 0, 1) := by decide +kernel
theorem dL_law_227 : decode cL_law 227 = .ok (.iload 5, 2) := by decide +kernel
theorem dL_law_229 : decode cL_law 229 = .ok (.iconst 2, 1) := by decide +kernel
theorem dL_law_230 : decode cL_law 230 = .ok (.iadd, 1) := by decide +kernel
theorem dL_law_231 : decode cL_law 231 = .ok (.iaload, 1) := by decide +kernel
theorem dL_law_232 : decode cL_law 232 = .ok (.invokevirtual 128, 3) := by decide +kernel
theorem dL_law_235 : decode cL_law 235 = .ok (.istore 7, 2) := by decide +kernel
theorem dL_law_237 : decode cL_law 237 = .ok (.aload_n 2, 1) := by decide +kernel
theorem dL_law_238 : decode cL_law 238 = .ok (.invokevirtual 129, 3) := by decide +kernel
theorem dL_law_241 : decode cL_law 241 = .ok (.iload 6, 2) := by decide +kernel
theorem dL_law_243 : decode cL_law 243 = .ok (.if_icmp .eq 5, 3) := by decide +kernel
theorem dL_law_246 : decode cL_law 246 = .ok (.iconst 0, 1) := by decide +kernel
theorem dL_law_247 : decode cL_law 247 = .ok (.ireturn, 1) := by decide +kernel
theorem dL_law_248 : decode cL_law 248 = .ok (.iload 6, 2) := by decide +kernel
theorem dL_law_250 : decode cL_law 250 = .ok (.ifCond .ne 15, 3) := by decide +kernel
theorem dL_law_253 : decode cL_law 253 = .ok (.aload_n 3, 1) := by decide +kernel
theorem dL_law_254 : decode cL_law 254 = .ok (.iconst 0, 1) := by decide +kernel
theorem dL_law_255 : decode cL_law 255 = .ok (.laload, 1) := by decide +kernel
theorem dL_law_256 : decode cL_law 256 = .ok (.iload 7, 2) := by decide +kernel
theorem dL_law_258 : decode cL_law 258 = .ok (.i2l, 1) := by decide +kernel
theorem dL_law_259 : decode cL_law 259 = .ok (.lcmp, 1) := by decide +kernel
theorem dL_law_260 : decode cL_law 260 = .ok (.ifCond .eq 5, 3) := by decide +kernel
theorem dL_law_263 : decode cL_law 263 = .ok (.iconst 0, 1) := by decide +kernel
theorem dL_law_264 : decode cL_law 264 = .ok (.ireturn, 1) := by decide +kernel
theorem dL_law_265 : decode cL_law 265 = .ok (.goto 2246, 3) := by decide +kernel
theorem dL_law_268 : decode cL_law 268 = .ok (.aload_n 1, 1) := by decide +kernel
theorem dL_law_269 : decode cL_law 269 = .ok (.aload_n 0, 1) := by decide +kernel
theorem dL_law_270 : decode cL_law 270 = .ok (.iload 5, 2) := by decide +kernel
theorem dL_law_272 : decode cL_law 272 = .ok (.iconst 1, 1) := by decide +kernel
theorem dL_law_273 : decode cL_law 273 = .ok (.iadd, 1) := by decide +kernel
theorem dL_law_274 : decode cL_law 274 = .ok (.iaload, 1) := by decide +kernel
theorem dL_law_275 : decode cL_law 275 = .ok (.aload_n 3, 1) := by decide +kernel
theorem dL_law_276 : decode cL_law 276 = .ok (.invokestatic 133, 3) := by decide +kernel
theorem dL_law_279 : decode cL_law 279 = .ok (.istore 6, 2) := by decide +kernel
theorem dL_law_281 : decode cL_law 281 = .ok (.aload_n 2, 1) := by decide +kernel
theorem dL_law_282 : decode cL_law 282 = .ok (.aload_n 0, 1) := by decide +kernel
theorem dL_law_283 : decode cL_law 283 = .ok (.iload 5, 2) := by decide +kernel
theorem dL_law_285 : decode cL_law 285 = .ok (.iconst 1, 1) := by decide +kernel
theorem dL_law_286 : decode cL_law 286 = .ok (.iadd, 1) := by decide +kernel
theorem dL_law_287 : decode cL_law 287 = .ok (.iaload, 1) := by decide +kernel
theorem dL_law_288 : decode cL_law 288 = .ok (.invokevirtual 136, 3) := by decide +kernel
theorem dL_law_291 : decode cL_law 291 = .ok (.istore 7, 2) := by decide +kernel
theorem dL_law_293 : decode cL_law 293 = .ok (.aload_n 2, 1) := by decide +kernel
theorem dL_law_294 : decode cL_law 294 = .ok (.invokevirtual 129, 3) := by decide +kernel
theorem dL_law_297 : decode cL_law 297 = .ok (.iload 6, 2) := by decide +kernel
theorem dL_law_299 : decode cL_law 299 = .ok (.if_icmp .eq 5, 3) := by decide +kernel
theorem dL_law_302 : decode cL_law 302 = .ok (.iconst 0, 1) := by decide +kernel
theorem dL_law_303 : decode cL_law 303 = .ok (.ireturn, 1) := by decide +kernel
theorem dL_law_304 : decode cL_law 304 = .ok (.iload 6, 2) := by decide +kernel
theorem dL_law_306 : decode cL_law 306 = .ok (.ifCond .ne 15, 3) := by decide +kernel
theorem dL_law_309 : decode cL_law 309 = .ok (.aload_n 3, 1) := by decide +kernel
theorem dL_law_310 : decode cL_law 310 = .ok (.iconst 0, 1) := by decide +kernel
theorem dL_law_311 : decode cL_law 311 = .ok (.laload, 1) := by decide +kernel
theorem dL_law_312 : decode cL_law 312 = .ok (.iload 7, 2) := by decide +kernel
theorem dL_law_314 : decode cL_law 314 = .ok (.i2l, 1) := by decide +kernel
theorem dL_law_315 : decode cL_law 315 = .ok (.lcmp, 1) := by decide +kernel
theorem dL_law_316 : decode cL_law 316 = .ok (.ifCond .eq 5, 3) := by decide +kernel
theorem dL_law_319 : decode cL_law 319 = .ok (.iconst 0, 1) := by decide +kernel
theorem dL_law_320 : decode cL_law 320 = .ok (.ireturn, 1) := by decide +kernel
theorem dL_law_321 : decode cL_law 321 = .ok (.goto 2190, 3) := by decide +kernel
theorem dL_law_324 : decode cL_law 324 = .ok (.aload_n 1, 1) := by decide +kernel
theorem dL_law_325 : decode cL_law 325 = .ok (.aload_n 0, 1) := by decide +kernel
theorem dL_law_326 : decode cL_law 326 = .ok (.iload 5, 2) := by decide +kernel
theorem dL_law_328 : decode cL_law 328 = .ok (.iconst 1, 1) := by decide +kernel
theorem dL_law_329 : decode cL_law 329 = .ok (.iadd, 1) := by decide +kernel
theorem dL_law_330 : decode cL_law 330 = .ok (.iaload, 1) := by decide +kernel
theorem dL_law_331 : decode cL_law 331 = .ok (.aload_n 3, 1) := by decide +kernel
theorem dL_law_332 : decode cL_law 332 = .ok (.invokestatic 137, 3) := by decide +kernel
theorem dL_law_335 : decode cL_law 335 = .ok (.istore 6, 2) := by decide +kernel
theorem dL_law_337 : decode cL_law 337 = .ok (.aload_n 2, 1) := by decide +kernel
theorem dL_law_338 : decode cL_law 338 = .ok (.aload_n 0, 1) := by decide +kernel
theorem dL_law_339 : decode cL_law 339 = .ok (.iload 5, 2) := by decide +kernel
theorem dL_law_341 : decode cL_law 341 = .ok (.iconst 1, 1) := by decide +kernel
theorem dL_law_342 : decode cL_law 342 = .ok (.iadd, 1) := by decide +kernel
theorem dL_law_343 : decode cL_law 343 = .ok (.iaload, 1) := by decide +kernel
theorem dL_law_344 : decode cL_law 344 = .ok (.invokevirtual 139, 3) := by decide +kernel
theorem dL_law_347 : decode cL_law 347 = .ok (.istore 7, 2) := by decide +kernel
theorem dL_law_349 : decode cL_law 349 = .ok (.aload_n 2, 1) := by decide +kernel
theorem dL_law_350 : decode cL_law 350 = .ok (.invokevirtual 129, 3) := by decide +kernel
theorem dL_law_353 : decode cL_law 353 = .ok (.iload 6, 2) := by decide +kernel
theorem dL_law_355 : decode cL_law 355 = .ok (.if_icmp .eq 5, 3) := by decide +kernel
theorem dL_law_358 : decode cL_law 358 = .ok (.iconst 0, 1) := by decide +kernel
theorem dL_law_359 : decode cL_law 359 = .ok (.ireturn, 1) := by decide +kernel
theorem dL_law_360 : decode cL_law 360 = .ok (.iload 6, 2) := by decide +kernel
theorem dL_law_362 : decode cL_law 362 = .ok (.ifCond .ne 15, 3) := by decide +kernel
theorem dL_law_365 : decode cL_law 365 = .ok (.aload_n 3, 1) := by decide +kernel
theorem dL_law_366 : decode cL_law 366 = .ok (.iconst 0, 1) := by decide +kernel
theorem dL_law_367 : decode cL_law 367 = .ok (.laload, 1) := by decide +kernel
theorem dL_law_368 : decode cL_law 368 = .ok (.iload 7, 2) := by decide +kernel
theorem dL_law_370 : decode cL_law 370 = .ok (.i2l, 1) := by decide +kernel
theorem dL_law_371 : decode cL_law 371 = .ok (.lcmp, 1) := by decide +kernel
theorem dL_law_372 : decode cL_law 372 = .ok (.ifCond .eq 5, 3) := by decide +kernel
theorem dL_law_375 : decode cL_law 375 = .ok (.iconst 0, 1) := by decide +kernel
theorem dL_law_376 : decode cL_law 376 = .ok (.ireturn, 1) := by decide +kernel
theorem dL_law_377 : decode cL_law 377 = .ok (.goto 2134, 3) := by decide +kernel
theorem dL_law_380 : decode cL_law 380 = .ok (.aload_n 1, 1) := by decide +kernel
theorem dL_law_381 : decode cL_law 381 = .ok (.aload_n 0, 1) := by decide +kernel
theorem dL_law_382 : decode cL_law 382 = .ok (.iload 5, 2) := by decide +kernel
theorem dL_law_384 : decode cL_law 384 = .ok (.iconst 1, 1) := by decide +kernel
theorem dL_law_385 : decode cL_law 385 = .ok (.iadd, 1) := by decide +kernel
theorem dL_law_386 : decode cL_law 386 = .ok (.iaload, 1) := by decide +kernel
theorem dL_law_387 : decode cL_law 387 = .ok (.aload_n 0, 1) := by decide +kernel
theorem dL_law_388 : decode cL_law 388 = .ok (.iload 5, 2) := by decide +kernel
theorem dL_law_390 : decode cL_law 390 = .ok (.iconst 2, 1) := by decide +kernel
theorem dL_law_391 : decode cL_law 391 = .ok (.iadd, 1) := by decide +kernel
theorem dL_law_392 : decode cL_law 392 = .ok (.iaload, 1) := by decide +kernel
theorem dL_law_393 : decode cL_law 393 = .ok (.aload_n 3, 1) := by decide +kernel
theorem dL_law_394 : decode cL_law 394 = .ok (.invokestatic 140, 3) := by decide +kernel
theorem dL_law_397 : decode cL_law 397 = .ok (.istore 6, 2) := by decide +kernel
theorem dL_law_399 : decode cL_law 399 = .ok (.aload_n 2, 1) := by decide +kernel
theorem dL_law_400 : decode cL_law 400 = .ok (.aload_n 0, 1) := by decide +kernel
theorem dL_law_401 : decode cL_law 401 = .ok (.iload 5, 2) := by decide +kernel
theorem dL_law_403 : decode cL_law 403 = .ok (.iconst 1, 1) := by decide +kernel
theorem dL_law_404 : decode cL_law 404 = .ok (.iadd, 1) := by decide +kernel
theorem dL_law_405 : decode cL_law 405 = .ok (.iaload, 1) := by decide +kernel
theorem dL_law_406 : decode cL_law 406 = .ok (.aload_n 0, 1) := by decide +kernel
theorem dL_law_407 : decode cL_law 407 = .ok (.iload 5, 2) := by decide +kernel
theorem dL_law_409 : decode cL_law 409 = .ok (.iconst 2, 1) := by decide +kernel
theorem dL_law_410 : decode cL_law 410 = .ok (.iadd, 1) := by decide +kernel
theorem dL_law_411 : decode cL_law 411 = .ok (.iaload, 1) := by decide +kernel
theorem dL_law_412 : decode cL_law 412 = .ok (.invokevirtual 142, 3) := by decide +kernel
theorem dL_law_415 : decode cL_law 415 = .ok (.istore 7, 2) := by decide +kernel
theorem dL_law_417 : decode cL_law 417 = .ok (.aload_n 2, 1) := by decide +kernel
theorem dL_law_418 : decode cL_law 418 = .ok (.invokevirtual 129, 3) := by decide +kernel
theorem dL_law_421 : decode cL_law 421 = .ok (.iload 6, 2) := by decide +kernel
theorem dL_law_423 : decode cL_law 423 = .ok (.if_icmp .eq 5, 3) := by decide +kernel
theorem dL_law_426 : decode cL_law 426 = .ok (.iconst 0, 1) := by decide +kernel
theorem dL_law_427 : decode cL_law 427 = .ok (.ireturn, 1) := by decide +kernel
theorem dL_law_428 : decode cL_law 428 = .ok (.iload 6, 2) := by decide +kernel
theorem dL_law_430 : decode cL_law 430 = .ok (.ifCond .ne 15, 3) := by decide +kernel
theorem dL_law_433 : decode cL_law 433 = .ok (.aload_n 3, 1) := by decide +kernel
theorem dL_law_434 : decode cL_law 434 = .ok (.iconst 0, 1) := by decide +kernel
theorem dL_law_435 : decode cL_law 435 = .ok (.laload, 1) := by decide +kernel
theorem dL_law_436 : decode cL_law 436 = .ok (.iload 7, 2) := by decide +kernel
theorem dL_law_438 : decode cL_law 438 = .ok (.i2l, 1) := by decide +kernel
theorem dL_law_439 : decode cL_law 439 = .ok (.lcmp, 1) := by decide +kernel
theorem dL_law_440 : decode cL_law 440 = .ok (.ifCond .eq 5, 3) := by decide +kernel
theorem dL_law_443 : decode cL_law 443 = .ok (.iconst 0, 1) := by decide +kernel
theorem dL_law_444 : decode cL_law 444 = .ok (.ireturn, 1) := by decide +kernel
theorem dL_law_445 : decode cL_law 445 = .ok (.goto 2066, 3) := by decide +kernel
theorem dL_law_448 : decode cL_law 448 = .ok (.aload_n 1, 1) := by decide +kernel
theorem dL_law_449 : decode cL_law 449 = .ok (.invokevirtual 143, 3) := by decide +kernel
theorem dL_law_452 : decode cL_law 452 = .ok (.aload_n 2, 1) := by decide +kernel
theorem dL_law_453 : decode cL_law 453 = .ok (.invokevirtual 146, 3) := by decide +kernel
theorem dL_law_456 : decode cL_law 456 = .ok (.if_icmp .eq 2055, 3) := by decide +kernel
theorem dL_law_459 : decode cL_law 459 = .ok (.iconst 0, 1) := by decide +kernel
theorem dL_law_460 : decode cL_law 460 = .ok (.ireturn, 1) := by decide +kernel
theorem dL_law_461 : decode cL_law 461 = .ok (.aload_n 1, 1) := by decide +kernel
theorem dL_law_462 : decode cL_law 462 = .ok (.aload_n 0, 1) := by decide +kernel
theorem dL_law_463 : decode cL_law 463 = .ok (.iload 5, 2) := by decide +kernel
theorem dL_law_465 : decode cL_law 465 = .ok (.iconst 1, 1) := by decide +kernel
theorem dL_law_466 : decode cL_law 466 = .ok (.iadd, 1) := by decide +kernel
theorem dL_law_467 : decode cL_law 467 = .ok (.iaload, 1) := by decide +kernel
theorem dL_law_468 : decode cL_law 468 = .ok (.aload_n 0, 1) := by decide +kernel
theorem dL_law_469 : decode cL_law 469 = .ok (.iload 5, 2) := by decide +kernel
theorem dL_law_471 : decode cL_law 471 = .ok (.iconst 2, 1) := by decide +kernel
theorem dL_law_472 : decode cL_law 472 = .ok (.iadd, 1) := by decide +kernel
theorem dL_law_473 : decode cL_law 473 = .ok (.iaload, 1) := by decide +kernel
theorem dL_law_474 : decode cL_law 474 = .ok (.aload_n 0, 1) := by decide +kernel
theorem dL_law_475 : decode cL_law 475 = .ok (.iload 5, 2) := by decide +kernel
theorem dL_law_477 : decode cL_law 477 = .ok (.iconst 3, 1) := by decide +kernel
theorem dL_law_478 : decode cL_law 478 = .ok (.iadd, 1) := by decide +kernel
theorem dL_law_479 : decode cL_law 479 = .ok (.iaload, 1) := by decide +kernel
theorem dL_law_480 : decode cL_law 480 = .ok (.aload_n 0, 1) := by decide +kernel
theorem dL_law_481 : decode cL_law 481 = .ok (.iload 5, 2) := by decide +kernel
theorem dL_law_483 : decode cL_law 483 = .ok (.iconst 4, 1) := by decide +kernel
theorem dL_law_484 : decode cL_law 484 = .ok (.iadd, 1) := by decide +kernel
theorem dL_law_485 : decode cL_law 485 = .ok (.iaload, 1) := by decide +kernel
theorem dL_law_486 : decode cL_law 486 = .ok (.aload_n 0, 1) := by decide +kernel
theorem dL_law_487 : decode cL_law 487 = .ok (.iload 5, 2) := by decide +kernel
theorem dL_law_489 : decode cL_law 489 = .ok (.iconst 5, 1) := by decide +kernel
theorem dL_law_490 : decode cL_law 490 = .ok (.iadd, 1) := by decide +kernel
theorem dL_law_491 : decode cL_law 491 = .ok (.iaload, 1) := by decide +kernel
theorem dL_law_492 : decode cL_law 492 = .ok (.aload_n 3, 1) := by decide +kernel
theorem dL_law_493 : decode cL_law 493 = .ok (.invokestatic 147, 3) := by decide +kernel
theorem dL_law_496 : decode cL_law 496 = .ok (.istore 6, 2) := by decide +kernel
theorem dL_law_498 : decode cL_law 498 = .ok (.aload_n 2, 1) := by decide +kernel
theorem dL_law_499 : decode cL_law 499 = .ok (.aload_n 0, 1) := by decide +kernel
theorem dL_law_500 : decode cL_law 500 = .ok (.iload 5, 2) := by decide +kernel
theorem dL_law_502 : decode cL_law 502 = .ok (.iconst 1, 1) := by decide +kernel
theorem dL_law_503 : decode cL_law 503 = .ok (.iadd, 1) := by decide +kernel
theorem dL_law_504 : decode cL_law 504 = .ok (.iaload, 1) := by decide +kernel
theorem dL_law_505 : decode cL_law 505 = .ok (.aload_n 0, 1) := by decide +kernel
theorem dL_law_506 : decode cL_law 506 = .ok (.iload 5, 2) := by decide +kernel
theorem dL_law_508 : decode cL_law 508 = .ok (.iconst 2, 1) := by decide +kernel
theorem dL_law_509 : decode cL_law 509 = .ok (.iadd, 1) := by decide +kernel
theorem dL_law_510 : decode cL_law 510 = .ok (.iaload, 1) := by decide +kernel
theorem dL_law_511 : decode cL_law 511 = .ok (.aload_n 0, 1) := by decide +kernel
theorem dL_law_512 : decode cL_law 512 = .ok (.iload 5, 2) := by decide +kernel
theorem dL_law_514 : decode cL_law 514 = .ok (.iconst 3, 1) := by decide +kernel
theorem dL_law_515 : decode cL_law 515 = .ok (.iadd, 1) := by decide +kernel
theorem dL_law_516 : decode cL_law 516 = .ok (.iaload, 1) := by decide +kernel
theorem dL_law_517 : decode cL_law 517 = .ok (.aload_n 0, 1) := by decide +kernel
theorem dL_law_518 : decode cL_law 518 = .ok (.iload 5, 2) := by decide +kernel
theorem dL_law_520 : decode cL_law 520 = .ok (.iconst 4, 1) := by decide +kernel
theorem dL_law_521 : decode cL_law 521 = .ok (.iadd, 1) := by decide +kernel
theorem dL_law_522 : decode cL_law 522 = .ok (.iaload, 1) := by decide +kernel
theorem dL_law_523 : decode cL_law 523 = .ok (.aload_n 0, 1) := by decide +kernel
theorem dL_law_524 : decode cL_law 524 = .ok (.iload 5, 2) := by decide +kernel
theorem dL_law_526 : decode cL_law 526 = .ok (.iconst 5, 1) := by decide +kernel
theorem dL_law_527 : decode cL_law 527 = .ok (.iadd, 1) := by decide +kernel
theorem dL_law_528 : decode cL_law 528 = .ok (.iaload, 1) := by decide +kernel
theorem dL_law_529 : decode cL_law 529 = .ok (.invokevirtual 150, 3) := by decide +kernel
theorem dL_law_532 : decode cL_law 532 = .ok (.istore 7, 2) := by decide +kernel
theorem dL_law_534 : decode cL_law 534 = .ok (.aload_n 2, 1) := by decide +kernel
theorem dL_law_535 : decode cL_law 535 = .ok (.invokevirtual 129, 3) := by decide +kernel
theorem dL_law_538 : decode cL_law 538 = .ok (.iload 6, 2) := by decide +kernel
theorem dL_law_540 : decode cL_law 540 = .ok (.if_icmp .eq 5, 3) := by decide +kernel
theorem dL_law_543 : decode cL_law 543 = .ok (.iconst 0, 1) := by decide +kernel
theorem dL_law_544 : decode cL_law 544 = .ok (.ireturn, 1) := by decide +kernel
theorem dL_law_545 : decode cL_law 545 = .ok (.iload 6, 2) := by decide +kernel
theorem dL_law_547 : decode cL_law 547 = .ok (.ifCond .ne 15, 3) := by decide +kernel
theorem dL_law_550 : decode cL_law 550 = .ok (.aload_n 3, 1) := by decide +kernel
theorem dL_law_551 : decode cL_law 551 = .ok (.iconst 0, 1) := by decide +kernel
theorem dL_law_552 : decode cL_law 552 = .ok (.laload, 1) := by decide +kernel
theorem dL_law_553 : decode cL_law 553 = .ok (.iload 7, 2) := by decide +kernel
theorem dL_law_555 : decode cL_law 555 = .ok (.i2l, 1) := by decide +kernel
theorem dL_law_556 : decode cL_law 556 = .ok (.lcmp, 1) := by decide +kernel
theorem dL_law_557 : decode cL_law 557 = .ok (.ifCond .eq 5, 3) := by decide +kernel
theorem dL_law_560 : decode cL_law 560 = .ok (.iconst 0, 1) := by decide +kernel
theorem dL_law_561 : decode cL_law 561 = .ok (.ireturn, 1) := by decide +kernel
theorem dL_law_562 : decode cL_law 562 = .ok (.goto 1949, 3) := by decide +kernel
theorem dL_law_565 : decode cL_law 565 = .ok (.aload_n 1, 1) := by decide +kernel
theorem dL_law_566 : decode cL_law 566 = .ok (.aload_n 0, 1) := by decide +kernel
theorem dL_law_567 : decode cL_law 567 = .ok (.iload 5, 2) := by decide +kernel
theorem dL_law_569 : decode cL_law 569 = .ok (.iconst 1, 1) := by decide +kernel
theorem dL_law_570 : decode cL_law 570 = .ok (.iadd, 1) := by decide +kernel
theorem dL_law_571 : decode cL_law 571 = .ok (.iaload, 1) := by decide +kernel
theorem dL_law_572 : decode cL_law 572 = .ok (.aload_n 0, 1) := by decide +kernel
theorem dL_law_573 : decode cL_law 573 = .ok (.iload 5, 2) := by decide +kernel
theorem dL_law_575 : decode cL_law 575 = .ok (.iconst 2, 1) := by decide +kernel
theorem dL_law_576 : decode cL_law 576 = .ok (.iadd, 1) := by decide +kernel
theorem dL_law_577 : decode cL_law 577 = .ok (.iaload, 1) := by decide +kernel
theorem dL_law_578 : decode cL_law 578 = .ok (.aload_n 0, 1) := by decide +kernel
theorem dL_law_579 : decode cL_law 579 = .ok (.iload 5, 2) := by decide +kernel
theorem dL_law_581 : decode cL_law 581 = .ok (.iconst 3, 1) := by decide +kernel
theorem dL_law_582 : decode cL_law 582 = .ok (.iadd, 1) := by decide +kernel
theorem dL_law_583 : decode cL_law 583 = .ok (.iaload, 1) := by decide +kernel
theorem dL_law_584 : decode cL_law 584 = .ok (.aload_n 0, 1) := by decide +kernel
theorem dL_law_585 : decode cL_law 585 = .ok (.iload 5, 2) := by decide +kernel
theorem dL_law_587 : decode cL_law 587 = .ok (.iconst 4, 1) := by decide +kernel
theorem dL_law_588 : decode cL_law 588 = .ok (.iadd, 1) := by decide +kernel
theorem dL_law_589 : decode cL_law 589 = .ok (.iaload, 1) := by decide +kernel
theorem dL_law_590 : decode cL_law 590 = .ok (.aload_n 3, 1) := by decide +kernel
theorem dL_law_591 : decode cL_law 591 = .ok (.invokestatic 151, 3) := by decide +kernel
theorem dL_law_594 : decode cL_law 594 = .ok (.istore 6, 2) := by decide +kernel
theorem dL_law_596 : decode cL_law 596 = .ok (.aload_n 2, 1) := by decide +kernel
theorem dL_law_597 : decode cL_law 597 = .ok (.aload_n 0, 1) := by decide +kernel
theorem dL_law_598 : decode cL_law 598 = .ok (.iload 5, 2) := by decide +kernel
theorem dL_law_600 : decode cL_law 600 = .ok (.iconst 1, 1) := by decide +kernel
theorem dL_law_601 : decode cL_law 601 = .ok (.iadd, 1) := by decide +kernel
theorem dL_law_602 : decode cL_law 602 = .ok (.iaload, 1) := by decide +kernel
theorem dL_law_603 : decode cL_law 603 = .ok (.aload_n 0, 1) := by decide +kernel
theorem dL_law_604 : decode cL_law 604 = .ok (.iload 5, 2) := by decide +kernel
theorem dL_law_606 : decode cL_law 606 = .ok (.iconst 2, 1) := by decide +kernel
theorem dL_law_607 : decode cL_law 607 = .ok (.iadd, 1) := by decide +kernel
theorem dL_law_608 : decode cL_law 608 = .ok (.iaload, 1) := by decide +kernel
theorem dL_law_609 : decode cL_law 609 = .ok (.aload_n 0, 1) := by decide +kernel
theorem dL_law_610 : decode cL_law 610 = .ok (.iload 5, 2) := by decide +kernel
theorem dL_law_612 : decode cL_law 612 = .ok (.iconst 3, 1) := by decide +kernel
theorem dL_law_613 : decode cL_law 613 = .ok (.iadd, 1) := by decide +kernel
theorem dL_law_614 : decode cL_law 614 = .ok (.iaload, 1) := by decide +kernel
theorem dL_law_615 : decode cL_law 615 = .ok (.aload_n 0, 1) := by decide +kernel
theorem dL_law_616 : decode cL_law 616 = .ok (.iload 5, 2) := by decide +kernel
theorem dL_law_618 : decode cL_law 618 = .ok (.iconst 4, 1) := by decide +kernel
theorem dL_law_619 : decode cL_law 619 = .ok (.iadd, 1) := by decide +kernel
theorem dL_law_620 : decode cL_law 620 = .ok (.iaload, 1) := by decide +kernel
theorem dL_law_621 : decode cL_law 621 = .ok (.invokevirtual 154, 3) := by decide +kernel
theorem dL_law_624 : decode cL_law 624 = .ok (.istore 7, 2) := by decide +kernel
theorem dL_law_626 : decode cL_law 626 = .ok (.aload_n 2, 1) := by decide +kernel
theorem dL_law_627 : decode cL_law 627 = .ok (.invokevirtual 129, 3) := by decide +kernel
theorem dL_law_630 : decode cL_law 630 = .ok (.iload 6, 2) := by decide +kernel
theorem dL_law_632 : decode cL_law 632 = .ok (.if_icmp .eq 5, 3) := by decide +kernel
theorem dL_law_635 : decode cL_law 635 = .ok (.iconst 0, 1) := by decide +kernel
theorem dL_law_636 : decode cL_law 636 = .ok (.ireturn, 1) := by decide +kernel
theorem dL_law_637 : decode cL_law 637 = .ok (.iload 6, 2) := by decide +kernel
theorem dL_law_639 : decode cL_law 639 = .ok (.ifCond .ne 15, 3) := by decide +kernel
theorem dL_law_642 : decode cL_law 642 = .ok (.aload_n 3, 1) := by decide +kernel
theorem dL_law_643 : decode cL_law 643 = .ok (.iconst 0, 1) := by decide +kernel
theorem dL_law_644 : decode cL_law 644 = .ok (.laload, 1) := by decide +kernel
theorem dL_law_645 : decode cL_law 645 = .ok (.iload 7, 2) := by decide +kernel
theorem dL_law_647 : decode cL_law 647 = .ok (.i2l, 1) := by decide +kernel
theorem dL_law_648 : decode cL_law 648 = .ok (.lcmp, 1) := by decide +kernel
theorem dL_law_649 : decode cL_law 649 = .ok (.ifCond .eq 5, 3) := by decide +kernel
theorem dL_law_652 : decode cL_law 652 = .ok (.iconst 0, 1) := by decide +kernel
theorem dL_law_653 : decode cL_law 653 = .ok (.ireturn, 1) := by decide +kernel
theorem dL_law_654 : decode cL_law 654 = .ok (.goto 1857, 3) := by decide +kernel
theorem dL_law_657 : decode cL_law 657 = .ok (.aload_n 1, 1) := by decide +kernel
theorem dL_law_658 : decode cL_law 658 = .ok (.aload_n 0, 1) := by decide +kernel
theorem dL_law_659 : decode cL_law 659 = .ok (.iload 5, 2) := by decide +kernel
theorem dL_law_661 : decode cL_law 661 = .ok (.iconst 1, 1) := by decide +kernel
theorem dL_law_662 : decode cL_law 662 = .ok (.iadd, 1) := by decide +kernel
theorem dL_law_663 : decode cL_law 663 = .ok (.iaload, 1) := by decide +kernel
theorem dL_law_664 : decode cL_law 664 = .ok (.aload_n 0, 1) := by decide +kernel
theorem dL_law_665 : decode cL_law 665 = .ok (.iload 5, 2) := by decide +kernel
theorem dL_law_667 : decode cL_law 667 = .ok (.iconst 2, 1) := by decide +kernel
theorem dL_law_668 : decode cL_law 668 = .ok (.iadd, 1) := by decide +kernel
theorem dL_law_669 : decode cL_law 669 = .ok (.iaload, 1) := by decide +kernel
theorem dL_law_670 : decode cL_law 670 = .ok (.aload_n 0, 1) := by decide +kernel
theorem dL_law_671 : decode cL_law 671 = .ok (.iload 5, 2) := by decide +kernel
theorem dL_law_673 : decode cL_law 673 = .ok (.iconst 3, 1) := by decide +kernel
theorem dL_law_674 : decode cL_law 674 = .ok (.iadd, 1) := by decide +kernel
theorem dL_law_675 : decode cL_law 675 = .ok (.iaload, 1) := by decide +kernel
theorem dL_law_676 : decode cL_law 676 = .ok (.aload_n 3, 1) := by decide +kernel
theorem dL_law_677 : decode cL_law 677 = .ok (.invokestatic 155, 3) := by decide +kernel
theorem dL_law_680 : decode cL_law 680 = .ok (.istore 6, 2) := by decide +kernel
theorem dL_law_682 : decode cL_law 682 = .ok (.aload_n 2, 1) := by decide +kernel
theorem dL_law_683 : decode cL_law 683 = .ok (.aload_n 0, 1) := by decide +kernel
theorem dL_law_684 : decode cL_law 684 = .ok (.iload 5, 2) := by decide +kernel
theorem dL_law_686 : decode cL_law 686 = .ok (.iconst 1, 1) := by decide +kernel
theorem dL_law_687 : decode cL_law 687 = .ok (.iadd, 1) := by decide +kernel
theorem dL_law_688 : decode cL_law 688 = .ok (.iaload, 1) := by decide +kernel
theorem dL_law_689 : decode cL_law 689 = .ok (.aload_n 0, 1) := by decide +kernel
theorem dL_law_690 : decode cL_law 690 = .ok (.iload 5, 2) := by decide +kernel
theorem dL_law_692 : decode cL_law 692 = .ok (.iconst 2, 1) := by decide +kernel
theorem dL_law_693 : decode cL_law 693 = .ok (.iadd, 1) := by decide +kernel
theorem dL_law_694 : decode cL_law 694 = .ok (.iaload, 1) := by decide +kernel
theorem dL_law_695 : decode cL_law 695 = .ok (.aload_n 0, 1) := by decide +kernel
theorem dL_law_696 : decode cL_law 696 = .ok (.iload 5, 2) := by decide +kernel
theorem dL_law_698 : decode cL_law 698 = .ok (.iconst 3, 1) := by decide +kernel
theorem dL_law_699 : decode cL_law 699 = .ok (.iadd, 1) := by decide +kernel
theorem dL_law_700 : decode cL_law 700 = .ok (.iaload, 1) := by decide +kernel
theorem dL_law_701 : decode cL_law 701 = .ok (.invokevirtual 158, 3) := by decide +kernel
theorem dL_law_704 : decode cL_law 704 = .ok (.istore 7, 2) := by decide +kernel
theorem dL_law_706 : decode cL_law 706 = .ok (.aload_n 2, 1) := by decide +kernel
theorem dL_law_707 : decode cL_law 707 = .ok (.invokevirtual 129, 3) := by decide +kernel
theorem dL_law_710 : decode cL_law 710 = .ok (.iload 6, 2) := by decide +kernel
theorem dL_law_712 : decode cL_law 712 = .ok (.if_icmp .eq 5, 3) := by decide +kernel
theorem dL_law_715 : decode cL_law 715 = .ok (.iconst 0, 1) := by decide +kernel
theorem dL_law_716 : decode cL_law 716 = .ok (.ireturn, 1) := by decide +kernel
theorem dL_law_717 : decode cL_law 717 = .ok (.iload 6, 2) := by decide +kernel
theorem dL_law_719 : decode cL_law 719 = .ok (.ifCond .ne 15, 3) := by decide +kernel
theorem dL_law_722 : decode cL_law 722 = .ok (.aload_n 3, 1) := by decide +kernel
theorem dL_law_723 : decode cL_law 723 = .ok (.iconst 0, 1) := by decide +kernel
theorem dL_law_724 : decode cL_law 724 = .ok (.laload, 1) := by decide +kernel
theorem dL_law_725 : decode cL_law 725 = .ok (.iload 7, 2) := by decide +kernel
theorem dL_law_727 : decode cL_law 727 = .ok (.i2l, 1) := by decide +kernel
theorem dL_law_728 : decode cL_law 728 = .ok (.lcmp, 1) := by decide +kernel
theorem dL_law_729 : decode cL_law 729 = .ok (.ifCond .eq 5, 3) := by decide +kernel
theorem dL_law_732 : decode cL_law 732 = .ok (.iconst 0, 1) := by decide +kernel
theorem dL_law_733 : decode cL_law 733 = .ok (.ireturn, 1) := by decide +kernel
theorem dL_law_734 : decode cL_law 734 = .ok (.goto 1777, 3) := by decide +kernel
theorem dL_law_737 : decode cL_law 737 = .ok (.aload_n 1, 1) := by decide +kernel
theorem dL_law_738 : decode cL_law 738 = .ok (.aload_n 0, 1) := by decide +kernel
theorem dL_law_739 : decode cL_law 739 = .ok (.iload 5, 2) := by decide +kernel
theorem dL_law_741 : decode cL_law 741 = .ok (.iconst 1, 1) := by decide +kernel
theorem dL_law_742 : decode cL_law 742 = .ok (.iadd, 1) := by decide +kernel
theorem dL_law_743 : decode cL_law 743 = .ok (.iaload, 1) := by decide +kernel
theorem dL_law_744 : decode cL_law 744 = .ok (.aload_n 0, 1) := by decide +kernel
theorem dL_law_745 : decode cL_law 745 = .ok (.iload 5, 2) := by decide +kernel
theorem dL_law_747 : decode cL_law 747 = .ok (.iconst 2, 1) := by decide +kernel
theorem dL_law_748 : decode cL_law 748 = .ok (.iadd, 1) := by decide +kernel
theorem dL_law_749 : decode cL_law 749 = .ok (.iaload, 1) := by decide +kernel
theorem dL_law_750 : decode cL_law 750 = .ok (.aload_n 3, 1) := by decide +kernel
theorem dL_law_751 : decode cL_law 751 = .ok (.invokestatic 159, 3) := by decide +kernel
theorem dL_law_754 : decode cL_law 754 = .ok (.istore 6, 2) := by decide +kernel
theorem dL_law_756 : decode cL_law 756 = .ok (.aload_n 2, 1) := by decide +kernel
theorem dL_law_757 : decode cL_law 757 = .ok (.aload_n 0, 1) := by decide +kernel
theorem dL_law_758 : decode cL_law 758 = .ok (.iload 5, 2) := by decide +kernel
theorem dL_law_760 : decode cL_law 760 = .ok (.iconst 1, 1) := by decide +kernel
theorem dL_law_761 : decode cL_law 761 = .ok (.iadd, 1) := by decide +kernel
theorem dL_law_762 : decode cL_law 762 = .ok (.iaload, 1) := by decide +kernel
theorem dL_law_763 : decode cL_law 763 = .ok (.aload_n 0, 1) := by decide +kernel
theorem dL_law_764 : decode cL_law 764 = .ok (.iload 5, 2) := by decide +kernel
theorem dL_law_766 : decode cL_law 766 = .ok (.iconst 2, 1) := by decide +kernel
theorem dL_law_767 : decode cL_law 767 = .ok (.iadd, 1) := by decide +kernel
theorem dL_law_768 : decode cL_law 768 = .ok (.iaload, 1) := by decide +kernel
theorem dL_law_769 : decode cL_law 769 = .ok (.invokevirtual 161, 3) := by decide +kernel
theorem dL_law_772 : decode cL_law 772 = .ok (.istore 7, 2) := by decide +kernel
theorem dL_law_774 : decode cL_law 774 = .ok (.aload_n 2, 1) := by decide +kernel
theorem dL_law_775 : decode cL_law 775 = .ok (.invokevirtual 129, 3) := by decide +kernel
theorem dL_law_778 : decode cL_law 778 = .ok (.iload 6, 2) := by decide +kernel
theorem dL_law_780 : decode cL_law 780 = .ok (.if_icmp .eq 5, 3) := by decide +kernel
theorem dL_law_783 : decode cL_law 783 = .ok (.iconst 0, 1) := by decide +kernel
theorem dL_law_784 : decode cL_law 784 = .ok (.ireturn, 1) := by decide +kernel
theorem dL_law_785 : decode cL_law 785 = .ok (.iload 6, 2) := by decide +kernel
theorem dL_law_787 : decode cL_law 787 = .ok (.ifCond .ne 15, 3) := by decide +kernel
theorem dL_law_790 : decode cL_law 790 = .ok (.aload_n 3, 1) := by decide +kernel
theorem dL_law_791 : decode cL_law 791 = .ok (.iconst 0, 1) := by decide +kernel
theorem dL_law_792 : decode cL_law 792 = .ok (.laload, 1) := by decide +kernel
theorem dL_law_793 : decode cL_law 793 = .ok (.iload 7, 2) := by decide +kernel
theorem dL_law_795 : decode cL_law 795 = .ok (.i2l, 1) := by decide +kernel
theorem dL_law_796 : decode cL_law 796 = .ok (.lcmp, 1) := by decide +kernel
theorem dL_law_797 : decode cL_law 797 = .ok (.ifCond .eq 5, 3) := by decide +kernel
theorem dL_law_800 : decode cL_law 800 = .ok (.iconst 0, 1) := by decide +kernel
theorem dL_law_801 : decode cL_law 801 = .ok (.ireturn, 1) := by decide +kernel
theorem dL_law_802 : decode cL_law 802 = .ok (.goto 1709, 3) := by decide +kernel
theorem dL_law_805 : decode cL_law 805 = .ok (.aload_n 1, 1) := by decide +kernel
theorem dL_law_806 : decode cL_law 806 = .ok (.aload_n 0, 1) := by decide +kernel
theorem dL_law_807 : decode cL_law 807 = .ok (.iload 5, 2) := by decide +kernel
theorem dL_law_809 : decode cL_law 809 = .ok (.iconst 1, 1) := by decide +kernel
theorem dL_law_810 : decode cL_law 810 = .ok (.iadd, 1) := by decide +kernel
theorem dL_law_811 : decode cL_law 811 = .ok (.iaload, 1) := by decide +kernel
theorem dL_law_812 : decode cL_law 812 = .ok (.aload_n 3, 1) := by decide +kernel
theorem dL_law_813 : decode cL_law 813 = .ok (.invokestatic 162, 3) := by decide +kernel
theorem dL_law_816 : decode cL_law 816 = .ok (.istore 6, 2) := by decide +kernel
theorem dL_law_818 : decode cL_law 818 = .ok (.aload_n 2, 1) := by decide +kernel
theorem dL_law_819 : decode cL_law 819 = .ok (.aload_n 0, 1) := by decide +kernel
theorem dL_law_820 : decode cL_law 820 = .ok (.iload 5, 2) := by decide +kernel
theorem dL_law_822 : decode cL_law 822 = .ok (.iconst 1, 1) := by decide +kernel
theorem dL_law_823 : decode cL_law 823 = .ok (.iadd, 1) := by decide +kernel
theorem dL_law_824 : decode cL_law 824 = .ok (.iaload, 1) := by decide +kernel
theorem dL_law_825 : decode cL_law 825 = .ok (.invokevirtual 164, 3) := by decide +kernel
theorem dL_law_828 : decode cL_law 828 = .ok (.istore 7, 2) := by decide +kernel
theorem dL_law_830 : decode cL_law 830 = .ok (.aload_n 2, 1) := by decide +kernel
theorem dL_law_831 : decode cL_law 831 = .ok (.invokevirtual 129, 3) := by decide +kernel
theorem dL_law_834 : decode cL_law 834 = .ok (.iload 6, 2) := by decide +kernel
theorem dL_law_836 : decode cL_law 836 = .ok (.if_icmp .eq 5, 3) := by decide +kernel
theorem dL_law_839 : decode cL_law 839 = .ok (.iconst 0, 1) := by decide +kernel
theorem dL_law_840 : decode cL_law 840 = .ok (.ireturn, 1) := by decide +kernel
theorem dL_law_841 : decode cL_law 841 = .ok (.iload 6, 2) := by decide +kernel
theorem dL_law_843 : decode cL_law 843 = .ok (.ifCond .ne 15, 3) := by decide +kernel
theorem dL_law_846 : decode cL_law 846 = .ok (.aload_n 3, 1) := by decide +kernel
theorem dL_law_847 : decode cL_law 847 = .ok (.iconst 0, 1) := by decide +kernel
theorem dL_law_848 : decode cL_law 848 = .ok (.laload, 1) := by decide +kernel
theorem dL_law_849 : decode cL_law 849 = .ok (.iload 7, 2) := by decide +kernel
theorem dL_law_851 : decode cL_law 851 = .ok (.i2l, 1) := by decide +kernel
theorem dL_law_852 : decode cL_law 852 = .ok (.lcmp, 1) := by decide +kernel
theorem dL_law_853 : decode cL_law 853 = .ok (.ifCond .eq 5, 3) := by decide +kernel
theorem dL_law_856 : decode cL_law 856 = .ok (.iconst 0, 1) := by decide +kernel
theorem dL_law_857 : decode cL_law 857 = .ok (.ireturn, 1) := by decide +kernel
theorem dL_law_858 : decode cL_law 858 = .ok (.goto 1653, 3) := by decide +kernel
theorem dL_law_861 : decode cL_law 861 = .ok (.aload_n 1, 1) := by decide +kernel
theorem dL_law_862 : decode cL_law 862 = .ok (.aload_n 0, 1) := by decide +kernel
theorem dL_law_863 : decode cL_law 863 = .ok (.iload 5, 2) := by decide +kernel
theorem dL_law_865 : decode cL_law 865 = .ok (.iconst 1, 1) := by decide +kernel
theorem dL_law_866 : decode cL_law 866 = .ok (.iadd, 1) := by decide +kernel
theorem dL_law_867 : decode cL_law 867 = .ok (.iaload, 1) := by decide +kernel
theorem dL_law_868 : decode cL_law 868 = .ok (.aload_n 0, 1) := by decide +kernel
theorem dL_law_869 : decode cL_law 869 = .ok (.iload 5, 2) := by decide +kernel
theorem dL_law_871 : decode cL_law 871 = .ok (.iconst 2, 1) := by decide +kernel
theorem dL_law_872 : decode cL_law 872 = .ok (.iadd, 1) := by decide +kernel
theorem dL_law_873 : decode cL_law 873 = .ok (.iaload, 1) := by decide +kernel
theorem dL_law_874 : decode cL_law 874 = .ok (.aload_n 0, 1) := by decide +kernel
theorem dL_law_875 : decode cL_law 875 = .ok (.iload 5, 2) := by decide +kernel
theorem dL_law_877 : decode cL_law 877 = .ok (.iconst 3, 1) := by decide +kernel
theorem dL_law_878 : decode cL_law 878 = .ok (.iadd, 1) := by decide +kernel
theorem dL_law_879 : decode cL_law 879 = .ok (.iaload, 1) := by decide +kernel
theorem dL_law_880 : decode cL_law 880 = .ok (.aload_n 3, 1) := by decide +kernel
theorem dL_law_881 : decode cL_law 881 = .ok (.invokestatic 165, 3) := by decide +kernel
theorem dL_law_884 : decode cL_law 884 = .ok (.istore 6, 2) := by decide +kernel
theorem dL_law_886 : decode cL_law 886 = .ok (.aload_n 2, 1) := by decide +kernel
theorem dL_law_887 : decode cL_law 887 = .ok (.aload_n 0, 1) := by decide +kernel
theorem dL_law_888 : decode cL_law 888 = .ok (.iload 5, 2) := by decide +kernel
theorem dL_law_890 : decode cL_law 890 = .ok (.iconst 1, 1) := by decide +kernel
theorem dL_law_891 : decode cL_law 891 = .ok (.iadd, 1) := by decide +kernel
theorem dL_law_892 : decode cL_law 892 = .ok (.iaload, 1) := by decide +kernel
theorem dL_law_893 : decode cL_law 893 = .ok (.aload_n 0, 1) := by decide +kernel
theorem dL_law_894 : decode cL_law 894 = .ok (.iload 5, 2) := by decide +kernel
theorem dL_law_896 : decode cL_law 896 = .ok (.iconst 2, 1) := by decide +kernel
theorem dL_law_897 : decode cL_law 897 = .ok (.iadd, 1) := by decide +kernel
theorem dL_law_898 : decode cL_law 898 = .ok (.iaload, 1) := by decide +kernel
theorem dL_law_899 : decode cL_law 899 = .ok (.aload_n 0, 1) := by decide +kernel
theorem dL_law_900 : decode cL_law 900 = .ok (.iload 5, 2) := by decide +kernel
theorem dL_law_902 : decode cL_law 902 = .ok (.iconst 3, 1) := by decide +kernel
theorem dL_law_903 : decode cL_law 903 = .ok (.iadd, 1) := by decide +kernel
theorem dL_law_904 : decode cL_law 904 = .ok (.iaload, 1) := by decide +kernel
theorem dL_law_905 : decode cL_law 905 = .ok (.invokevirtual 167, 3) := by decide +kernel
theorem dL_law_908 : decode cL_law 908 = .ok (.istore 7, 2) := by decide +kernel
theorem dL_law_910 : decode cL_law 910 = .ok (.aload_n 2, 1) := by decide +kernel
theorem dL_law_911 : decode cL_law 911 = .ok (.invokevirtual 129, 3) := by decide +kernel
theorem dL_law_914 : decode cL_law 914 = .ok (.iload 6, 2) := by decide +kernel
theorem dL_law_916 : decode cL_law 916 = .ok (.if_icmp .eq 5, 3) := by decide +kernel
theorem dL_law_919 : decode cL_law 919 = .ok (.iconst 0, 1) := by decide +kernel
theorem dL_law_920 : decode cL_law 920 = .ok (.ireturn, 1) := by decide +kernel
theorem dL_law_921 : decode cL_law 921 = .ok (.iload 6, 2) := by decide +kernel
theorem dL_law_923 : decode cL_law 923 = .ok (.ifCond .ne 15, 3) := by decide +kernel
theorem dL_law_926 : decode cL_law 926 = .ok (.aload_n 3, 1) := by decide +kernel
theorem dL_law_927 : decode cL_law 927 = .ok (.iconst 0, 1) := by decide +kernel
theorem dL_law_928 : decode cL_law 928 = .ok (.laload, 1) := by decide +kernel
theorem dL_law_929 : decode cL_law 929 = .ok (.iload 7, 2) := by decide +kernel
theorem dL_law_931 : decode cL_law 931 = .ok (.i2l, 1) := by decide +kernel
theorem dL_law_932 : decode cL_law 932 = .ok (.lcmp, 1) := by decide +kernel
theorem dL_law_933 : decode cL_law 933 = .ok (.ifCond .eq 5, 3) := by decide +kernel
theorem dL_law_936 : decode cL_law 936 = .ok (.iconst 0, 1) := by decide +kernel
theorem dL_law_937 : decode cL_law 937 = .ok (.ireturn, 1) := by decide +kernel
theorem dL_law_938 : decode cL_law 938 = .ok (.goto 1573, 3) := by decide +kernel
theorem dL_law_941 : decode cL_law 941 = .ok (.aload_n 1, 1) := by decide +kernel
theorem dL_law_942 : decode cL_law 942 = .ok (.aload_n 0, 1) := by decide +kernel
theorem dL_law_943 : decode cL_law 943 = .ok (.iload 5, 2) := by decide +kernel
theorem dL_law_945 : decode cL_law 945 = .ok (.iconst 1, 1) := by decide +kernel
theorem dL_law_946 : decode cL_law 946 = .ok (.iadd, 1) := by decide +kernel
theorem dL_law_947 : decode cL_law 947 = .ok (.iaload, 1) := by decide +kernel
theorem dL_law_948 : decode cL_law 948 = .ok (.aload_n 0, 1) := by decide +kernel
theorem dL_law_949 : decode cL_law 949 = .ok (.iload 5, 2) := by decide +kernel
theorem dL_law_951 : decode cL_law 951 = .ok (.iconst 2, 1) := by decide +kernel
theorem dL_law_952 : decode cL_law 952 = .ok (.iadd, 1) := by decide +kernel
theorem dL_law_953 : decode cL_law 953 = .ok (.iaload, 1) := by decide +kernel
theorem dL_law_954 : decode cL_law 954 = .ok (.aload_n 0, 1) := by decide +kernel
theorem dL_law_955 : decode cL_law 955 = .ok (.iload 5, 2) := by decide +kernel
theorem dL_law_957 : decode cL_law 957 = .ok (.iconst 3, 1) := by decide +kernel
theorem dL_law_958 : decode cL_law 958 = .ok (.iadd, 1) := by decide +kernel
theorem dL_law_959 : decode cL_law 959 = .ok (.iaload, 1) := by decide +kernel
theorem dL_law_960 : decode cL_law 960 = .ok (.aload_n 3, 1) := by decide +kernel
theorem dL_law_961 : decode cL_law 961 = .ok (.invokestatic 168, 3) := by decide +kernel
theorem dL_law_964 : decode cL_law 964 = .ok (.istore 6, 2) := by decide +kernel
theorem dL_law_966 : decode cL_law 966 = .ok (.aload_n 2, 1) := by decide +kernel
theorem dL_law_967 : decode cL_law 967 = .ok (.aload_n 0, 1) := by decide +kernel
theorem dL_law_968 : decode cL_law 968 = .ok (.iload 5, 2) := by decide +kernel
theorem dL_law_970 : decode cL_law 970 = .ok (.iconst 1, 1) := by decide +kernel
theorem dL_law_971 : decode cL_law 971 = .ok (.iadd, 1) := by decide +kernel
theorem dL_law_972 : decode cL_law 972 = .ok (.iaload, 1) := by decide +kernel
theorem dL_law_973 : decode cL_law 973 = .ok (.aload_n 0, 1) := by decide +kernel
theorem dL_law_974 : decode cL_law 974 = .ok (.iload 5, 2) := by decide +kernel
theorem dL_law_976 : decode cL_law 976 = .ok (.iconst 2, 1) := by decide +kernel
theorem dL_law_977 : decode cL_law 977 = .ok (.iadd, 1) := by decide +kernel
theorem dL_law_978 : decode cL_law 978 = .ok (.iaload, 1) := by decide +kernel
theorem dL_law_979 : decode cL_law 979 = .ok (.aload_n 0, 1) := by decide +kernel
theorem dL_law_980 : decode cL_law 980 = .ok (.iload 5, 2) := by decide +kernel
theorem dL_law_982 : decode cL_law 982 = .ok (.iconst 3, 1) := by decide +kernel
theorem dL_law_983 : decode cL_law 983 = .ok (.iadd, 1) := by decide +kernel
theorem dL_law_984 : decode cL_law 984 = .ok (.iaload, 1) := by decide +kernel
theorem dL_law_985 : decode cL_law 985 = .ok (.invokevirtual 170, 3) := by decide +kernel
theorem dL_law_988 : decode cL_law 988 = .ok (.istore 7, 2) := by decide +kernel
theorem dL_law_990 : decode cL_law 990 = .ok (.aload_n 2, 1) := by decide +kernel
theorem dL_law_991 : decode cL_law 991 = .ok (.invokevirtual 129, 3) := by decide +kernel
theorem dL_law_994 : decode cL_law 994 = .ok (.iload 6, 2) := by decide +kernel
theorem dL_law_996 : decode cL_law 996 = .ok (.if_icmp .eq 5, 3) := by decide +kernel
theorem dL_law_999 : decode cL_law 999 = .ok (.iconst 0, 1) := by decide +kernel
theorem dL_law_1000 : decode cL_law 1000 = .ok (.ireturn, 1) := by decide +kernel
theorem dL_law_1001 : decode cL_law 1001 = .ok (.iload 6, 2) := by decide +kernel
theorem dL_law_1003 : decode cL_law 1003 = .ok (.ifCond .ne 15, 3) := by decide +kernel
theorem dL_law_1006 : decode cL_law 1006 = .ok (.aload_n 3, 1) := by decide +kernel
theorem dL_law_1007 : decode cL_law 1007 = .ok (.iconst 0, 1) := by decide +kernel
theorem dL_law_1008 : decode cL_law 1008 = .ok (.laload, 1) := by decide +kernel
theorem dL_law_1009 : decode cL_law 1009 = .ok (.iload 7, 2) := by decide +kernel
theorem dL_law_1011 : decode cL_law 1011 = .ok (.i2l, 1) := by decide +kernel
theorem dL_law_1012 : decode cL_law 1012 = .ok (.lcmp, 1) := by decide +kernel
theorem dL_law_1013 : decode cL_law 1013 = .ok (.ifCond .eq 5, 3) := by decide +kernel
theorem dL_law_1016 : decode cL_law 1016 = .ok (.iconst 0, 1) := by decide +kernel
theorem dL_law_1017 : decode cL_law 1017 = .ok (.ireturn, 1) := by decide +kernel
theorem dL_law_1018 : decode cL_law 1018 = .ok (.goto 1493, 3) := by decide +kernel
theorem dL_law_1021 : decode cL_law 1021 = .ok (.aload_n 1, 1) := by decide +kernel
theorem dL_law_1022 : decode cL_law 1022 = .ok (.aload_n 0, 1) := by decide +kernel
theorem dL_law_1023 : decode cL_law 1023 = .ok (.iload 5, 2) := by decide +kernel
theorem dL_law_1025 : decode cL_law 1025 = .ok (.iconst 1, 1) := by decide +kernel
theorem dL_law_1026 : decode cL_law 1026 = .ok (.iadd, 1) := by decide +kernel
theorem dL_law_1027 : decode cL_law 1027 = .ok (.iaload, 1) := by decide +kernel
theorem dL_law_1028 : decode cL_law 1028 = .ok (.aload_n 3, 1) := by decide +kernel
theorem dL_law_1029 : decode cL_law 1029 = .ok (.invokestatic 171, 3) := by decide +kernel
theorem dL_law_1032 : decode cL_law 1032 = .ok (.istore 6, 2) := by decide +kernel
theorem dL_law_1034 : decode cL_law 1034 = .ok (.aload_n 2, 1) := by decide +kernel
theorem dL_law_1035 : decode cL_law 1035 = .ok (.aload_n 0, 1) := by decide +kernel
theorem dL_law_1036 : decode cL_law 1036 = .ok (.iload 5, 2) := by decide +kernel
theorem dL_law_1038 : decode cL_law 1038 = .ok (.iconst 1, 1) := by decide +kernel
theorem dL_law_1039 : decode cL_law 1039 = .ok (.iadd, 1) := by decide +kernel
theorem dL_law_1040 : decode cL_law 1040 = .ok (.iaload, 1) := by decide +kernel
theorem dL_law_1041 : decode cL_law 1041 = .ok (.invokevirtual 173, 3) := by decide +kernel
theorem dL_law_1044 : decode cL_law 1044 = .ok (.istore 7, 2) := by decide +kernel
theorem dL_law_1046 : decode cL_law 1046 = .ok (.aload_n 2, 1) := by decide +kernel
theorem dL_law_1047 : decode cL_law 1047 = .ok (.invokevirtual 129, 3) := by decide +kernel
theorem dL_law_1050 : decode cL_law 1050 = .ok (.iload 6, 2) := by decide +kernel
theorem dL_law_1052 : decode cL_law 1052 = .ok (.if_icmp .eq 5, 3) := by decide +kernel
theorem dL_law_1055 : decode cL_law 1055 = .ok (.iconst 0, 1) := by decide +kernel
theorem dL_law_1056 : decode cL_law 1056 = .ok (.ireturn, 1) := by decide +kernel
theorem dL_law_1057 : decode cL_law 1057 = .ok (.iload 6, 2) := by decide +kernel
theorem dL_law_1059 : decode cL_law 1059 = .ok (.ifCond .ne 15, 3) := by decide +kernel
theorem dL_law_1062 : decode cL_law 1062 = .ok (.aload_n 3, 1) := by decide +kernel
theorem dL_law_1063 : decode cL_law 1063 = .ok (.iconst 0, 1) := by decide +kernel
theorem dL_law_1064 : decode cL_law 1064 = .ok (.laload, 1) := by decide +kernel
theorem dL_law_1065 : decode cL_law 1065 = .ok (.iload 7, 2) := by decide +kernel
theorem dL_law_1067 : decode cL_law 1067 = .ok (.i2l, 1) := by decide +kernel
theorem dL_law_1068 : decode cL_law 1068 = .ok (.lcmp, 1) := by decide +kernel
theorem dL_law_1069 : decode cL_law 1069 = .ok (.ifCond .eq 5, 3) := by decide +kernel
theorem dL_law_1072 : decode cL_law 1072 = .ok (.iconst 0, 1) := by decide +kernel
theorem dL_law_1073 : decode cL_law 1073 = .ok (.ireturn, 1) := by decide +kernel
theorem dL_law_1074 : decode cL_law 1074 = .ok (.goto 1437, 3) := by decide +kernel
theorem dL_law_1077 : decode cL_law 1077 = .ok (.aload_n 1, 1) := by decide +kernel
theorem dL_law_1078 : decode cL_law 1078 = .ok (.aload_n 0, 1) := by decide +kernel
theorem dL_law_1079 : decode cL_law 1079 = .ok (.iload 5, 2) := by decide +kernel
theorem dL_law_1081 : decode cL_law 1081 = .ok (.iconst 1, 1) := by decide +kernel
theorem dL_law_1082 : decode cL_law 1082 = .ok (.iadd, 1) := by decide +kernel
theorem dL_law_1083 : decode cL_law 1083 = .ok (.iaload, 1) := by decide +kernel
theorem dL_law_1084 : decode cL_law 1084 = .ok (.aload_n 0, 1) := by decide +kernel
theorem dL_law_1085 : decode cL_law 1085 = .ok (.iload 5, 2) := by decide +kernel
theorem dL_law_1087 : decode cL_law 1087 = .ok (.iconst 2, 1) := by decide +kernel
theorem dL_law_1088 : decode cL_law 1088 = .ok (.iadd, 1) := by decide +kernel
theorem dL_law_1089 : decode cL_law 1089 = .ok (.iaload, 1) := by decide +kernel
theorem dL_law_1090 : decode cL_law 1090 = .ok (.aload_n 0, 1) := by decide +kernel
theorem dL_law_1091 : decode cL_law 1091 = .ok (.iload 5, 2) := by decide +kernel
theorem dL_law_1093 : decode cL_law 1093 = .ok (.iconst 3, 1) := by decide +kernel
theorem dL_law_1094 : decode cL_law 1094 = .ok (.iadd, 1) := by decide +kernel
theorem dL_law_1095 : decode cL_law 1095 = .ok (.iaload, 1) := by decide +kernel
theorem dL_law_1096 : decode cL_law 1096 = .ok (.aload_n 3, 1) := by decide +kernel
theorem dL_law_1097 : decode cL_law 1097 = .ok (.invokestatic 174, 3) := by decide +kernel
theorem dL_law_1100 : decode cL_law 1100 = .ok (.istore 6, 2) := by decide +kernel
theorem dL_law_1102 : decode cL_law 1102 = .ok (.aload_n 2, 1) := by decide +kernel
theorem dL_law_1103 : decode cL_law 1103 = .ok (.aload_n 0, 1) := by decide +kernel
theorem dL_law_1104 : decode cL_law 1104 = .ok (.iload 5, 2) := by decide +kernel
theorem dL_law_1106 : decode cL_law 1106 = .ok (.iconst 1, 1) := by decide +kernel
theorem dL_law_1107 : decode cL_law 1107 = .ok (.iadd, 1) := by decide +kernel
theorem dL_law_1108 : decode cL_law 1108 = .ok (.iaload, 1) := by decide +kernel
theorem dL_law_1109 : decode cL_law 1109 = .ok (.aload_n 0, 1) := by decide +kernel
theorem dL_law_1110 : decode cL_law 1110 = .ok (.iload 5, 2) := by decide +kernel
theorem dL_law_1112 : decode cL_law 1112 = .ok (.iconst 2, 1) := by decide +kernel
theorem dL_law_1113 : decode cL_law 1113 = .ok (.iadd, 1) := by decide +kernel
theorem dL_law_1114 : decode cL_law 1114 = .ok (.iaload, 1) := by decide +kernel
theorem dL_law_1115 : decode cL_law 1115 = .ok (.aload_n 0, 1) := by decide +kernel
theorem dL_law_1116 : decode cL_law 1116 = .ok (.iload 5, 2) := by decide +kernel
theorem dL_law_1118 : decode cL_law 1118 = .ok (.iconst 3, 1) := by decide +kernel
theorem dL_law_1119 : decode cL_law 1119 = .ok (.iadd, 1) := by decide +kernel
theorem dL_law_1120 : decode cL_law 1120 = .ok (.iaload, 1) := by decide +kernel
theorem dL_law_1121 : decode cL_law 1121 = .ok (.invokevirtual 176, 3) := by decide +kernel
theorem dL_law_1124 : decode cL_law 1124 = .ok (.istore 7, 2) := by decide +kernel
theorem dL_law_1126 : decode cL_law 1126 = .ok (.aload_n 2, 1) := by decide +kernel
theorem dL_law_1127 : decode cL_law 1127 = .ok (.invokevirtual 129, 3) := by decide +kernel
theorem dL_law_1130 : decode cL_law 1130 = .ok (.iload 6, 2) := by decide +kernel
theorem dL_law_1132 : decode cL_law 1132 = .ok (.if_icmp .eq 5, 3) := by decide +kernel
theorem dL_law_1135 : decode cL_law 1135 = .ok (.iconst 0, 1) := by decide +kernel
theorem dL_law_1136 : decode cL_law 1136 = .ok (.ireturn, 1) := by decide +kernel
theorem dL_law_1137 : decode cL_law 1137 = .ok (.iload 6, 2) := by decide +kernel
theorem dL_law_1139 : decode cL_law 1139 = .ok (.ifCond .ne 15, 3) := by decide +kernel
theorem dL_law_1142 : decode cL_law 1142 = .ok (.aload_n 3, 1) := by decide +kernel
theorem dL_law_1143 : decode cL_law 1143 = .ok (.iconst 0, 1) := by decide +kernel
theorem dL_law_1144 : decode cL_law 1144 = .ok (.laload, 1) := by decide +kernel
theorem dL_law_1145 : decode cL_law 1145 = .ok (.iload 7, 2) := by decide +kernel
theorem dL_law_1147 : decode cL_law 1147 = .ok (.i2l, 1) := by decide +kernel
theorem dL_law_1148 : decode cL_law 1148 = .ok (.lcmp, 1) := by decide +kernel
theorem dL_law_1149 : decode cL_law 1149 = .ok (.ifCond .eq 5, 3) := by decide +kernel
theorem dL_law_1152 : decode cL_law 1152 = .ok (.iconst 0, 1) := by decide +kernel
theorem dL_law_1153 : decode cL_law 1153 = .ok (.ireturn, 1) := by decide +kernel
theorem dL_law_1154 : decode cL_law 1154 = .ok (.goto 1357, 3) := by decide +kernel
theorem dL_law_1157 : decode cL_law 1157 = .ok (.aload_n 1, 1) := by decide +kernel
theorem dL_law_1158 : decode cL_law 1158 = .ok (.aload_n 0, 1) := by decide +kernel
theorem dL_law_1159 : decode cL_law 1159 = .ok (.iload 5, 2) := by decide +kernel
theorem dL_law_1161 : decode cL_law 1161 = .ok (.iconst 1, 1) := by decide +kernel
theorem dL_law_1162 : decode cL_law 1162 = .ok (.iadd, 1) := by decide +kernel
theorem dL_law_1163 : decode cL_law 1163 = .ok (.iaload, 1) := by decide +kernel
theorem dL_law_1164 : decode cL_law 1164 = .ok (.aload_n 3, 1) := by decide +kernel
theorem dL_law_1165 : decode cL_law 1165 = .ok (.invokestatic 177, 3) := by decide +kernel
theorem dL_law_1168 : decode cL_law 1168 = .ok (.istore 6, 2) := by decide +kernel
theorem dL_law_1170 : decode cL_law 1170 = .ok (.aload_n 2, 1) := by decide +kernel
theorem dL_law_1171 : decode cL_law 1171 = .ok (.aload_n 0, 1) := by decide +kernel
theorem dL_law_1172 : decode cL_law 1172 = .ok (.iload 5, 2) := by decide +kernel
theorem dL_law_1174 : decode cL_law 1174 = .ok (.iconst 1, 1) := by decide +kernel
theorem dL_law_1175 : decode cL_law 1175 = .ok (.iadd, 1) := by decide +kernel
theorem dL_law_1176 : decode cL_law 1176 = .ok (.iaload, 1) := by decide +kernel
theorem dL_law_1177 : decode cL_law 1177 = .ok (.invokevirtual 179, 3) := by decide +kernel
theorem dL_law_1180 : decode cL_law 1180 = .ok (.istore 7, 2) := by decide +kernel
theorem dL_law_1182 : decode cL_law 1182 = .ok (.aload_n 2, 1) := by decide +kernel
theorem dL_law_1183 : decode cL_law 1183 = .ok (.invokevirtual 129, 3) := by decide +kernel
theorem dL_law_1186 : decode cL_law 1186 = .ok (.iload 6, 2) := by decide +kernel
theorem dL_law_1188 : decode cL_law 1188 = .ok (.if_icmp .eq 5, 3) := by decide +kernel
theorem dL_law_1191 : decode cL_law 1191 = .ok (.iconst 0, 1) := by decide +kernel
theorem dL_law_1192 : decode cL_law 1192 = .ok (.ireturn, 1) := by decide +kernel
theorem dL_law_1193 : decode cL_law 1193 = .ok (.iload 6, 2) := by decide +kernel
theorem dL_law_1195 : decode cL_law 1195 = .ok (.ifCond .ne 15, 3) := by decide +kernel
theorem dL_law_1198 : decode cL_law 1198 = .ok (.aload_n 3, 1) := by decide +kernel
theorem dL_law_1199 : decode cL_law 1199 = .ok (.iconst 0, 1) := by decide +kernel
theorem dL_law_1200 : decode cL_law 1200 = .ok (.laload, 1) := by decide +kernel
theorem dL_law_1201 : decode cL_law 1201 = .ok (.iload 7, 2) := by decide +kernel
theorem dL_law_1203 : decode cL_law 1203 = .ok (.i2l, 1) := by decide +kernel
theorem dL_law_1204 : decode cL_law 1204 = .ok (.lcmp, 1) := by decide +kernel
theorem dL_law_1205 : decode cL_law 1205 = .ok (.ifCond .eq 5, 3) := by decide +kernel
theorem dL_law_1208 : decode cL_law 1208 = .ok (.iconst 0, 1) := by decide +kernel
theorem dL_law_1209 : decode cL_law 1209 = .ok (.ireturn, 1) := by decide +kernel
theorem dL_law_1210 : decode cL_law 1210 = .ok (.goto 1301, 3) := by decide +kernel
theorem dL_law_1213 : decode cL_law 1213 = .ok (.aload_n 1, 1) := by decide +kernel
theorem dL_law_1214 : decode cL_law 1214 = .ok (.invokevirtual 180, 3) := by decide +kernel
theorem dL_law_1217 : decode cL_law 1217 = .ok (.aload_n 2, 1) := by decide +kernel
theorem dL_law_1218 : decode cL_law 1218 = .ok (.invokevirtual 183, 3) := by decide +kernel
theorem dL_law_1221 : decode cL_law 1221 = .ok (.if_icmp .eq 1290, 3) := by decide +kernel
theorem dL_law_1224 : decode cL_law 1224 = .ok (.iconst 0, 1) := by decide +kernel
theorem dL_law_1225 : decode cL_law 1225 = .ok (.ireturn, 1) := by decide +kernel
theorem dL_law_1226 : decode cL_law 1226 = .ok (.aload_n 1, 1) := by decide +kernel
theorem dL_law_1227 : decode cL_law 1227 = .ok (.aload_n 0, 1) := by decide +kernel
theorem dL_law_1228 : decode cL_law 1228 = .ok (.iload 5, 2) := by decide +kernel
theorem dL_law_1230 : decode cL_law 1230 = .ok (.iconst 1, 1) := by decide +kernel
theorem dL_law_1231 : decode cL_law 1231 = .ok (.iadd, 1) := by decide +kernel
theorem dL_law_1232 : decode cL_law 1232 = .ok (.iaload, 1) := by decide +kernel
theorem dL_law_1233 : decode cL_law 1233 = .ok (.aload_n 3, 1) := by decide +kernel
theorem dL_law_1234 : decode cL_law 1234 = .ok (.invokestatic 184, 3) := by decide +kernel
theorem dL_law_1237 : decode cL_law 1237 = .ok (.istore 6, 2) := by decide +kernel
theorem dL_law_1239 : decode cL_law 1239 = .ok (.aload_n 2, 1) := by decide +kernel
theorem dL_law_1240 : decode cL_law 1240 = .ok (.aload_n 0, 1) := by decide +kernel
theorem dL_law_1241 : decode cL_law 1241 = .ok (.iload 5, 2) := by decide +kernel
theorem dL_law_1243 : decode cL_law 1243 = .ok (.iconst 1, 1) := by decide +kernel
theorem dL_law_1244 : decode cL_law 1244 = .ok (.iadd, 1) := by decide +kernel
theorem dL_law_1245 : decode cL_law 1245 = .ok (.iaload, 1) := by decide +kernel
theorem dL_law_1246 : decode cL_law 1246 = .ok (.invokevirtual 186, 3) := by decide +kernel
theorem dL_law_1249 : decode cL_law 1249 = .ok (.istore 7, 2) := by decide +kernel
theorem dL_law_1251 : decode cL_law 1251 = .ok (.aload_n 2, 1) := by decide +kernel
theorem dL_law_1252 : decode cL_law 1252 = .ok (.invokevirtual 129, 3) := by decide +kernel
theorem dL_law_1255 : decode cL_law 1255 = .ok (.iload 6, 2) := by decide +kernel
theorem dL_law_1257 : decode cL_law 1257 = .ok (.if_icmp .eq 5, 3) := by decide +kernel
theorem dL_law_1260 : decode cL_law 1260 = .ok (.iconst 0, 1) := by decide +kernel
theorem dL_law_1261 : decode cL_law 1261 = .ok (.ireturn, 1) := by decide +kernel
theorem dL_law_1262 : decode cL_law 1262 = .ok (.iload 6, 2) := by decide +kernel
theorem dL_law_1264 : decode cL_law 1264 = .ok (.ifCond .ne 15, 3) := by decide +kernel
theorem dL_law_1267 : decode cL_law 1267 = .ok (.aload_n 3, 1) := by decide +kernel
theorem dL_law_1268 : decode cL_law 1268 = .ok (.iconst 0, 1) := by decide +kernel
theorem dL_law_1269 : decode cL_law 1269 = .ok (.laload, 1) := by decide +kernel
theorem dL_law_1270 : decode cL_law 1270 = .ok (.iload 7, 2) := by decide +kernel
theorem dL_law_1272 : decode cL_law 1272 = .ok (.i2l, 1) := by decide +kernel
theorem dL_law_1273 : decode cL_law 1273 = .ok (.lcmp, 1) := by decide +kernel
theorem dL_law_1274 : decode cL_law 1274 = .ok (.ifCond .eq 5, 3) := by decide +kernel
theorem dL_law_1277 : decode cL_law 1277 = .ok (.iconst 0, 1) := by decide +kernel
theorem dL_law_1278 : decode cL_law 1278 = .ok (.ireturn, 1) := by decide +kernel
theorem dL_law_1279 : decode cL_law 1279 = .ok (.goto 1232, 3) := by decide +kernel
theorem dL_law_1282 : decode cL_law 1282 = .ok (.aload_n 1, 1) := by decide +kernel
theorem dL_law_1283 : decode cL_law 1283 = .ok (.aload_n 0, 1) := by decide +kernel
theorem dL_law_1284 : decode cL_law 1284 = .ok (.iload 5, 2) := by decide +kernel
theorem dL_law_1286 : decode cL_law 1286 = .ok (.iconst 1, 1) := by decide +kernel
theorem dL_law_1287 : decode cL_law 1287 = .ok (.iadd, 1) := by decide +kernel
theorem dL_law_1288 : decode cL_law 1288 = .ok (.iaload, 1) := by decide +kernel
theorem dL_law_1289 : decode cL_law 1289 = .ok (.aload_n 3, 1) := by decide +kernel
theorem dL_law_1290 : decode cL_law 1290 = .ok (.invokestatic 187, 3) := by decide +kernel
theorem dL_law_1293 : decode cL_law 1293 = .ok (.istore 6, 2) := by decide +kernel
theorem dL_law_1295 : decode cL_law 1295 = .ok (.aload_n 2, 1) := by decide +kernel
theorem dL_law_1296 : decode cL_law 1296 = .ok (.aload_n 0, 1) := by decide +kernel
theorem dL_law_1297 : decode cL_law 1297 = .ok (.iload 5, 2) := by decide +kernel
theorem dL_law_1299 : decode cL_law 1299 = .ok (.iconst 1, 1) := by decide +kernel
theorem dL_law_1300 : decode cL_law 1300 = .ok (.iadd, 1) := by decide +kernel
theorem dL_law_1301 : decode cL_law 1301 = .ok (.iaload, 1) := by decide +kernel
theorem dL_law_1302 : decode cL_law 1302 = .ok (.invokevirtual 189, 3) := by decide +kernel
theorem dL_law_1305 : decode cL_law 1305 = .ok (.istore 7, 2) := by decide +kernel
theorem dL_law_1307 : decode cL_law 1307 = .ok (.aload_n 2, 1) := by decide +kernel
theorem dL_law_1308 : decode cL_law 1308 = .ok (.invokevirtual 129, 3) := by decide +kernel
theorem dL_law_1311 : decode cL_law 1311 = .ok (.iload 6, 2) := by decide +kernel
theorem dL_law_1313 : decode cL_law 1313 = .ok (.if_icmp .eq 5, 3) := by decide +kernel
theorem dL_law_1316 : decode cL_law 1316 = .ok (.iconst 0, 1) := by decide +kernel
theorem dL_law_1317 : decode cL_law 1317 = .ok (.ireturn, 1) := by decide +kernel
theorem dL_law_1318 : decode cL_law 1318 = .ok (.iload 6, 2) := by decide +kernel
theorem dL_law_1320 : decode cL_law 1320 = .ok (.ifCond .ne 15, 3) := by decide +kernel
theorem dL_law_1323 : decode cL_law 1323 = .ok (.aload_n 3, 1) := by decide +kernel
theorem dL_law_1324 : decode cL_law 1324 = .ok (.iconst 0, 1) := by decide +kernel
theorem dL_law_1325 : decode cL_law 1325 = .ok (.laload, 1) := by decide +kernel
theorem dL_law_1326 : decode cL_law 1326 = .ok (.iload 7, 2) := by decide +kernel
theorem dL_law_1328 : decode cL_law 1328 = .ok (.i2l, 1) := by decide +kernel
theorem dL_law_1329 : decode cL_law 1329 = .ok (.lcmp, 1) := by decide +kernel
theorem dL_law_1330 : decode cL_law 1330 = .ok (.ifCond .eq 5, 3) := by decide +kernel
theorem dL_law_1333 : decode cL_law 1333 = .ok (.iconst 0, 1) := by decide +kernel
theorem dL_law_1334 : decode cL_law 1334 = .ok (.ireturn, 1) := by decide +kernel
theorem dL_law_1335 : decode cL_law 1335 = .ok (.goto 1176, 3) := by decide +kernel
theorem dL_law_1338 : decode cL_law 1338 = .ok (.aload_n 1, 1) := by decide +kernel
theorem dL_law_1339 : decode cL_law 1339 = .ok (.aload_n 0, 1) := by decide +kernel
theorem dL_law_1340 : decode cL_law 1340 = .ok (.iload 5, 2) := by decide +kernel
theorem dL_law_1342 : decode cL_law 1342 = .ok (.iconst 1, 1) := by decide +kernel
theorem dL_law_1343 : decode cL_law 1343 = .ok (.iadd, 1) := by decide +kernel
theorem dL_law_1344 : decode cL_law 1344 = .ok (.iaload, 1) := by decide +kernel
theorem dL_law_1345 : decode cL_law 1345 = .ok (.aload_n 3, 1) := by decide +kernel
theorem dL_law_1346 : decode cL_law 1346 = .ok (.invokestatic 190, 3) := by decide +kernel
theorem dL_law_1349 : decode cL_law 1349 = .ok (.istore 6, 2) := by decide +kernel
theorem dL_law_1351 : decode cL_law 1351 = .ok (.aload_n 2, 1) := by decide +kernel
theorem dL_law_1352 : decode cL_law 1352 = .ok (.aload_n 0, 1) := by decide +kernel
theorem dL_law_1353 : decode cL_law 1353 = .ok (.iload 5, 2) := by decide +kernel
theorem dL_law_1355 : decode cL_law 1355 = .ok (.iconst 1, 1) := by decide +kernel
theorem dL_law_1356 : decode cL_law 1356 = .ok (.iadd, 1) := by decide +kernel
theorem dL_law_1357 : decode cL_law 1357 = .ok (.iaload, 1) := by decide +kernel
theorem dL_law_1358 : decode cL_law 1358 = .ok (.invokevirtual 192, 3) := by decide +kernel
theorem dL_law_1361 : decode cL_law 1361 = .ok (.istore 7, 2) := by decide +kernel
theorem dL_law_1363 : decode cL_law 1363 = .ok (.aload_n 2, 1) := by decide +kernel
theorem dL_law_1364 : decode cL_law 1364 = .ok (.invokevirtual 129, 3) := by decide +kernel
theorem dL_law_1367 : decode cL_law 1367 = .ok (.iload 6, 2) := by decide +kernel
theorem dL_law_1369 : decode cL_law 1369 = .ok (.if_icmp .eq 5, 3) := by decide +kernel
theorem dL_law_1372 : decode cL_law 1372 = .ok (.iconst 0, 1) := by decide +kernel
theorem dL_law_1373 : decode cL_law 1373 = .ok (.ireturn, 1) := by decide +kernel
theorem dL_law_1374 : decode cL_law 1374 = .ok (.iload 6, 2) := by decide +kernel
theorem dL_law_1376 : decode cL_law 1376 = .ok (.ifCond .ne 15, 3) := by decide +kernel
theorem dL_law_1379 : decode cL_law 1379 = .ok (.aload_n 3, 1) := by decide +kernel
theorem dL_law_1380 : decode cL_law 1380 = .ok (.iconst 0, 1) := by decide +kernel
theorem dL_law_1381 : decode cL_law 1381 = .ok (.laload, 1) := by decide +kernel
theorem dL_law_1382 : decode cL_law 1382 = .ok (.iload 7, 2) := by decide +kernel
theorem dL_law_1384 : decode cL_law 1384 = .ok (.i2l, 1) := by decide +kernel
theorem dL_law_1385 : decode cL_law 1385 = .ok (.lcmp, 1) := by decide +kernel
theorem dL_law_1386 : decode cL_law 1386 = .ok (.ifCond .eq 5, 3) := by decide +kernel
theorem dL_law_1389 : decode cL_law 1389 = .ok (.iconst 0, 1) := by decide +kernel
theorem dL_law_1390 : decode cL_law 1390 = .ok (.ireturn, 1) := by decide +kernel
theorem dL_law_1391 : decode cL_law 1391 = .ok (.goto 1120, 3) := by decide +kernel
theorem dL_law_1394 : decode cL_law 1394 = .ok (.aload_n 1, 1) := by decide +kernel
theorem dL_law_1395 : decode cL_law 1395 = .ok (.aload_n 0, 1) := by decide +kernel
theorem dL_law_1396 : decode cL_law 1396 = .ok (.iload 5, 2) := by decide +kernel
theorem dL_law_1398 : decode cL_law 1398 = .ok (.iconst 1, 1) := by decide +kernel
theorem dL_law_1399 : decode cL_law 1399 = .ok (.iadd, 1) := by decide +kernel
theorem dL_law_1400 : decode cL_law 1400 = .ok (.iaload, 1) := by decide +kernel
theorem dL_law_1401 : decode cL_law 1401 = .ok (.aload_n 3, 1) := by decide +kernel
theorem dL_law_1402 : decode cL_law 1402 = .ok (.invokestatic 193, 3) := by decide +kernel
theorem dL_law_1405 : decode cL_law 1405 = .ok (.istore 6, 2) := by decide +kernel
theorem dL_law_1407 : decode cL_law 1407 = .ok (.aload_n 2, 1) := by decide +kernel
theorem dL_law_1408 : decode cL_law 1408 = .ok (.aload_n 0, 1) := by decide +kernel
theorem dL_law_1409 : decode cL_law 1409 = .ok (.iload 5, 2) := by decide +kernel
theorem dL_law_1411 : decode cL_law 1411 = .ok (.iconst 1, 1) := by decide +kernel
theorem dL_law_1412 : decode cL_law 1412 = .ok (.iadd, 1) := by decide +kernel
theorem dL_law_1413 : decode cL_law 1413 = .ok (.iaload, 1) := by decide +kernel
theorem dL_law_1414 : decode cL_law 1414 = .ok (.invokevirtual 195, 3) := by decide +kernel
theorem dL_law_1417 : decode cL_law 1417 = .ok (.istore 7, 2) := by decide +kernel
theorem dL_law_1419 : decode cL_law 1419 = .ok (.aload_n 2, 1) := by decide +kernel
theorem dL_law_1420 : decode cL_law 1420 = .ok (.invokevirtual 129, 3) := by decide +kernel
theorem dL_law_1423 : decode cL_law 1423 = .ok (.iload 6, 2) := by decide +kernel
theorem dL_law_1425 : decode cL_law 1425 = .ok (.if_icmp .eq 5, 3) := by decide +kernel
theorem dL_law_1428 : decode cL_law 1428 = .ok (.iconst 0, 1) := by decide +kernel
theorem dL_law_1429 : decode cL_law 1429 = .ok (.ireturn, 1) := by decide +kernel
theorem dL_law_1430 : decode cL_law 1430 = .ok (.iload 6, 2) := by decide +kernel
theorem dL_law_1432 : decode cL_law 1432 = .ok (.ifCond .ne 15, 3) := by decide +kernel
theorem dL_law_1435 : decode cL_law 1435 = .ok (.aload_n 3, 1) := by decide +kernel
theorem dL_law_1436 : decode cL_law 1436 = .ok (.iconst 0, 1) := by decide +kernel
theorem dL_law_1437 : decode cL_law 1437 = .ok (.laload, 1) := by decide +kernel
theorem dL_law_1438 : decode cL_law 1438 = .ok (.iload 7, 2) := by decide +kernel
theorem dL_law_1440 : decode cL_law 1440 = .ok (.i2l, 1) := by decide +kernel
theorem dL_law_1441 : decode cL_law 1441 = .ok (.lcmp, 1) := by decide +kernel
theorem dL_law_1442 : decode cL_law 1442 = .ok (.ifCond .eq 5, 3) := by decide +kernel
theorem dL_law_1445 : decode cL_law 1445 = .ok (.iconst 0, 1) := by decide +kernel
theorem dL_law_1446 : decode cL_law 1446 = .ok (.ireturn, 1) := by decide +kernel
theorem dL_law_1447 : decode cL_law 1447 = .ok (.goto 1064, 3) := by decide +kernel
theorem dL_law_1450 : decode cL_law 1450 = .ok (.aload_n 1, 1) := by decide +kernel
theorem dL_law_1451 : decode cL_law 1451 = .ok (.aload_n 0, 1) := by decide +kernel
theorem dL_law_1452 : decode cL_law 1452 = .ok (.iload 5, 2) := by decide +kernel
theorem dL_law_1454 : decode cL_law 1454 = .ok (.iconst 1, 1) := by decide +kernel
theorem dL_law_1455 : decode cL_law 1455 = .ok (.iadd, 1) := by decide +kernel
theorem dL_law_1456 : decode cL_law 1456 = .ok (.iaload, 1) := by decide +kernel
theorem dL_law_1457 : decode cL_law 1457 = .ok (.aload_n 0, 1) := by decide +kernel
theorem dL_law_1458 : decode cL_law 1458 = .ok (.iload 5, 2) := by decide +kernel
theorem dL_law_1460 : decode cL_law 1460 = .ok (.iconst 2, 1) := by decide +kernel
theorem dL_law_1461 : decode cL_law 1461 = .ok (.iadd, 1) := by decide +kernel
theorem dL_law_1462 : decode cL_law 1462 = .ok (.iaload, 1) := by decide +kernel
theorem dL_law_1463 : decode cL_law 1463 = .ok (.aload_n 0, 1) := by decide +kernel
theorem dL_law_1464 : decode cL_law 1464 = .ok (.iload 5, 2) := by decide +kernel
theorem dL_law_1466 : decode cL_law 1466 = .ok (.iconst 3, 1) := by decide +kernel
theorem dL_law_1467 : decode cL_law 1467 = .ok (.iadd, 1) := by decide +kernel
theorem dL_law_1468 : decode cL_law 1468 = .ok (.iaload, 1) := by decide +kernel
theorem dL_law_1469 : decode cL_law 1469 = .ok (.aload_n 3, 1) := by decide +kernel
theorem dL_law_1470 : decode cL_law 1470 = .ok (.invokestatic 196, 3) := by decide +kernel
theorem dL_law_1473 : decode cL_law 1473 = .ok (.istore 6, 2) := by decide +kernel
theorem dL_law_1475 : decode cL_law 1475 = .ok (.aload_n 2, 1) := by decide +kernel
theorem dL_law_1476 : decode cL_law 1476 = .ok (.aload_n 0, 1) := by decide +kernel
theorem dL_law_1477 : decode cL_law 1477 = .ok (.iload 5, 2) := by decide +kernel
theorem dL_law_1479 : decode cL_law 1479 = .ok (.iconst 1, 1) := by decide +kernel
theorem dL_law_1480 : decode cL_law 1480 = .ok (.iadd, 1) := by decide +kernel
theorem dL_law_1481 : decode cL_law 1481 = .ok (.iaload, 1) := by decide +kernel
theorem dL_law_1482 : decode cL_law 1482 = .ok (.aload_n 0, 1) := by decide +kernel
theorem dL_law_1483 : decode cL_law 1483 = .ok (.iload 5, 2) := by decide +kernel
theorem dL_law_1485 : decode cL_law 1485 = .ok (.iconst 2, 1) := by decide +kernel
theorem dL_law_1486 : decode cL_law 1486 = .ok (.iadd, 1) := by decide +kernel
theorem dL_law_1487 : decode cL_law 1487 = .ok (.iaload, 1) := by decide +kernel
theorem dL_law_1488 : decode cL_law 1488 = .ok (.aload_n 0, 1) := by decide +kernel
theorem dL_law_1489 : decode cL_law 1489 = .ok (.iload 5, 2) := by decide +kernel
theorem dL_law_1491 : decode cL_law 1491 = .ok (.iconst 3, 1) := by decide +kernel
theorem dL_law_1492 : decode cL_law 1492 = .ok (.iadd, 1) := by decide +kernel
theorem dL_law_1493 : decode cL_law 1493 = .ok (.iaload, 1) := by decide +kernel
theorem dL_law_1494 : decode cL_law 1494 = .ok (.invokevirtual 198, 3) := by decide +kernel
theorem dL_law_1497 : decode cL_law 1497 = .ok (.istore 7, 2) := by decide +kernel
theorem dL_law_1499 : decode cL_law 1499 = .ok (.aload_n 2, 1) := by decide +kernel
theorem dL_law_1500 : decode cL_law 1500 = .ok (.invokevirtual 129, 3) := by decide +kernel
theorem dL_law_1503 : decode cL_law 1503 = .ok (.iload 6, 2) := by decide +kernel
theorem dL_law_1505 : decode cL_law 1505 = .ok (.if_icmp .eq 5, 3) := by decide +kernel
theorem dL_law_1508 : decode cL_law 1508 = .ok (.iconst 0, 1) := by decide +kernel
theorem dL_law_1509 : decode cL_law 1509 = .ok (.ireturn, 1) := by decide +kernel
theorem dL_law_1510 : decode cL_law 1510 = .ok (.iload 6, 2) := by decide +kernel
theorem dL_law_1512 : decode cL_law 1512 = .ok (.ifCond .ne 22, 3) := by decide +kernel
theorem dL_law_1515 : decode cL_law 1515 = .ok (.aload_n 3, 1) := by decide +kernel
theorem dL_law_1516 : decode cL_law 1516 = .ok (.iconst 0, 1) := by decide +kernel
theorem dL_law_1517 : decode cL_law 1517 = .ok (.laload, 1) := by decide +kernel
theorem dL_law_1518 : decode cL_law 1518 = .ok (.iload 7, 2) := by decide +kernel
theorem dL_law_1520 : decode cL_law 1520 = .ok (.ifCond .eq 7, 3) := by decide +kernel
theorem dL_law_1523 : decode cL_law 1523 = .ok (.lconst 1, 1) := by decide +kernel
theorem dL_law_1524 : decode cL_law 1524 = .ok (.goto 4, 3) := by decide +kernel
theorem dL_law_1527 : decode cL_law 1527 = .ok (.lconst 0, 1) := by decide +kernel
theorem dL_law_1528 : decode cL_law 1528 = .ok (.lcmp, 1) := by decide +kernel
theorem dL_law_1529 : decode cL_law 1529 = .ok (.ifCond .eq 5, 3) := by decide +kernel
theorem dL_law_1532 : decode cL_law 1532 = .ok (.iconst 0, 1) := by decide +kernel
theorem dL_law_1533 : decode cL_law 1533 = .ok (.ireturn, 1) := by decide +kernel
theorem dL_law_1534 : decode cL_law 1534 = .ok (.goto 977, 3) := by decide +kernel
theorem dL_law_1537 : decode cL_law 1537 = .ok (.aload_n 1, 1) := by decide +kernel
theorem dL_law_1538 : decode cL_law 1538 = .ok (.aload_n 0, 1) := by decide +kernel
theorem dL_law_1539 : decode cL_law 1539 = .ok (.iload 5, 2) := by decide +kernel
theorem dL_law_1541 : decode cL_law 1541 = .ok (.iconst 1, 1) := by decide +kernel
theorem dL_law_1542 : decode cL_law 1542 = .ok (.iadd, 1) := by decide +kernel
theorem dL_law_1543 : decode cL_law 1543 = .ok (.iaload, 1) := by decide +kernel
theorem dL_law_1544 : decode cL_law 1544 = .ok (.aload_n 0, 1) := by decide +kernel
theorem dL_law_1545 : decode cL_law 1545 = .ok (.iload 5, 2) := by decide +kernel
theorem dL_law_1547 : decode cL_law 1547 = .ok (.iconst 2, 1) := by decide +kernel
theorem dL_law_1548 : decode cL_law 1548 = .ok (.iadd, 1) := by decide +kernel
theorem dL_law_1549 : decode cL_law 1549 = .ok (.iaload, 1) := by decide +kernel
theorem dL_law_1550 : decode cL_law 1550 = .ok (.aload_n 3, 1) := by decide +kernel
theorem dL_law_1551 : decode cL_law 1551 = .ok (.invokestatic 199, 3) := by decide +kernel
theorem dL_law_1554 : decode cL_law 1554 = .ok (.istore 6, 2) := by decide +kernel
theorem dL_law_1556 : decode cL_law 1556 = .ok (.aload_n 2, 1) := by decide +kernel
theorem dL_law_1557 : decode cL_law 1557 = .ok (.aload_n 0, 1) := by decide +kernel
theorem dL_law_1558 : decode cL_law 1558 = .ok (.iload 5, 2) := by decide +kernel
theorem dL_law_1560 : decode cL_law 1560 = .ok (.iconst 1, 1) := by decide +kernel
theorem dL_law_1561 : decode cL_law 1561 = .ok (.iadd, 1) := by decide +kernel
theorem dL_law_1562 : decode cL_law 1562 = .ok (.iaload, 1) := by decide +kernel
theorem dL_law_1563 : decode cL_law 1563 = .ok (.aload_n 0, 1) := by decide +kernel
theorem dL_law_1564 : decode cL_law 1564 = .ok (.iload 5, 2) := by decide +kernel
theorem dL_law_1566 : decode cL_law 1566 = .ok (.iconst 2, 1) := by decide +kernel
theorem dL_law_1567 : decode cL_law 1567 = .ok (.iadd, 1) := by decide +kernel
theorem dL_law_1568 : decode cL_law 1568 = .ok (.iaload, 1) := by decide +kernel
theorem dL_law_1569 : decode cL_law 1569 = .ok (.invokevirtual 201, 3) := by decide +kernel
theorem dL_law_1572 : decode cL_law 1572 = .ok (.istore 7, 2) := by decide +kernel
theorem dL_law_1574 : decode cL_law 1574 = .ok (.aload_n 2, 1) := by decide +kernel
theorem dL_law_1575 : decode cL_law 1575 = .ok (.invokevirtual 129, 3) := by decide +kernel
theorem dL_law_1578 : decode cL_law 1578 = .ok (.iload 6, 2) := by decide +kernel
theorem dL_law_1580 : decode cL_law 1580 = .ok (.if_icmp .eq 5, 3) := by decide +kernel
theorem dL_law_1583 : decode cL_law 1583 = .ok (.iconst 0, 1) := by decide +kernel
theorem dL_law_1584 : decode cL_law 1584 = .ok (.ireturn, 1) := by decide +kernel
theorem dL_law_1585 : decode cL_law 1585 = .ok (.iload 6, 2) := by decide +kernel
theorem dL_law_1587 : decode cL_law 1587 = .ok (.ifCond .ne 15, 3) := by decide +kernel
theorem dL_law_1590 : decode cL_law 1590 = .ok (.aload_n 3, 1) := by decide +kernel
theorem dL_law_1591 : decode cL_law 1591 = .ok (.iconst 0, 1) := by decide +kernel
theorem dL_law_1592 : decode cL_law 1592 = .ok (.laload, 1) := by decide +kernel
theorem dL_law_1593 : decode cL_law 1593 = .ok (.iload 7, 2) := by decide +kernel
theorem dL_law_1595 : decode cL_law 1595 = .ok (.i2l, 1) := by decide +kernel
theorem dL_law_1596 : decode cL_law 1596 = .ok (.lcmp, 1) := by decide +kernel
theorem dL_law_1597 : decode cL_law 1597 = .ok (.ifCond .eq 5, 3) := by decide +kernel
theorem dL_law_1600 : decode cL_law 1600 = .ok (.iconst 0, 1) := by decide +kernel
theorem dL_law_1601 : decode cL_law 1601 = .ok (.ireturn, 1) := by decide +kernel
theorem dL_law_1602 : decode cL_law 1602 = .ok (.goto 909, 3) := by decide +kernel
theorem dL_law_1605 : decode cL_law 1605 = .ok (.aload_n 1, 1) := by decide +kernel
theorem dL_law_1606 : decode cL_law 1606 = .ok (.aload_n 0, 1) := by decide +kernel
theorem dL_law_1607 : decode cL_law 1607 = .ok (.iload 5, 2) := by decide +kernel
theorem dL_law_1609 : decode cL_law 1609 = .ok (.iconst 1, 1) := by decide +kernel
theorem dL_law_1610 : decode cL_law 1610 = .ok (.iadd, 1) := by decide +kernel
theorem dL_law_1611 : decode cL_law 1611 = .ok (.iaload, 1) := by decide +kernel
theorem dL_law_1612 : decode cL_law 1612 = .ok (.aload_n 3, 1) := by decide +kernel
theorem dL_law_1613 : decode cL_law 1613 = .ok (.invokestatic 202, 3) := by decide +kernel
theorem dL_law_1616 : decode cL_law 1616 = .ok (.istore 6, 2) := by decide +kernel
theorem dL_law_1618 : decode cL_law 1618 = .ok (.aload_n 2, 1) := by decide +kernel
theorem dL_law_1619 : decode cL_law 1619 = .ok (.aload_n 0, 1) := by decide +kernel
theorem dL_law_1620 : decode cL_law 1620 = .ok (.iload 5, 2) := by decide +kernel
theorem dL_law_1622 : decode cL_law 1622 = .ok (.iconst 1, 1) := by decide +kernel
theorem dL_law_1623 : decode cL_law 1623 = .ok (.iadd, 1) := by decide +kernel
theorem dL_law_1624 : decode cL_law 1624 = .ok (.iaload, 1) := by decide +kernel
theorem dL_law_1625 : decode cL_law 1625 = .ok (.invokevirtual 204, 3) := by decide +kernel
theorem dL_law_1628 : decode cL_law 1628 = .ok (.istore 7, 2) := by decide +kernel
theorem dL_law_1630 : decode cL_law 1630 = .ok (.aload_n 2, 1) := by decide +kernel
theorem dL_law_1631 : decode cL_law 1631 = .ok (.invokevirtual 129, 3) := by decide +kernel
theorem dL_law_1634 : decode cL_law 1634 = .ok (.iload 6, 2) := by decide +kernel
theorem dL_law_1636 : decode cL_law 1636 = .ok (.if_icmp .eq 5, 3) := by decide +kernel
theorem dL_law_1639 : decode cL_law 1639 = .ok (.iconst 0, 1) := by decide +kernel
theorem dL_law_1640 : decode cL_law 1640 = .ok (.ireturn, 1) := by decide +kernel
theorem dL_law_1641 : decode cL_law 1641 = .ok (.iload 6, 2) := by decide +kernel
theorem dL_law_1643 : decode cL_law 1643 = .ok (.ifCond .ne 15, 3) := by decide +kernel
theorem dL_law_1646 : decode cL_law 1646 = .ok (.aload_n 3, 1) := by decide +kernel
theorem dL_law_1647 : decode cL_law 1647 = .ok (.iconst 0, 1) := by decide +kernel
theorem dL_law_1648 : decode cL_law 1648 = .ok (.laload, 1) := by decide +kernel
theorem dL_law_1649 : decode cL_law 1649 = .ok (.iload 7, 2) := by decide +kernel
theorem dL_law_1651 : decode cL_law 1651 = .ok (.i2l, 1) := by decide +kernel
theorem dL_law_1652 : decode cL_law 1652 = .ok (.lcmp, 1) := by decide +kernel
theorem dL_law_1653 : decode cL_law 1653 = .ok (.ifCond .eq 5, 3) := by decide +kernel
theorem dL_law_1656 : decode cL_law 1656 = .ok (.iconst 0, 1) := by decide +kernel
theorem dL_law_1657 : decode cL_law 1657 = .ok (.ireturn, 1) := by decide +kernel
theorem dL_law_1658 : decode cL_law 1658 = .ok (.goto 853, 3) := by decide +kernel
theorem dL_law_1661 : decode cL_law 1661 = .ok (.aload_n 1, 1) := by decide +kernel
theorem dL_law_1662 : decode cL_law 1662 = .ok (.aload_n 0, 1) := by decide +kernel
theorem dL_law_1663 : decode cL_law 1663 = .ok (.iload 5, 2) := by decide +kernel
theorem dL_law_1665 : decode cL_law 1665 = .ok (.iconst 1, 1) := by decide +kernel
theorem dL_law_1666 : decode cL_law 1666 = .ok (.iadd, 1) := by decide +kernel
theorem dL_law_1667 : decode cL_law 1667 = .ok (.iaload, 1) := by decide +kernel
theorem dL_law_1668 : decode cL_law 1668 = .ok (.aload_n 0, 1) := by decide +kernel
theorem dL_law_1669 : decode cL_law 1669 = .ok (.iload 5, 2) := by decide +kernel
theorem dL_law_1671 : decode cL_law 1671 = .ok (.iconst 2, 1) := by decide +kernel
theorem dL_law_1672 : decode cL_law 1672 = .ok (.iadd, 1) := by decide +kernel
theorem dL_law_1673 : decode cL_law 1673 = .ok (.iaload, 1) := by decide +kernel
theorem dL_law_1674 : decode cL_law 1674 = .ok (.aload_n 3, 1) := by decide +kernel
theorem dL_law_1675 : decode cL_law 1675 = .ok (.invokestatic 205, 3) := by decide +kernel
theorem dL_law_1678 : decode cL_law 1678 = .ok (.istore 6, 2) := by decide +kernel
theorem dL_law_1680 : decode cL_law 1680 = .ok (.aload_n 2, 1) := by decide +kernel
theorem dL_law_1681 : decode cL_law 1681 = .ok (.aload_n 0, 1) := by decide +kernel
theorem dL_law_1682 : decode cL_law 1682 = .ok (.iload 5, 2) := by decide +kernel
theorem dL_law_1684 : decode cL_law 1684 = .ok (.iconst 1, 1) := by decide +kernel
theorem dL_law_1685 : decode cL_law 1685 = .ok (.iadd, 1) := by decide +kernel
theorem dL_law_1686 : decode cL_law 1686 = .ok (.iaload, 1) := by decide +kernel
theorem dL_law_1687 : decode cL_law 1687 = .ok (.aload_n 0, 1) := by decide +kernel
theorem dL_law_1688 : decode cL_law 1688 = .ok (.iload 5, 2) := by decide +kernel
theorem dL_law_1690 : decode cL_law 1690 = .ok (.iconst 2, 1) := by decide +kernel
theorem dL_law_1691 : decode cL_law 1691 = .ok (.iadd, 1) := by decide +kernel
theorem dL_law_1692 : decode cL_law 1692 = .ok (.iaload, 1) := by decide +kernel
theorem dL_law_1693 : decode cL_law 1693 = .ok (.invokevirtual 207, 3) := by decide +kernel
theorem dL_law_1696 : decode cL_law 1696 = .ok (.istore 7, 2) := by decide +kernel
theorem dL_law_1698 : decode cL_law 1698 = .ok (.aload_n 2, 1) := by decide +kernel
theorem dL_law_1699 : decode cL_law 1699 = .ok (.invokevirtual 129, 3) := by decide +kernel
theorem dL_law_1702 : decode cL_law 1702 = .ok (.iload 6, 2) := by decide +kernel
theorem dL_law_1704 : decode cL_law 1704 = .ok (.if_icmp .eq 5, 3) := by decide +kernel
theorem dL_law_1707 : decode cL_law 1707 = .ok (.iconst 0, 1) := by decide +kernel
theorem dL_law_1708 : decode cL_law 1708 = .ok (.ireturn, 1) := by decide +kernel
theorem dL_law_1709 : decode cL_law 1709 = .ok (.iload 6, 2) := by decide +kernel
theorem dL_law_1711 : decode cL_law 1711 = .ok (.ifCond .ne 15, 3) := by decide +kernel
theorem dL_law_1714 : decode cL_law 1714 = .ok (.aload_n 3, 1) := by decide +kernel
theorem dL_law_1715 : decode cL_law 1715 = .ok (.iconst 0, 1) := by decide +kernel
theorem dL_law_1716 : decode cL_law 1716 = .ok (.laload, 1) := by decide +kernel
theorem dL_law_1717 : decode cL_law 1717 = .ok (.iload 7, 2) := by decide +kernel
theorem dL_law_1719 : decode cL_law 1719 = .ok (.i2l, 1) := by decide +kernel
theorem dL_law_1720 : decode cL_law 1720 = .ok (.lcmp, 1) := by decide +kernel
theorem dL_law_1721 : decode cL_law 1721 = .ok (.ifCond .eq 5, 3) := by decide +kernel
theorem dL_law_1724 : decode cL_law 1724 = .ok (.iconst 0, 1) := by decide +kernel
theorem dL_law_1725 : decode cL_law 1725 = .ok (.ireturn, 1) := by decide +kernel
theorem dL_law_1726 : decode cL_law 1726 = .ok (.goto 785, 3) := by decide +kernel
theorem dL_law_1729 : decode cL_law 1729 = .ok (.aload_n 1, 1) := by decide +kernel
theorem dL_law_1730 : decode cL_law 1730 = .ok (.aload_n 0, 1) := by decide +kernel
theorem dL_law_1731 : decode cL_law 1731 = .ok (.iload 5, 2) := by decide +kernel
theorem dL_law_1733 : decode cL_law 1733 = .ok (.iconst 1, 1) := by decide +kernel
theorem dL_law_1734 : decode cL_law 1734 = .ok (.iadd, 1) := by decide +kernel
theorem dL_law_1735 : decode cL_law 1735 = .ok (.iaload, 1) := by decide +kernel
theorem dL_law_1736 : decode cL_law 1736 = .ok (.aload_n 0, 1) := by decide +kernel
theorem dL_law_1737 : decode cL_law 1737 = .ok (.iload 5, 2) := by decide +kernel
theorem dL_law_1739 : decode cL_law 1739 = .ok (.iconst 2, 1) := by decide +kernel
theorem dL_law_1740 : decode cL_law 1740 = .ok (.iadd, 1) := by decide +kernel
theorem dL_law_1741 : decode cL_law 1741 = .ok (.iaload, 1) := by decide +kernel
theorem dL_law_1742 : decode cL_law 1742 = .ok (.aload_n 0, 1) := by decide +kernel
theorem dL_law_1743 : decode cL_law 1743 = .ok (.iload 5, 2) := by decide +kernel
theorem dL_law_1745 : decode cL_law 1745 = .ok (.iconst 3, 1) := by decide +kernel
theorem dL_law_1746 : decode cL_law 1746 = .ok (.iadd, 1) := by decide +kernel
theorem dL_law_1747 : decode cL_law 1747 = .ok (.iaload, 1) := by decide +kernel
theorem dL_law_1748 : decode cL_law 1748 = .ok (.aload_n 3, 1) := by decide +kernel
theorem dL_law_1749 : decode cL_law 1749 = .ok (.invokestatic 208, 3) := by decide +kernel
theorem dL_law_1752 : decode cL_law 1752 = .ok (.istore 6, 2) := by decide +kernel
theorem dL_law_1754 : decode cL_law 1754 = .ok (.aload_n 2, 1) := by decide +kernel
theorem dL_law_1755 : decode cL_law 1755 = .ok (.aload_n 0, 1) := by decide +kernel
theorem dL_law_1756 : decode cL_law 1756 = .ok (.iload 5, 2) := by decide +kernel
theorem dL_law_1758 : decode cL_law 1758 = .ok (.iconst 1, 1) := by decide +kernel
theorem dL_law_1759 : decode cL_law 1759 = .ok (.iadd, 1) := by decide +kernel
theorem dL_law_1760 : decode cL_law 1760 = .ok (.iaload, 1) := by decide +kernel
theorem dL_law_1761 : decode cL_law 1761 = .ok (.aload_n 0, 1) := by decide +kernel
theorem dL_law_1762 : decode cL_law 1762 = .ok (.iload 5, 2) := by decide +kernel
theorem dL_law_1764 : decode cL_law 1764 = .ok (.iconst 2, 1) := by decide +kernel
theorem dL_law_1765 : decode cL_law 1765 = .ok (.iadd, 1) := by decide +kernel
theorem dL_law_1766 : decode cL_law 1766 = .ok (.iaload, 1) := by decide +kernel
theorem dL_law_1767 : decode cL_law 1767 = .ok (.aload_n 0, 1) := by decide +kernel
theorem dL_law_1768 : decode cL_law 1768 = .ok (.iload 5, 2) := by decide +kernel
theorem dL_law_1770 : decode cL_law 1770 = .ok (.iconst 3, 1) := by decide +kernel
theorem dL_law_1771 : decode cL_law 1771 = .ok (.iadd, 1) := by decide +kernel
theorem dL_law_1772 : decode cL_law 1772 = .ok (.iaload, 1) := by decide +kernel
theorem dL_law_1773 : decode cL_law 1773 = .ok (.invokevirtual 210, 3) := by decide +kernel
theorem dL_law_1776 : decode cL_law 1776 = .ok (.istore 7, 2) := by decide +kernel
theorem dL_law_1778 : decode cL_law 1778 = .ok (.aload_n 2, 1) := by decide +kernel
theorem dL_law_1779 : decode cL_law 1779 = .ok (.invokevirtual 129, 3) := by decide +kernel
theorem dL_law_1782 : decode cL_law 1782 = .ok (.iload 6, 2) := by decide +kernel
theorem dL_law_1784 : decode cL_law 1784 = .ok (.if_icmp .eq 5, 3) := by decide +kernel
theorem dL_law_1787 : decode cL_law 1787 = .ok (.iconst 0, 1) := by decide +kernel
theorem dL_law_1788 : decode cL_law 1788 = .ok (.ireturn, 1) := by decide +kernel
theorem dL_law_1789 : decode cL_law 1789 = .ok (.iload 6, 2) := by decide +kernel
theorem dL_law_1791 : decode cL_law 1791 = .ok (.ifCond .ne 15, 3) := by decide +kernel
theorem dL_law_1794 : decode cL_law 1794 = .ok (.aload_n 3, 1) := by decide +kernel
theorem dL_law_1795 : decode cL_law 1795 = .ok (.iconst 0, 1) := by decide +kernel
theorem dL_law_1796 : decode cL_law 1796 = .ok (.laload, 1) := by decide +kernel
theorem dL_law_1797 : decode cL_law 1797 = .ok (.iload 7, 2) := by decide +kernel
theorem dL_law_1799 : decode cL_law 1799 = .ok (.i2l, 1) := by decide +kernel
theorem dL_law_1800 : decode cL_law 1800 = .ok (.lcmp, 1) := by decide +kernel
theorem dL_law_1801 : decode cL_law 1801 = .ok (.ifCond .eq 5, 3) := by decide +kernel
theorem dL_law_1804 : decode cL_law 1804 = .ok (.iconst 0, 1) := by decide +kernel
theorem dL_law_1805 : decode cL_law 1805 = .ok (.ireturn, 1) := by decide +kernel
theorem dL_law_1806 : decode cL_law 1806 = .ok (.goto 705, 3) := by decide +kernel
theorem dL_law_1809 : decode cL_law 1809 = .ok (.aload_n 1, 1) := by decide +kernel
theorem dL_law_1810 : decode cL_law 1810 = .ok (.aload_n 0, 1) := by decide +kernel
theorem dL_law_1811 : decode cL_law 1811 = .ok (.iload 5, 2) := by decide +kernel
theorem dL_law_1813 : decode cL_law 1813 = .ok (.iconst 1, 1) := by decide +kernel
theorem dL_law_1814 : decode cL_law 1814 = .ok (.iadd, 1) := by decide +kernel
theorem dL_law_1815 : decode cL_law 1815 = .ok (.iaload, 1) := by decide +kernel
theorem dL_law_1816 : decode cL_law 1816 = .ok (.aload_n 0, 1) := by decide +kernel
theorem dL_law_1817 : decode cL_law 1817 = .ok (.iload 5, 2) := by decide +kernel
theorem dL_law_1819 : decode cL_law 1819 = .ok (.iconst 2, 1) := by decide +kernel
theorem dL_law_1820 : decode cL_law 1820 = .ok (.iadd, 1) := by decide +kernel
theorem dL_law_1821 : decode cL_law 1821 = .ok (.iaload, 1) := by decide +kernel
theorem dL_law_1822 : decode cL_law 1822 = .ok (.aload_n 0, 1) := by decide +kernel
theorem dL_law_1823 : decode cL_law 1823 = .ok (.iload 5, 2) := by decide +kernel
theorem dL_law_1825 : decode cL_law 1825 = .ok (.iconst 3, 1) := by decide +kernel
theorem dL_law_1826 : decode cL_law 1826 = .ok (.iadd, 1) := by decide +kernel
theorem dL_law_1827 : decode cL_law 1827 = .ok (.iaload, 1) := by decide +kernel
theorem dL_law_1828 : decode cL_law 1828 = .ok (.aload_n 3, 1) := by decide +kernel
theorem dL_law_1829 : decode cL_law 1829 = .ok (.invokestatic 211, 3) := by decide +kernel
theorem dL_law_1832 : decode cL_law 1832 = .ok (.istore 6, 2) := by decide +kernel
theorem dL_law_1834 : decode cL_law 1834 = .ok (.aload_n 2, 1) := by decide +kernel
theorem dL_law_1835 : decode cL_law 1835 = .ok (.aload_n 0, 1) := by decide +kernel
theorem dL_law_1836 : decode cL_law 1836 = .ok (.iload 5, 2) := by decide +kernel
theorem dL_law_1838 : decode cL_law 1838 = .ok (.iconst 1, 1) := by decide +kernel
theorem dL_law_1839 : decode cL_law 1839 = .ok (.iadd, 1) := by decide +kernel
theorem dL_law_1840 : decode cL_law 1840 = .ok (.iaload, 1) := by decide +kernel
theorem dL_law_1841 : decode cL_law 1841 = .ok (.aload_n 0, 1) := by decide +kernel
theorem dL_law_1842 : decode cL_law 1842 = .ok (.iload 5, 2) := by decide +kernel
theorem dL_law_1844 : decode cL_law 1844 = .ok (.iconst 2, 1) := by decide +kernel
theorem dL_law_1845 : decode cL_law 1845 = .ok (.iadd, 1) := by decide +kernel
theorem dL_law_1846 : decode cL_law 1846 = .ok (.iaload, 1) := by decide +kernel
theorem dL_law_1847 : decode cL_law 1847 = .ok (.aload_n 0, 1) := by decide +kernel
theorem dL_law_1848 : decode cL_law 1848 = .ok (.iload 5, 2) := by decide +kernel
theorem dL_law_1850 : decode cL_law 1850 = .ok (.iconst 3, 1) := by decide +kernel
theorem dL_law_1851 : decode cL_law 1851 = .ok (.iadd, 1) := by decide +kernel
theorem dL_law_1852 : decode cL_law 1852 = .ok (.iaload, 1) := by decide +kernel
theorem dL_law_1853 : decode cL_law 1853 = .ok (.invokevirtual 213, 3) := by decide +kernel
theorem dL_law_1856 : decode cL_law 1856 = .ok (.istore 7, 2) := by decide +kernel
theorem dL_law_1858 : decode cL_law 1858 = .ok (.aload_n 2, 1) := by decide +kernel
theorem dL_law_1859 : decode cL_law 1859 = .ok (.invokevirtual 129, 3) := by decide +kernel
theorem dL_law_1862 : decode cL_law 1862 = .ok (.iload 6, 2) := by decide +kernel
theorem dL_law_1864 : decode cL_law 1864 = .ok (.if_icmp .eq 5, 3) := by decide +kernel
theorem dL_law_1867 : decode cL_law 1867 = .ok (.iconst 0, 1) := by decide +kernel
theorem dL_law_1868 : decode cL_law 1868 = .ok (.ireturn, 1) := by decide +kernel
theorem dL_law_1869 : decode cL_law 1869 = .ok (.iload 6, 2) := by decide +kernel
theorem dL_law_1871 : decode cL_law 1871 = .ok (.ifCond .ne 15, 3) := by decide +kernel
theorem dL_law_1874 : decode cL_law 1874 = .ok (.aload_n 3, 1) := by decide +kernel
theorem dL_law_1875 : decode cL_law 1875 = .ok (.iconst 0, 1) := by decide +kernel
theorem dL_law_1876 : decode cL_law 1876 = .ok (.laload, 1) := by decide +kernel
theorem dL_law_1877 : decode cL_law 1877 = .ok (.iload 7, 2) := by decide +kernel
theorem dL_law_1879 : decode cL_law 1879 = .ok (.i2l, 1) := by decide +kernel
theorem dL_law_1880 : decode cL_law 1880 = .ok (.lcmp, 1) := by decide +kernel
theorem dL_law_1881 : decode cL_law 1881 = .ok (.ifCond .eq 5, 3) := by decide +kernel
theorem dL_law_1884 : decode cL_law 1884 = .ok (.iconst 0, 1) := by decide +kernel
theorem dL_law_1885 : decode cL_law 1885 = .ok (.ireturn, 1) := by decide +kernel
theorem dL_law_1886 : decode cL_law 1886 = .ok (.goto 625, 3) := by decide +kernel
theorem dL_law_1889 : decode cL_law 1889 = .ok (.aload_n 1, 1) := by decide +kernel
theorem dL_law_1890 : decode cL_law 1890 = .ok (.aload_n 0, 1) := by decide +kernel
theorem dL_law_1891 : decode cL_law 1891 = .ok (.iload 5, 2) := by decide +kernel
theorem dL_law_1893 : decode cL_law 1893 = .ok (.iconst 1, 1) := by decide +kernel
theorem dL_law_1894 : decode cL_law 1894 = .ok (.iadd, 1) := by decide +kernel
theorem dL_law_1895 : decode cL_law 1895 = .ok (.iaload, 1) := by decide +kernel
theorem dL_law_1896 : decode cL_law 1896 = .ok (.aload_n 0, 1) := by decide +kernel
theorem dL_law_1897 : decode cL_law 1897 = .ok (.iload 5, 2) := by decide +kernel
theorem dL_law_1899 : decode cL_law 1899 = .ok (.iconst 2, 1) := by decide +kernel
theorem dL_law_1900 : decode cL_law 1900 = .ok (.iadd, 1) := by decide +kernel
theorem dL_law_1901 : decode cL_law 1901 = .ok (.iaload, 1) := by decide +kernel
theorem dL_law_1902 : decode cL_law 1902 = .ok (.aload_n 3, 1) := by decide +kernel
theorem dL_law_1903 : decode cL_law 1903 = .ok (.invokestatic 214, 3) := by decide +kernel
theorem dL_law_1906 : decode cL_law 1906 = .ok (.istore 6, 2) := by decide +kernel
theorem dL_law_1908 : decode cL_law 1908 = .ok (.aload_n 2, 1) := by decide +kernel
theorem dL_law_1909 : decode cL_law 1909 = .ok (.aload_n 0, 1) := by decide +kernel
theorem dL_law_1910 : decode cL_law 1910 = .ok (.iload 5, 2) := by decide +kernel
theorem dL_law_1912 : decode cL_law 1912 = .ok (.iconst 1, 1) := by decide +kernel
theorem dL_law_1913 : decode cL_law 1913 = .ok (.iadd, 1) := by decide +kernel
theorem dL_law_1914 : decode cL_law 1914 = .ok (.iaload, 1) := by decide +kernel
theorem dL_law_1915 : decode cL_law 1915 = .ok (.aload_n 0, 1) := by decide +kernel
theorem dL_law_1916 : decode cL_law 1916 = .ok (.iload 5, 2) := by decide +kernel
theorem dL_law_1918 : decode cL_law 1918 = .ok (.iconst 2, 1) := by decide +kernel
theorem dL_law_1919 : decode cL_law 1919 = .ok (.iadd, 1) := by decide +kernel
theorem dL_law_1920 : decode cL_law 1920 = .ok (.iaload, 1) := by decide +kernel
theorem dL_law_1921 : decode cL_law 1921 = .ok (.invokevirtual 216, 3) := by decide +kernel
theorem dL_law_1924 : decode cL_law 1924 = .ok (.istore 7, 2) := by decide +kernel
theorem dL_law_1926 : decode cL_law 1926 = .ok (.aload_n 2, 1) := by decide +kernel
theorem dL_law_1927 : decode cL_law 1927 = .ok (.invokevirtual 129, 3) := by decide +kernel
theorem dL_law_1930 : decode cL_law 1930 = .ok (.iload 6, 2) := by decide +kernel
theorem dL_law_1932 : decode cL_law 1932 = .ok (.if_icmp .eq 5, 3) := by decide +kernel
theorem dL_law_1935 : decode cL_law 1935 = .ok (.iconst 0, 1) := by decide +kernel
theorem dL_law_1936 : decode cL_law 1936 = .ok (.ireturn, 1) := by decide +kernel
theorem dL_law_1937 : decode cL_law 1937 = .ok (.iload 6, 2) := by decide +kernel
theorem dL_law_1939 : decode cL_law 1939 = .ok (.ifCond .ne 15, 3) := by decide +kernel
theorem dL_law_1942 : decode cL_law 1942 = .ok (.aload_n 3, 1) := by decide +kernel
theorem dL_law_1943 : decode cL_law 1943 = .ok (.iconst 0, 1) := by decide +kernel
theorem dL_law_1944 : decode cL_law 1944 = .ok (.laload, 1) := by decide +kernel
theorem dL_law_1945 : decode cL_law 1945 = .ok (.iload 7, 2) := by decide +kernel
theorem dL_law_1947 : decode cL_law 1947 = .ok (.i2l, 1) := by decide +kernel
theorem dL_law_1948 : decode cL_law 1948 = .ok (.lcmp, 1) := by decide +kernel
theorem dL_law_1949 : decode cL_law 1949 = .ok (.ifCond .eq 5, 3) := by decide +kernel
theorem dL_law_1952 : decode cL_law 1952 = .ok (.iconst 0, 1) := by decide +kernel
theorem dL_law_1953 : decode cL_law 1953 = .ok (.ireturn, 1) := by decide +kernel
theorem dL_law_1954 : decode cL_law 1954 = .ok (.goto 557, 3) := by decide +kernel
theorem dL_law_1957 : decode cL_law 1957 = .ok (.aload_n 1, 1) := by decide +kernel
theorem dL_law_1958 : decode cL_law 1958 = .ok (.aload_n 0, 1) := by decide +kernel
theorem dL_law_1959 : decode cL_law 1959 = .ok (.iload 5, 2) := by decide +kernel
theorem dL_law_1961 : decode cL_law 1961 = .ok (.iconst 1, 1) := by decide +kernel
theorem dL_law_1962 : decode cL_law 1962 = .ok (.iadd, 1) := by decide +kernel
theorem dL_law_1963 : decode cL_law 1963 = .ok (.iaload, 1) := by decide +kernel
theorem dL_law_1964 : decode cL_law 1964 = .ok (.aload_n 3, 1) := by decide +kernel
theorem dL_law_1965 : decode cL_law 1965 = .ok (.invokestatic 217, 3) := by decide +kernel
theorem dL_law_1968 : decode cL_law 1968 = .ok (.istore 6, 2) := by decide +kernel
theorem dL_law_1970 : decode cL_law 1970 = .ok (.aload_n 2, 1) := by decide +kernel
theorem dL_law_1971 : decode cL_law 1971 = .ok (.aload_n 0, 1) := by decide +kernel
theorem dL_law_1972 : decode cL_law 1972 = .ok (.iload 5, 2) := by decide +kernel
theorem dL_law_1974 : decode cL_law 1974 = .ok (.iconst 1, 1) := by decide +kernel
theorem dL_law_1975 : decode cL_law 1975 = .ok (.iadd, 1) := by decide +kernel
theorem dL_law_1976 : decode cL_law 1976 = .ok (.iaload, 1) := by decide +kernel
theorem dL_law_1977 : decode cL_law 1977 = .ok (.invokevirtual 219, 3) := by decide +kernel
theorem dL_law_1980 : decode cL_law 1980 = .ok (.istore 7, 2) := by decide +kernel
theorem dL_law_1982 : decode cL_law 1982 = .ok (.aload_n 2, 1) := by decide +kernel
theorem dL_law_1983 : decode cL_law 1983 = .ok (.invokevirtual 129, 3) := by decide +kernel
theorem dL_law_1986 : decode cL_law 1986 = .ok (.iload 6, 2) := by decide +kernel
theorem dL_law_1988 : decode cL_law 1988 = .ok (.if_icmp .eq 5, 3) := by decide +kernel
theorem dL_law_1991 : decode cL_law 1991 = .ok (.iconst 0, 1) := by decide +kernel
theorem dL_law_1992 : decode cL_law 1992 = .ok (.ireturn, 1) := by decide +kernel
theorem dL_law_1993 : decode cL_law 1993 = .ok (.iload 6, 2) := by decide +kernel
theorem dL_law_1995 : decode cL_law 1995 = .ok (.ifCond .ne 15, 3) := by decide +kernel
theorem dL_law_1998 : decode cL_law 1998 = .ok (.aload_n 3, 1) := by decide +kernel
theorem dL_law_1999 : decode cL_law 1999 = .ok (.iconst 0, 1) := by decide +kernel
theorem dL_law_2000 : decode cL_law 2000 = .ok (.laload, 1) := by decide +kernel
theorem dL_law_2001 : decode cL_law 2001 = .ok (.iload 7, 2) := by decide +kernel
theorem dL_law_2003 : decode cL_law 2003 = .ok (.i2l, 1) := by decide +kernel
theorem dL_law_2004 : decode cL_law 2004 = .ok (.lcmp, 1) := by decide +kernel
theorem dL_law_2005 : decode cL_law 2005 = .ok (.ifCond .eq 5, 3) := by decide +kernel
theorem dL_law_2008 : decode cL_law 2008 = .ok (.iconst 0, 1) := by decide +kernel
theorem dL_law_2009 : decode cL_law 2009 = .ok (.ireturn, 1) := by decide +kernel
theorem dL_law_2010 : decode cL_law 2010 = .ok (.goto 501, 3) := by decide +kernel
theorem dL_law_2013 : decode cL_law 2013 = .ok (.aload_n 1, 1) := by decide +kernel
theorem dL_law_2014 : decode cL_law 2014 = .ok (.aload_n 0, 1) := by decide +kernel
theorem dL_law_2015 : decode cL_law 2015 = .ok (.iload 5, 2) := by decide +kernel
theorem dL_law_2017 : decode cL_law 2017 = .ok (.iconst 1, 1) := by decide +kernel
theorem dL_law_2018 : decode cL_law 2018 = .ok (.iadd, 1) := by decide +kernel
theorem dL_law_2019 : decode cL_law 2019 = .ok (.iaload, 1) := by decide +kernel
theorem dL_law_2020 : decode cL_law 2020 = .ok (.aload_n 0, 1) := by decide +kernel
theorem dL_law_2021 : decode cL_law 2021 = .ok (.iload 5, 2) := by decide +kernel
theorem dL_law_2023 : decode cL_law 2023 = .ok (.iconst 2, 1) := by decide +kernel
theorem dL_law_2024 : decode cL_law 2024 = .ok (.iadd, 1) := by decide +kernel
theorem dL_law_2025 : decode cL_law 2025 = .ok (.iaload, 1) := by decide +kernel
theorem dL_law_2026 : decode cL_law 2026 = .ok (.aload_n 0, 1) := by decide +kernel
theorem dL_law_2027 : decode cL_law 2027 = .ok (.iload 5, 2) := by decide +kernel
theorem dL_law_2029 : decode cL_law 2029 = .ok (.iconst 3, 1) := by decide +kernel
theorem dL_law_2030 : decode cL_law 2030 = .ok (.iadd, 1) := by decide +kernel
theorem dL_law_2031 : decode cL_law 2031 = .ok (.iaload, 1) := by decide +kernel
theorem dL_law_2032 : decode cL_law 2032 = .ok (.aload_n 3, 1) := by decide +kernel
theorem dL_law_2033 : decode cL_law 2033 = .ok (.invokestatic 220, 3) := by decide +kernel
theorem dL_law_2036 : decode cL_law 2036 = .ok (.istore 6, 2) := by decide +kernel
theorem dL_law_2038 : decode cL_law 2038 = .ok (.aload_n 2, 1) := by decide +kernel
theorem dL_law_2039 : decode cL_law 2039 = .ok (.aload_n 0, 1) := by decide +kernel
theorem dL_law_2040 : decode cL_law 2040 = .ok (.iload 5, 2) := by decide +kernel
theorem dL_law_2042 : decode cL_law 2042 = .ok (.iconst 1, 1) := by decide +kernel
theorem dL_law_2043 : decode cL_law 2043 = .ok (.iadd, 1) := by decide +kernel
theorem dL_law_2044 : decode cL_law 2044 = .ok (.iaload, 1) := by decide +kernel
theorem dL_law_2045 : decode cL_law 2045 = .ok (.aload_n 0, 1) := by decide +kernel
theorem dL_law_2046 : decode cL_law 2046 = .ok (.iload 5, 2) := by decide +kernel
theorem dL_law_2048 : decode cL_law 2048 = .ok (.iconst 2, 1) := by decide +kernel
theorem dL_law_2049 : decode cL_law 2049 = .ok (.iadd, 1) := by decide +kernel
theorem dL_law_2050 : decode cL_law 2050 = .ok (.iaload, 1) := by decide +kernel
theorem dL_law_2051 : decode cL_law 2051 = .ok (.aload_n 0, 1) := by decide +kernel
theorem dL_law_2052 : decode cL_law 2052 = .ok (.iload 5, 2) := by decide +kernel
theorem dL_law_2054 : decode cL_law 2054 = .ok (.iconst 3, 1) := by decide +kernel
theorem dL_law_2055 : decode cL_law 2055 = .ok (.iadd, 1) := by decide +kernel
theorem dL_law_2056 : decode cL_law 2056 = .ok (.iaload, 1) := by decide +kernel
theorem dL_law_2057 : decode cL_law 2057 = .ok (.invokevirtual 222, 3) := by decide +kernel
theorem dL_law_2060 : decode cL_law 2060 = .ok (.istore 7, 2) := by decide +kernel
theorem dL_law_2062 : decode cL_law 2062 = .ok (.aload_n 2, 1) := by decide +kernel
theorem dL_law_2063 : decode cL_law 2063 = .ok (.invokevirtual 129, 3) := by decide +kernel
theorem dL_law_2066 : decode cL_law 2066 = .ok (.iload 6, 2) := by decide +kernel
theorem dL_law_2068 : decode cL_law 2068 = .ok (.if_icmp .eq 5, 3) := by decide +kernel
theorem dL_law_2071 : decode cL_law 2071 = .ok (.iconst 0, 1) := by decide +kernel
theorem dL_law_2072 : decode cL_law 2072 = .ok (.ireturn, 1) := by decide +kernel
theorem dL_law_2073 : decode cL_law 2073 = .ok (.iload 6, 2) := by decide +kernel
theorem dL_law_2075 : decode cL_law 2075 = .ok (.ifCond .ne 15, 3) := by decide +kernel
theorem dL_law_2078 : decode cL_law 2078 = .ok (.aload_n 3, 1) := by decide +kernel
theorem dL_law_2079 : decode cL_law 2079 = .ok (.iconst 0, 1) := by decide +kernel
theorem dL_law_2080 : decode cL_law 2080 = .ok (.laload, 1) := by decide +kernel
theorem dL_law_2081 : decode cL_law 2081 = .ok (.iload 7, 2) := by decide +kernel
theorem dL_law_2083 : decode cL_law 2083 = .ok (.i2l, 1) := by decide +kernel
theorem dL_law_2084 : decode cL_law 2084 = .ok (.lcmp, 1) := by decide +kernel
theorem dL_law_2085 : decode cL_law 2085 = .ok (.ifCond .eq 5, 3) := by decide +kernel
theorem dL_law_2088 : decode cL_law 2088 = .ok (.iconst 0, 1) := by decide +kernel
theorem dL_law_2089 : decode cL_law 2089 = .ok (.ireturn, 1) := by decide +kernel
theorem dL_law_2090 : decode cL_law 2090 = .ok (.goto 421, 3) := by decide +kernel
theorem dL_law_2093 : decode cL_law 2093 = .ok (.aload_n 1, 1) := by decide +kernel
theorem dL_law_2094 : decode cL_law 2094 = .ok (.aload_n 0, 1) := by decide +kernel
theorem dL_law_2095 : decode cL_law 2095 = .ok (.iload 5, 2) := by decide +kernel
theorem dL_law_2097 : decode cL_law 2097 = .ok (.iconst 1, 1) := by decide +kernel
theorem dL_law_2098 : decode cL_law 2098 = .ok (.iadd, 1) := by decide +kernel
theorem dL_law_2099 : decode cL_law 2099 = .ok (.iaload, 1) := by decide +kernel
theorem dL_law_2100 : decode cL_law 2100 = .ok (.aload_n 0, 1) := by decide +kernel
theorem dL_law_2101 : decode cL_law 2101 = .ok (.iload 5, 2) := by decide +kernel
theorem dL_law_2103 : decode cL_law 2103 = .ok (.iconst 2, 1) := by decide +kernel
theorem dL_law_2104 : decode cL_law 2104 = .ok (.iadd, 1) := by decide +kernel
theorem dL_law_2105 : decode cL_law 2105 = .ok (.iaload, 1) := by decide +kernel
theorem dL_law_2106 : decode cL_law 2106 = .ok (.aload_n 0, 1) := by decide +kernel
theorem dL_law_2107 : decode cL_law 2107 = .ok (.iload 5, 2) := by decide +kernel
theorem dL_law_2109 : decode cL_law 2109 = .ok (.iconst 3, 1) := by decide +kernel
theorem dL_law_2110 : decode cL_law 2110 = .ok (.iadd, 1) := by decide +kernel
theorem dL_law_2111 : decode cL_law 2111 = .ok (.iaload, 1) := by decide +kernel
theorem dL_law_2112 : decode cL_law 2112 = .ok (.aload_n 0, 1) := by decide +kernel
theorem dL_law_2113 : decode cL_law 2113 = .ok (.iload 5, 2) := by decide +kernel
theorem dL_law_2115 : decode cL_law 2115 = .ok (.iconst 4, 1) := by decide +kernel
theorem dL_law_2116 : decode cL_law 2116 = .ok (.iadd, 1) := by decide +kernel
theorem dL_law_2117 : decode cL_law 2117 = .ok (.iaload, 1) := by decide +kernel
theorem dL_law_2118 : decode cL_law 2118 = .ok (.aload_n 3, 1) := by decide +kernel
theorem dL_law_2119 : decode cL_law 2119 = .ok (.invokestatic 223, 3) := by decide +kernel
theorem dL_law_2122 : decode cL_law 2122 = .ok (.istore 6, 2) := by decide +kernel
theorem dL_law_2124 : decode cL_law 2124 = .ok (.aload_n 2, 1) := by decide +kernel
theorem dL_law_2125 : decode cL_law 2125 = .ok (.aload_n 0, 1) := by decide +kernel
theorem dL_law_2126 : decode cL_law 2126 = .ok (.iload 5, 2) := by decide +kernel
theorem dL_law_2128 : decode cL_law 2128 = .ok (.iconst 1, 1) := by decide +kernel
theorem dL_law_2129 : decode cL_law 2129 = .ok (.iadd, 1) := by decide +kernel
theorem dL_law_2130 : decode cL_law 2130 = .ok (.iaload, 1) := by decide +kernel
theorem dL_law_2131 : decode cL_law 2131 = .ok (.aload_n 0, 1) := by decide +kernel
theorem dL_law_2132 : decode cL_law 2132 = .ok (.iload 5, 2) := by decide +kernel
theorem dL_law_2134 : decode cL_law 2134 = .ok (.iconst 2, 1) := by decide +kernel
theorem dL_law_2135 : decode cL_law 2135 = .ok (.iadd, 1) := by decide +kernel
theorem dL_law_2136 : decode cL_law 2136 = .ok (.iaload, 1) := by decide +kernel
theorem dL_law_2137 : decode cL_law 2137 = .ok (.aload_n 0, 1) := by decide +kernel
theorem dL_law_2138 : decode cL_law 2138 = .ok (.iload 5, 2) := by decide +kernel
theorem dL_law_2140 : decode cL_law 2140 = .ok (.iconst 3, 1) := by decide +kernel
theorem dL_law_2141 : decode cL_law 2141 = .ok (.iadd, 1) := by decide +kernel
theorem dL_law_2142 : decode cL_law 2142 = .ok (.iaload, 1) := by decide +kernel
theorem dL_law_2143 : decode cL_law 2143 = .ok (.aload_n 0, 1) := by decide +kernel
theorem dL_law_2144 : decode cL_law 2144 = .ok (.iload 5, 2) := by decide +kernel
theorem dL_law_2146 : decode cL_law 2146 = .ok (.iconst 4, 1) := by decide +kernel
theorem dL_law_2147 : decode cL_law 2147 = .ok (.iadd, 1) := by decide +kernel
theorem dL_law_2148 : decode cL_law 2148 = .ok (.iaload, 1) := by decide +kernel
theorem dL_law_2149 : decode cL_law 2149 = .ok (.invokevirtual 225, 3) := by decide +kernel
theorem dL_law_2152 : decode cL_law 2152 = .ok (.istore 7, 2) := by decide +kernel
theorem dL_law_2154 : decode cL_law 2154 = .ok (.aload_n 2, 1) := by decide +kernel
theorem dL_law_2155 : decode cL_law 2155 = .ok (.invokevirtual 129, 3) := by decide +kernel
theorem dL_law_2158 : decode cL_law 2158 = .ok (.iload 6, 2) := by decide +kernel
theorem dL_law_2160 : decode cL_law 2160 = .ok (.if_icmp .eq 5, 3) := by decide +kernel
theorem dL_law_2163 : decode cL_law 2163 = .ok (.iconst 0, 1) := by decide +kernel
theorem dL_law_2164 : decode cL_law 2164 = .ok (.ireturn, 1) := by decide +kernel
theorem dL_law_2165 : decode cL_law 2165 = .ok (.iload 6, 2) := by decide +kernel
theorem dL_law_2167 : decode cL_law 2167 = .ok (.ifCond .ne 15, 3) := by decide +kernel
theorem dL_law_2170 : decode cL_law 2170 = .ok (.aload_n 3, 1) := by decide +kernel
theorem dL_law_2171 : decode cL_law 2171 = .ok (.iconst 0, 1) := by decide +kernel
theorem dL_law_2172 : decode cL_law 2172 = .ok (.laload, 1) := by decide +kernel
theorem dL_law_2173 : decode cL_law 2173 = .ok (.iload 7, 2) := by decide +kernel
theorem dL_law_2175 : decode cL_law 2175 = .ok (.i2l, 1) := by decide +kernel
theorem dL_law_2176 : decode cL_law 2176 = .ok (.lcmp, 1) := by decide +kernel
theorem dL_law_2177 : decode cL_law 2177 = .ok (.ifCond .eq 5, 3) := by decide +kernel
theorem dL_law_2180 : decode cL_law 2180 = .ok (.iconst 0, 1) := by decide +kernel
theorem dL_law_2181 : decode cL_law 2181 = .ok (.ireturn, 1) := by decide +kernel
theorem dL_law_2182 : decode cL_law 2182 = .ok (.goto 329, 3) := by decide +kernel
theorem dL_law_2185 : decode cL_law 2185 = .ok (.aload_n 1, 1) := by decide +kernel
theorem dL_law_2186 : decode cL_law 2186 = .ok (.aload_n 0, 1) := by decide +kernel
theorem dL_law_2187 : decode cL_law 2187 = .ok (.iload 5, 2) := by decide +kernel
theorem dL_law_2189 : decode cL_law 2189 = .ok (.iconst 1, 1) := by decide +kernel
theorem dL_law_2190 : decode cL_law 2190 = .ok (.iadd, 1) := by decide +kernel
theorem dL_law_2191 : decode cL_law 2191 = .ok (.iaload, 1) := by decide +kernel
theorem dL_law_2192 : decode cL_law 2192 = .ok (.aload_n 0, 1) := by decide +kernel
theorem dL_law_2193 : decode cL_law 2193 = .ok (.iload 5, 2) := by decide +kernel
theorem dL_law_2195 : decode cL_law 2195 = .ok (.iconst 2, 1) := by decide +kernel
theorem dL_law_2196 : decode cL_law 2196 = .ok (.iadd, 1) := by decide +kernel
theorem dL_law_2197 : decode cL_law 2197 = .ok (.iaload, 1) := by decide +kernel
theorem dL_law_2198 : decode cL_law 2198 = .ok (.aload_n 0, 1) := by decide +kernel
theorem dL_law_2199 : decode cL_law 2199 = .ok (.iload 5, 2) := by decide +kernel
theorem dL_law_2201 : decode cL_law 2201 = .ok (.iconst 3, 1) := by decide +kernel
theorem dL_law_2202 : decode cL_law 2202 = .ok (.iadd, 1) := by decide +kernel
theorem dL_law_2203 : decode cL_law 2203 = .ok (.iaload, 1) := by decide +kernel
theorem dL_law_2204 : decode cL_law 2204 = .ok (.aload_n 0, 1) := by decide +kernel
theorem dL_law_2205 : decode cL_law 2205 = .ok (.iload 5, 2) := by decide +kernel
theorem dL_law_2207 : decode cL_law 2207 = .ok (.iconst 4, 1) := by decide +kernel
theorem dL_law_2208 : decode cL_law 2208 = .ok (.iadd, 1) := by decide +kernel
theorem dL_law_2209 : decode cL_law 2209 = .ok (.iaload, 1) := by decide +kernel
theorem dL_law_2210 : decode cL_law 2210 = .ok (.aload_n 3, 1) := by decide +kernel
theorem dL_law_2211 : decode cL_law 2211 = .ok (.invokestatic 226, 3) := by decide +kernel
theorem dL_law_2214 : decode cL_law 2214 = .ok (.istore 6, 2) := by decide +kernel
theorem dL_law_2216 : decode cL_law 2216 = .ok (.aload_n 2, 1) := by decide +kernel
theorem dL_law_2217 : decode cL_law 2217 = .ok (.aload_n 0, 1) := by decide +kernel
theorem dL_law_2218 : decode cL_law 2218 = .ok (.iload 5, 2) := by decide +kernel
theorem dL_law_2220 : decode cL_law 2220 = .ok (.iconst 1, 1) := by decide +kernel
theorem dL_law_2221 : decode cL_law 2221 = .ok (.iadd, 1) := by decide +kernel
theorem dL_law_2222 : decode cL_law 2222 = .ok (.iaload, 1) := by decide +kernel
theorem dL_law_2223 : decode cL_law 2223 = .ok (.aload_n 0, 1) := by decide +kernel
theorem dL_law_2224 : decode cL_law 2224 = .ok (.iload 5, 2) := by decide +kernel
theorem dL_law_2226 : decode cL_law 2226 = .ok (.iconst 2, 1) := by decide +kernel
theorem dL_law_2227 : decode cL_law 2227 = .ok (.iadd, 1) := by decide +kernel
theorem dL_law_2228 : decode cL_law 2228 = .ok (.iaload, 1) := by decide +kernel
theorem dL_law_2229 : decode cL_law 2229 = .ok (.aload_n 0, 1) := by decide +kernel
theorem dL_law_2230 : decode cL_law 2230 = .ok (.iload 5, 2) := by decide +kernel
theorem dL_law_2232 : decode cL_law 2232 = .ok (.iconst 3, 1) := by decide +kernel
theorem dL_law_2233 : decode cL_law 2233 = .ok (.iadd, 1) := by decide +kernel
theorem dL_law_2234 : decode cL_law 2234 = .ok (.iaload, 1) := by decide +kernel
theorem dL_law_2235 : decode cL_law 2235 = .ok (.aload_n 0, 1) := by decide +kernel
theorem dL_law_2236 : decode cL_law 2236 = .ok (.iload 5, 2) := by decide +kernel
theorem dL_law_2238 : decode cL_law 2238 = .ok (.iconst 4, 1) := by decide +kernel
theorem dL_law_2239 : decode cL_law 2239 = .ok (.iadd, 1) := by decide +kernel
theorem dL_law_2240 : decode cL_law 2240 = .ok (.iaload, 1) := by decide +kernel
theorem dL_law_2241 : decode cL_law 2241 = .ok (.invokevirtual 228, 3) := by decide +kernel
theorem dL_law_2244 : decode cL_law 2244 = .ok (.istore 7, 2) := by decide +kernel
theorem dL_law_2246 : decode cL_law 2246 = .ok (.aload_n 2, 1) := by decide +kernel
theorem dL_law_2247 : decode cL_law 2247 = .ok (.invokevirtual 129, 3) := by decide +kernel
theorem dL_law_2250 : decode cL_law 2250 = .ok (.iload 6, 2) := by decide +kernel
theorem dL_law_2252 : decode cL_law 2252 = .ok (.if_icmp .eq 5, 3) := by decide +kernel
theorem dL_law_2255 : decode cL_law 2255 = .ok (.iconst 0, 1) := by decide +kernel
theorem dL_law_2256 : decode cL_law 2256 = .ok (.ireturn, 1) := by decide +kernel
theorem dL_law_2257 : decode cL_law 2257 = .ok (.iload 6, 2) := by decide +kernel
theorem dL_law_2259 : decode cL_law 2259 = .ok (.ifCond .ne 15, 3) := by decide +kernel
theorem dL_law_2262 : decode cL_law 2262 = .ok (.aload_n 3, 1) := by decide +kernel
theorem dL_law_2263 : decode cL_law 2263 = .ok (.iconst 0, 1) := by decide +kernel
theorem dL_law_2264 : decode cL_law 2264 = .ok (.laload, 1) := by decide +kernel
theorem dL_law_2265 : decode cL_law 2265 = .ok (.iload 7, 2) := by decide +kernel
theorem dL_law_2267 : decode cL_law 2267 = .ok (.i2l, 1) := by decide +kernel
theorem dL_law_2268 : decode cL_law 2268 = .ok (.lcmp, 1) := by decide +kernel
theorem dL_law_2269 : decode cL_law 2269 = .ok (.ifCond .eq 5, 3) := by decide +kernel
theorem dL_law_2272 : decode cL_law 2272 = .ok (.iconst 0, 1) := by decide +kernel
theorem dL_law_2273 : decode cL_law 2273 = .ok (.ireturn, 1) := by decide +kernel
theorem dL_law_2274 : decode cL_law 2274 = .ok (.goto 237, 3) := by decide +kernel
theorem dL_law_2277 : decode cL_law 2277 = .ok (.aload_n 1, 1) := by decide +kernel
theorem dL_law_2278 : decode cL_law 2278 = .ok (.aload_n 0, 1) := by decide +kernel
theorem dL_law_2279 : decode cL_law 2279 = .ok (.iload 5, 2) := by decide +kernel
theorem dL_law_2281 : decode cL_law 2281 = .ok (.iconst 1, 1) := by decide +kernel
theorem dL_law_2282 : decode cL_law 2282 = .ok (.iadd, 1) := by decide +kernel
theorem dL_law_2283 : decode cL_law 2283 = .ok (.iaload, 1) := by decide +kernel
theorem dL_law_2284 : decode cL_law 2284 = .ok (.aload_n 0, 1) := by decide +kernel
theorem dL_law_2285 : decode cL_law 2285 = .ok (.iload 5, 2) := by decide +kernel
theorem dL_law_2287 : decode cL_law 2287 = .ok (.iconst 2, 1) := by decide +kernel
theorem dL_law_2288 : decode cL_law 2288 = .ok (.iadd, 1) := by decide +kernel
theorem dL_law_2289 : decode cL_law 2289 = .ok (.iaload, 1) := by decide +kernel
theorem dL_law_2290 : decode cL_law 2290 = .ok (.aload_n 3, 1) := by decide +kernel
theorem dL_law_2291 : decode cL_law 2291 = .ok (.invokestatic 229, 3) := by decide +kernel
theorem dL_law_2294 : decode cL_law 2294 = .ok (.istore 6, 2) := by decide +kernel
theorem dL_law_2296 : decode cL_law 2296 = .ok (.aload_n 2, 1) := by decide +kernel
theorem dL_law_2297 : decode cL_law 2297 = .ok (.aload_n 0, 1) := by decide +kernel
theorem dL_law_2298 : decode cL_law 2298 = .ok (.iload 5, 2) := by decide +kernel
theorem dL_law_2300 : decode cL_law 2300 = .ok (.iconst 1, 1) := by decide +kernel
theorem dL_law_2301 : decode cL_law 2301 = .ok (.iadd, 1) := by decide +kernel
theorem dL_law_2302 : decode cL_law 2302 = .ok (.iaload, 1) := by decide +kernel
theorem dL_law_2303 : decode cL_law 2303 = .ok (.aload_n 0, 1) := by decide +kernel
theorem dL_law_2304 : decode cL_law 2304 = .ok (.iload 5, 2) := by decide +kernel
theorem dL_law_2306 : decode cL_law 2306 = .ok (.iconst 2, 1) := by decide +kernel
theorem dL_law_2307 : decode cL_law 2307 = .ok (.iadd, 1) := by decide +kernel
theorem dL_law_2308 : decode cL_law 2308 = .ok (.iaload, 1) := by decide +kernel
theorem dL_law_2309 : decode cL_law 2309 = .ok (.invokevirtual 231, 3) := by decide +kernel
theorem dL_law_2312 : decode cL_law 2312 = .ok (.istore 7, 2) := by decide +kernel
theorem dL_law_2314 : decode cL_law 2314 = .ok (.aload_n 2, 1) := by decide +kernel
theorem dL_law_2315 : decode cL_law 2315 = .ok (.invokevirtual 129, 3) := by decide +kernel
theorem dL_law_2318 : decode cL_law 2318 = .ok (.iload 6, 2) := by decide +kernel
theorem dL_law_2320 : decode cL_law 2320 = .ok (.if_icmp .eq 5, 3) := by decide +kernel
theorem dL_law_2323 : decode cL_law 2323 = .ok (.iconst 0, 1) := by decide +kernel
theorem dL_law_2324 : decode cL_law 2324 = .ok (.ireturn, 1) := by decide +kernel
theorem dL_law_2325 : decode cL_law 2325 = .ok (.iload 6, 2) := by decide +kernel
theorem dL_law_2327 : decode cL_law 2327 = .ok (.ifCond .ne 15, 3) := by decide +kernel
theorem dL_law_2330 : decode cL_law 2330 = .ok (.aload_n 3, 1) := by decide +kernel
theorem dL_law_2331 : decode cL_law 2331 = .ok (.iconst 0, 1) := by decide +kernel
theorem dL_law_2332 : decode cL_law 2332 = .ok (.laload, 1) := by decide +kernel
theorem dL_law_2333 : decode cL_law 2333 = .ok (.iload 7, 2) := by decide +kernel
theorem dL_law_2335 : decode cL_law 2335 = .ok (.i2l, 1) := by decide +kernel
theorem dL_law_2336 : decode cL_law 2336 = .ok (.lcmp, 1) := by decide +kernel
theorem dL_law_2337 : decode cL_law 2337 = .ok (.ifCond .eq 5, 3) := by decide +kernel
theorem dL_law_2340 : decode cL_law 2340 = .ok (.iconst 0, 1) := by decide +kernel
theorem dL_law_2341 : decode cL_law 2341 = .ok (.ireturn, 1) := by decide +kernel
theorem dL_law_2342 : decode cL_law 2342 = .ok (.goto 169, 3) := by decide +kernel
theorem dL_law_2345 : decode cL_law 2345 = .ok (.aload_n 1, 1) := by decide +kernel
theorem dL_law_2346 : decode cL_law 2346 = .ok (.aload_n 0, 1) := by decide +kernel
theorem dL_law_2347 : decode cL_law 2347 = .ok (.iload 5, 2) := by decide +kernel
theorem dL_law_2349 : decode cL_law 2349 = .ok (.iconst 1, 1) := by decide +kernel
theorem dL_law_2350 : decode cL_law 2350 = .ok (.iadd, 1) := by decide +kernel
theorem dL_law_2351 : decode cL_law 2351 = .ok (.iaload, 1) := by decide +kernel
theorem dL_law_2352 : decode cL_law 2352 = .ok (.aload_n 0, 1) := by decide +kernel
theorem dL_law_2353 : decode cL_law 2353 = .ok (.iload 5, 2) := by decide +kernel
theorem dL_law_2355 : decode cL_law 2355 = .ok (.iconst 2, 1) := by decide +kernel
theorem dL_law_2356 : decode cL_law 2356 = .ok (.iadd, 1) := by decide +kernel
theorem dL_law_2357 : decode cL_law 2357 = .ok (.iaload, 1) := by decide +kernel
theorem dL_law_2358 : decode cL_law 2358 = .ok (.aload_n 3, 1) := by decide +kernel
theorem dL_law_2359 : decode cL_law 2359 = .ok (.invokestatic 232, 3) := by decide +kernel
theorem dL_law_2362 : decode cL_law 2362 = .ok (.istore 6, 2) := by decide +kernel
theorem dL_law_2364 : decode cL_law 2364 = .ok (.aload_n 2, 1) := by decide +kernel
theorem dL_law_2365 : decode cL_law 2365 = .ok (.aload_n 0, 1) := by decide +kernel
theorem dL_law_2366 : decode cL_law 2366 = .ok (.iload 5, 2) := by decide +kernel
theorem dL_law_2368 : decode cL_law 2368 = .ok (.iconst 1, 1) := by decide +kernel
theorem dL_law_2369 : decode cL_law 2369 = .ok (.iadd, 1) := by decide +kernel
theorem dL_law_2370 : decode cL_law 2370 = .ok (.iaload, 1) := by decide +kernel
theorem dL_law_2371 : decode cL_law 2371 = .ok (.aload_n 0, 1) := by decide +kernel
theorem dL_law_2372 : decode cL_law 2372 = .ok (.iload 5, 2) := by decide +kernel
theorem dL_law_2374 : decode cL_law 2374 = .ok (.iconst 2, 1) := by decide +kernel
theorem dL_law_2375 : decode cL_law 2375 = .ok (.iadd, 1) := by decide +kernel
theorem dL_law_2376 : decode cL_law 2376 = .ok (.iaload, 1) := by decide +kernel
theorem dL_law_2377 : decode cL_law 2377 = .ok (.invokevirtual 234, 3) := by decide +kernel
theorem dL_law_2380 : decode cL_law 2380 = .ok (.istore 7, 2) := by decide +kernel
theorem dL_law_2382 : decode cL_law 2382 = .ok (.aload_n 2, 1) := by decide +kernel
theorem dL_law_2383 : decode cL_law 2383 = .ok (.invokevirtual 129, 3) := by decide +kernel
theorem dL_law_2386 : decode cL_law 2386 = .ok (.iload 6, 2) := by decide +kernel
theorem dL_law_2388 : decode cL_law 2388 = .ok (.if_icmp .eq 5, 3) := by decide +kernel
theorem dL_law_2391 : decode cL_law 2391 = .ok (.iconst 0, 1) := by decide +kernel
theorem dL_law_2392 : decode cL_law 2392 = .ok (.ireturn, 1) := by decide +kernel
theorem dL_law_2393 : decode cL_law 2393 = .ok (.iload 6, 2) := by decide +kernel
theorem dL_law_2395 : decode cL_law 2395 = .ok (.ifCond .ne 22, 3) := by decide +kernel
theorem dL_law_2398 : decode cL_law 2398 = .ok (.aload_n 3, 1) := by decide +kernel
theorem dL_law_2399 : decode cL_law 2399 = .ok (.iconst 0, 1) := by decide +kernel
theorem dL_law_2400 : decode cL_law 2400 = .ok (.laload, 1) := by decide +kernel
theorem dL_law_2401 : decode cL_law 2401 = .ok (.iload 7, 2) := by decide +kernel
theorem dL_law_2403 : decode cL_law 2403 = .ok (.ifCond .eq 7, 3) := by decide +kernel
theorem dL_law_2406 : decode cL_law 2406 = .ok (.lconst 1, 1) := by decide +kernel
theorem dL_law_2407 : decode cL_law 2407 = .ok (.goto 4, 3) := by decide +kernel
theorem dL_law_2410 : decode cL_law 2410 = .ok (.lconst 0, 1) := by decide +kernel
theorem dL_law_2411 : decode cL_law 2411 = .ok (.lcmp, 1) := by decide +kernel
theorem dL_law_2412 : decode cL_law 2412 = .ok (.ifCond .eq 5, 3) := by decide +kernel
theorem dL_law_2415 : decode cL_law 2415 = .ok (.iconst 0, 1) := by decide +kernel
theorem dL_law_2416 : decode cL_law 2416 = .ok (.ireturn, 1) := by decide +kernel
theorem dL_law_2417 : decode cL_law 2417 = .ok (.goto 94, 3) := by decide +kernel
theorem dL_law_2420 : decode cL_law 2420 = .ok (.aload_n 1, 1) := by decide +kernel
theorem dL_law_2421 : decode cL_law 2421 = .ok (.aload_n 0, 1) := by decide +kernel
theorem dL_law_2422 : decode cL_law 2422 = .ok (.iload 5, 2) := by decide +kernel
theorem dL_law_2424 : decode cL_law 2424 = .ok (.iconst 1, 1) := by decide +kernel
theorem dL_law_2425 : decode cL_law 2425 = .ok (.iadd, 1) := by decide +kernel
theorem dL_law_2426 : decode cL_law 2426 = .ok (.iaload, 1) := by decide +kernel
theorem dL_law_2427 : decode cL_law 2427 = .ok (.aload 4, 2) := by decide +kernel
theorem dL_law_2429 : decode cL_law 2429 = .ok (.invokestatic 235, 3) := by decide +kernel
theorem dL_law_2432 : decode cL_law 2432 = .ok (.istore 6, 2) := by decide +kernel
theorem dL_law_2434 : decode cL_law 2434 = .ok (.aload_n 2, 1) := by decide +kernel
theorem dL_law_2435 : decode cL_law 2435 = .ok (.aload_n 0, 1) := by decide +kernel
theorem dL_law_2436 : decode cL_law 2436 = .ok (.iload 5, 2) := by decide +kernel
theorem dL_law_2438 : decode cL_law 2438 = .ok (.iconst 1, 1) := by decide +kernel
theorem dL_law_2439 : decode cL_law 2439 = .ok (.iadd, 1) := by decide +kernel
theorem dL_law_2440 : decode cL_law 2440 = .ok (.iaload, 1) := by decide +kernel
theorem dL_law_2441 : decode cL_law 2441 = .ok (.invokevirtual 238, 3) := by decide +kernel
theorem dL_law_2444 : decode cL_law 2444 = .ok (.dstore 7, 2) := by decide +kernel
theorem dL_law_2446 : decode cL_law 2446 = .ok (.aload_n 2, 1) := by decide +kernel
theorem dL_law_2447 : decode cL_law 2447 = .ok (.invokevirtual 129, 3) := by decide +kernel
theorem dL_law_2450 : decode cL_law 2450 = .ok (.iload 6, 2) := by decide +kernel
theorem dL_law_2452 : decode cL_law 2452 = .ok (.if_icmp .eq 5, 3) := by decide +kernel
theorem dL_law_2455 : decode cL_law 2455 = .ok (.iconst 0, 1) := by decide +kernel
theorem dL_law_2456 : decode cL_law 2456 = .ok (.ireturn, 1) := by decide +kernel
theorem dL_law_2457 : decode cL_law 2457 = .ok (.iload 6, 2) := by decide +kernel
theorem dL_law_2459 : decode cL_law 2459 = .ok (.ifCond .ne 35, 3) := by decide +kernel
theorem dL_law_2462 : decode cL_law 2462 = .ok (.aload 4, 2) := by decide +kernel
theorem dL_law_2464 : decode cL_law 2464 = .ok (.iconst 0, 1) := by decide +kernel
theorem dL_law_2465 : decode cL_law 2465 = .ok (.daload, 1) := by decide +kernel
theorem dL_law_2466 : decode cL_law 2466 = .ok (.dload 7, 2) := by decide +kernel
theorem dL_law_2468 : decode cL_law 2468 = .ok (.dcmp .l, 1) := by decide +kernel
theorem dL_law_2469 : decode cL_law 2469 = .ok (.ifCond .eq 25, 3) := by decide +kernel
theorem dL_law_2472 : decode cL_law 2472 = .ok (.aload 4, 2) := by decide +kernel
theorem dL_law_2474 : decode cL_law 2474 = .ok (.iconst 0, 1) := by decide +kernel
theorem dL_law_2475 : decode cL_law 2475 = .ok (.daload, 1) := by decide +kernel
theorem dL_law_2476 : decode cL_law 2476 = .ok (.aload 4, 2) := by decide +kernel
theorem dL_law_2478 : decode cL_law 2478 = .ok (.iconst 0, 1) := by decide +kernel
theorem dL_law_2479 : decode cL_law 2479 = .ok (.daload, 1) := by decide +kernel
theorem dL_law_2480 : decode cL_law 2480 = .ok (.dcmp .l, 1) := by decide +kernel
theorem dL_law_2481 : decode cL_law 2481 = .ok (.ifCond .eq 11, 3) := by decide +kernel
theorem dL_law_2484 : decode cL_law 2484 = .ok (.dload 7, 2) := by decide +kernel
theorem dL_law_2486 : decode cL_law 2486 = .ok (.dload 7, 2) := by decide +kernel
theorem dL_law_2488 : decode cL_law 2488 = .ok (.dcmp .l, 1) := by decide +kernel
theorem dL_law_2489 : decode cL_law 2489 = .ok (.ifCond .ne 5, 3) := by decide +kernel
theorem dL_law_2492 : decode cL_law 2492 = .ok (.iconst 0, 1) := by decide +kernel
theorem dL_law_2493 : decode cL_law 2493 = .ok (.ireturn, 1) := by decide +kernel
theorem dL_law_2494 : decode cL_law 2494 = .ok (.goto 17, 3) := by decide +kernel
theorem dL_law_2497 : decode cL_law 2497 = .ok (.aload_n 1, 1) := by decide +kernel
theorem dL_law_2498 : decode cL_law 2498 = .ok (.invokevirtual 239, 3) := by decide +kernel
theorem dL_law_2501 : decode cL_law 2501 = .ok (.aload_n 2, 1) := by decide +kernel
theorem dL_law_2502 : decode cL_law 2502 = .ok (.invokevirtual 243, 3) := by decide +kernel
theorem dL_law_2505 : decode cL_law 2505 = .ok (.lcmp, 1) := by decide +kernel
theorem dL_law_2506 : decode cL_law 2506 = .ok (.ifCond .eq 5, 3) := by decide +kernel
theorem dL_law_2509 : decode cL_law 2509 = .ok (.iconst 0, 1) := by decide +kernel
theorem dL_law_2510 : decode cL_law 2510 = .ok (.ireturn, 1) := by decide +kernel
theorem dL_law_2511 : decode cL_law 2511 = .ok (.iinc 5 6, 3) := by decide +kernel
theorem dL_law_2514 : decode cL_law 2514 = .ok (.goto (-2486), 3) := by decide +kernel
theorem dL_law_2517 : decode cL_law 2517 = .ok (.iconst 1, 1) := by decide +kernel
theorem dL_law_2518 : decode cL_law 2518 = .ok (.ireturn, 1) := by decide +kernel
end
section
/-! MY OWN LAYER over the kit's walk: memory as a function of the address, ints as whole numbers, the surroundings bundled. -/
abbrev zM : Type := Nat → Option va_E
abbrev zX : Type := Program × Launch × Env × Room × State × MethodId × Array Value × List Frame × Method × Code × va_G × Nat × (State → Prop)
def zi (z : Int) : Value := .int (Int32.ofInt z)
/-- memory with one cell written -/
def zu (μ : zM) (a : Nat) (e : va_E) : zM := fun q => if q = a then some e else μ q
theorem zu_s {μ : zM} {a : Nat} {e : va_E} : zu μ a e a = some e := if_pos rfl
theorem zu_n {μ : zM} {a q : Nat} {e : va_E} (h : q ≠ a) : zu μ a e q = μ q := if_neg h
theorem zu_k {μ : zM} {a q : Nat} {e : va_E} {x : Option va_E} (hq : μ q = x) (h : q ≠ a) : zu μ a e q = x := (if_neg h).trans hq
theorem zu_u (μ : zM) (a : Nat) (e f : va_E) : zu (zu μ a e) a f = zu μ a f := by
  funext q
  unfold zu
  by_cases h : q = a <;> simp [h]
theorem zu_c (μ : zM) {a b : Nat} (e f : va_E) (h : a ≠ b) : zu (zu μ a e) b f = zu (zu μ b f) a e := by
  funext q
  unfold zu
  by_cases h1 : q = a <;> by_cases h2 : q = b <;> simp_all
theorem zu_i {μ : zM} {a : Nat} {e : va_E} (h : μ a = some e) : zu μ a e = μ := by
  funext q
  unfold zu
  by_cases h1 : q = a <;> simp_all
/-- the heap holds the memory, all of it from N0 on -/
def zH (D : va_G) (N0 : Nat) (μ : zM) (H : Heap) : Prop := ∀ (a : Nat) (e : va_E), μ a = some e → va_at D vwCl (a, e) H ∧ N0 ≤ a
/-- the array classes, by numbers of their own -/
def zTY (D : va_G) : List (ClassId × FieldType) := [(D.1 100, .int), (D.1 101, .long), (D.1 102, .boolean), (D.1 103, .double), (D.1 104, .object RX0), (D.1 105, .array .boolean)]
def zS (N0 : Nat) (s : State) (H : Heap) : Prop := vx_Zq Bundle.tN "UNASSIGNED_STACK" Bundle.steD (fun q => N0 ≤ q) s H ∧ vx_Zq Bundle.tN "SUPPRESSED_SENTINEL" Bundle.listD (fun q => N0 ≤ q) s H
/-- what is asked of every state that a method starts at -/
def zB (D : va_G) (N0 : Nat) (U : State) : Prop := va_K D vwCl (zTY D) U ∧ zS N0 U U.heap ∧ N0 ≤ U.heap.size
/-- the locals, by their places -/
def zL (ls : Array Slot) (L : List (Option Value)) : Prop := ls.size = L.length ∧ lv_wf ls ∧ ∀ (i : Nat) (v : Value), L[i]? = some (some v) → ls[i]? = some (.val v)
def zal (L : List (Option Value)) : List (Nat × Value) := (List.range L.length).filterMap (fun i => (L[i]?.join).map (fun v => (i, v)))
theorem zal_mem {L : List (Option Value)} {i : Nat} {v : Value} : (i, v) ∈ zal L ↔ L[i]? = some (some v) := by
  unfold zal
  rw [List.mem_filterMap]
  constructor
  · rintro ⟨j, -, h⟩
    cases hj : L[j]? with
    | none => rw [hj] at h; simp at h
    | some o =>
      rw [hj] at h
      cases o with
      | none => simp at h
      | some w =>
        simp at h
        obtain ⟨rfl, rfl⟩ := h
        exact hj
  · intro h
    refine ⟨i, List.mem_range.mpr (List.getElem?_eq_some_iff.mp h).1, ?_⟩
    rw [h]
    rfl
theorem zL.has {ls : Array Slot} {L : List (Option Value)} (h : zL ls L) : lv_has ls L.length (zal L) := ⟨h.1, h.2.1, fun q hq => h.2.2 q.1 q.2 (zal_mem.mp hq)⟩
theorem zL.of {ls : Array Slot} {n : Nat} {l : List (Nat × Value)} (h : lv_has ls n l) {L : List (Option Value)} (hn : n = L.length) (hl : ∀ (i : Nat) (v : Value), L[i]? = some (some v) → (i, v) ∈ l) : zL ls L := ⟨h.1.trans hn, h.2.1, fun i v hv => h.2.2 (i, v) (hl i v hv)⟩
theorem zL.less {ls : Array Slot} {L L' : List (Option Value)} (h : zL ls L) (hn : L'.length = L.length) (hl : ∀ (i : Nat) (v : Value), L'[i]? = some (some v) → L[i]? = some (some v)) : zL ls L' := ⟨h.1.trans hn.symm, h.2.1, fun i v hv => h.2.2 i v (hl i v hv)⟩
/-- no long or double stands just ahead -/
def zok (L : List (Option Value)) (i : Nat) : Bool := match i with
  | 0 => true
  | j + 1 => match L[j]? with
    | some (some v) => v.category == 1
    | _ => true
theorem zok_use {L : List (Option Value)} {i j : Nat} {v : Value} (h : zok L i = true) (e : j + 1 = i) (hv : L[j]? = some (some v)) : v.category = 1 := by
  subst e
  simp only [zok, hv] at h
  simpa using h
theorem zL.set1 {ls : Array Slot} {L : List (Option Value)} {i : Nat} {v : Value} (hok : zok L i = true) (h : lv_has ls L.length ((i, v) :: (zal L).filter (fun q => !(q.1 == i) && !(q.1 + 1 == i && q.2.category == 2)))) : zL ls (L.set i (some v)) := by
  refine zL.of h (by simp) (fun j w hj => ?_)
  by_cases e : i = j
  · subst e
    have hl : i < L.length := by
      have := (List.getElem?_eq_some_iff.mp hj).1
      simpa using this
    rw [List.getElem?_set_self hl] at hj
    cases hj
    exact List.mem_cons_self
  · rw [List.getElem?_set_ne e] at hj
    refine List.mem_cons_of_mem _ (List.mem_filter.mpr ⟨zal_mem.mpr hj, ?_⟩)
    have e1 : (j == i) = false := by simpa using fun q : j = i => e q.symm
    have e2 : (j + 1 == i && w.category == 2) = false := by
      by_cases q : j + 1 = i
      · have := zok_use hok q hj
        simp [this]
      · simp [q]
    simp only [e1, e2]
    rfl
theorem zL.set2 {ls : Array Slot} {L : List (Option Value)} {i : Nat} {v : Value} (hok : zok L i = true) (h : lv_has ls L.length ((i, v) :: (zal L).filter (fun q => !(q.1 == i) && (!(q.1 == i + 1) && !(q.1 + 1 == i && q.2.category == 2))))) : zL ls ((L.set i (some v)).set (i + 1) none) := by
  refine zL.of h (by simp) (fun j w hj => ?_)
  by_cases e0 : i + 1 = j
  · subst e0
    have hl : i + 1 < L.length := by
      have := (List.getElem?_eq_some_iff.mp hj).1
      simpa using this
    rw [List.getElem?_set_self (by simpa using hl)] at hj
    cases hj
  · rw [List.getElem?_set_ne e0] at hj
    by_cases e : i = j
    · subst e
      have hl : i < L.length := by
        have := (List.getElem?_eq_some_iff.mp hj).1
        simpa using this
      rw [List.getElem?_set_self hl] at hj
      cases hj
      exact List.mem_cons_self
    · rw [List.getElem?_set_ne e] at hj
      refine List.mem_cons_of_mem _ (List.mem_filter.mpr ⟨zal_mem.mpr hj, ?_⟩)
      have e1 : (j == i) = false := by simpa using fun q : j = i => e q.symm
      have e3 : (j == i + 1) = false := by simpa using fun q : j = i + 1 => e0 q.symm
      have e2 : (j + 1 == i && w.category == 2) = false := by
        by_cases q : j + 1 = i
        · have := zok_use hok q hj
          simp [this]
        · simp [q]
      simp only [e1, e2, e3]
      rfl
/-- the machine at a place of the code, with a memory, with locals and a stack: it comes to Q; at most k cells of n slots are made so far -/
def Z (X : zX) (μ : zM) (k n pc : Nat) (L : List (Option Value)) (st : List Value) : Prop :=
  match X with
  | (p, l, e, R, s, m, args, below, meth, c, D, N0, Q) => ∀ (H : Heap) (locs : List Loc) (cells slots : Nat) (ls : Array Slot), zH D N0 μ H → va_S (fun q => N0 ≤ q) s.heap H locs → cells ≤ k → slots ≤ n → zL ls L → W p l e R s m args below meth c H locs cells slots Q (F0 m pc ls st)
/-- what stands fast in one method -/
def zC (X : zX) (l0 : Launch) (D0 : va_G) (n0 : Nat) (cc : ByteArray) (nL : Nat) (own : String) (Ts : List Cond) : Prop :=
  match X with
  | (p, l, e, R, s, m, args, below, meth, c, D, N0, Q) => l = l0 ∧ D = D0 ∧ N0 = n0 ∧ p.tables.exec = Jvm.exec ∧ c.code = cc ∧ c.maxLocals = nL ∧ s.vm.findClass own = some m.cls ∧ (∀ w ∈ Ts, w.before args s = true) ∧ meth.locks = false ∧ zB D N0 s
/-- the room left -/
def zR (X : zX) (k n f w : Nat) : Prop :=
  match X with
  | (p, l, e, R, s, m, args, below, meth, c, D, N0, Q) => k ≤ R.cells ∧ n ≤ R.slots ∧ f ≤ R.frames ∧ w ≤ R.locals
/-- the method is a constructor -/
def zInit (X : zX) : Prop :=
  match X with
  | (p, l, e, R, s, m, args, below, meth, c, D, N0, Q) => meth.name = "<init>"
theorem zH.seta {D : va_G} {N0 : Nat} {μ : zM} {H H1 : Heap} (h : zH D N0 μ H) {a : Nat} {e : va_E} (hP : va_at D vwCl (a, e) H1) (hN : N0 ≤ a) (hq : ∀ q : Nat, q ≠ a → H1[q]? = H[q]?) : zH D N0 (zu μ a e) H1 := by
  intro b f hb
  by_cases hba : b = a
  · subst hba
    rw [zu_s] at hb
    cases hb
    exact ⟨hP, hN⟩
  · rw [zu_n hba] at hb
    exact ⟨(h b f hb).1.kept (hq b hba), (h b f hb).2⟩
abbrev zX.D (X : zX) : va_G := X.2.2.2.2.2.2.2.2.2.2.1
abbrev zX.N (X : zX) : Nat := X.2.2.2.2.2.2.2.2.2.2.2.1
theorem zH.lt {D : va_G} {N0 : Nat} {μ : zM} {H : Heap} (h : zH D N0 μ H) {a : Nat} {e : va_E} (ha : μ a = some e) : a < H.size := (h a e ha).1.lt
theorem zH.one {D : va_G} {N0 : Nat} {μ : zM} {H : Heap} (h : zH D N0 μ H) {a : Nat} {e : va_E} (ha : μ a = some e) : va_P D vwCl [(a, e)] H := by
  intro k q hk
  have hz : k < 1 := (List.getElem?_eq_some_iff.mp hk).1
  rw [show k = 0 by omega] at hk
  cases hk
  exact (h a e ha).1
theorem zH.oneD {D : va_G} {N0 : Nat} {μ : zM} {H : Heap} (h : zH D N0 μ H) {a : Nat} {e : va_E} (ha : μ a = some e) : va_D (fun q => N0 ≤ q) [(a, e)] := by
  refine ⟨fun i j p q hi hj _ => ?_, fun k q hk => ?_⟩
  · have h1 : i < 1 := (List.getElem?_eq_some_iff.mp hi).1
    have h2 : j < 1 := (List.getElem?_eq_some_iff.mp hj).1
    omega
  · have hz : k < 1 := (List.getElem?_eq_some_iff.mp hk).1
    rw [show k = 0 by omega] at hk
    cases hk
    exact (h a e ha).2
theorem zH.kept {D : va_G} {N0 : Nat} {μ : zM} {H H1 : Heap} (h : zH D N0 μ H) (hq : ∀ (a : Nat) (e : va_E), μ a = some e → H1[a]? = H[a]?) : zH D N0 μ H1 := fun a e ha => ⟨(h a e ha).1.kept (hq a e ha), (h a e ha).2⟩
theorem zH.set {D : va_G} {N0 : Nat} {μ : zM} {H H1 : Heap} (h : zH D N0 μ H) {a : Nat} {e : va_E} (hP : va_P D vwCl [(a, e)] H1) (hN : N0 ≤ a) (hq : ∀ q : Nat, q ≠ a → H1[q]? = H[q]?) : zH D N0 (zu μ a e) H1 := by
  intro b f hb
  by_cases hba : b = a
  · subst hba
    rw [zu_s] at hb
    cases hb
    exact ⟨hP 0 _ rfl, hN⟩
  · rw [zu_n hba] at hb
    exact ⟨(h b f hb).1.kept (hq b hba), (h b f hb).2⟩


theorem zI {a : Int} (h : -2147483648 ≤ a ∧ a < 2147483648) : (Int32.ofInt a).toInt = a := Int32.toInt_ofInt_of_le (by omega) (by omega)
theorem zI_le {a b : Int} (ha : -2147483648 ≤ a ∧ a < 2147483648) (hb : -2147483648 ≤ b ∧ b < 2147483648) : Int32.ofInt a ≤ Int32.ofInt b ↔ a ≤ b := by rw [Int32.le_iff_toInt_le, zI ha, zI hb]
theorem zI_lt {a b : Int} (ha : -2147483648 ≤ a ∧ a < 2147483648) (hb : -2147483648 ≤ b ∧ b < 2147483648) : Int32.ofInt a < Int32.ofInt b ↔ a < b := by rw [Int32.lt_iff_toInt_lt, zI ha, zI hb]
theorem zI_eq {a b : Int} (ha : -2147483648 ≤ a ∧ a < 2147483648) (hb : -2147483648 ≤ b ∧ b < 2147483648) : Int32.ofInt a = Int32.ofInt b ↔ a = b := by
  constructor
  · intro h
    have := congrArg Int32.toInt h
    rwa [zI ha, zI hb] at this
  · intro h
    rw [h]
theorem zI_0 : (0 : Int32) = Int32.ofInt 0 := rfl
theorem zI_rng (x : Int32) : -2147483648 ≤ x.toInt ∧ x.toInt < 2147483648 := by
  have h1 := x.le_toInt
  have h2 := x.toInt_lt
  omega
theorem zI_as (x : Int32) : Int32.ofInt x.toInt = x := by simp
theorem zi_as (x : Int32) : zi x.toInt = .int x := by unfold zi; rw [zI_as]
theorem zI_add (a b : Int) : Int32.ofInt a + Int32.ofInt b = Int32.ofInt (a + b) := (Int32.ofInt_add).symm
theorem zI_sub (a b : Int) : Int32.ofInt a - Int32.ofInt b = Int32.ofInt (a - b) := (Int32.ofInt_sub).symm
theorem zI_mul (a b : Int) : Int32.ofInt a * Int32.ofInt b = Int32.ofInt (a * b) := (Int32.ofInt_mul).symm
theorem zI_neg (a : Int) : -Int32.ofInt a = Int32.ofInt (-a) := (Int32.ofInt_neg).symm
theorem zI_nc {a : Int} (h : 0 ≤ a ∧ a < 2147483648) : (Int32.ofInt a).toNatClampNeg = a.toNat := by
  show (Int32.ofInt a).toInt.toNat = a.toNat
  rw [zI (by omega)]
theorem zI_in {a : Int} {n : Nat} (h : 0 ≤ a ∧ a < n) (hn : n < 2147483648) : vp_in (Int32.ofInt a) n := by
  unfold vp_in
  rw [zI_0, zI_lt (by omega) (by omega), zI_nc (by omega)]
  omega
/-- two contents of an array that agree on its places are one cell -/
theorem vp_cell_cong_i {cA : ClassId} {n : Nat} {f g : Nat → Int32} (h : ∀ j, j < n → f j = g j) : vp_cell cA (n, .inl f) = vp_cell cA (n, .inl g) := by
  rw [vp_cell_i, vp_cell_i]
  unfold arrV
  congr 2
  funext j
  rw [h j.val j.isLt]
theorem vp_cell_cong_l {cA : ClassId} {n : Nat} {f g : Nat → Int64} (h : ∀ j, j < n → f j = g j) : vp_cell cA (n, .inr (.inl f)) = vp_cell cA (n, .inr (.inl g)) := by
  rw [vp_cell_l, vp_cell_l]
  unfold arrV
  congr 2
  funext j
  rw [h j.val j.isLt]
theorem vp_cell_cong_q {cA : ClassId} {n : Nat} {f g : Nat → Option Nat} (h : ∀ j, j < n → f j = g j) : vp_cell cA (n, .inr (.inr (.inr (.inr f)))) = vp_cell cA (n, .inr (.inr (.inr (.inr g)))) := by
  rw [vp_cell_q, vp_cell_q]
  unfold arrV
  congr 2
  funext j
  rw [h j.val j.isLt]
/-- arrays: of ints, of booleans (0, 1), of longs, of references -/
def zAI (D : va_G) (n : Nat) (g : Nat → Int) : va_E := .inl (D.1 100, n, .inl (fun j => Int32.ofInt (g j)))
def zAZ (D : va_G) (n : Nat) (g : Nat → Int) : va_E := .inl (D.1 102, n, .inl (fun j => Int32.ofInt (g j)))
def zAL (D : va_G) (n : Nat) (f : Nat → Int64) : va_E := .inl (D.1 101, n, .inr (.inl f))
def zAD (D : va_G) (n : Nat) (f : Nat → UInt64) : va_E := .inl (D.1 103, n, .inr (.inr (.inr (.inl f))))
def zAF (D : va_G) (n : Nat) (f : Nat → Option Nat) : va_E := .inl (D.1 104, n, .inr (.inr (.inr (.inr f))))
def zAB (D : va_G) (n : Nat) (f : Nat → Option Nat) : va_E := .inl (D.1 105, n, .inr (.inr (.inr (.inr f))))
def zw {α : Type} (g : Nat → α) (k : Nat) (x : α) : Nat → α := fun j => if j = k then x else g j
theorem zw_s {α : Type} {g : Nat → α} {k : Nat} {x : α} : zw g k x k = x := if_pos rfl
theorem zw_n {α : Type} {g : Nat → α} {k j : Nat} {x : α} (h : j ≠ k) : zw g k x j = g j := if_neg h
theorem zAI_eq {D : va_G} {N0 : Nat} {μ : zM} {H : Heap} {a n : Nat} {f g : Nat → Int} (h : ∀ j, j < n → f j = g j) (hH : zH D N0 (zu μ a (zAI D n f)) H) : zH D N0 (zu μ a (zAI D n g)) H := by
  intro b e hb
  by_cases q : b = a
  · subst q
    rw [zu_s] at hb
    cases hb
    refine ⟨?_, (hH b _ zu_s).2⟩
    have := (hH b _ zu_s).1
    show H[b]? = some (vp_cell _ _)
    rw [← vp_cell_cong_i (f := fun j => Int32.ofInt (f j)) (fun j hj => by rw [h j hj])]
    exact this
  · rw [zu_n q] at hb
    exact hH b e (by rw [zu_n q]; exact hb)
theorem zAZ_eq {D : va_G} {N0 : Nat} {μ : zM} {H : Heap} {a n : Nat} {f g : Nat → Int} (h : ∀ j, j < n → f j = g j) (hH : zH D N0 (zu μ a (zAZ D n f)) H) : zH D N0 (zu μ a (zAZ D n g)) H := by
  intro b e hb
  by_cases q : b = a
  · subst q
    rw [zu_s] at hb
    cases hb
    refine ⟨?_, (hH b _ zu_s).2⟩
    have := (hH b _ zu_s).1
    show H[b]? = some (vp_cell _ _)
    rw [← vp_cell_cong_i (f := fun j => Int32.ofInt (f j)) (fun j hj => by rw [h j hj])]
    exact this
  · rw [zu_n q] at hb
    exact hH b e (by rw [zu_n q]; exact hb)
theorem zAL_eq {D : va_G} {N0 : Nat} {μ : zM} {H : Heap} {a n : Nat} {f g : Nat → Int64} (h : ∀ j, j < n → f j = g j) (hH : zH D N0 (zu μ a (zAL D n f)) H) : zH D N0 (zu μ a (zAL D n g)) H := by
  intro b e hb
  by_cases q : b = a
  · subst q
    rw [zu_s] at hb
    cases hb
    refine ⟨?_, (hH b _ zu_s).2⟩
    have := (hH b _ zu_s).1
    show H[b]? = some (vp_cell _ _)
    rw [← vp_cell_cong_l (f := f) (fun j hj => h j hj)]
    exact this
  · rw [zu_n q] at hb
    exact hH b e (by rw [zu_n q]; exact hb)
section ZROWS
variable {X : zX} {l : Launch} {D : va_G} {N0 : Nat} {cc : ByteArray} {nL : Nat} {own : String} {Ts : List Cond} {μ : zM} {kc kn pc : Nat} {L L' : List (Option Value)} {st : List Value}

theorem z_iconst (C : zC X l D N0 cc nL own Ts) {n : Int} (d : decode cc pc = .ok (.iconst n, 1)) (k : Z X μ kc kn (pc + 1) L (zi n :: st)) : Z X μ kc kn pc L (st) := by
  obtain ⟨p, l', e, R, s, m, args, below, meth, c, D', N', Q⟩ := X
  obtain ⟨rfl, rfl, rfl, hx, hb, hml, hown, hts, hlk, hB⟩ := C
  intro H locs cells slots ls hH hS hc1 hs1 hl
  exact lv_iconst hx hb d rfl (k H locs cells slots ls hH hS hc1 hs1 hl)
theorem z_bipush (C : zC X l D N0 cc nL own Ts) {n : Int} (d : decode cc pc = .ok (.bipush n, 2)) (hv : (Int8.ofInt n).toInt32 = Int32.ofInt n := by decide) (k : Z X μ kc kn (pc + 2) L (zi n :: st)) : Z X μ kc kn pc L (st) := by
  obtain ⟨p, l', e, R, s, m, args, below, meth, c, D', N', Q⟩ := X
  obtain ⟨rfl, rfl, rfl, hx, hb, hml, hown, hts, hlk, hB⟩ := C
  intro H locs cells slots ls hH hS hc1 hs1 hl
  exact lv_bipush hx hb d hv (k H locs cells slots ls hH hS hc1 hs1 hl)
theorem z_sipush (C : zC X l D N0 cc nL own Ts) {n : Int} (d : decode cc pc = .ok (.sipush n, 3)) (hv : (Int16.ofInt n).toInt32 = Int32.ofInt n := by decide) (k : Z X μ kc kn (pc + 3) L (zi n :: st)) : Z X μ kc kn pc L (st) := by
  obtain ⟨p, l', e, R, s, m, args, below, meth, c, D', N', Q⟩ := X
  obtain ⟨rfl, rfl, rfl, hx, hb, hml, hown, hts, hlk, hB⟩ := C
  intro H locs cells slots ls hH hS hc1 hs1 hl
  exact lv_sipush hx hb d hv (k H locs cells slots ls hH hS hc1 hs1 hl)
theorem z_lconst (C : zC X l D N0 cc nL own Ts) {n : Fin 2} (d : decode cc pc = .ok (.lconst n, 1)) (k : Z X μ kc kn (pc + 1) L (.long (Int64.ofNat n.val) :: st)) : Z X μ kc kn pc L (st) := by
  obtain ⟨p, l', e, R, s, m, args, below, meth, c, D', N', Q⟩ := X
  obtain ⟨rfl, rfl, rfl, hx, hb, hml, hown, hts, hlk, hB⟩ := C
  intro H locs cells slots ls hH hS hc1 hs1 hl
  exact lv_lconst hx hb d rfl (k H locs cells slots ls hH hS hc1 hs1 hl)
theorem z_dconst0 (C : zC X l D N0 cc nL own Ts) (d : decode cc pc = .ok (.dconst 0, 1)) (k : Z X μ kc kn (pc + 1) L (.double FP.dconst0 :: st)) : Z X μ kc kn pc L (st) := by
  obtain ⟨p, l', e, R, s, m, args, below, meth, c, D', N', Q⟩ := X
  obtain ⟨rfl, rfl, rfl, hx, hb, hml, hown, hts, hlk, hB⟩ := C
  intro H locs cells slots ls hH hS hc1 hs1 hl
  exact lv_dconst0 hx hb d (k H locs cells slots ls hH hS hc1 hs1 hl)
theorem z_ldc2 (C : zC X l D N0 cc nL own Ts) {i : Nat} {v : Int64} (hc : Cond.constantLong own i v ∈ Ts) (d : decode cc pc = .ok (.ldc2_w i, 3)) (k : Z X μ kc kn (pc + 3) L (.long v :: st)) : Z X μ kc kn pc L (st) := by
  obtain ⟨p, l', e, R, s, m, args, below, meth, c, D', N', Q⟩ := X
  obtain ⟨rfl, rfl, rfl, hx, hb, hml, hown, hts, hlk, hB⟩ := C
  intro H locs cells slots ls hH hS hc1 hs1 hl
  exact lv_ldc2 hx hb hown (hts _ hc) d (k H locs cells slots ls hH hS hc1 hs1 hl)
theorem z_iload_n (C : zC X l D N0 cc nL own Ts) {i : Fin 4} {x : Int} (d : decode cc pc = .ok (.iload_n i, 1)) (h : L[i.val]? = some (some (zi x))) (k : Z X μ kc kn (pc + 1) L (zi x :: st)) : Z X μ kc kn pc L (st) := by
  obtain ⟨p, l', e, R, s, m, args, below, meth, c, D', N', Q⟩ := X
  obtain ⟨rfl, rfl, rfl, hx, hb, hml, hown, hts, hlk, hB⟩ := C
  intro H locs cells slots ls hH hS hc1 hs1 hl
  exact lv_iload_n hx hb d rfl (hl.2.2 _ _ h) (k H locs cells slots ls hH hS hc1 hs1 hl)
theorem z_iload (C : zC X l D N0 cc nL own Ts) {i : Nat} {x : Int} (d : decode cc pc = .ok (.iload i, 2)) (h : L[i]? = some (some (zi x))) (k : Z X μ kc kn (pc + 2) L (zi x :: st)) : Z X μ kc kn pc L (st) := by
  obtain ⟨p, l', e, R, s, m, args, below, meth, c, D', N', Q⟩ := X
  obtain ⟨rfl, rfl, rfl, hx, hb, hml, hown, hts, hlk, hB⟩ := C
  intro H locs cells slots ls hH hS hc1 hs1 hl
  exact lv_iload hx hb d (hl.2.2 _ _ h) (k H locs cells slots ls hH hS hc1 hs1 hl)
theorem z_lload_n (C : zC X l D N0 cc nL own Ts) {i : Fin 4} {x : Int64} (d : decode cc pc = .ok (.lload_n i, 1)) (h : L[i.val]? = some (some (.long x))) (k : Z X μ kc kn (pc + 1) L (.long x :: st)) : Z X μ kc kn pc L (st) := by
  obtain ⟨p, l', e, R, s, m, args, below, meth, c, D', N', Q⟩ := X
  obtain ⟨rfl, rfl, rfl, hx, hb, hml, hown, hts, hlk, hB⟩ := C
  intro H locs cells slots ls hH hS hc1 hs1 hl
  exact lv_lload_n hx hb d rfl (hl.2.2 _ _ h) (k H locs cells slots ls hH hS hc1 hs1 hl)
theorem z_lload (C : zC X l D N0 cc nL own Ts) {i : Nat} {x : Int64} (d : decode cc pc = .ok (.lload i, 2)) (h : L[i]? = some (some (.long x))) (k : Z X μ kc kn (pc + 2) L (.long x :: st)) : Z X μ kc kn pc L (st) := by
  obtain ⟨p, l', e, R, s, m, args, below, meth, c, D', N', Q⟩ := X
  obtain ⟨rfl, rfl, rfl, hx, hb, hml, hown, hts, hlk, hB⟩ := C
  intro H locs cells slots ls hH hS hc1 hs1 hl
  exact lv_lload hx hb d (hl.2.2 _ _ h) (k H locs cells slots ls hH hS hc1 hs1 hl)
theorem z_aload_n (C : zC X l D N0 cc nL own Ts) {i : Fin 4} {x : Nat} (d : decode cc pc = .ok (.aload_n i, 1)) (h : L[i.val]? = some (some (.ref x))) (k : Z X μ kc kn (pc + 1) L (.ref x :: st)) : Z X μ kc kn pc L (st) := by
  obtain ⟨p, l', e, R, s, m, args, below, meth, c, D', N', Q⟩ := X
  obtain ⟨rfl, rfl, rfl, hx, hb, hml, hown, hts, hlk, hB⟩ := C
  intro H locs cells slots ls hH hS hc1 hs1 hl
  exact lv_aload_n hx hb d rfl (hl.2.2 _ _ h) (k H locs cells slots ls hH hS hc1 hs1 hl)
theorem z_aload (C : zC X l D N0 cc nL own Ts) {i : Nat} {x : Nat} (d : decode cc pc = .ok (.aload i, 2)) (h : L[i]? = some (some (.ref x))) (k : Z X μ kc kn (pc + 2) L (.ref x :: st)) : Z X μ kc kn pc L (st) := by
  obtain ⟨p, l', e, R, s, m, args, below, meth, c, D', N', Q⟩ := X
  obtain ⟨rfl, rfl, rfl, hx, hb, hml, hown, hts, hlk, hB⟩ := C
  intro H locs cells slots ls hH hS hc1 hs1 hl
  exact lv_aload hx hb d (hl.2.2 _ _ h) (k H locs cells slots ls hH hS hc1 hs1 hl)
theorem z_dload_n (C : zC X l D N0 cc nL own Ts) {i : Fin 4} {x : UInt64} (d : decode cc pc = .ok (.dload_n i, 1)) (h : L[i.val]? = some (some (.double x))) (k : Z X μ kc kn (pc + 1) L (.double x :: st)) : Z X μ kc kn pc L (st) := by
  obtain ⟨p, l', e, R, s, m, args, below, meth, c, D', N', Q⟩ := X
  obtain ⟨rfl, rfl, rfl, hx, hb, hml, hown, hts, hlk, hB⟩ := C
  intro H locs cells slots ls hH hS hc1 hs1 hl
  exact lv_dload_n hx hb d rfl (hl.2.2 _ _ h) (k H locs cells slots ls hH hS hc1 hs1 hl)
theorem z_dload (C : zC X l D N0 cc nL own Ts) {i : Nat} {x : UInt64} (d : decode cc pc = .ok (.dload i, 2)) (h : L[i]? = some (some (.double x))) (k : Z X μ kc kn (pc + 2) L (.double x :: st)) : Z X μ kc kn pc L (st) := by
  obtain ⟨p, l', e, R, s, m, args, below, meth, c, D', N', Q⟩ := X
  obtain ⟨rfl, rfl, rfl, hx, hb, hml, hown, hts, hlk, hB⟩ := C
  intro H locs cells slots ls hH hS hc1 hs1 hl
  exact lv_dload hx hb d (hl.2.2 _ _ h) (k H locs cells slots ls hH hS hc1 hs1 hl)
theorem z_istore_n (C : zC X l D N0 cc nL own Ts) {i : Fin 4} {x : Int} (d : decode cc pc = .ok (.istore_n i, 1)) (h : L.set i.val (some (zi x)) = L') (k : Z X μ kc kn (pc + 1) L' st) (hi : i.val < L.length := by decide) (hok : zok L i.val = true := by rfl) : Z X μ kc kn pc L (zi x :: st) := by
  obtain ⟨p, l', e, R, s, m, args, below, meth, c, D', N', Q⟩ := X
  obtain ⟨rfl, rfl, rfl, hx, hb, hml, hown, hts, hlk, hB⟩ := C
  intro H locs cells slots ls hH hS hc1 hs1 hl
  subst h
  exact lv_istore_n hx hb d rfl hl.has hi rfl (fun ls1 h1 => k H locs cells slots ls1 hH hS hc1 hs1 (zL.set1 hok h1))
theorem z_istore (C : zC X l D N0 cc nL own Ts) {i : Nat} {x : Int} (d : decode cc pc = .ok (.istore i, 2)) (h : L.set i (some (zi x)) = L') (k : Z X μ kc kn (pc + 2) L' st) (hi : i < L.length := by decide) (hok : zok L i = true := by rfl) : Z X μ kc kn pc L (zi x :: st) := by
  obtain ⟨p, l', e, R, s, m, args, below, meth, c, D', N', Q⟩ := X
  obtain ⟨rfl, rfl, rfl, hx, hb, hml, hown, hts, hlk, hB⟩ := C
  intro H locs cells slots ls hH hS hc1 hs1 hl
  subst h
  exact lv_istore hx hb d hl.has hi rfl (fun ls1 h1 => k H locs cells slots ls1 hH hS hc1 hs1 (zL.set1 hok h1))
theorem z_lstore_n (C : zC X l D N0 cc nL own Ts) {i : Fin 4} {x : Int64} (d : decode cc pc = .ok (.lstore_n i, 1)) (h : (L.set i.val (some (.long x))).set (i.val + 1) none = L') (k : Z X μ kc kn (pc + 1) L' st) (hi : i.val + 1 < L.length := by decide) (hok : zok L i.val = true := by rfl) : Z X μ kc kn pc L (.long x :: st) := by
  obtain ⟨p, l', e, R, s, m, args, below, meth, c, D', N', Q⟩ := X
  obtain ⟨rfl, rfl, rfl, hx, hb, hml, hown, hts, hlk, hB⟩ := C
  intro H locs cells slots ls hH hS hc1 hs1 hl
  subst h
  exact lv_lstore_n hx hb d rfl hl.has hi rfl (fun ls1 h1 => k H locs cells slots ls1 hH hS hc1 hs1 (zL.set2 hok h1))
theorem z_lstore (C : zC X l D N0 cc nL own Ts) {i : Nat} {x : Int64} (d : decode cc pc = .ok (.lstore i, 2)) (h : (L.set i (some (.long x))).set (i + 1) none = L') (k : Z X μ kc kn (pc + 2) L' st) (hi : i + 1 < L.length := by decide) (hok : zok L i = true := by rfl) : Z X μ kc kn pc L (.long x :: st) := by
  obtain ⟨p, l', e, R, s, m, args, below, meth, c, D', N', Q⟩ := X
  obtain ⟨rfl, rfl, rfl, hx, hb, hml, hown, hts, hlk, hB⟩ := C
  intro H locs cells slots ls hH hS hc1 hs1 hl
  subst h
  exact lv_lstore hx hb d hl.has hi rfl (fun ls1 h1 => k H locs cells slots ls1 hH hS hc1 hs1 (zL.set2 hok h1))
theorem z_astore_n (C : zC X l D N0 cc nL own Ts) {i : Fin 4} {x : Nat} (d : decode cc pc = .ok (.astore_n i, 1)) (h : L.set i.val (some (.ref x)) = L') (k : Z X μ kc kn (pc + 1) L' st) (hi : i.val < L.length := by decide) (hok : zok L i.val = true := by rfl) : Z X μ kc kn pc L (.ref x :: st) := by
  obtain ⟨p, l', e, R, s, m, args, below, meth, c, D', N', Q⟩ := X
  obtain ⟨rfl, rfl, rfl, hx, hb, hml, hown, hts, hlk, hB⟩ := C
  intro H locs cells slots ls hH hS hc1 hs1 hl
  subst h
  exact lv_astore_n hx hb d rfl hl.has hi rfl (fun ls1 h1 => k H locs cells slots ls1 hH hS hc1 hs1 (zL.set1 hok h1))
theorem z_astore (C : zC X l D N0 cc nL own Ts) {i : Nat} {x : Nat} (d : decode cc pc = .ok (.astore i, 2)) (h : L.set i (some (.ref x)) = L') (k : Z X μ kc kn (pc + 2) L' st) (hi : i < L.length := by decide) (hok : zok L i = true := by rfl) : Z X μ kc kn pc L (.ref x :: st) := by
  obtain ⟨p, l', e, R, s, m, args, below, meth, c, D', N', Q⟩ := X
  obtain ⟨rfl, rfl, rfl, hx, hb, hml, hown, hts, hlk, hB⟩ := C
  intro H locs cells slots ls hH hS hc1 hs1 hl
  subst h
  exact lv_astore hx hb d hl.has hi rfl (fun ls1 h1 => k H locs cells slots ls1 hH hS hc1 hs1 (zL.set1 hok h1))
theorem z_iinc (C : zC X l D N0 cc nL own Ts) {i : Nat} {n x : Int} (d : decode cc pc = .ok (.iinc i n, 3)) (h : L[i]? = some (some (zi x))) (h2 : L.set i (some (zi (x + n))) = L') (k : Z X μ kc kn (pc + 3) L' st) (hok : zok L i = true := by rfl) : Z X μ kc kn pc L st := by
  obtain ⟨p, l', e, R, s, m, args, below, meth, c, D', N', Q⟩ := X
  obtain ⟨rfl, rfl, rfl, hx, hb, hml, hown, hts, hlk, hB⟩ := C
  intro H locs cells slots ls hH hS hc1 hs1 hl
  subst h2
  obtain ⟨k0, hk0⟩ := List.getElem?_of_mem (zal_mem.mpr h)
  exact lv_iinc hx hb d hl.has hk0 (zI_add x n) (List.getElem?_eq_some_iff.mp h).1 rfl (fun ls1 h1 => k H locs cells slots ls1 hH hS hc1 hs1 (zL.set1 hok h1))
theorem z_less (hn : L'.length = L.length) (hl : ∀ (i : Nat) (v : Value), L'[i]? = some (some v) → L[i]? = some (some v)) (k : Z X μ kc kn pc L' st) : Z X μ kc kn pc L st := by
  obtain ⟨p, l', e, R, s, m, args, below, meth, c, D', N', Q⟩ := X
  intro H locs cells slots ls hH hS hc1 hs1 hls
  exact k H locs cells slots ls hH hS hc1 hs1 (hls.less hn hl)
def zle : List (Option Value) → List (Option Value) → Prop
  | [], [] => True
  | a :: s, b :: t => (a = none ∨ a = b) ∧ zle s t
  | _, _ => False
theorem zle_use : ∀ {L' L : List (Option Value)}, zle L' L → L'.length = L.length ∧ ∀ (i : Nat) (v : Value), L'[i]? = some (some v) → L[i]? = some (some v)
  | [], [], _ => ⟨rfl, fun i v h => by simp at h⟩
  | a :: s, b :: t, h => by
    obtain ⟨h1, h2⟩ := zle_use h.2
    refine ⟨by simp [h1], fun i v hv => ?_⟩
    cases i with
    | zero =>
      rcases h.1 with q | q
      · subst q; simp at hv
      · subst q; exact hv
    | succ i => exact h2 i v hv
  | [], b :: t, h => h.elim
  | a :: s, [], h => h.elim
theorem z_fewer (h : zle L' L) (k : Z X μ kc kn pc L' st) : Z X μ kc kn pc L st := z_less (zle_use h).1 (zle_use h).2 k
theorem z_more {k1 n1 : Nat} (h1 : kc ≤ k1) (h2 : kn ≤ n1) (k : Z X μ k1 n1 pc L st) : Z X μ kc kn pc L st := by
  obtain ⟨p, l', e, R, s, m, args, below, meth, c, D', N', Q⟩ := X
  intro H locs cells slots ls hH hS hc1 hs1 hls
  exact k H locs cells slots ls hH hS (Nat.le_trans hc1 h1) (Nat.le_trans hs1 h2) hls
/-- less need be known of the memory -/
theorem z_mem {μ' : zM} (h : ∀ (a : Nat) (e : va_E), μ' a = some e → μ a = some e) (k : Z X μ' kc kn pc L st) : Z X μ kc kn pc L st := by
  obtain ⟨p, l', e, R, s, m, args, below, meth, c, D', N', Q⟩ := X
  intro H locs cells slots ls hH hS hc1 hs1 hls
  exact k H locs cells slots ls (fun a e ha => hH a e (h a e ha)) hS hc1 hs1 hls
theorem z_eqI (C : zC X l D N0 cc nL own Ts) {a n : Nat} {f g : Nat → Int} (h : ∀ j, j < n → f j = g j) (k : Z X (zu μ a (zAI D n g)) kc kn pc L st) : Z X (zu μ a (zAI D n f)) kc kn pc L st := by
  obtain ⟨p, l', e, R, s, m, args, below, meth, c, D', N', Q⟩ := X
  obtain ⟨rfl, rfl, rfl, hx, hb, hml, hown, hts, hlk, hB⟩ := C
  intro H locs cells slots ls hH hS hc1 hs1 hl
  exact k H locs cells slots ls (zAI_eq h hH) hS hc1 hs1 hl
theorem z_eqZ (C : zC X l D N0 cc nL own Ts) {a n : Nat} {f g : Nat → Int} (h : ∀ j, j < n → f j = g j) (k : Z X (zu μ a (zAZ D n g)) kc kn pc L st) : Z X (zu μ a (zAZ D n f)) kc kn pc L st := by
  obtain ⟨p, l', e, R, s, m, args, below, meth, c, D', N', Q⟩ := X
  obtain ⟨rfl, rfl, rfl, hx, hb, hml, hown, hts, hlk, hB⟩ := C
  intro H locs cells slots ls hH hS hc1 hs1 hl
  exact k H locs cells slots ls (zAZ_eq h hH) hS hc1 hs1 hl
theorem z_eqL (C : zC X l D N0 cc nL own Ts) {a n : Nat} {f g : Nat → Int64} (h : ∀ j, j < n → f j = g j) (k : Z X (zu μ a (zAL D n g)) kc kn pc L st) : Z X (zu μ a (zAL D n f)) kc kn pc L st := by
  obtain ⟨p, l', e, R, s, m, args, below, meth, c, D', N', Q⟩ := X
  obtain ⟨rfl, rfl, rfl, hx, hb, hml, hown, hts, hlk, hB⟩ := C
  intro H locs cells slots ls hH hS hc1 hs1 hl
  exact k H locs cells slots ls (zAL_eq h hH) hS hc1 hs1 hl
theorem z_iadd (C : zC X l D N0 cc nL own Ts) {x y : Int} (d : decode cc pc = .ok (.iadd, 1)) (k : Z X μ kc kn (pc + 1) L (zi (x + y) :: st)) : Z X μ kc kn pc L (zi y :: zi x :: st) := by
  obtain ⟨p, l', e, R, s, m, args, below, meth, c, D', N', Q⟩ := X
  obtain ⟨rfl, rfl, rfl, hx, hb, hml, hown, hts, hlk, hB⟩ := C
  intro H locs cells slots ls hH hS hc1 hs1 hl
  have k2 := k H locs cells slots ls hH hS hc1 hs1 hl
  unfold zi at k2 ⊢
  rw [← zI_add] at k2
  exact lv_iadd hx hb d k2
theorem z_isub (C : zC X l D N0 cc nL own Ts) {x y : Int} (d : decode cc pc = .ok (.isub, 1)) (k : Z X μ kc kn (pc + 1) L (zi (x - y) :: st)) : Z X μ kc kn pc L (zi y :: zi x :: st) := by
  obtain ⟨p, l', e, R, s, m, args, below, meth, c, D', N', Q⟩ := X
  obtain ⟨rfl, rfl, rfl, hx, hb, hml, hown, hts, hlk, hB⟩ := C
  intro H locs cells slots ls hH hS hc1 hs1 hl
  have k2 := k H locs cells slots ls hH hS hc1 hs1 hl
  unfold zi at k2 ⊢
  rw [← zI_sub] at k2
  exact lv_isub hx hb d k2
theorem z_imul (C : zC X l D N0 cc nL own Ts) {x y : Int} (d : decode cc pc = .ok (.imul, 1)) (k : Z X μ kc kn (pc + 1) L (zi (x * y) :: st)) : Z X μ kc kn pc L (zi y :: zi x :: st) := by
  obtain ⟨p, l', e, R, s, m, args, below, meth, c, D', N', Q⟩ := X
  obtain ⟨rfl, rfl, rfl, hx, hb, hml, hown, hts, hlk, hB⟩ := C
  intro H locs cells slots ls hH hS hc1 hs1 hl
  have k2 := k H locs cells slots ls hH hS hc1 hs1 hl
  unfold zi at k2 ⊢
  rw [← zI_mul] at k2
  exact lv_imul hx hb d k2
theorem z_ineg (C : zC X l D N0 cc nL own Ts) {x : Int} (d : decode cc pc = .ok (.ineg, 1)) (k : Z X μ kc kn (pc + 1) L (zi (-x) :: st)) : Z X μ kc kn pc L (zi x :: st) := by
  obtain ⟨p, l', e, R, s, m, args, below, meth, c, D', N', Q⟩ := X
  obtain ⟨rfl, rfl, rfl, hx, hb, hml, hown, hts, hlk, hB⟩ := C
  intro H locs cells slots ls hH hS hc1 hs1 hl
  have k2 := k H locs cells slots ls hH hS hc1 hs1 hl
  unfold zi at k2 ⊢
  rw [← zI_neg] at k2
  exact lv_ineg hx hb d k2
theorem z_iand (C : zC X l D N0 cc nL own Ts) {x y v : Int} (d : decode cc pc = .ok (.iand, 1)) (hv : Int32.ofInt x &&& Int32.ofInt y = Int32.ofInt v) (k : Z X μ kc kn (pc + 1) L (zi v :: st)) : Z X μ kc kn pc L (zi y :: zi x :: st) := by
  obtain ⟨p, l', e, R, s, m, args, below, meth, c, D', N', Q⟩ := X
  obtain ⟨rfl, rfl, rfl, hx, hb, hml, hown, hts, hlk, hB⟩ := C
  intro H locs cells slots ls hH hS hc1 hs1 hl
  have k2 := k H locs cells slots ls hH hS hc1 hs1 hl
  unfold zi at k2 ⊢
  rw [← hv] at k2
  exact lv_iand hx hb d k2
theorem z_ior (C : zC X l D N0 cc nL own Ts) {x y v : Int} (d : decode cc pc = .ok (.ior, 1)) (hv : Int32.ofInt x ||| Int32.ofInt y = Int32.ofInt v) (k : Z X μ kc kn (pc + 1) L (zi v :: st)) : Z X μ kc kn pc L (zi y :: zi x :: st) := by
  obtain ⟨p, l', e, R, s, m, args, below, meth, c, D', N', Q⟩ := X
  obtain ⟨rfl, rfl, rfl, hx, hb, hml, hown, hts, hlk, hB⟩ := C
  intro H locs cells slots ls hH hS hc1 hs1 hl
  have k2 := k H locs cells slots ls hH hS hc1 hs1 hl
  unfold zi at k2 ⊢
  rw [← hv] at k2
  exact lv_ior hx hb d k2
theorem z_ixor (C : zC X l D N0 cc nL own Ts) {x y v : Int} (d : decode cc pc = .ok (.ixor, 1)) (hv : Int32.ofInt x ^^^ Int32.ofInt y = Int32.ofInt v) (k : Z X μ kc kn (pc + 1) L (zi v :: st)) : Z X μ kc kn pc L (zi y :: zi x :: st) := by
  obtain ⟨p, l', e, R, s, m, args, below, meth, c, D', N', Q⟩ := X
  obtain ⟨rfl, rfl, rfl, hx, hb, hml, hown, hts, hlk, hB⟩ := C
  intro H locs cells slots ls hH hS hc1 hs1 hl
  have k2 := k H locs cells slots ls hH hS hc1 hs1 hl
  unfold zi at k2 ⊢
  rw [← hv] at k2
  exact lv_ixor hx hb d k2
theorem z_idiv (C : zC X l D N0 cc nL own Ts) {x y v : Int} (d : decode cc pc = .ok (.idiv, 1)) (hne : ¬ Int32.ofInt y = 0) (hv : Int32.ofInt x / Int32.ofInt y = Int32.ofInt v) (k : Z X μ kc kn (pc + 1) L (zi v :: st)) : Z X μ kc kn pc L (zi y :: zi x :: st) := by
  obtain ⟨p, l', e, R, s, m, args, below, meth, c, D', N', Q⟩ := X
  obtain ⟨rfl, rfl, rfl, hx, hb, hml, hown, hts, hlk, hB⟩ := C
  intro H locs cells slots ls hH hS hc1 hs1 hl
  have k2 := k H locs cells slots ls hH hS hc1 hs1 hl
  unfold zi at k2 ⊢
  rw [← hv] at k2
  exact lv_idiv hx hb d hne k2
theorem z_irem (C : zC X l D N0 cc nL own Ts) {x y v : Int} (d : decode cc pc = .ok (.irem, 1)) (hne : ¬ Int32.ofInt y = 0) (hv : Int32.ofInt x - Int32.ofInt x / Int32.ofInt y * Int32.ofInt y = Int32.ofInt v) (k : Z X μ kc kn (pc + 1) L (zi v :: st)) : Z X μ kc kn pc L (zi y :: zi x :: st) := by
  obtain ⟨p, l', e, R, s, m, args, below, meth, c, D', N', Q⟩ := X
  obtain ⟨rfl, rfl, rfl, hx, hb, hml, hown, hts, hlk, hB⟩ := C
  intro H locs cells slots ls hH hS hc1 hs1 hl
  have k2 := k H locs cells slots ls hH hS hc1 hs1 hl
  unfold zi at k2 ⊢
  rw [← hv] at k2
  exact lv_irem hx hb d hne k2
theorem zI_div {a b : Int} (ha : 0 ≤ a ∧ a < 2147483648) (hb : 0 < b ∧ b < 2147483648) : Int32.ofInt a / Int32.ofInt b = Int32.ofInt (a / b) := by
  have h0 : 0 ≤ a / b := Int.ediv_nonneg ha.1 (by omega)
  have h1 : a / b ≤ a := Int.ediv_le_self _ ha.1
  apply Int32.toInt_inj.mp
  rw [Int32.toInt_div, zI (by omega), zI (by omega), zI (by omega), Int.tdiv_eq_ediv_of_nonneg ha.1]
  exact Int.bmod_eq_of_le (by omega) (by omega)
theorem zI_rem {a b : Int} (ha : 0 ≤ a ∧ a < 2147483648) (hb : 0 < b ∧ b < 2147483648) : Int32.ofInt a - Int32.ofInt a / Int32.ofInt b * Int32.ofInt b = Int32.ofInt (a % b) := by
  rw [zI_div ha hb, zI_mul, zI_sub]
  congr 1
  have := Int.emod_add_mul_ediv a b
  rw [Int.mul_comm] at this
  omega
theorem zI_ne0 {b : Int} (hb : -2147483648 ≤ b ∧ b < 2147483648) (h0 : b ≠ 0) : ¬ Int32.ofInt b = 0 := by
  rw [zI_0, zI_eq hb (by omega)]
  exact h0
theorem z_idivP (C : zC X l D N0 cc nL own Ts) {x y : Int} (d : decode cc pc = .ok (.idiv, 1)) (k : Z X μ kc kn (pc + 1) L (zi (x / y) :: st)) (hx0 : 0 ≤ x ∧ x < 2147483648 := by omega) (hy0 : 0 < y ∧ y < 2147483648 := by omega) : Z X μ kc kn pc L (zi y :: zi x :: st) := z_idiv C d (zI_ne0 (by omega) (by omega)) (zI_div hx0 hy0) k
theorem z_iremP (C : zC X l D N0 cc nL own Ts) {x y : Int} (d : decode cc pc = .ok (.irem, 1)) (k : Z X μ kc kn (pc + 1) L (zi (x % y) :: st)) (hx0 : 0 ≤ x ∧ x < 2147483648 := by omega) (hy0 : 0 < y ∧ y < 2147483648 := by omega) : Z X μ kc kn pc L (zi y :: zi x :: st) := z_irem C d (zI_ne0 (by omega) (by omega)) (zI_rem hx0 hy0) k
/-- a remainder of which nothing is said -/
theorem z_iremA (C : zC X l D N0 cc nL own Ts) {x y : Int} (d : decode cc pc = .ok (.irem, 1)) (hy : -2147483648 ≤ y ∧ y < 2147483648) (h0 : y ≠ 0) (k : ∀ v : Int, -2147483648 ≤ v ∧ v < 2147483648 → Z X μ kc kn (pc + 1) L (zi v :: st)) : Z X μ kc kn pc L (zi y :: zi x :: st) := z_irem C d (zI_ne0 hy h0) (zI_as _).symm (k _ (zI_rng _))
theorem z_ladd (C : zC X l D N0 cc nL own Ts) {x y : Int64} (d : decode cc pc = .ok (.ladd, 1)) (k : Z X μ kc kn (pc + 1) L (.long (x + y) :: st)) : Z X μ kc kn pc L (.long y :: .long x :: st) := by
  obtain ⟨p, l', e, R, s, m, args, below, meth, c, D', N', Q⟩ := X
  obtain ⟨rfl, rfl, rfl, hx, hb, hml, hown, hts, hlk, hB⟩ := C
  intro H locs cells slots ls hH hS hc1 hs1 hl
  exact lv_ladd hx hb d (k H locs cells slots ls hH hS hc1 hs1 hl)
theorem z_lsub (C : zC X l D N0 cc nL own Ts) {x y : Int64} (d : decode cc pc = .ok (.lsub, 1)) (k : Z X μ kc kn (pc + 1) L (.long (x - y) :: st)) : Z X μ kc kn pc L (.long y :: .long x :: st) := by
  obtain ⟨p, l', e, R, s, m, args, below, meth, c, D', N', Q⟩ := X
  obtain ⟨rfl, rfl, rfl, hx, hb, hml, hown, hts, hlk, hB⟩ := C
  intro H locs cells slots ls hH hS hc1 hs1 hl
  exact lv_lsub hx hb d (k H locs cells slots ls hH hS hc1 hs1 hl)
theorem z_lmul (C : zC X l D N0 cc nL own Ts) {x y : Int64} (d : decode cc pc = .ok (.lmul, 1)) (k : Z X μ kc kn (pc + 1) L (.long (x * y) :: st)) : Z X μ kc kn pc L (.long y :: .long x :: st) := by
  obtain ⟨p, l', e, R, s, m, args, below, meth, c, D', N', Q⟩ := X
  obtain ⟨rfl, rfl, rfl, hx, hb, hml, hown, hts, hlk, hB⟩ := C
  intro H locs cells slots ls hH hS hc1 hs1 hl
  exact lv_lmul hx hb d (k H locs cells slots ls hH hS hc1 hs1 hl)
theorem z_land (C : zC X l D N0 cc nL own Ts) {x y : Int64} (d : decode cc pc = .ok (.land, 1)) (k : Z X μ kc kn (pc + 1) L (.long (x &&& y) :: st)) : Z X μ kc kn pc L (.long y :: .long x :: st) := by
  obtain ⟨p, l', e, R, s, m, args, below, meth, c, D', N', Q⟩ := X
  obtain ⟨rfl, rfl, rfl, hx, hb, hml, hown, hts, hlk, hB⟩ := C
  intro H locs cells slots ls hH hS hc1 hs1 hl
  exact lv_land hx hb d (k H locs cells slots ls hH hS hc1 hs1 hl)
theorem z_lor (C : zC X l D N0 cc nL own Ts) {x y : Int64} (d : decode cc pc = .ok (.lor, 1)) (k : Z X μ kc kn (pc + 1) L (.long (x ||| y) :: st)) : Z X μ kc kn pc L (.long y :: .long x :: st) := by
  obtain ⟨p, l', e, R, s, m, args, below, meth, c, D', N', Q⟩ := X
  obtain ⟨rfl, rfl, rfl, hx, hb, hml, hown, hts, hlk, hB⟩ := C
  intro H locs cells slots ls hH hS hc1 hs1 hl
  exact lv_lor hx hb d (k H locs cells slots ls hH hS hc1 hs1 hl)
theorem z_lxor (C : zC X l D N0 cc nL own Ts) {x y : Int64} (d : decode cc pc = .ok (.lxor, 1)) (k : Z X μ kc kn (pc + 1) L (.long (x ^^^ y) :: st)) : Z X μ kc kn pc L (.long y :: .long x :: st) := by
  obtain ⟨p, l', e, R, s, m, args, below, meth, c, D', N', Q⟩ := X
  obtain ⟨rfl, rfl, rfl, hx, hb, hml, hown, hts, hlk, hB⟩ := C
  intro H locs cells slots ls hH hS hc1 hs1 hl
  exact lv_lxor hx hb d (k H locs cells slots ls hH hS hc1 hs1 hl)
theorem z_lneg (C : zC X l D N0 cc nL own Ts) {x : Int64} (d : decode cc pc = .ok (.lneg, 1)) (k : Z X μ kc kn (pc + 1) L (.long (-x) :: st)) : Z X μ kc kn pc L (.long x :: st) := by
  obtain ⟨p, l', e, R, s, m, args, below, meth, c, D', N', Q⟩ := X
  obtain ⟨rfl, rfl, rfl, hx, hb, hml, hown, hts, hlk, hB⟩ := C
  intro H locs cells slots ls hH hS hc1 hs1 hl
  exact lv_lneg hx hb d (k H locs cells slots ls hH hS hc1 hs1 hl)
theorem z_i2l (C : zC X l D N0 cc nL own Ts) {x : Int} (d : decode cc pc = .ok (.i2l, 1)) (k : Z X μ kc kn (pc + 1) L (.long (Int32.ofInt x).toInt64 :: st)) : Z X μ kc kn pc L (zi x :: st) := by
  obtain ⟨p, l', e, R, s, m, args, below, meth, c, D', N', Q⟩ := X
  obtain ⟨rfl, rfl, rfl, hx, hb, hml, hown, hts, hlk, hB⟩ := C
  intro H locs cells slots ls hH hS hc1 hs1 hl
  exact lv_i2l hx hb d rfl (k H locs cells slots ls hH hS hc1 hs1 hl)
theorem z_l2i (C : zC X l D N0 cc nL own Ts) {x : Int64} (d : decode cc pc = .ok (.l2i, 1)) (k : Z X μ kc kn (pc + 1) L (zi x.toInt32.toInt :: st)) : Z X μ kc kn pc L (.long x :: st) := by
  obtain ⟨p, l', e, R, s, m, args, below, meth, c, D', N', Q⟩ := X
  obtain ⟨rfl, rfl, rfl, hx, hb, hml, hown, hts, hlk, hB⟩ := C
  intro H locs cells slots ls hH hS hc1 hs1 hl
  exact lv_l2i hx hb d (zI_as _).symm (k H locs cells slots ls hH hS hc1 hs1 hl)
/-- the shifts of longs by an int: by its six lowest bits -/
def zshl (x : Int64) (y : Int) : Int64 := x <<< ((Int32.ofInt y).toInt64 &&& 63)
def zushr (x : Int64) (y : Int) : Int64 := (x.toUInt64 >>> ((Int32.ofInt y).toInt64.toUInt64 &&& Int64.toUInt64 63)).toInt64
theorem z_lshl (C : zC X l D N0 cc nL own Ts) {x : Int64} {y : Int} (d : decode cc pc = .ok (.lshl, 1)) (k : Z X μ kc kn (pc + 1) L (.long (zshl x y) :: st)) : Z X μ kc kn pc L (zi y :: .long x :: st) := by
  obtain ⟨p, l', e, R, s, m, args, below, meth, c, D', N', Q⟩ := X
  obtain ⟨rfl, rfl, rfl, hx, hb, hml, hown, hts, hlk, hB⟩ := C
  intro H locs cells slots ls hH hS hc1 hs1 hl
  exact lv_lshl hx hb d rfl (k H locs cells slots ls hH hS hc1 hs1 hl)
theorem z_lushr (C : zC X l D N0 cc nL own Ts) {x : Int64} {y : Int} (d : decode cc pc = .ok (.lushr, 1)) (k : Z X μ kc kn (pc + 1) L (.long (zushr x y) :: st)) : Z X μ kc kn pc L (zi y :: .long x :: st) := by
  obtain ⟨p, l', e, R, s, m, args, below, meth, c, D', N', Q⟩ := X
  obtain ⟨rfl, rfl, rfl, hx, hb, hml, hown, hts, hlk, hB⟩ := C
  intro H locs cells slots ls hH hS hc1 hs1 hl
  exact lv_lushr hx hb d rfl (k H locs cells slots ls hH hS hc1 hs1 hl)
def zcmp (x y : Int64) : Int := if x > y then 1 else if x = y then 0 else -1
theorem zcmp_eq (x y : Int64) : lg_cmp x y = Int32.ofInt (zcmp x y) := by
  unfold lg_cmp zcmp
  by_cases h : x > y
  · rw [if_pos h, if_pos h]; rfl
  · rw [if_neg h, if_neg h]
    by_cases h2 : x = y
    · rw [if_pos h2, if_pos h2]; rfl
    · rw [if_neg h2, if_neg h2]; rfl
theorem zcmp_rng (x y : Int64) : -1 ≤ zcmp x y ∧ zcmp x y ≤ 1 := by
  unfold zcmp
  by_cases h : x > y
  · rw [if_pos h]; omega
  · rw [if_neg h]
    by_cases h2 : x = y
    · rw [if_pos h2]; omega
    · rw [if_neg h2]; omega
theorem zcmp_0 (x y : Int64) : zcmp x y = 0 ↔ x = y := by
  unfold zcmp
  by_cases h : x > y
  · rw [if_pos h]
    constructor
    · intro q; omega
    · intro q; subst q; exact absurd h (Int64.lt_irrefl)
  · rw [if_neg h]
    by_cases h2 : x = y
    · rw [if_pos h2]; simp [h2]
    · rw [if_neg h2]; simp [h2]
theorem zcmp_lt (x y : Int64) : zcmp x y < 0 ↔ x < y := by
  unfold zcmp
  by_cases h : x > y
  · rw [if_pos h]
    constructor
    · intro q; omega
    · intro q; exact absurd (Int64.lt_trans q h) (Int64.lt_irrefl)
  · rw [if_neg h]
    by_cases h2 : x = y
    · rw [if_pos h2]
      constructor
      · intro q; omega
      · intro q; subst q; exact absurd q (Int64.lt_irrefl)
    · rw [if_neg h2]
      constructor
      · intro _
        rcases Int64.lt_or_eq_of_le (Int64.not_lt.mp h) with q | q
        · exact q
        · exact absurd q h2
      · intro _; omega
theorem zcmp_gt (x y : Int64) : 0 < zcmp x y ↔ y < x := by
  unfold zcmp
  by_cases h : x > y
  · rw [if_pos h]
    constructor
    · intro _; exact h
    · intro _; omega
  · rw [if_neg h]
    by_cases h2 : x = y
    · rw [if_pos h2]
      constructor
      · intro q; omega
      · intro q; exact absurd q h
    · rw [if_neg h2]
      constructor
      · intro q; omega
      · intro q; exact absurd q h
theorem z_lcmp (C : zC X l D N0 cc nL own Ts) {x y : Int64} (d : decode cc pc = .ok (.lcmp, 1)) (k : Z X μ kc kn (pc + 1) L (zi (zcmp x y) :: st)) : Z X μ kc kn pc L (.long y :: .long x :: st) := by
  obtain ⟨p, l', e, R, s, m, args, below, meth, c, D', N', Q⟩ := X
  obtain ⟨rfl, rfl, rfl, hx, hb, hml, hown, hts, hlk, hB⟩ := C
  intro H locs cells slots ls hH hS hc1 hs1 hl
  have k2 := k H locs cells slots ls hH hS hc1 hs1 hl
  unfold zi at k2
  rw [← zcmp_eq] at k2
  exact W.lcmp hx hb d k2
theorem z_dcmp (C : zC X l D N0 cc nL own Ts) {x y : UInt64} {op : CmpOp} (d : decode cc pc = .ok (.dcmp op, 1)) (k : Z X μ kc kn (pc + 1) L (.int (Op.cmpValue (FP.dcmp x y) op) :: st)) : Z X μ kc kn pc L (.double y :: .double x :: st) := by
  obtain ⟨p, l', e, R, s, m, args, below, meth, c, D', N', Q⟩ := X
  obtain ⟨rfl, rfl, rfl, hx, hb, hml, hown, hts, hlk, hB⟩ := C
  intro H locs cells slots ls hH hS hc1 hs1 hl
  exact lv_dcmp hx hb d (k H locs cells slots ls hH hS hc1 hs1 hl)
theorem z_dup (C : zC X l D N0 cc nL own Ts) {v : Value} (d : decode cc pc = .ok (.dup, 1)) (hv : v.category = 1) (k : Z X μ kc kn (pc + 1) L (v :: v :: st)) : Z X μ kc kn pc L (v :: st) := by
  obtain ⟨p, l', e, R, s, m, args, below, meth, c, D', N', Q⟩ := X
  obtain ⟨rfl, rfl, rfl, hx, hb, hml, hown, hts, hlk, hB⟩ := C
  intro H locs cells slots ls hH hS hc1 hs1 hl
  exact lv_dup hx hb d hv (k H locs cells slots ls hH hS hc1 hs1 hl)
theorem z_pop (C : zC X l D N0 cc nL own Ts) {v : Value} (d : decode cc pc = .ok (.pop, 1)) (hv : v.category = 1) (k : Z X μ kc kn (pc + 1) L (st)) : Z X μ kc kn pc L (v :: st) := by
  obtain ⟨p, l', e, R, s, m, args, below, meth, c, D', N', Q⟩ := X
  obtain ⟨rfl, rfl, rfl, hx, hb, hml, hown, hts, hlk, hB⟩ := C
  intro H locs cells slots ls hH hS hc1 hs1 hl
  exact lv_pop hx hb d hv (k H locs cells slots ls hH hS hc1 hs1 hl)
theorem z_dup_x1 (C : zC X l D N0 cc nL own Ts) {v w : Value} (d : decode cc pc = .ok (.dup_x1, 1)) (hv : v.category = 1) (hw : w.category = 1) (k : Z X μ kc kn (pc + 1) L (v :: w :: v :: st)) : Z X μ kc kn pc L (v :: w :: st) := by
  obtain ⟨p, l', e, R, s, m, args, below, meth, c, D', N', Q⟩ := X
  obtain ⟨rfl, rfl, rfl, hx, hb, hml, hown, hts, hlk, hB⟩ := C
  intro H locs cells slots ls hH hS hc1 hs1 hl
  exact lv_dup_x1 hx hb d hv hw (k H locs cells slots ls hH hS hc1 hs1 hl)
theorem z_dup2 (C : zC X l D N0 cc nL own Ts) {v w : Value} (d : decode cc pc = .ok (.dup2, 1)) (hv : v.category = 1) (hw : w.category = 1) (k : Z X μ kc kn (pc + 1) L (v :: w :: v :: w :: st)) : Z X μ kc kn pc L (v :: w :: st) := by
  obtain ⟨p, l', e, R, s, m, args, below, meth, c, D', N', Q⟩ := X
  obtain ⟨rfl, rfl, rfl, hx, hb, hml, hown, hts, hlk, hB⟩ := C
  intro H locs cells slots ls hH hS hc1 hs1 hl
  exact lv_dup2_11 hx hb d hv hw (k H locs cells slots ls hH hS hc1 hs1 hl)
theorem z_icmp_eq (C : zC X l D N0 cc nL own Ts) {x y : Int} {off : Int} {tgt : Nat} (d : decode cc pc = .ok (.if_icmp .eq off, 3)) (ht : (pc : Int) + off = (tgt : Int)) (kt : x = y → Z X μ kc kn tgt L st) (kf : ¬ x = y → Z X μ kc kn (pc + 3) L st) (hxr : -2147483648 ≤ x ∧ x < 2147483648 := by omega) (hyr : -2147483648 ≤ y ∧ y < 2147483648 := by omega) : Z X μ kc kn pc L (zi y :: zi x :: st) := by
  obtain ⟨p, l', e, R, s, m, args, below, meth, c, D', N', Q⟩ := X
  obtain ⟨rfl, rfl, rfl, hx, hb, hml, hown, hts, hlk, hB⟩ := C
  intro H locs cells slots ls hH hS hc1 hs1 hl
  exact lv_icmp_eq hx hb d ht (fun q => kt ((zI_eq hxr hyr).mp q) H locs cells slots ls hH hS hc1 hs1 hl) (fun q => kf (fun h => q ((zI_eq hxr hyr).mpr h)) H locs cells slots ls hH hS hc1 hs1 hl)
theorem z_if_eq (C : zC X l D N0 cc nL own Ts) {x : Int} {off : Int} {tgt : Nat} (d : decode cc pc = .ok (.ifCond .eq off, 3)) (ht : (pc : Int) + off = (tgt : Int)) (kt : x = 0 → Z X μ kc kn tgt L st) (kf : ¬ x = 0 → Z X μ kc kn (pc + 3) L st) (hxr : -2147483648 ≤ x ∧ x < 2147483648 := by omega) : Z X μ kc kn pc L (zi x :: st) := by
  obtain ⟨p, l', e, R, s, m, args, below, meth, c, D', N', Q⟩ := X
  obtain ⟨rfl, rfl, rfl, hx, hb, hml, hown, hts, hlk, hB⟩ := C
  intro H locs cells slots ls hH hS hc1 hs1 hl
  have hyr : -2147483648 ≤ (0 : Int) ∧ (0 : Int) < 2147483648 := by omega
  exact lv_if_eq hx hb d ht (fun q => kt ((zI_eq hxr hyr).mp q) H locs cells slots ls hH hS hc1 hs1 hl) (fun q => kf (fun h => q ((zI_eq hxr hyr).mpr h)) H locs cells slots ls hH hS hc1 hs1 hl)
theorem z_icmp_ne (C : zC X l D N0 cc nL own Ts) {x y : Int} {off : Int} {tgt : Nat} (d : decode cc pc = .ok (.if_icmp .ne off, 3)) (ht : (pc : Int) + off = (tgt : Int)) (kt : ¬ x = y → Z X μ kc kn tgt L st) (kf : x = y → Z X μ kc kn (pc + 3) L st) (hxr : -2147483648 ≤ x ∧ x < 2147483648 := by omega) (hyr : -2147483648 ≤ y ∧ y < 2147483648 := by omega) : Z X μ kc kn pc L (zi y :: zi x :: st) := by
  obtain ⟨p, l', e, R, s, m, args, below, meth, c, D', N', Q⟩ := X
  obtain ⟨rfl, rfl, rfl, hx, hb, hml, hown, hts, hlk, hB⟩ := C
  intro H locs cells slots ls hH hS hc1 hs1 hl
  exact lv_icmp_ne hx hb d ht (fun q => kt (fun h => q ((zI_eq hxr hyr).mpr h)) H locs cells slots ls hH hS hc1 hs1 hl) (fun q => kf ((zI_eq hxr hyr).mp q) H locs cells slots ls hH hS hc1 hs1 hl)
theorem z_if_ne (C : zC X l D N0 cc nL own Ts) {x : Int} {off : Int} {tgt : Nat} (d : decode cc pc = .ok (.ifCond .ne off, 3)) (ht : (pc : Int) + off = (tgt : Int)) (kt : ¬ x = 0 → Z X μ kc kn tgt L st) (kf : x = 0 → Z X μ kc kn (pc + 3) L st) (hxr : -2147483648 ≤ x ∧ x < 2147483648 := by omega) : Z X μ kc kn pc L (zi x :: st) := by
  obtain ⟨p, l', e, R, s, m, args, below, meth, c, D', N', Q⟩ := X
  obtain ⟨rfl, rfl, rfl, hx, hb, hml, hown, hts, hlk, hB⟩ := C
  intro H locs cells slots ls hH hS hc1 hs1 hl
  have hyr : -2147483648 ≤ (0 : Int) ∧ (0 : Int) < 2147483648 := by omega
  exact lv_if_ne hx hb d ht (fun q => kt (fun h => q ((zI_eq hxr hyr).mpr h)) H locs cells slots ls hH hS hc1 hs1 hl) (fun q => kf ((zI_eq hxr hyr).mp q) H locs cells slots ls hH hS hc1 hs1 hl)
theorem z_icmp_lt (C : zC X l D N0 cc nL own Ts) {x y : Int} {off : Int} {tgt : Nat} (d : decode cc pc = .ok (.if_icmp .lt off, 3)) (ht : (pc : Int) + off = (tgt : Int)) (kt : x < y → Z X μ kc kn tgt L st) (kf : y ≤ x → Z X μ kc kn (pc + 3) L st) (hxr : -2147483648 ≤ x ∧ x < 2147483648 := by omega) (hyr : -2147483648 ≤ y ∧ y < 2147483648 := by omega) : Z X μ kc kn pc L (zi y :: zi x :: st) := by
  obtain ⟨p, l', e, R, s, m, args, below, meth, c, D', N', Q⟩ := X
  obtain ⟨rfl, rfl, rfl, hx, hb, hml, hown, hts, hlk, hB⟩ := C
  intro H locs cells slots ls hH hS hc1 hs1 hl
  exact lv_icmp_lt hx hb d ht (fun q => kt ((zI_lt hxr hyr).mp q) H locs cells slots ls hH hS hc1 hs1 hl) (fun q => kf (Int.not_lt.mp (fun h => q ((zI_lt hxr hyr).mpr h))) H locs cells slots ls hH hS hc1 hs1 hl)
theorem z_if_lt (C : zC X l D N0 cc nL own Ts) {x : Int} {off : Int} {tgt : Nat} (d : decode cc pc = .ok (.ifCond .lt off, 3)) (ht : (pc : Int) + off = (tgt : Int)) (kt : x < 0 → Z X μ kc kn tgt L st) (kf : 0 ≤ x → Z X μ kc kn (pc + 3) L st) (hxr : -2147483648 ≤ x ∧ x < 2147483648 := by omega) : Z X μ kc kn pc L (zi x :: st) := by
  obtain ⟨p, l', e, R, s, m, args, below, meth, c, D', N', Q⟩ := X
  obtain ⟨rfl, rfl, rfl, hx, hb, hml, hown, hts, hlk, hB⟩ := C
  intro H locs cells slots ls hH hS hc1 hs1 hl
  have hyr : -2147483648 ≤ (0 : Int) ∧ (0 : Int) < 2147483648 := by omega
  exact lv_if_lt hx hb d ht (fun q => kt ((zI_lt hxr hyr).mp q) H locs cells slots ls hH hS hc1 hs1 hl) (fun q => kf (Int.not_lt.mp (fun h => q ((zI_lt hxr hyr).mpr h))) H locs cells slots ls hH hS hc1 hs1 hl)
theorem z_icmp_ge (C : zC X l D N0 cc nL own Ts) {x y : Int} {off : Int} {tgt : Nat} (d : decode cc pc = .ok (.if_icmp .ge off, 3)) (ht : (pc : Int) + off = (tgt : Int)) (kt : y ≤ x → Z X μ kc kn tgt L st) (kf : x < y → Z X μ kc kn (pc + 3) L st) (hxr : -2147483648 ≤ x ∧ x < 2147483648 := by omega) (hyr : -2147483648 ≤ y ∧ y < 2147483648 := by omega) : Z X μ kc kn pc L (zi y :: zi x :: st) := by
  obtain ⟨p, l', e, R, s, m, args, below, meth, c, D', N', Q⟩ := X
  obtain ⟨rfl, rfl, rfl, hx, hb, hml, hown, hts, hlk, hB⟩ := C
  intro H locs cells slots ls hH hS hc1 hs1 hl
  exact lv_icmp_ge hx hb d ht (fun q => kt ((zI_le hyr hxr).mp q) H locs cells slots ls hH hS hc1 hs1 hl) (fun q => kf (Int.not_le.mp (fun h => q ((zI_le hyr hxr).mpr h))) H locs cells slots ls hH hS hc1 hs1 hl)
theorem z_if_ge (C : zC X l D N0 cc nL own Ts) {x : Int} {off : Int} {tgt : Nat} (d : decode cc pc = .ok (.ifCond .ge off, 3)) (ht : (pc : Int) + off = (tgt : Int)) (kt : 0 ≤ x → Z X μ kc kn tgt L st) (kf : x < 0 → Z X μ kc kn (pc + 3) L st) (hxr : -2147483648 ≤ x ∧ x < 2147483648 := by omega) : Z X μ kc kn pc L (zi x :: st) := by
  obtain ⟨p, l', e, R, s, m, args, below, meth, c, D', N', Q⟩ := X
  obtain ⟨rfl, rfl, rfl, hx, hb, hml, hown, hts, hlk, hB⟩ := C
  intro H locs cells slots ls hH hS hc1 hs1 hl
  have hyr : -2147483648 ≤ (0 : Int) ∧ (0 : Int) < 2147483648 := by omega
  exact lv_if_ge hx hb d ht (fun q => kt ((zI_le hyr hxr).mp q) H locs cells slots ls hH hS hc1 hs1 hl) (fun q => kf (Int.not_le.mp (fun h => q ((zI_le hyr hxr).mpr h))) H locs cells slots ls hH hS hc1 hs1 hl)
theorem z_icmp_gt (C : zC X l D N0 cc nL own Ts) {x y : Int} {off : Int} {tgt : Nat} (d : decode cc pc = .ok (.if_icmp .gt off, 3)) (ht : (pc : Int) + off = (tgt : Int)) (kt : y < x → Z X μ kc kn tgt L st) (kf : x ≤ y → Z X μ kc kn (pc + 3) L st) (hxr : -2147483648 ≤ x ∧ x < 2147483648 := by omega) (hyr : -2147483648 ≤ y ∧ y < 2147483648 := by omega) : Z X μ kc kn pc L (zi y :: zi x :: st) := by
  obtain ⟨p, l', e, R, s, m, args, below, meth, c, D', N', Q⟩ := X
  obtain ⟨rfl, rfl, rfl, hx, hb, hml, hown, hts, hlk, hB⟩ := C
  intro H locs cells slots ls hH hS hc1 hs1 hl
  exact lv_icmp_gt hx hb d ht (fun q => kt ((zI_lt hyr hxr).mp q) H locs cells slots ls hH hS hc1 hs1 hl) (fun q => kf (Int.not_lt.mp (fun h => q ((zI_lt hyr hxr).mpr h))) H locs cells slots ls hH hS hc1 hs1 hl)
theorem z_if_gt (C : zC X l D N0 cc nL own Ts) {x : Int} {off : Int} {tgt : Nat} (d : decode cc pc = .ok (.ifCond .gt off, 3)) (ht : (pc : Int) + off = (tgt : Int)) (kt : 0 < x → Z X μ kc kn tgt L st) (kf : x ≤ 0 → Z X μ kc kn (pc + 3) L st) (hxr : -2147483648 ≤ x ∧ x < 2147483648 := by omega) : Z X μ kc kn pc L (zi x :: st) := by
  obtain ⟨p, l', e, R, s, m, args, below, meth, c, D', N', Q⟩ := X
  obtain ⟨rfl, rfl, rfl, hx, hb, hml, hown, hts, hlk, hB⟩ := C
  intro H locs cells slots ls hH hS hc1 hs1 hl
  have hyr : -2147483648 ≤ (0 : Int) ∧ (0 : Int) < 2147483648 := by omega
  exact lv_if_gt hx hb d ht (fun q => kt ((zI_lt hyr hxr).mp q) H locs cells slots ls hH hS hc1 hs1 hl) (fun q => kf (Int.not_lt.mp (fun h => q ((zI_lt hyr hxr).mpr h))) H locs cells slots ls hH hS hc1 hs1 hl)
theorem z_icmp_le (C : zC X l D N0 cc nL own Ts) {x y : Int} {off : Int} {tgt : Nat} (d : decode cc pc = .ok (.if_icmp .le off, 3)) (ht : (pc : Int) + off = (tgt : Int)) (kt : x ≤ y → Z X μ kc kn tgt L st) (kf : y < x → Z X μ kc kn (pc + 3) L st) (hxr : -2147483648 ≤ x ∧ x < 2147483648 := by omega) (hyr : -2147483648 ≤ y ∧ y < 2147483648 := by omega) : Z X μ kc kn pc L (zi y :: zi x :: st) := by
  obtain ⟨p, l', e, R, s, m, args, below, meth, c, D', N', Q⟩ := X
  obtain ⟨rfl, rfl, rfl, hx, hb, hml, hown, hts, hlk, hB⟩ := C
  intro H locs cells slots ls hH hS hc1 hs1 hl
  exact lv_icmp_le hx hb d ht (fun q => kt ((zI_le hxr hyr).mp q) H locs cells slots ls hH hS hc1 hs1 hl) (fun q => kf (Int.not_le.mp (fun h => q ((zI_le hxr hyr).mpr h))) H locs cells slots ls hH hS hc1 hs1 hl)
theorem z_if_le (C : zC X l D N0 cc nL own Ts) {x : Int} {off : Int} {tgt : Nat} (d : decode cc pc = .ok (.ifCond .le off, 3)) (ht : (pc : Int) + off = (tgt : Int)) (kt : x ≤ 0 → Z X μ kc kn tgt L st) (kf : 0 < x → Z X μ kc kn (pc + 3) L st) (hxr : -2147483648 ≤ x ∧ x < 2147483648 := by omega) : Z X μ kc kn pc L (zi x :: st) := by
  obtain ⟨p, l', e, R, s, m, args, below, meth, c, D', N', Q⟩ := X
  obtain ⟨rfl, rfl, rfl, hx, hb, hml, hown, hts, hlk, hB⟩ := C
  intro H locs cells slots ls hH hS hc1 hs1 hl
  have hyr : -2147483648 ≤ (0 : Int) ∧ (0 : Int) < 2147483648 := by omega
  exact lv_if_le hx hb d ht (fun q => kt ((zI_le hxr hyr).mp q) H locs cells slots ls hH hS hc1 hs1 hl) (fun q => kf (Int.not_le.mp (fun h => q ((zI_le hxr hyr).mpr h))) H locs cells slots ls hH hS hc1 hs1 hl)
theorem z_goto (C : zC X l D N0 cc nL own Ts) {off : Int} {tgt : Nat} (d : decode cc pc = .ok (.goto off, 3)) (ht : (pc : Int) + off = (tgt : Int)) (k : Z X μ kc kn tgt L st) : Z X μ kc kn pc L st := by
  obtain ⟨p, l', e, R, s, m, args, below, meth, c, D', N', Q⟩ := X
  obtain ⟨rfl, rfl, rfl, hx, hb, hml, hown, hts, hlk, hB⟩ := C
  intro H locs cells slots ls hH hS hc1 hs1 hl
  exact lv_goto hx hb d ht (k H locs cells slots ls hH hS hc1 hs1 hl)
theorem z_tableOut (C : zC X l D N0 cc nL own Ts) {dflt lo hi : Int} {offs : Array Int} {len : Nat} {x : Int} {tgt : Nat} (d : decode cc pc = .ok (.tableswitch dflt lo hi offs, len)) (h : x < lo ∨ hi < x) (ht : (pc : Int) + dflt = (tgt : Int)) (k : Z X μ kc kn tgt L st) (hxr : -2147483648 ≤ x ∧ x < 2147483648 := by omega) : Z X μ kc kn pc L (zi x :: st) := by
  obtain ⟨p, l', e, R, s, m, args, below, meth, c, D', N', Q⟩ := X
  obtain ⟨rfl, rfl, rfl, hx, hb, hml, hown, hts, hlk, hB⟩ := C
  intro H locs cells slots ls hH hS hc1 hs1 hl
  exact lv_tableOut hx hb d (by rw [zI hxr]; exact h) ht (k H locs cells slots ls hH hS hc1 hs1 hl)
theorem z_tableIn (C : zC X l D N0 cc nL own Ts) {dflt lo hi : Int} {offs : Array Int} {len : Nat} {x off : Int} {tgt : Nat} (d : decode cc pc = .ok (.tableswitch dflt lo hi offs, len)) (h1 : ¬ x < lo) (h2 : ¬ hi < x) (ho : offs[(x - lo).toNat]? = some off) (ht : (pc : Int) + off = (tgt : Int)) (k : Z X μ kc kn tgt L st) (hxr : -2147483648 ≤ x ∧ x < 2147483648 := by omega) : Z X μ kc kn pc L (zi x :: st) := by
  obtain ⟨p, l', e, R, s, m, args, below, meth, c, D', N', Q⟩ := X
  obtain ⟨rfl, rfl, rfl, hx, hb, hml, hown, hts, hlk, hB⟩ := C
  intro H locs cells slots ls hH hS hc1 hs1 hl
  have e0 := zI hxr
  exact lv_tableIn hx hb d (by rw [e0]; exact h1) (by rw [e0]; exact h2) (by rw [e0]; exact ho) ht (k H locs cells slots ls hH hS hc1 hs1 hl)
theorem z_get (C : zC X l D N0 cc nL own Ts) {a ci index : Nat} {fs : List Value} {CN : String} {T : u_T} {N : Nat} {v : Value} (hm : μ a = some (.inr (ci, fs))) (hc : vwCl[ci]? = some (CN, T, N)) (k : Nat) (hk : k < N) (hlink : Cond.fieldLink own index CN (T k).2.1 (T k).2.2.1 ∈ Ts) (hin : ∀ w ∈ u_ws CN T N, w ∈ Ts) (href : (T k).1 = CN) (hv : fs[k]? = some v) (d : decode cc pc = .ok (.getfield index, 3)) (kk : Z X μ kc kn (pc + 3) L (v :: st)) : Z X μ kc kn pc L (.ref a :: st) := by
  obtain ⟨p, l', e, R, s, m, args, below, meth, c, D', N', Q⟩ := X
  obtain ⟨rfl, rfl, rfl, hx, hb, hml, hown, hts, hlk, hB⟩ := C
  intro H locs cells slots ls hH hS hc1 hs1 hl
  exact va_get hx hb hts hin hown hB.1 (hH.one hm) 0 rfl hc k hk (hts _ hlink) (fun x q => by rw [← href]; exact q) hv d (kk H locs cells slots ls hH hS hc1 hs1 hl)
theorem z_put (C : zC X l D N0 cc nL own Ts) {a ci index : Nat} {fs : List Value} {CN : String} {T : u_T} {N : Nat} {v : Value} (hm : μ a = some (.inr (ci, fs))) (hc : vwCl[ci]? = some (CN, T, N)) (ty0 : Nat → FieldType) (hty : ∀ k, k < N → parseFieldDescriptor (T k).2.2.1 = some (ty0 k)) (hnm : ∀ a, a < N → ∀ b, b < N → a ≠ b → (T a).2.1 ≠ (T b).2.1) (k : Nat) (hk : k < N) (hlink : Cond.fieldLink own index CN (T k).2.1 (T k).2.2.1 ∈ Ts) (hin : ∀ w ∈ u_ws CN T N, w ∈ Ts) (href : (T k).1 = CN) (hfin : (T k).2.2.2 = false) (hn : narrow (ty0 k) v = v) (hfit : fits (ty0 k) v = true) (hlen : k < fs.length) (d : decode cc pc = .ok (.putfield index, 3)) (kk : Z X (zu μ a (.inr (ci, fs.set k v))) kc kn (pc + 3) L st) : Z X μ kc kn pc L (v :: .ref a :: st) := by
  obtain ⟨p, l', e, R, s, m, args, below, meth, c, D', N', Q⟩ := X
  obtain ⟨rfl, rfl, rfl, hx, hb, hml, hown, hts, hlk, hB⟩ := C
  intro H locs cells slots ls hH hS hc1 hs1 hl
  have hap := va_apart (own := own) hts hin ty0 hty hnm hB.1 hc
  obtain ⟨r, h1, cell, q1, q2, q3, q4⟩ := (hH a _ hm).1
  have hr : r = (CN, T, N) := Option.some.inj (h1.symm.trans hc)
  subst hr
  obtain ⟨hSl, hfc, kC, hkC, hkind⟩ := hB.1.1 ci _ hc
  obtain ⟨cf, kf, fi, f, hi, hsl⟩ := hSl k hk
  have hlay := hts _ (hin _ (u_in_lay hk))
  unfold u_lay at hlay
  rw [if_neg (by rw [hfin]; decide)] at hlay
  have hst := (u_facts hfc hkC (u_lays hts hin hk) hi).1
  have h6 := u_store hfc hkC hkind hlay hi (hty k hk) hn hfit
  refine W.putK hx hb (f := f) ⟨hown, hts _ hlink, ⟨_, _, _, by rw [← href]; exact hi⟩, hst⟩ (by rw [q2]; exact h6) q1 q3 (by rw [hsl]; exact k2_hasslot (q4 k hk)) rfl rfl d fun H' e1 e2 e3 => ?_
  rw [hsl] at e1 ⊢
  have hv9 : va_at D' vwCl (a, .inr (ci, fs.set k v)) H' := ⟨_, hc, t_OB.to (V := updV (vp_V fs) k v) ⟨_, e1, q2, q3, t_set q4 hap hk v⟩ (fun j _ => vp_updV_set hlen v j)⟩
  exact kk H' _ cells slots ls (hH.seta hv9 (hH a _ hm).2 e3) (hS.put e2 e3 (hH a _ hm).2) hc1 hs1 hl
theorem z_putF (C : zC X l D N0 cc nL own Ts) {a ci index : Nat} {fs : List Value} {CN : String} {T : u_T} {N : Nat} {v : Value} (hm : μ a = some (.inr (ci, fs))) (hc : vwCl[ci]? = some (CN, T, N)) (ty0 : Nat → FieldType) (hty : ∀ k, k < N → parseFieldDescriptor (T k).2.2.1 = some (ty0 k)) (hnm : ∀ a, a < N → ∀ b, b < N → a ≠ b → (T a).2.1 ≠ (T b).2.1) (k : Nat) (hk : k < N) (hlink : Cond.fieldLink own index CN (T k).2.1 (T k).2.2.1 ∈ Ts) (hin : ∀ w ∈ u_ws CN T N, w ∈ Ts) (href : (T k).1 = CN) (hfin : (T k).2.2.2 = true) (hin2 : zInit X) (hdecl : CN = own) (hn : narrow (ty0 k) v = v) (hfit : fits (ty0 k) v = true) (hlen : k < fs.length) (d : decode cc pc = .ok (.putfield index, 3)) (kk : Z X (zu μ a (.inr (ci, fs.set k v))) kc kn (pc + 3) L st) : Z X μ kc kn pc L (v :: .ref a :: st) := by
  obtain ⟨p, l', e, R, s, m, args, below, meth, c, D', N', Q⟩ := X
  obtain ⟨rfl, rfl, rfl, hx, hb, hml, hown, hts, hlk, hB⟩ := C
  intro H locs cells slots ls hH hS hc1 hs1 hl
  have hap := va_apart (own := own) hts hin ty0 hty hnm hB.1 hc
  obtain ⟨r, h1, cell, q1, q2, q3, q4⟩ := (hH a _ hm).1
  have hr : r = (CN, T, N) := Option.some.inj (h1.symm.trans hc)
  subst hr
  obtain ⟨hSl, hfc, kC, hkC, hkind⟩ := hB.1.1 ci _ hc
  obtain ⟨cf, kf, fi, f, hi, hsl⟩ := hSl k hk
  have hlay := hts _ (hin _ (u_in_lay hk))
  unfold u_lay at hlay
  rw [if_pos hfin] at hlay
  have hst := (u_facts hfc hkC (u_lays hts hin hk) hi).1
  have hcf : m.cls = cf := by
    obtain ⟨_, _, c', _, _, _, -, -, hf', -, -, -, hown2, -⟩ := Cond.laysFinal_spec hlay
    have e1 : c' = cf := by have := hi.symm.trans hf'; simp at this; exact this.1.symm
    rw [href, hdecl] at hown2
    rw [← e1]; exact Option.some.inj (hown.symm.trans hown2)
  have h6 := u_fits hfc hkC hkind (Or.inr hlay) hi (hty k hk) hn hfit
  refine W.putFinK hx hb hown (hts _ hlink) (by rw [← href]; exact hi) hst hcf hin2 (by rw [q2]; exact h6) q1 q3 (by rw [hsl]; exact k2_hasslot (q4 k hk)) rfl rfl d fun H' e1 e2 e3 => ?_
  rw [hsl] at e1 ⊢
  have hv9 : va_at D' vwCl (a, .inr (ci, fs.set k v)) H' := ⟨_, hc, t_OB.to (V := updV (vp_V fs) k v) ⟨_, e1, q2, q3, t_set q4 hap hk v⟩ (fun j _ => vp_updV_set hlen v j)⟩
  exact kk H' _ cells slots ls (hH.seta hv9 (hH a _ hm).2 e3) (hS.put e2 e3 (hH a _ hm).2) hc1 hs1 hl
theorem z_iald (C : zC X l D N0 cc nL own Ts) {a n : Nat} {g : Nat → Int} {i : Int} (hm : μ a = some (zAI D n g)) (hn : n < 2147483648) (d : decode cc pc = .ok (.iaload, 1)) (k : Z X μ kc kn (pc + 1) L (zi (g i.toNat) :: st)) (hi : 0 ≤ i ∧ i < n := by omega) : Z X μ kc kn pc L (zi i :: .ref a :: st) := by
  obtain ⟨p, l', e, R, s, m, args, below, meth, c, D', N', Q⟩ := X
  obtain ⟨rfl, rfl, rfl, hx, hb, hml, hown, hts, hlk, hB⟩ := C
  intro H locs cells slots ls hH hS hc1 hs1 hl
  have k2 := k H locs cells slots ls hH hS hc1 hs1 hl
  rw [← zI_nc (a := i) (by omega)] at k2
  exact va_iald hx hb hB.1 (hH.one hm) 0 0 rfl rfl (zI_in hi hn) d k2
theorem z_zald (C : zC X l D N0 cc nL own Ts) {a n : Nat} {g : Nat → Int} {i : Int} (hm : μ a = some (zAZ D n g)) (hn : n < 2147483648) (d : decode cc pc = .ok (.baload, 1)) (k : Z X μ kc kn (pc + 1) L (zi (g i.toNat) :: st)) (hi : 0 ≤ i ∧ i < n := by omega) : Z X μ kc kn pc L (zi i :: .ref a :: st) := by
  obtain ⟨p, l', e, R, s, m, args, below, meth, c, D', N', Q⟩ := X
  obtain ⟨rfl, rfl, rfl, hx, hb, hml, hown, hts, hlk, hB⟩ := C
  intro H locs cells slots ls hH hS hc1 hs1 hl
  have k2 := k H locs cells slots ls hH hS hc1 hs1 hl
  rw [← zI_nc (a := i) (by omega)] at k2
  exact va_zald hx hb hB.1 (hH.one hm) 0 2 rfl rfl (zI_in hi hn) d k2
theorem z_lald (C : zC X l D N0 cc nL own Ts) {a n : Nat} {f : Nat → Int64} {i : Int} (hm : μ a = some (zAL D n f)) (hn : n < 2147483648) (d : decode cc pc = .ok (.laload, 1)) (k : Z X μ kc kn (pc + 1) L (.long (f i.toNat) :: st)) (hi : 0 ≤ i ∧ i < n := by omega) : Z X μ kc kn pc L (zi i :: .ref a :: st) := by
  obtain ⟨p, l', e, R, s, m, args, below, meth, c, D', N', Q⟩ := X
  obtain ⟨rfl, rfl, rfl, hx, hb, hml, hown, hts, hlk, hB⟩ := C
  intro H locs cells slots ls hH hS hc1 hs1 hl
  have k2 := k H locs cells slots ls hH hS hc1 hs1 hl
  rw [← zI_nc (a := i) (by omega)] at k2
  exact va_lald hx hb hB.1 (hH.one hm) 0 1 rfl rfl (zI_in hi hn) d k2
theorem z_fald (C : zC X l D N0 cc nL own Ts) {a n : Nat} {f : Nat → Option Nat} {i : Int} {b : Nat} (hm : μ a = some (zAF D n f)) (hn : n < 2147483648) (hf : f i.toNat = some b) (d : decode cc pc = .ok (.aaload, 1)) (k : Z X μ kc kn (pc + 1) L (.ref b :: st)) (hi : 0 ≤ i ∧ i < n := by omega) : Z X μ kc kn pc L (zi i :: .ref a :: st) := by
  obtain ⟨p, l', e, R, s, m, args, below, meth, c, D', N', Q⟩ := X
  obtain ⟨rfl, rfl, rfl, hx, hb, hml, hown, hts, hlk, hB⟩ := C
  intro H locs cells slots ls hH hS hc1 hs1 hl
  have k2 := k H locs cells slots ls hH hS hc1 hs1 hl
  refine va_aldq hx hb hB.1 (hH.one hm) 0 4 rfl rfl (zI_in hi hn) d ?_
  rw [zI_nc (a := i) (by omega), hf]
  exact k2
theorem z_bald (C : zC X l D N0 cc nL own Ts) {a n : Nat} {f : Nat → Option Nat} {i : Int} {b : Nat} (hm : μ a = some (zAB D n f)) (hn : n < 2147483648) (hf : f i.toNat = some b) (d : decode cc pc = .ok (.aaload, 1)) (k : Z X μ kc kn (pc + 1) L (.ref b :: st)) (hi : 0 ≤ i ∧ i < n := by omega) : Z X μ kc kn pc L (zi i :: .ref a :: st) := by
  obtain ⟨p, l', e, R, s, m, args, below, meth, c, D', N', Q⟩ := X
  obtain ⟨rfl, rfl, rfl, hx, hb, hml, hown, hts, hlk, hB⟩ := C
  intro H locs cells slots ls hH hS hc1 hs1 hl
  have k2 := k H locs cells slots ls hH hS hc1 hs1 hl
  refine va_aldg hx hb hB.1 (hH.one hm) 0 5 rfl rfl (zI_in hi hn) d ?_
  rw [zI_nc (a := i) (by omega), hf]
  exact k2
theorem z_alen (C : zC X l D N0 cc nL own Ts) {a n : Nat} {cA : ClassId} {x} (hm : μ a = some (.inl (cA, n, x))) (t0 : Nat) {ty : FieldType} (ht : (zTY D)[t0]? = some (cA, ty)) (d : decode cc pc = .ok (.arraylength, 1)) (k : Z X μ kc kn (pc + 1) L (zi (n : Int) :: st)) : Z X μ kc kn pc L (.ref a :: st) := by
  obtain ⟨p, l', e, R, s, m, args, below, meth, c, D', N', Q⟩ := X
  obtain ⟨rfl, rfl, rfl, hx, hb, hml, hown, hts, hlk, hB⟩ := C
  intro H locs cells slots ls hH hS hc1 hs1 hl
  exact va_alen hx hb hB.1 (hH.one hm) 0 t0 rfl ht rfl d (k H locs cells slots ls hH hS hc1 hs1 hl)
theorem z_iast (C : zC X l D N0 cc nL own Ts) {a n : Nat} {g : Nat → Int} {i x : Int} (hm : μ a = some (zAI D n g)) (hn : n < 2147483648) (d : decode cc pc = .ok (.iastore, 1)) (k : Z X (zu μ a (zAI D n (zw g i.toNat x))) kc kn (pc + 1) L st) (hi : 0 ≤ i ∧ i < n := by omega) : Z X μ kc kn pc L (zi x :: zi i :: .ref a :: st) := by
  obtain ⟨p, l', e, R, s, m, args, below, meth, c, D', N', Q⟩ := X
  obtain ⟨rfl, rfl, rfl, hx, hb, hml, hown, hts, hlk, hB⟩ := C
  intro H locs cells slots ls hH hS hc1 hs1 hl
  refine W.iast hx hb (hH a _ hm).1 ((hB.1.2 0 _ rfl).1 n (fun j => .int (Int32.ofInt (g j)))) (fun q => by cases q) (by show ¬ (_ < 0 ∨ (arrV _ _ _).slots.size ≤ _); rw [arrV_size]; exact zI_in hi hn) rfl rfl d fun H1 e z oq => ?_
  refine k H1 _ cells slots ls (hH.seta ?_ (hH a _ hm).2 oq) (hS.put z oq (hH a _ hm).2) hc1 hs1 hl
  show H1[a]? = some (vp_cell _ _)
  rw [e, vp_cell_i, vp_cell_i, arrV_store, zI_nc (by omega)]
  congr 2
  funext q
  by_cases hq : q = i.toNat
  · subst hq
    simp [updV, zw]
  · simp [updV, zw, hq]
theorem z_zast (C : zC X l D N0 cc nL own Ts) {a n : Nat} {g : Nat → Int} {i x : Int} (hm : μ a = some (zAZ D n g)) (hn : n < 2147483648) (hx01 : x = 0 ∨ x = 1) (d : decode cc pc = .ok (.bastore, 1)) (k : Z X (zu μ a (zAZ D n (zw g i.toNat x))) kc kn (pc + 1) L st) (hi : 0 ≤ i ∧ i < n := by omega) : Z X μ kc kn pc L (zi x :: zi i :: .ref a :: st) := by
  obtain ⟨p, l', e, R, s, m, args, below, meth, c, D', N', Q⟩ := X
  obtain ⟨rfl, rfl, rfl, hx, hb, hml, hown, hts, hlk, hB⟩ := C
  intro H locs cells slots ls hH hS hc1 hs1 hl
  refine W.zast hx hb (hH a _ hm).1 ((hB.1.2 2 _ rfl).1 n (fun j => .int (Int32.ofInt (g j)))) (fun q => by cases q) (by show ¬ (_ < 0 ∨ (arrV _ _ _).slots.size ≤ _); rw [arrV_size]; exact zI_in hi hn) rfl rfl d fun H1 e z oq => ?_
  refine k H1 _ cells slots ls (hH.seta ?_ (hH a _ hm).2 oq) (hS.put z oq (hH a _ hm).2) hc1 hs1 hl
  show H1[a]? = some (vp_cell _ _)
  have e9 : narrow .boolean (.int (Int32.ofInt x)) = .int (Int32.ofInt x) := by rcases hx01 with q | q <;> subst q <;> rfl
  rw [e, vp_cell_i, vp_cell_i, arrV_store, zI_nc (by omega), e9]
  congr 2
  funext q
  by_cases hq : q = i.toNat
  · subst hq
    simp [updV, zw]
  · simp [updV, zw, hq]
theorem z_last (C : zC X l D N0 cc nL own Ts) {a n : Nat} {f : Nat → Int64} {i : Int} {x : Int64} (hm : μ a = some (zAL D n f)) (hn : n < 2147483648) (d : decode cc pc = .ok (.lastore, 1)) (k : Z X (zu μ a (zAL D n (zw f i.toNat x))) kc kn (pc + 1) L st) (hi : 0 ≤ i ∧ i < n := by omega) : Z X μ kc kn pc L (.long x :: zi i :: .ref a :: st) := by
  obtain ⟨p, l', e, R, s, m, args, below, meth, c, D', N', Q⟩ := X
  obtain ⟨rfl, rfl, rfl, hx, hb, hml, hown, hts, hlk, hB⟩ := C
  intro H locs cells slots ls hH hS hc1 hs1 hl
  refine W.last hx hb (hH a _ hm).1 ((hB.1.2 1 _ rfl).1 n (fun j => .long (f j))) (fun q => by cases q) (by show ¬ (_ < 0 ∨ (arrV _ _ _).slots.size ≤ _); rw [arrV_size]; exact zI_in hi hn) rfl rfl d fun H1 e z oq => ?_
  refine k H1 _ cells slots ls (hH.seta ?_ (hH a _ hm).2 oq) (hS.put z oq (hH a _ hm).2) hc1 hs1 hl
  show H1[a]? = some (vp_cell _ _)
  rw [e, vp_cell_l, vp_cell_l, arrV_store, zI_nc (by omega)]
  congr 2
  funext q
  by_cases hq : q = i.toNat
  · subst hq
    simp [updV, zw]
  · simp [updV, zw, hq]
end ZROWS
end
