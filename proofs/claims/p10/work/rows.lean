section
-- ===== PART A: goes FIRST, ahead of the names: the tables' words, and 'selects' of the private methods out of them =====
/-- a private method of a class that the tables say can be made, by its rows of tables_1 -/
def lw_okq (q : MethodName × Nat) : Prop := (q.1.cls ≠ "java/lang/invoke/MethodHandle" ∧ q.1.cls ≠ "java/lang/invoke/VarHandle") ∧ Cond.instantiable q.1.cls q.2 ∈ tables_1 ∧ Cond.privateMethod q.1 ∈ tables_1 ∧ Cond.instanceMethod q.1 ∈ tables_1
theorem lw_p0 : lw_okq (⟨"ScrimshawKernel$History", "isAt", "(I)Z"⟩, 4) := ⟨⟨by decide +kernel, by decide +kernel⟩, List.mem_of_getElem? (i := 72) (by decide +kernel), List.mem_of_getElem? (i := 227) (by decide +kernel), List.mem_of_getElem? (i := 228) (by decide +kernel)⟩
theorem lw_p1 : lw_okq (⟨"ScrimshawKernel$Flood", "countParts", "(Z)I"⟩, 4) := ⟨⟨by decide +kernel, by decide +kernel⟩, List.mem_of_getElem? (i := 93) (by decide +kernel), List.mem_of_getElem? (i := 276) (by decide +kernel), List.mem_of_getElem? (i := 277) (by decide +kernel)⟩
theorem lw_p2 : lw_okq (⟨"ScrimshawKernel$Flood", "take", "(IIZ)V"⟩, 4) := ⟨⟨by decide +kernel, by decide +kernel⟩, List.mem_of_getElem? (i := 93) (by decide +kernel), List.mem_of_getElem? (i := 285) (by decide +kernel), List.mem_of_getElem? (i := 286) (by decide +kernel)⟩
theorem lw_p3 : lw_okq (⟨"ScrimshawKernel$Flood", "spread", "(Z)V"⟩, 4) := ⟨⟨by decide +kernel, by decide +kernel⟩, List.mem_of_getElem? (i := 93) (by decide +kernel), List.mem_of_getElem? (i := 300) (by decide +kernel), List.mem_of_getElem? (i := 301) (by decide +kernel)⟩
theorem lw_p4 : lw_okq (⟨"ScrimshawKernel$Flood", "spreadInto", "(IZ)Z"⟩, 4) := ⟨⟨by decide +kernel, by decide +kernel⟩, List.mem_of_getElem? (i := 93) (by decide +kernel), List.mem_of_getElem? (i := 304) (by decide +kernel), List.mem_of_getElem? (i := 305) (by decide +kernel)⟩
theorem lw_p5 : lw_okq (⟨"ScrimshawKernel$Flood", "removeFound", "()V"⟩, 4) := ⟨⟨by decide +kernel, by decide +kernel⟩, List.mem_of_getElem? (i := 93) (by decide +kernel), List.mem_of_getElem? (i := 318) (by decide +kernel), List.mem_of_getElem? (i := 319) (by decide +kernel)⟩
theorem lw_p6 : lw_okq (⟨"ScrimshawKernel$Flood", "findHoles", "(LScrimshawKernel$Fields;)V"⟩, 4) := ⟨⟨by decide +kernel, by decide +kernel⟩, List.mem_of_getElem? (i := 93) (by decide +kernel), List.mem_of_getElem? (i := 327) (by decide +kernel), List.mem_of_getElem? (i := 328) (by decide +kernel)⟩
theorem lw_p7 : lw_okq (⟨"ScrimshawKernel$Fields", "columns", "()J"⟩, 1) := ⟨⟨by decide +kernel, by decide +kernel⟩, List.mem_of_getElem? (i := 29) (by decide +kernel), List.mem_of_getElem? (i := 341) (by decide +kernel), List.mem_of_getElem? (i := 342) (by decide +kernel)⟩
theorem lw_p8 : lw_okq (⟨"ScrimshawKernel$Outline", "beginAt", "(II)V"⟩, 12) := ⟨⟨by decide +kernel, by decide +kernel⟩, List.mem_of_getElem? (i := 114) (by decide +kernel), List.mem_of_getElem? (i := 376) (by decide +kernel), List.mem_of_getElem? (i := 377) (by decide +kernel)⟩
theorem lw_p9 : lw_okq (⟨"ScrimshawKernel$Outline", "walk", "()V"⟩, 12) := ⟨⟨by decide +kernel, by decide +kernel⟩, List.mem_of_getElem? (i := 114) (by decide +kernel), List.mem_of_getElem? (i := 381) (by decide +kernel), List.mem_of_getElem? (i := 382) (by decide +kernel)⟩
theorem lw_p10 : lw_okq (⟨"ScrimshawKernel$Outline", "noteCorner", "()V"⟩, 12) := ⟨⟨by decide +kernel, by decide +kernel⟩, List.mem_of_getElem? (i := 114) (by decide +kernel), List.mem_of_getElem? (i := 385) (by decide +kernel), List.mem_of_getElem? (i := 386) (by decide +kernel)⟩
theorem lw_p11 : lw_okq (⟨"ScrimshawKernel$Outline", "noteEdge", "()V"⟩, 12) := ⟨⟨by decide +kernel, by decide +kernel⟩, List.mem_of_getElem? (i := 114) (by decide +kernel), List.mem_of_getElem? (i := 389) (by decide +kernel), List.mem_of_getElem? (i := 390) (by decide +kernel)⟩
theorem lw_p12 : lw_okq (⟨"ScrimshawKernel$Outline", "goOn", "()V"⟩, 12) := ⟨⟨by decide +kernel, by decide +kernel⟩, List.mem_of_getElem? (i := 114) (by decide +kernel), List.mem_of_getElem? (i := 394) (by decide +kernel), List.mem_of_getElem? (i := 395) (by decide +kernel)⟩
theorem lw_p13 : lw_okq (⟨"ScrimshawKernel", "digestOfContours", "(JLScrimshawKernel$Fields;)J"⟩, 7) := ⟨⟨by decide +kernel, by decide +kernel⟩, List.mem_of_getElem? (i := 20) (by decide +kernel), List.mem_of_getElem? (i := 402) (by decide +kernel), List.mem_of_getElem? (i := 403) (by decide +kernel)⟩
theorem lw_p14 : lw_okq (⟨"ScrimshawKernel$StripWalk", "isRunAt", "(IJ)Z"⟩, 7) := ⟨⟨by decide +kernel, by decide +kernel⟩, List.mem_of_getElem? (i := 159) (by decide +kernel), List.mem_of_getElem? (i := 442) (by decide +kernel), List.mem_of_getElem? (i := 443) (by decide +kernel)⟩
theorem lw_p15 : lw_okq (⟨"ScrimshawKernel$StripWalk", "take", "(J)V"⟩, 7) := ⟨⟨by decide +kernel, by decide +kernel⟩, List.mem_of_getElem? (i := 159) (by decide +kernel), List.mem_of_getElem? (i := 446) (by decide +kernel), List.mem_of_getElem? (i := 447) (by decide +kernel)⟩
def lw_privs_1 : List (MethodName × Nat) := [(⟨"ScrimshawKernel$History", "isAt", "(I)Z"⟩, 4), (⟨"ScrimshawKernel$Flood", "countParts", "(Z)I"⟩, 4), (⟨"ScrimshawKernel$Flood", "take", "(IIZ)V"⟩, 4), (⟨"ScrimshawKernel$Flood", "spread", "(Z)V"⟩, 4), (⟨"ScrimshawKernel$Flood", "spreadInto", "(IZ)Z"⟩, 4), (⟨"ScrimshawKernel$Flood", "removeFound", "()V"⟩, 4), (⟨"ScrimshawKernel$Flood", "findHoles", "(LScrimshawKernel$Fields;)V"⟩, 4), (⟨"ScrimshawKernel$Fields", "columns", "()J"⟩, 1), (⟨"ScrimshawKernel$Outline", "beginAt", "(II)V"⟩, 12), (⟨"ScrimshawKernel$Outline", "walk", "()V"⟩, 12), (⟨"ScrimshawKernel$Outline", "noteCorner", "()V"⟩, 12), (⟨"ScrimshawKernel$Outline", "noteEdge", "()V"⟩, 12), (⟨"ScrimshawKernel$Outline", "goOn", "()V"⟩, 12), (⟨"ScrimshawKernel", "digestOfContours", "(JLScrimshawKernel$Fields;)J"⟩, 7), (⟨"ScrimshawKernel$StripWalk", "isRunAt", "(IJ)Z"⟩, 7), (⟨"ScrimshawKernel$StripWalk", "take", "(J)V"⟩, 7)]
theorem lw_r1 : ∀ q ∈ lw_privs_1, lw_okq q := List.forall_mem_cons.mpr ⟨lw_p0, List.forall_mem_cons.mpr ⟨lw_p1, List.forall_mem_cons.mpr ⟨lw_p2, List.forall_mem_cons.mpr ⟨lw_p3, List.forall_mem_cons.mpr ⟨lw_p4, List.forall_mem_cons.mpr ⟨lw_p5, List.forall_mem_cons.mpr ⟨lw_p6, List.forall_mem_cons.mpr ⟨lw_p7, List.forall_mem_cons.mpr ⟨lw_p8, List.forall_mem_cons.mpr ⟨lw_p9, List.forall_mem_cons.mpr ⟨lw_p10, List.forall_mem_cons.mpr ⟨lw_p11, List.forall_mem_cons.mpr ⟨lw_p12, List.forall_mem_cons.mpr ⟨lw_p13, List.forall_mem_cons.mpr ⟨lw_p14, List.forall_mem_cons.mpr ⟨lw_p15, fun _ h => absurd h List.not_mem_nil⟩⟩⟩⟩⟩⟩⟩⟩⟩⟩⟩⟩⟩⟩⟩⟩
theorem lw_p16 : lw_okq (⟨"ScrimshawKernel", "digestOfStrips", "(JLScrimshawKernel$Fields;)J"⟩, 7) := ⟨⟨by decide +kernel, by decide +kernel⟩, List.mem_of_getElem? (i := 20) (by decide +kernel), List.mem_of_getElem? (i := 452) (by decide +kernel), List.mem_of_getElem? (i := 453) (by decide +kernel)⟩
theorem lw_p17 : lw_okq (⟨"java/lang/Throwable", "fillInStackTrace", "(I)Ljava/lang/Throwable;"⟩, 6) := ⟨⟨by decide +kernel, by decide +kernel⟩, List.mem_of_getElem? (i := 517) (by decide +kernel), List.mem_of_getElem? (i := 515) (by decide +kernel), List.mem_of_getElem? (i := 516) (by decide +kernel)⟩
theorem lw_p18 : lw_okq (⟨"ScrimshawKernel", "checkLine", "(IJ)V"⟩, 7) := ⟨⟨by decide +kernel, by decide +kernel⟩, List.mem_of_getElem? (i := 20) (by decide +kernel), List.mem_of_getElem? (i := 567) (by decide +kernel), List.mem_of_getElem? (i := 568) (by decide +kernel)⟩
theorem lw_p19 : lw_okq (⟨"ScrimshawKernel", "regionAt", "(I)LScrimshawKernel$Fields;"⟩, 7) := ⟨⟨by decide +kernel, by decide +kernel⟩, List.mem_of_getElem? (i := 20) (by decide +kernel), List.mem_of_getElem? (i := 612) (by decide +kernel), List.mem_of_getElem? (i := 613) (by decide +kernel)⟩
theorem lw_p20 : lw_okq (⟨"ScrimshawKernel$Pen", "countCrossings", "(I)V"⟩, 8) := ⟨⟨by decide +kernel, by decide +kernel⟩, List.mem_of_getElem? (i := 40) (by decide +kernel), List.mem_of_getElem? (i := 645) (by decide +kernel), List.mem_of_getElem? (i := 646) (by decide +kernel)⟩
theorem lw_p21 : lw_okq (⟨"ScrimshawKernel$Pen", "addCrossing", "(IIII)V"⟩, 8) := ⟨⟨by decide +kernel, by decide +kernel⟩, List.mem_of_getElem? (i := 40) (by decide +kernel), List.mem_of_getElem? (i := 652) (by decide +kernel), List.mem_of_getElem? (i := 653) (by decide +kernel)⟩
theorem lw_p22 : lw_okq (⟨"ScrimshawKernel$Pen", "inside", "(I)J"⟩, 8) := ⟨⟨by decide +kernel, by decide +kernel⟩, List.mem_of_getElem? (i := 40) (by decide +kernel), List.mem_of_getElem? (i := 656) (by decide +kernel), List.mem_of_getElem? (i := 657) (by decide +kernel)⟩
theorem lw_p23 : lw_okq (⟨"ScrimshawKernel", "walkTo", "(III)V"⟩, 7) := ⟨⟨by decide +kernel, by decide +kernel⟩, List.mem_of_getElem? (i := 20) (by decide +kernel), List.mem_of_getElem? (i := 855) (by decide +kernel), List.mem_of_getElem? (i := 856) (by decide +kernel)⟩
theorem lw_p24 : lw_okq (⟨"ScrimshawKernelModel", "no", "(I)I"⟩, 8) := ⟨⟨by decide +kernel, by decide +kernel⟩, List.mem_of_getElem? (i := 967) (by decide +kernel), List.mem_of_getElem? (i := 1013) (by decide +kernel), List.mem_of_getElem? (i := 1014) (by decide +kernel)⟩
theorem lw_p25 : lw_okq (⟨"ScrimshawKernelModel", "line", "(II)I"⟩, 8) := ⟨⟨by decide +kernel, by decide +kernel⟩, List.mem_of_getElem? (i := 967) (by decide +kernel), List.mem_of_getElem? (i := 1021) (by decide +kernel), List.mem_of_getElem? (i := 1022) (by decide +kernel)⟩
theorem lw_p26 : lw_okq (⟨"ScrimshawKernelModel", "change", "(I[Z)I"⟩, 8) := ⟨⟨by decide +kernel, by decide +kernel⟩, List.mem_of_getElem? (i := 967) (by decide +kernel), List.mem_of_getElem? (i := 1044) (by decide +kernel), List.mem_of_getElem? (i := 1045) (by decide +kernel)⟩
theorem lw_p27 : lw_okq (⟨"ScrimshawKernelModel", "edgesNow", "(I)I"⟩, 8) := ⟨⟨by decide +kernel, by decide +kernel⟩, List.mem_of_getElem? (i := 967) (by decide +kernel), List.mem_of_getElem? (i := 1131) (by decide +kernel), List.mem_of_getElem? (i := 1132) (by decide +kernel)⟩
theorem lw_p28 : lw_okq (⟨"ScrimshawKernelModel", "holesNow", "(I)I"⟩, 8) := ⟨⟨by decide +kernel, by decide +kernel⟩, List.mem_of_getElem? (i := 967) (by decide +kernel), List.mem_of_getElem? (i := 1143) (by decide +kernel), List.mem_of_getElem? (i := 1144) (by decide +kernel)⟩
theorem lw_p29 : lw_okq (⟨"ScrimshawKernelModel", "boundNow", "(II)I"⟩, 8) := ⟨⟨by decide +kernel, by decide +kernel⟩, List.mem_of_getElem? (i := 967) (by decide +kernel), List.mem_of_getElem? (i := 1155) (by decide +kernel), List.mem_of_getElem? (i := 1156) (by decide +kernel)⟩
theorem lw_p30 : lw_okq (⟨"ScrimshawKernelModel", "contoursNow", "(I)[I"⟩, 8) := ⟨⟨by decide +kernel, by decide +kernel⟩, List.mem_of_getElem? (i := 967) (by decide +kernel), List.mem_of_getElem? (i := 1163) (by decide +kernel), List.mem_of_getElem? (i := 1164) (by decide +kernel)⟩
theorem lw_p31 : lw_okq (⟨"ScrimshawKernelModel", "ofContour", "(III)I"⟩, 8) := ⟨⟨by decide +kernel, by decide +kernel⟩, List.mem_of_getElem? (i := 967) (by decide +kernel), List.mem_of_getElem? (i := 1183) (by decide +kernel), List.mem_of_getElem? (i := 1184) (by decide +kernel)⟩
def lw_privs_2 : List (MethodName × Nat) := [(⟨"ScrimshawKernel", "digestOfStrips", "(JLScrimshawKernel$Fields;)J"⟩, 7), (⟨"java/lang/Throwable", "fillInStackTrace", "(I)Ljava/lang/Throwable;"⟩, 6), (⟨"ScrimshawKernel", "checkLine", "(IJ)V"⟩, 7), (⟨"ScrimshawKernel", "regionAt", "(I)LScrimshawKernel$Fields;"⟩, 7), (⟨"ScrimshawKernel$Pen", "countCrossings", "(I)V"⟩, 8), (⟨"ScrimshawKernel$Pen", "addCrossing", "(IIII)V"⟩, 8), (⟨"ScrimshawKernel$Pen", "inside", "(I)J"⟩, 8), (⟨"ScrimshawKernel", "walkTo", "(III)V"⟩, 7), (⟨"ScrimshawKernelModel", "no", "(I)I"⟩, 8), (⟨"ScrimshawKernelModel", "line", "(II)I"⟩, 8), (⟨"ScrimshawKernelModel", "change", "(I[Z)I"⟩, 8), (⟨"ScrimshawKernelModel", "edgesNow", "(I)I"⟩, 8), (⟨"ScrimshawKernelModel", "holesNow", "(I)I"⟩, 8), (⟨"ScrimshawKernelModel", "boundNow", "(II)I"⟩, 8), (⟨"ScrimshawKernelModel", "contoursNow", "(I)[I"⟩, 8), (⟨"ScrimshawKernelModel", "ofContour", "(III)I"⟩, 8)]
theorem lw_r2 : ∀ q ∈ lw_privs_2, lw_okq q := List.forall_mem_cons.mpr ⟨lw_p16, List.forall_mem_cons.mpr ⟨lw_p17, List.forall_mem_cons.mpr ⟨lw_p18, List.forall_mem_cons.mpr ⟨lw_p19, List.forall_mem_cons.mpr ⟨lw_p20, List.forall_mem_cons.mpr ⟨lw_p21, List.forall_mem_cons.mpr ⟨lw_p22, List.forall_mem_cons.mpr ⟨lw_p23, List.forall_mem_cons.mpr ⟨lw_p24, List.forall_mem_cons.mpr ⟨lw_p25, List.forall_mem_cons.mpr ⟨lw_p26, List.forall_mem_cons.mpr ⟨lw_p27, List.forall_mem_cons.mpr ⟨lw_p28, List.forall_mem_cons.mpr ⟨lw_p29, List.forall_mem_cons.mpr ⟨lw_p30, List.forall_mem_cons.mpr ⟨lw_p31, fun _ h => absurd h List.not_mem_nil⟩⟩⟩⟩⟩⟩⟩⟩⟩⟩⟩⟩⟩⟩⟩⟩
theorem lw_p32 : lw_okq (⟨"ScrimshawKernelModel", "corner", "(IIII)I"⟩, 8) := ⟨⟨by decide +kernel, by decide +kernel⟩, List.mem_of_getElem? (i := 967) (by decide +kernel), List.mem_of_getElem? (i := 1198) (by decide +kernel), List.mem_of_getElem? (i := 1199) (by decide +kernel)⟩
theorem lw_p33 : lw_okq (⟨"ScrimshawKernelModel", "stripsNow", "(I)[I"⟩, 8) := ⟨⟨by decide +kernel, by decide +kernel⟩, List.mem_of_getElem? (i := 967) (by decide +kernel), List.mem_of_getElem? (i := 1211) (by decide +kernel), List.mem_of_getElem? (i := 1212) (by decide +kernel)⟩
theorem lw_p34 : lw_okq (⟨"ScrimshawKernelModel", "hatching", "(IIIIZ)I"⟩, 8) := ⟨⟨by decide +kernel, by decide +kernel⟩, List.mem_of_getElem? (i := 967) (by decide +kernel), List.mem_of_getElem? (i := 1226) (by decide +kernel), List.mem_of_getElem? (i := 1227) (by decide +kernel)⟩
def lw_privs_3 : List (MethodName × Nat) := [(⟨"ScrimshawKernelModel", "corner", "(IIII)I"⟩, 8), (⟨"ScrimshawKernelModel", "stripsNow", "(I)[I"⟩, 8), (⟨"ScrimshawKernelModel", "hatching", "(IIIIZ)I"⟩, 8)]
theorem lw_r3 : ∀ q ∈ lw_privs_3, lw_okq q := List.forall_mem_cons.mpr ⟨lw_p32, List.forall_mem_cons.mpr ⟨lw_p33, List.forall_mem_cons.mpr ⟨lw_p34, fun _ h => absurd h List.not_mem_nil⟩⟩⟩
def lw_privs : List (MethodName × Nat) := lw_privs_1 ++ (lw_privs_2 ++ (lw_privs_3))
def lw_tbl : List Cond := k2_sels lw_privs ++ tables_1
theorem lw_privs_ok : ∀ q ∈ lw_privs, lw_okq q := by
  show ∀ q ∈ lw_privs_1 ++ (lw_privs_2 ++ (lw_privs_3)), lw_okq q
  exact List.forall_mem_append.mpr ⟨lw_r1, List.forall_mem_append.mpr ⟨lw_r2, lw_r3⟩⟩
/-- the streams that the claim lets the run draw from -/
abbrev lw_cs : List Choice := [Jvm.Choice.named "NaN.bits"]
theorem lw_bits : nanBits ∈ lw_cs := by first | decide | exact List.mem_cons_self | simp [lw_cs, nanBits]
end
section
/-- the tables know the class of arrays over arrays of ty (the printed names use this word; the kit has it not) -/
def va_AOA (ty : FieldType) (U : State) : Prop := (Cond.arrayOver (.array ty)).before #[] U = true
theorem va_AOA.use {ty : FieldType} {A : Array Value} {U : State} (h : va_AOA ty U) : (Cond.arrayOver (.array ty)).before A U = true := h
/-! ===== BEGIN words of one list among another's, by their places ===== -/
theorem goodIn_r {big : List Cond} (ws : List Cond) (ps : List Nat) (hp : ws = ps.filterMap (fun i => big[i]?)) (h : ws.all goodWord = true) : GoodIn big ws := by
  intro w hw
  have h1 := List.all_eq_true.mp h w hw
  rw [hp] at hw
  obtain ⟨i, -, hi⟩ := List.mem_filterMap.mp hw
  have hm : w ∈ big := by first | exact List.mem_of_getElem? hi | exact List.getElem?_mem hi
  exact ⟨hm, good_of_word h1⟩
theorem goodIn_app {big a b : List Cond} (ha : GoodIn big a) (hb : GoodIn big b) : GoodIn big (a ++ b) := fun w h => (List.mem_append.mp h).elim (ha w) (hb w)
theorem goodIn_ca {big a b : List Cond} {c : Cond} (ha : GoodIn big (c :: a)) (hb : GoodIn big b) : GoodIn big (c :: (a ++ b)) := fun w h => (List.mem_cons.mp h).elim (fun e => ha w (List.mem_cons.mpr (Or.inl e))) (fun h => (List.mem_append.mp h).elim (fun h => ha w (List.mem_cons.mpr (Or.inr h))) (hb w))
theorem goodIn_sub {big ws : List Cond} (hm : ∀ w ∈ ws, w ∈ big) (h : ws.all goodWord = true) : GoodIn big ws := fun w hw => ⟨hm w hw, good_of_word (List.all_eq_true.mp h w hw)⟩
/-! ===== END ===== -/

/-! ===== BEGIN new T[n][m]: the outer array a place, the inner ones among the pooled ===== -/
/-- f, but v at every address of l -/
def vr_up {α : Type} (f : Nat → α) (l : List Nat) (v : α) : Nat → α := fun a => if a ∈ l then v else f a
theorem vr_up_in {α : Type} {f : Nat → α} {l : List Nat} {v : α} {a : Nat} (h : a ∈ l) : vr_up f l v a = v := if_pos h
theorem vr_up_ne {α : Type} {f : Nat → α} {l : List Nat} {v : α} {a : Nat} (h : a ∉ l) : vr_up f l v a = f a := if_neg h
theorem vr_rows {L l : List Nat} {f : Nat → va_E} {e : va_E} (h : ∀ a, a ∈ l → a ∉ L) : va_pl L f ++ l.map (fun a => (a, e)) = va_pl (L ++ l) (vr_up f l e) := by
  unfold va_pl
  rw [List.map_append]
  congr 1
  · apply List.map_congr_left
    intro a ha
    rw [vr_up_ne (fun q => h a q ha)]
  · apply List.map_congr_left
    intro a ha
    rw [vr_up_in ha]
theorem vr_lay {X rows : va_W} {x : Nat × va_E} {pl : va_W} {D : va_G} {cl : List vw_C} {H : Heap} (hP : va_P D cl (((X ++ pl) ++ [x]) ++ rows) H) : va_P D cl ((X ++ [x]) ++ (pl ++ rows)) H := by
  rw [List.append_assoc (X ++ pl)] at hP
  have h := va_P.swap hP
  rw [← List.append_assoc X] at h
  have h2 := va_P.swap h
  rw [List.append_assoc (X ++ [x])] at h2
  exact h2
theorem vr_layD {X rows : va_W} {x : Nat × va_E} {pl : va_W} {A : Nat → Prop} (hD : va_D A (((X ++ pl) ++ [x]) ++ rows)) : va_D A ((X ++ [x]) ++ (pl ++ rows)) := by
  rw [List.append_assoc (X ++ pl)] at hD
  have h := va_D.swap hD
  rw [← List.append_assoc X] at h
  have h2 := va_D.swap h
  rw [List.append_assoc (X ++ [x])] at h2
  exact h2
theorem vr_outer (c : ClassId) (N h0 : Nat) : ∀ i : Nat, Jvm.Free.Multi.outerC c N h0 i = arrV c N (fun j => va_rf (if j < i then some (h0 + 1 + j) else none))
  | 0 => by
    show ({ cls := c, slots := Array.replicate N .null, vm := .none } : Cell) = _
    rw [arrV_new]
    refine congrArg (arrV c N) (funext fun j => ?_)
    simp [va_rf]
  | i + 1 => by
    show (Jvm.Free.Multi.outerC c N h0 i).setSlot i (.ref (h0 + 1 + i)) = _
    rw [vr_outer c N h0 i, arrV_store]
    refine congrArg (arrV c N) (funext fun j => ?_)
    by_cases e : j = i
    · subst e
      simp [updV, va_rf]
    · by_cases h : j < i
      · simp [updV, e, h, Nat.lt_succ_of_lt h]
      · simp [updV, e, h, show ¬ j < i + 1 by omega]
section VGM
variable {p : Program} {l : Launch} {e : Env} {R : Room} {s : State} {m : MethodId} {args : Array Value} {below : List Frame} {meth : Method} {c : Code} {H : Heap} {locs : List Loc} {cells slots : Nat} {Q : State → Prop}
variable {cc : ByteArray} {pc : Nat} {ls : Array Slot} {rest : List Value} {D : va_G} {cl : List vw_C} {A : Nat → Prop} {a : Nat} {tys : List (ClassId × FieldType)} {ws : va_W} {H0 : Heap}
theorem va_mna {X : va_W} {L : List Nat} {f : Nat → va_E} {cc : ByteArray} (hexec : p.tables.exec = Jvm.exec) (hb : c.code = cc) {own : String} {index : Nat} {ty : FieldType} {cy : ClassId} (hown : s.vm.findClass own = some m.cls) (hclink : (Cond.classLink own index ("[" ++ (FieldType.array ty).toString)).before args s = true) (hover : va_AOA ty s) (harr : (Cond.arrayClass ty).before args s = true) (hcy : s.vm.findClass (FieldType.array ty).toString = some cy)
    (hK : va_K D cl tys s) (hP : va_P D cl (X ++ va_pl L f) H) (hD : va_D A (X ++ va_pl L f)) (hS : va_S A H0 H locs) (hA : ∀ q, H0.size ≤ q → A q) {n k : Int32} {N' K' : Nat} {z : vp_A} (hn : ¬ n < 0) (hk : ¬ k < 0) (hN : n.toNatClampNeg = N') (hM : k.toNatClampNeg = K')
    (hb1 : N' * 4 ≤ 536870912) (hb2 : K' * componentBytes ty ≤ 536870912) (hb3 : K' ≤ 536870912) (hdf : fits ty (defaultValue ty) = true) (hdd : (defaultValue ty).isDefault = true) (hcells : cells + (1 + N') ≤ R.cells) (hslots : slots + (N' + N' * K') ≤ R.slots) (hz : ∀ c : ClassId, Jvm.Free.Multi.innerC c K' (defaultValue ty) = vp_cell c z) (hdg : decode cc pc = .ok (.multianewarray index 2, 4))
    (kk : ∀ (q : Nat) (r : Nat → Nat) (cA : ClassId) (H1 : Heap), (∀ i j : Nat, i < N' → j < N' → r i = r j → i = j) → (∀ i : Nat, i < N' → r i ∉ L) → va_K D cl (tys ++ [(cA, .array ty)]) s →
      va_P D cl ((X ++ [(q, .inl (cA, N', .inr (.inr (.inr (.inr (fun i => if i < N' then some (r i) else none))))))]) ++ va_pl (L ++ (List.range N').map r) (vr_up f ((List.range N').map r) (.inl (cy, z)))) H1 → va_D A ((X ++ [(q, .inl (cA, N', .inr (.inr (.inr (.inr (fun i => if i < N' then some (r i) else none))))))]) ++ va_pl (L ++ (List.range N').map r) (vr_up f ((List.range N').map r) (.inl (cy, z)))) → va_S A H0 H1 locs →
      W p l e R s m args below meth c H1 locs (cells + 1 + N') (slots + N' + N' * K') Q (F0 m (pc + 4) ls (.ref q :: rest))) : W p l e R s m args below meth c H locs cells slots Q (F0 m pc ls (.int k :: .int n :: rest)) := by
  subst hN
  subst hM
  intro T hT Xs
  obtain ⟨vm₁, cA, comp, -, fA, fC, hO, -, X', step⟩ := Xs.multianewarray2F hexec hown hclink (va_AOA.use hover) harr (g := F0 m pc ls (.int k :: .int n :: rest)) rfl (by rw [hb]; exact hdg) rfl hn hk hb1 hb2 hb3 hdf hdd hcells hslots
  have ec : some cy = some comp := hcy.symm.trans fC
  cases ec
  generalize hF : Jvm.Free.Multi.fill (T.setVm vm₁) cA cy n.toNatClampNeg k.toNatClampNeg (defaultValue ty) n.toNatClampNeg = F at X' step
  have hTh : (T.setVm vm₁).heap = H := hT
  obtain ⟨f1, f2, -, -⟩ := Jvm.Free.Multi.fill_facts (T.setVm vm₁) cA cy n.toNatClampNeg k.toNatClampNeg (defaultValue ty) n.toNatClampNeg
  rw [hF, hTh] at f1 f2
  have hold : ∀ x : Nat, x < H.size → F.heap[x]? = H[x]? := fun x hx => by
    have := Jvm.Free.Multi.fill_old (T.setVm vm₁) cA cy n.toNatClampNeg k.toNatClampNeg (defaultValue ty) (a := x) (by rw [hTh]; exact hx) n.toNatClampNeg
    rw [hF, hTh] at this
    exact this
  have hrow : ∀ j : Nat, j < n.toNatClampNeg → F.heap[H.size + 1 + j]? = some (vp_cell cy z) := fun j hj => by
    have := Jvm.Free.Multi.fill_inner (T.setVm vm₁) cA cy n.toNatClampNeg k.toNatClampNeg (defaultValue ty) n.toNatClampNeg j hj
    rw [hF, hTh, hz] at this
    exact this
  have hout : Jvm.Free.Multi.outerC cA n.toNatClampNeg H.size n.toNatClampNeg = vp_cell cA (n.toNatClampNeg, .inr (.inr (.inr (.inr (fun i => if i < n.toNatClampNeg then some (H.size + 1 + i) else none))))) := by
    rw [vp_cell_q]
    exact vr_outer cA n.toNatClampNeg H.size n.toNatClampNeg
  rw [hout] at f2
  have hlt : ∀ a, a ∈ L → a < H.size := fun a ha => by
    obtain ⟨k9, hk9⟩ := va_pl_get (X := X) (f := f) ha
    exact (hP k9 _ hk9).lt
  have hnl : ∀ i : Nat, i < n.toNatClampNeg → H.size + 1 + i ∉ L := fun i _ h => by
    have := hlt _ h
    omega
  have hnm : ∀ a, a ∈ (List.range n.toNatClampNeg).map (fun i => H.size + 1 + i) → a ∉ L := fun a ha h => by
    obtain ⟨i, -, rfl⟩ := List.mem_map.mp ha
    have := hlt _ h
    omega
  have hP0 : va_P D cl (X ++ va_pl L f) F.heap := hP.kept (fun k9 x hx => hold x.1 ((hP k9 x hx).lt))
  have hP1 : va_P D cl ((X ++ va_pl L f) ++ [(H.size, .inl (cA, n.toNatClampNeg, .inr (.inr (.inr (.inr (fun i => if i < n.toNatClampNeg then some (H.size + 1 + i) else none))))))]) F.heap := hP0.app (fun k9 x hx => by
    have h0 : k9 < 1 := (List.getElem?_eq_some_iff.mp hx).1
    rw [show k9 = 0 by omega] at hx
    cases hx
    exact f2)
  have hP2 : va_P D cl (((X ++ va_pl L f) ++ [(H.size, .inl (cA, n.toNatClampNeg, .inr (.inr (.inr (.inr (fun i => if i < n.toNatClampNeg then some (H.size + 1 + i) else none))))))]) ++ ((List.range n.toNatClampNeg).map (fun i => H.size + 1 + i)).map (fun a => (a, .inl (cy, z)))) F.heap := hP1.app (fun k9 x hx => by
    obtain ⟨a, ha, rfl⟩ := List.mem_map.mp (List.mem_of_getElem? hx)
    obtain ⟨i, hi, rfl⟩ := List.mem_map.mp ha
    exact hrow i (List.mem_range.mp hi))
  have hD2 : va_D A (((X ++ va_pl L f) ++ [(H.size, .inl (cA, n.toNatClampNeg, .inr (.inr (.inr (.inr (fun i => if i < n.toNatClampNeg then some (H.size + 1 + i) else none))))))]) ++ ((List.range n.toNatClampNeg).map (fun i => H.size + 1 + i)).map (fun a => (a, .inl (cy, z)))) := by
    have hD1 := hD.push (e := .inl (cA, n.toNatClampNeg, .inr (.inr (.inr (.inr (fun i => if i < n.toNatClampNeg then some (H.size + 1 + i) else none)))))) hP rfl (hA _ hS.1)
    generalize hW1 : (X ++ va_pl L f) ++ [(H.size, .inl (cA, n.toNatClampNeg, .inr (.inr (.inr (.inr (fun i => if i < n.toNatClampNeg then some (H.size + 1 + i) else none))))))] = W1 at hD1 hP1 ⊢
    have hle : ∀ (k9 : Nat) (x : Nat × va_E), W1[k9]? = some x → x.1 ≤ H.size := fun k9 x hx => by
      rw [← hW1] at hx
      by_cases hl : k9 < (X ++ va_pl L f).length
      · rw [List.getElem?_append_left hl] at hx
        exact Nat.le_of_lt ((hP k9 x hx).lt)
      · rw [List.getElem?_append_right (by omega)] at hx
        have h0 : k9 - (X ++ va_pl L f).length < 1 := (List.getElem?_eq_some_iff.mp hx).1
        rw [show k9 - (X ++ va_pl L f).length = 0 by omega] at hx
        cases hx
        exact Nat.le_refl _
    have hr : ∀ (k9 : Nat) (x : Nat × va_E), (((List.range n.toNatClampNeg).map (fun i => H.size + 1 + i)).map (fun a => ((a, .inl (cy, z)) : Nat × va_E)))[k9]? = some x → x.1 = H.size + 1 + k9 := fun k9 x hx => by
      rw [List.getElem?_map, List.getElem?_map] at hx
      by_cases h9 : k9 < n.toNatClampNeg
      · rw [List.getElem?_range h9] at hx
        cases hx
        rfl
      · have hn0 : (List.range n.toNatClampNeg)[k9]? = none := List.getElem?_eq_none (by rw [List.length_range]; omega)
        rw [hn0] at hx
        cases hx
    refine ⟨fun i j x y hi hj hxy => ?_, fun k9 x hx => ?_⟩
    · by_cases h1 : i < W1.length <;> by_cases h2 : j < W1.length
      · rw [List.getElem?_append_left h1] at hi
        rw [List.getElem?_append_left h2] at hj
        exact hD1.1 i j x y hi hj hxy
      · rw [List.getElem?_append_left h1] at hi
        rw [List.getElem?_append_right (by omega)] at hj
        have := hle _ _ hi
        have := hr _ _ hj
        omega
      · rw [List.getElem?_append_right (by omega)] at hi
        rw [List.getElem?_append_left h2] at hj
        have := hle _ _ hj
        have := hr _ _ hi
        omega
      · rw [List.getElem?_append_right (by omega)] at hi hj
        have := hr _ _ hi
        have := hr _ _ hj
        omega
    · by_cases h1 : k9 < W1.length
      · rw [List.getElem?_append_left h1] at hx
        exact hD1.2 k9 x hx
      · rw [List.getElem?_append_right (by omega)] at hx
        have := hr _ _ hx
        exact hA _ (by have := hS.1; omega)
  have hAr : ArrOfT s cA (.array ty) := fun N9 z9 => by
    obtain ⟨-, k9, hk9, cm9, hkk9⟩ := (hO 0 0 0).1
    exact ⟨(fun q hq => by cases hq), k9, hk9, cm9, hkk9⟩
  have hK2 : va_K D cl (tys ++ [(cA, .array ty)]) s := ⟨hK.1, fun k9 x hx => by
    by_cases hl : k9 < tys.length
    · rw [List.getElem?_append_left hl] at hx
      exact hK.2 k9 x hx
    · rw [List.getElem?_append_right (by omega)] at hx
      have h0 : k9 - tys.length < 1 := (List.getElem?_eq_some_iff.mp hx).1
      rw [show k9 - tys.length = 0 by omega] at hx
      cases hx
      exact ⟨hAr, fA⟩⟩
  obtain ⟨t, a1, b1⟩ := kk H.size (fun i => H.size + 1 + i) cA F.heap (fun i j _ _ h => by have h9 : H.size + 1 + i = H.size + 1 + j := h; omega) hnl hK2 (by rw [← vr_rows hnm]; exact vr_lay hP2) (by rw [← vr_rows hnm]; exact vr_layD hD2) ⟨by rw [f1]; have := hS.1; omega, fun x h1 h2 => (hold x (Nat.lt_of_lt_of_le h1 hS.1)).trans (hS.2.1 x h1 h2), hS.2.2⟩ F rfl X'
  refine ⟨t, step t ?_, b1⟩
  have e : T.heap.size = H.size := by rw [hT]
  rw [e]
  exact a1
end VGM
/-! ===== END ===== -/

/-! ===== BEGIN exceptions that leave a method, and their catching by the caller (launches without stack traces) ===== -/
section VXA
/-! The laws vx_back, vx_callV, vx_callS, vx_callSW, vx_throw0, vx_throwS follow proofs of the library, with one case more: JvmDerived/Free/Laws.lean (Back.of_free), Shelf42/LK1.lean (callV, callS), Shelf/KitTraced.lean (throwNew0V, throwNewS). -/
/-- where a method has thrown q: the class by its name, the cell, what was written, the world -/
def vx_T (XC : String → State → State → Prop) (st : State) (q : Addr) (t : State) (mc ms : Nat) (free : Addr → Prop) : Prop :=
  ∃ (E : String) (ce : Cell) (L : List Loc), XC E st t ∧ t.heap[q]? = some ce ∧ ce.vm = .none ∧ st.vm.findClass E = some ce.cls ∧ st.WarmedH t.vm ∧ st.sameButNew ({ t with vm := st.vm } : State) L mc ms ∧ ∀ z ∈ L, free z.base
def vx_Q (Qc : Array Value → State → Outcome → State → Prop) (XC : String → State → State → Prop) (mc ms : Nat) (free : Addr → Prop) : Array Value → State → Outcome → State → Prop := fun a st o t =>
  (Qc a st o t ∧ ∃ L, FrameEnd st o t L mc ms ∧ ∀ q ∈ L, free q.base) ∨ ∃ q, o = .threw q ∧ vx_T XC st q t mc ms free
/-- a callee that returns or throws -/
def vx_Met (l : Launch) (y : MethodName) (ws : List Cond) (rm : Room) (Pc : Array Value → State → Prop) (Qc : Array Value → State → Outcome → State → Prop) (XC : String → State → State → Prop) (mc ms : Nat) (free : Addr → Prop) : Prop :=
  MetFree l y (headSpec ws rm) Pc (fun _ _ _ _ _ => True) (vx_Q Qc XC mc ms free)
def vx_Post (XC : String → State → State → Prop) (mc ms : Nat) (free : Addr → Prop) : Pt → Array Value → Addr → Pt → Prop := fun A a q B =>
  ∃ (g : JFrame) (mk : MethodId) (t : State) (L : List Loc) (E : String) (ce : Cell), B.U.heap = t.heap ∧ B.U.vm = t.vm ∧ XC E (A.U.calling g mk a) t ∧ t.heap[q]? = some ce ∧ ce.vm = .none ∧ A.U.vm.findClass E = some ce.cls ∧ B.locs = A.locs ++ L ∧ (∀ z ∈ L, free z.base) ∧ B.cells = A.cells + mc ∧ B.slots = A.slots + ms
def vx_Back (l : Launch) (R : Room) (p : Program) (e : Env) (below : List Frame) (s : State) (sargs : Array Value) (y : MethodName) (len W9 : Nat)
    (Pre : Pt → Array Value → Prop) (Post : Pt → Array Value → Option Value → Pt → Prop) (PostX : Pt → Array Value → Addr → Pt → Prop) : Prop :=
  ∀ (m : MethodId) (meth : Method) (c : Code) (A : Pt) (g : JFrame) (ig : Instr) (mk : MethodId) (a : Array Value),
    Stand p l e R s m sargs below meth c A.U A.locs A.cells A.slots → g.method = m → g.locals.size = c.maxLocals → decode c.code g.pc = .ok (ig, len) →
    2 * g.monitorRoom + (g.stack.map fun v => v.category).sum ≤ W9 → A.U.methodNamed? y = some mk → Pre A a →
    (∃ (v : Option Value) (B : Pt), Stand p l e R s m sargs below meth c B.U B.locs B.cells B.slots ∧ Post A a v B ∧
      Steps p.tables e below (doInvoke e (A.U.setTop g) [] mk a).1 (B.U.setTop { g with pc := g.pc + len, stack := v.toList ++ g.stack })) ∨
    (∃ (q : Addr) (B : Pt), Stand p l e R s m sargs below meth c B.U B.locs B.cells B.slots ∧ PostX A a q B ∧
      Steps p.tables e below (doInvoke e (A.U.setTop g) [] mk a).1 ((B.U.setTop g).pushFrame (.throwing q)))
section Payer
variable {l : Launch} {R : Room} {p : Program} {e : Env} {below : List Frame} {s : State} {sargs : Array Value} {y : MethodName} {len W9 : Nat}
theorem vx_back {ws : List Cond} {rm : Room} {Pc : Array Value → State → Prop} {Qc : Array Value → State → Outcome → State → Prop} {XC : String → State → State → Prop} {mc ms : Nat} {free : Addr → Prop} {bytes : ByteArray} {maxL : Nat} {ret : Option FieldType}
    (hM : vx_Met l y ws rm Pc Qc XC mc ms free) (hblind : FrameBlind Pc) (hrc : rm.cells = mc) (hrs : rm.slots = ms)
    (hframes : rm.frames + 1 ≤ R.frames) (hlocals : W9 + (maxL + 11) + rm.locals ≤ R.locals)
    (hws : ∀ w ∈ ws, ∀ a' U, s.WarmedH U.vm → w.before a' U = true) (hcode : Cond.code y bytes maxL ret ∈ ws) (hinit : ∀ a' U, s.WarmedH U.vm → (Cond.initialized y.cls).before a' U = true) :
    vx_Back l R p e below s sargs y len W9 (PreOf R mc ms Pc) (PostOf Qc mc ms free) (vx_Post XC mc ms free) := by
  intro m meth c A g ig mk a X hg hsize hdg hW hn hp
  have h1 : (headSpec ws rm).pre.before a A.U = true := atoms_intro fun w hw => hws w hw _ _ X.warmed
  have h2 : (Cond.code y bytes maxL ret).before a A.U = true := hws _ hcode _ _ X.warmed
  have h3 : (Cond.initialized y.cls).before a A.U = true := hinit _ _ X.warmed
  have h4 : A.cells + (headSpec ws rm).room.cells ≤ R.cells := by rw [show (headSpec ws rm).room.cells = mc from hrc]; exact hp.1
  have h5 : A.slots + (headSpec ws rm).room.slots ≤ R.slots := by rw [show (headSpec ws rm).room.slots = ms from hrs]; exact hp.2.1
  have hPc : Pc a (A.U.calling g mk a) := hblind _ _ _ _ hp.2.2
  obtain ⟨U, Ls, c0, s0⟩ := A
  dsimp only [Pt.U, Pt.locs, Pt.cells, Pt.slots] at h1 h2 h3 h4 h5 X hn hPc ⊢
  obtain ⟨methY, cY, hmY, hcY, -, hlY, -, -, -, -⟩ := Cond.code_spec hn h2
  obtain ⟨kY, hkY, -⟩ := className_of_methodNamed hn
  have hinitY : kY.init = .initialized := Cond.initialized_spec (findClass_of_methodNamed hn) hkY h3
  have h : At U g.method c below := by rw [hg]; exact X.here
  have hlocals9 : W9 + (maxL + 11) + (headSpec ws rm).room.locals ≤ R.locals := hlocals
  have happ : (headSpec ws rm).appliesLoose y e.platform (U.calling g mk a) = true :=
    Spec.appliesLoose_calling (g := g) h hdg hn hkY hinitY
      (X.room_calling (g := g) (R' := (headSpec ws rm).room) hsize hmY hcY hframes (by rw [hlY]; omega) h4 h5) h1
  obtain ⟨mid, hmid⟩ := h.above
  have hfr : (U.setTop g).frames = (.java g :: mid) ++ below := by rw [State.frames_setTop' g h.top, hmid]; rfl
  obtain ⟨o, s₂, hsteps, -, hend, hq⟩ := Steps.callFree hM p X.admits X.cas X.clock (acts := []) hfr happ hPc trivial
  have hq' : vx_Q Qc XC mc ms free a (U.calling g mk a) o s₂ := hq
  rw [State.frames_setTop' g h.top] at hend
  obtain ⟨g₀, hg0⟩ := Option.isSome_iff_exists.mp h.top
  obtain ⟨r, hr⟩ := State.topJava?_eq_some.mp hg0
  have hr' : (({ U with heap := s₂.heap, slotsUsed := s₂.slotsUsed } : State).setVm s₂.vm).frames = .java g₀ :: r := hr
  rcases hq' with ⟨hqc, L, hfe, hL⟩ | ⟨q, rfl, E, ce, L, hx, hce, hcv, hcl, hW₂, hsm, hL⟩
  · obtain ⟨⟨v, rfl⟩, hW₂, e2, q2, q3, q4, q5, q6⟩ := id hfe
    have e3 : s₂ = ({ (U.calling g mk a).setFrames s₂.frames with heap := s₂.heap, slotsUsed := s₂.slotsUsed } : State).setVm s₂.vm := by
      have : s₂ = ({ s₂ with vm := (U.calling g mk a).vm } : State).setVm s₂.vm := rfl
      rw [e2] at this
      exact this
    obtain ⟨c₂, i₂, len₂, hc₂, hd₂, hf₂⟩ := hend
    have hW' : U.WarmedH s₂.vm := hW₂
    have hcc : c₂ = c := by
      have h1 : s₂.code? g.method = U.code? g.method := by
        rw [State.code?_eq, State.code?_eq, hW'.alike.method?]
      exact Option.some.inj (hc₂.symm.trans (h1.trans h.code))
    subst hcc
    have hlen : len₂ = len := by rw [hdg] at hd₂; cases hd₂; rfl
    subst hlen
    have hs₂ : s₂ = (({ U with heap := s₂.heap, slotsUsed := s₂.slotsUsed } : State).setVm s₂.vm).setTop { g with pc := g.pc + len₂, stack := v.toList ++ g.stack } := by
      refine e3.trans ?_
      rw [hf₂, State.calling_eq h.top, State.setFrames_setFrames, State.setTop_of_frames _ hr', hr]
      rfl
    have hsame : U.sameButNew ({ U with heap := s₂.heap, slotsUsed := s₂.slotsUsed } : State) L mc ms := by
      refine ⟨?_, q2, q3, q4, q5, q6⟩
      obtain ⟨t, ht, -⟩ := State.frames_cons hr
      show ({ U with heap := s₂.heap, slotsUsed := s₂.slotsUsed } : State) = { U.setFrames U.frames with heap := s₂.heap, slotsUsed := s₂.slotsUsed }
      rw [State.setFrames_self ht]
    subst hg
    refine Or.inl ⟨v, ⟨(({ U with heap := s₂.heap, slotsUsed := s₂.slotsUsed } : State).setVm s₂.vm), Ls ++ L, c0 + mc, s0 + ms⟩,
      ⟨X.admits, X.cas, X.clock, X.frames, X.room, X.hears, X.method, X.code, (X.here.setHeapUsed s₂.heap s₂.slotsUsed).setVm hW'.alike, X.tail, State.WarmedH.trans X.warmed hW', X.limits, X.bytes, X.same.trans (hsame.setVm s.vm)⟩,
      ⟨g, mk, s₂, L, rfl, rfl, hqc, rfl, hL, rfl, rfl⟩, ?_⟩
    show Steps p.tables e below _ ((({ U with heap := s₂.heap, slotsUsed := s₂.slotsUsed } : State).setVm s₂.vm).setTop { g with pc := g.pc + len₂, stack := v.toList ++ g.stack })
    rw [← hs₂]
    exact hsteps
  · obtain ⟨e2, q2, q3, q4, q5, q6⟩ := id hsm
    have e3 : s₂ = ({ (U.calling g mk a).setFrames s₂.frames with heap := s₂.heap, slotsUsed := s₂.slotsUsed } : State).setVm s₂.vm := by
      have : s₂ = ({ s₂ with vm := (U.calling g mk a).vm } : State).setVm s₂.vm := rfl
      rw [e2] at this
      exact this
    have hf₂ : s₂.frames = .throwing q :: .java g :: U.frames.tail := hend
    have hW' : U.WarmedH s₂.vm := hW₂
    have hs₂ : s₂ = ((({ U with heap := s₂.heap, slotsUsed := s₂.slotsUsed } : State).setVm s₂.vm).setTop g).pushFrame (.throwing q) := by
      refine e3.trans ?_
      rw [hf₂, State.calling_eq h.top, State.setFrames_setFrames, State.pushFrame, State.frames_setTop _ hr', State.setTop_of_frames _ hr', State.setFrames_setFrames, hr]
      rfl
    have hsame : U.sameButNew ({ U with heap := s₂.heap, slotsUsed := s₂.slotsUsed } : State) L mc ms := by
      refine ⟨?_, q2, q3, q4, q5, q6⟩
      obtain ⟨t, ht, -⟩ := State.frames_cons hr
      show ({ U with heap := s₂.heap, slotsUsed := s₂.slotsUsed } : State) = { U.setFrames U.frames with heap := s₂.heap, slotsUsed := s₂.slotsUsed }
      rw [State.setFrames_self ht]
    subst hg
    refine Or.inr ⟨q, ⟨(({ U with heap := s₂.heap, slotsUsed := s₂.slotsUsed } : State).setVm s₂.vm), Ls ++ L, c0 + mc, s0 + ms⟩,
      ⟨X.admits, X.cas, X.clock, X.frames, X.room, X.hears, X.method, X.code, (X.here.setHeapUsed s₂.heap s₂.slotsUsed).setVm hW'.alike, X.tail, State.WarmedH.trans X.warmed hW', X.limits, X.bytes, X.same.trans (hsame.setVm s.vm)⟩,
      ⟨g, mk, s₂, L, E, ce, rfl, rfl, hx, hce, hcv, hcl, rfl, hL, rfl, rfl⟩, ?_⟩
    show Steps p.tables e below _ (((({ U with heap := s₂.heap, slotsUsed := s₂.slotsUsed } : State).setVm s₂.vm).setTop g).pushFrame (.throwing q))
    rw [← hs₂]
    exact hsteps
end Payer
section Calls
variable {p : Program} {l : Launch} {e : Env} {R : Room} {s : State} {m : MethodId} {args : Array Value} {below : List Frame} {meth : Method} {c : Code} {T : State} {locs : List Loc} {cells slots : Nat}
theorem vx_callV (X : Stand p l e R s m args below meth c T locs cells slots) (hexec : p.tables.exec = Jvm.exec) {own C : String} {index : Nat} {y : MethodName} {bytes : ByteArray} {maxL : Nat} {ret : Option FieldType}
    (hown : s.vm.findClass own = some m.cls) (hlink : (Cond.methodLink own index y).before args s = true) (hinst : (Cond.instanceMethod y).before args s = true) (hsel : (Cond.selects C y y).before args s = true)
    (hcode : (Cond.code y bytes maxL ret).before args s = true) (hy : y.cls ≠ "java/lang/invoke/MethodHandle" ∧ y.cls ≠ "java/lang/invoke/VarHandle")
    {W9 : Nat} {Pre : Pt → Array Value → Prop} {Post : Pt → Array Value → Option Value → Pt → Prop} {PostX : Pt → Array Value → Addr → Pt → Prop} (hK : vx_Back l R p e below s args y 3 W9 Pre Post PostX)
    {b : Addr} {cellB : Cell} (hcell : T.heap[b]? = some cellB) (hobj : cellB.vm.isStatics = false) (hcls : s.vm.findClass C = some cellB.cls)
    {g : JFrame} (hg : g.method = m) (hsize : g.locals.size = c.maxLocals) {argsL rest : List Value} (hlen : ∀ sig, parseMethodDescriptor y.desc = some sig → argsL.length = sig.parameters.length)
    (hstack : g.stack = argsL.reverse ++ .ref b :: rest) (hW : 2 * g.monitorRoom + (rest.map fun v => v.category).sum ≤ W9) (hdg : decode c.code g.pc = .ok (.invokevirtual index, 3))
    (hpre : ∀ vm₁, s.WarmedH vm₁ → Pre ⟨T.setVm vm₁, locs, cells, slots⟩ (Value.ref b :: argsL).toArray) :
    (∃ (v : Option Value) (vm₁ : Vm) (B : Pt), s.WarmedH vm₁ ∧ Stand p l e R s m args below meth c B.U B.locs B.cells B.slots ∧ Post ⟨T.setVm vm₁, locs, cells, slots⟩ (Value.ref b :: argsL).toArray v B ∧
      ∀ target, Steps p.tables e below (B.U.setTop { g with pc := g.pc + 3, stack := v.toList ++ rest }) target → Steps p.tables e below (T.setTop g) target) ∨
    (∃ (q : Addr) (vm₁ : Vm) (B : Pt), s.WarmedH vm₁ ∧ Stand p l e R s m args below meth c B.U B.locs B.cells B.slots ∧ PostX ⟨T.setVm vm₁, locs, cells, slots⟩ (Value.ref b :: argsL).toArray q B ∧
      Steps p.tables e below (T.setTop g) ((B.U.setTop { g with stack := rest }).pushFrame (.throwing q))) := by
  obtain ⟨mk, methM, hnamed, hmethM, hstM, habM⟩ := Cond.instanceMethod_spec hinst
  obtain ⟨methM', cM, hmethM', -, -, -, -, -, -, hsigM⟩ := Cond.code_spec hnamed hcode
  cases hmethM.symm.trans hmethM'
  obtain ⟨c2, r2, m2, q1, q2, q3, q4, kP, hkP, hkPi⟩ := Cond.selects_spec hsel
  cases hcls.symm.trans q1
  cases (State.methodFound?_of_named hnamed hy).symm.trans q2
  cases hnamed.symm.trans q3
  have hselP : selectMethod e.platform s.vm cellB.cls mk = .method mk := by rw [Launch.admits_selectMethod X.admits]; exact q4
  obtain ⟨vm₁, X₁, hstep₁⟩ := X.invokevirtual hexec hown hlink hnamed hmethM hstM hkP hkPi hy (a := b) (cell := cellB) hcell
    (fun z h => by rw [h] at hobj; cases hobj) hselP hmethM habM hkP hkPi (g := g) hg (argsL := argsL) (rest := rest) (hlen _ hsigM) hstack hdg
  rcases hK m meth c ⟨T.setVm vm₁, locs, cells, slots⟩ { g with stack := rest } (.invokevirtual index) mk (Value.ref b :: argsL).toArray X₁ hg hsize hdg hW (X₁.named hnamed) (hpre vm₁ X₁.warmed) with ⟨v, B, X', hpost, hsteps⟩ | ⟨q, B, X', hpost, hsteps⟩
  · exact Or.inl ⟨v, vm₁, B, X₁.warmed, X', hpost, fun target h => hstep₁ _ fun acts => by rw [doInvoke_state]; exact hsteps.trans h⟩
  · exact Or.inr ⟨q, vm₁, B, X₁.warmed, X', hpost, hstep₁ _ fun acts => by rw [doInvoke_state]; exact hsteps⟩
theorem vx_callS (X : Stand p l e R s m args below meth c T locs cells slots) (hexec : p.tables.exec = Jvm.exec) {own : String} {index : Nat} {y : MethodName} {bytes : ByteArray} {maxL : Nat} {ret : Option FieldType}
    (hown : s.vm.findClass own = some m.cls) (hlink : (Cond.methodLink own index y).before args s = true) (hstat : (Cond.static y).before args s = true) (hinit : (Cond.initialized y.cls).before args s = true)
    (hcode : (Cond.code y bytes maxL ret).before args s = true) (hy : y.cls ≠ "java/lang/invoke/MethodHandle" ∧ y.cls ≠ "java/lang/invoke/VarHandle")
    {W9 : Nat} {Pre : Pt → Array Value → Prop} {Post : Pt → Array Value → Option Value → Pt → Prop} {PostX : Pt → Array Value → Addr → Pt → Prop} (hK : vx_Back l R p e below s args y 3 W9 Pre Post PostX)
    {g : JFrame} (hg : g.method = m) (hsize : g.locals.size = c.maxLocals) {argsL rest : List Value} (hlen : ∀ sig, parseMethodDescriptor y.desc = some sig → argsL.length = sig.parameters.length)
    (hstack : g.stack = argsL.reverse ++ rest) (hW : 2 * g.monitorRoom + (rest.map fun v => v.category).sum ≤ W9) (hdg : decode c.code g.pc = .ok (.invokestatic index, 3))
    (hpre : ∀ vm₁, s.WarmedH vm₁ → Pre ⟨T.setVm vm₁, locs, cells, slots⟩ argsL.toArray) :
    (∃ (v : Option Value) (vm₁ : Vm) (B : Pt), s.WarmedH vm₁ ∧ Stand p l e R s m args below meth c B.U B.locs B.cells B.slots ∧ Post ⟨T.setVm vm₁, locs, cells, slots⟩ argsL.toArray v B ∧
      ∀ target, Steps p.tables e below (B.U.setTop { g with pc := g.pc + 3, stack := v.toList ++ rest }) target → Steps p.tables e below (T.setTop g) target) ∨
    (∃ (q : Addr) (vm₁ : Vm) (B : Pt), s.WarmedH vm₁ ∧ Stand p l e R s m args below meth c B.U B.locs B.cells B.slots ∧ PostX ⟨T.setVm vm₁, locs, cells, slots⟩ argsL.toArray q B ∧
      Steps p.tables e below (T.setTop g) ((B.U.setTop { g with stack := rest }).pushFrame (.throwing q))) := by
  obtain ⟨mk, hnamed⟩ := Cond.code_named hcode
  obtain ⟨methM, cM, hmethM, -, -, -, -, -, -, hsigM⟩ := Cond.code_spec hnamed hcode
  have hstatic : methM.isStatic = true := Cond.static_spec hnamed hmethM hstat
  obtain ⟨kP, hkP, -⟩ := className_of_methodNamed hnamed
  have hinitP : kP.init = .initialized := Cond.initialized_spec (findClass_of_methodNamed hnamed) hkP hinit
  obtain ⟨vm₁, X₁, hstep₁⟩ := X.invokestatic hexec hown hlink hnamed hmethM hstatic hkP hinitP hy (g := g) hg (argsL := argsL) (rest := rest) (hlen _ hsigM) hstack hdg
  rcases hK m meth c ⟨T.setVm vm₁, locs, cells, slots⟩ { g with stack := rest } (.invokestatic index) mk argsL.toArray X₁ hg hsize hdg hW (X₁.named hnamed) (hpre vm₁ X₁.warmed) with ⟨v, B, X', hpost, hsteps⟩ | ⟨q, B, X', hpost, hsteps⟩
  · exact Or.inl ⟨v, vm₁, B, X₁.warmed, X', hpost, fun target h => hstep₁ _ fun acts => by rw [doInvoke_state]; exact hsteps.trans h⟩
  · exact Or.inr ⟨q, vm₁, B, X₁.warmed, X', hpost, hstep₁ _ fun acts => by rw [doInvoke_state]; exact hsteps⟩
end Calls
theorem vx_cls {s : State} {T : State} {vm₁ : Vm} {E : String} {k : ClassId} (hW : s.WarmedH vm₁) (h : (T.setVm vm₁).vm.findClass E = some k) : s.vm.findClass E = some k := by
  have h1 : vm₁.findClass E = some k := h
  rw [hW.alike.findClass] at h1
  exact h1
/-- the method's frame g, with q thrown over it -/
def vx_W (p : Program) (l : Launch) (e : Env) (R : Room) (s : State) (m : MethodId) (args : Array Value) (below : List Frame) (meth : Method) (c : Code) (H : Heap) (locs : List Loc) (cells slots : Nat) (Q : State → Prop) (g : JFrame) (q : Addr) : Prop :=
  ∀ T : State, T.heap = H → Stand p l e R s m args below meth c T locs cells slots → ∃ t, Steps p.tables e below ((T.setTop g).pushFrame (.throwing q)) t ∧ Q t
def vx_Run (p : Program) (l : Launch) (e : Env) (R : Room) (s : State) (m : MethodId) (args : Array Value) (below : List Frame) (meth : Method) (c : Code) (H : Heap) (locs : List Loc) (cells slots mc ms : Nat) (g : JFrame) (rest : List Value) (Qa : State → Outcome → State → Prop) (XC : String → State → State → Prop) (free : Addr → Prop) : Prop :=
  ∀ T : State, T.heap = H → Stand p l e R s m args below meth c T locs cells slots →
    (∃ (v : Option Value) (st₀ t T' : State) (L : List Loc), st₀.heap = H ∧ Stand p l e R s m args below meth c T' (locs ++ L) (cells + mc) (slots + ms) ∧ (∀ q ∈ L, free q.base) ∧ T'.heap = t.heap ∧ T'.vm = t.vm ∧ Qa st₀ (.returned v) t ∧
      Goes p e below T g T' { g with pc := g.pc + 3, stack := v.toList ++ rest }) ∨
    (∃ (q : Addr) (st₀ t T' : State) (L : List Loc) (E : String) (ce : Cell), st₀.heap = H ∧ Stand p l e R s m args below meth c T' (locs ++ L) (cells + mc) (slots + ms) ∧ (∀ z ∈ L, free z.base) ∧ T'.heap = t.heap ∧ T'.vm = t.vm ∧ XC E st₀ t ∧ t.heap[q]? = some ce ∧ ce.vm = .none ∧ s.vm.findClass E = some ce.cls ∧
      Steps p.tables e below (T.setTop g) ((T'.setTop { g with stack := rest }).pushFrame (.throwing q)))
def vx_X {S : Type} (px : S → Prop) (B : String → S → State → Prop) (A : Nat → Prop) : String → State → State → Prop := fun E st t => ∃ u : S, px u ∧ B E u t ∧ va_F A st t
section Runs
variable {p : Program} {l : Launch} {e : Env} {R : Room} {s : State} {m : MethodId} {args : Array Value} {below : List Frame} {meth : Method} {c : Code} {H : Heap} {locs : List Loc} {cells slots : Nat}
variable {y : MethodName} {bytes cc : ByteArray} {maxL nL mc ms n index : Nat} {ret : Option FieldType} {ws : List Cond} {rm : Room} {Pc : Array Value → State → Prop} {Qc : Array Value → State → Outcome → State → Prop} {XC : String → State → State → Prop} {free : Addr → Prop} {Ts : List Cond} {own C : String} {b : Addr} {As rest : List Value} {g : JFrame}
theorem vx_callBack (cb : CallB R s args own index y bytes maxL ret ws rm mc ms n) (hM : vx_Met l y ws rm Pc Qc XC mc ms free) (hbl : FrameBlind Pc) : vx_Back l R p e below s args y 3 8 (PreOf R mc ms Pc) (PostOf Qc mc ms free) (vx_Post XC mc ms free) := by
  obtain ⟨hrc, hrs, hfr, hlo, hws, hcw, -, hini, -⟩ := cb
  exact vx_back (bytes := bytes) (maxL := maxL) (ret := ret) hM hbl hrc hrs hfr hlo hws hcw (fun a' U hW => word_at hW (Or.inl (by first | rfl | simp [Cond.onTables, Cond.keeps, Cond.steady])) hini)
theorem vx_runV (S : CallFix p m c cc nL s args Ts own) (hM : vx_Met l y ws rm Pc Qc XC mc ms free) (cw : CallW R s args own C index y bytes maxL ret ws rm mc ms n) (hp : PreV s H C b Pc As)
    (hg : g.method = m) (hn : As.length = n) (hsize : g.locals.size = nL) (hstack : g.stack = As.reverse ++ .ref b :: rest) (hW : 2 * g.monitorRoom + (rest.map fun v => v.category).sum ≤ 8) (hdg : decode cc g.pc = .ok (.invokevirtual index, 3)) (hf : cells + mc ≤ R.cells ∧ slots + ms ≤ R.slots) :
    vx_Run p l e R s m args below meth c H locs cells slots mc ms g rest (Qc (Value.ref b :: As).toArray) XC free := by
  have hK : vx_Back l R p e below s args y 3 8 (PreOf R mc ms Pc) (PostOf Qc mc ms free) (vx_Post XC mc ms free) := vx_callBack cw.1 hM hp.1
  obtain ⟨⟨-, -, -, -, -, -, hcode, -, hy, hlen, hl⟩, hin, hse⟩ := cw
  obtain ⟨hx, hb, hml, ho, -⟩ := S
  obtain ⟨-, ⟨cellB, hcB, hoB, hclB⟩, hPc⟩ := hp
  intro T hT X
  rcases vx_callV X hx (C := C) (bytes := bytes) (maxL := maxL) (ret := ret) ho hl hin hse hcode hy hK (by rw [hT]; exact hcB) hoB hclB hg (hsize.trans hml.symm) (argsL := As) (rest := rest) (fun sig h => hn.trans (hlen sig h)) hstack hW (by rw [hb]; exact hdg)
    (fun vm₁ hW₁ => ⟨hf.1, hf.2, hPc (T.setVm vm₁) hT hW₁⟩) with ⟨v, vm₁, ⟨U', l2, c2, s2⟩, hW₁, X', ⟨g', mk, t, L, e1, e2, hq, h1, hL, h2, h3⟩, st⟩ | ⟨q, vm₁, ⟨U', l2, c2, s2⟩, hW₁, X', ⟨g', mk, t, L, E, ce, e1, e2, hq, hce, hcv, hcl, h1, hL, h2, h3⟩, st⟩
  · dsimp only [Pt.U, Pt.locs, Pt.cells, Pt.slots] at X' e1 e2 h1 h2 h3 st
    subst h1; subst h2; subst h3
    exact Or.inl ⟨v, (T.setVm vm₁).calling g' mk (Value.ref b :: As).toArray, t, U', L, hT, X', hL, e1, e2, hq, st⟩
  · dsimp only [Pt.U, Pt.locs, Pt.cells, Pt.slots] at X' e1 e2 h1 h2 h3 st hcl
    subst h1; subst h2; subst h3
    exact Or.inr ⟨q, (T.setVm vm₁).calling g' mk (Value.ref b :: As).toArray, t, U', L, E, ce, hT, X', hL, e1, e2, hq, hce, hcv, vx_cls hW₁ hcl, st⟩
theorem vx_runS (S : CallFix p m c cc nL s args Ts own) (hM : vx_Met l y ws rm Pc Qc XC mc ms free) (cw : CallB R s args own index y bytes maxL ret ws rm mc ms n ∧ (Cond.static y).before args s = true) (hp : PreS s H Pc As)
    (hg : g.method = m) (hn : As.length = n) (hsize : g.locals.size = nL) (hstack : g.stack = As.reverse ++ rest) (hW : 2 * g.monitorRoom + (rest.map fun v => v.category).sum ≤ 8) (hdg : decode cc g.pc = .ok (.invokestatic index, 3)) (hf : cells + mc ≤ R.cells ∧ slots + ms ≤ R.slots) :
    vx_Run p l e R s m args below meth c H locs cells slots mc ms g rest (Qc As.toArray) XC free := by
  have hK : vx_Back l R p e below s args y 3 8 (PreOf R mc ms Pc) (PostOf Qc mc ms free) (vx_Post XC mc ms free) := vx_callBack cw.1 hM hp.1
  obtain ⟨⟨-, -, -, -, -, -, hcode, hini, hy, hlen, hl⟩, hstt⟩ := cw
  obtain ⟨hx, hb, hml, ho, -⟩ := S
  intro T hT X
  rcases vx_callS X hx (bytes := bytes) (maxL := maxL) (ret := ret) ho hl hstt hini hcode hy hK hg (hsize.trans hml.symm) (argsL := As) (rest := rest) (fun sig h => hn.trans (hlen sig h)) hstack hW (by rw [hb]; exact hdg)
    (fun vm₁ hW₁ => ⟨hf.1, hf.2, hp.2 (T.setVm vm₁) hT hW₁⟩) with ⟨v, vm₁, ⟨U', l2, c2, s2⟩, hW₁, X', ⟨g', mk, t, L, e1, e2, hq, h1, hL, h2, h3⟩, st⟩ | ⟨q, vm₁, ⟨U', l2, c2, s2⟩, hW₁, X', ⟨g', mk, t, L, E, ce, e1, e2, hq, hce, hcv, hcl, h1, hL, h2, h3⟩, st⟩
  · dsimp only [Pt.U, Pt.locs, Pt.cells, Pt.slots] at X' e1 e2 h1 h2 h3 st
    subst h1; subst h2; subst h3
    exact Or.inl ⟨v, (T.setVm vm₁).calling g' mk As.toArray, t, U', L, hT, X', hL, e1, e2, hq, st⟩
  · dsimp only [Pt.U, Pt.locs, Pt.cells, Pt.slots] at X' e1 e2 h1 h2 h3 st hcl
    subst h1; subst h2; subst h3
    exact Or.inr ⟨q, (T.setVm vm₁).calling g' mk As.toArray, t, U', L, E, ce, hT, X', hL, e1, e2, hq, hce, hcv, vx_cls hW₁ hcl, st⟩
end Runs
section Rows
variable {p : Program} {l : Launch} {e : Env} {R : Room} {s : State} {m : MethodId} {args : Array Value} {below : List Frame} {meth : Method} {c : Code} {H : Heap} {locs : List Loc} {cells slots : Nat} {Q : State → Prop}
variable {mc ms : Nat} {free : Addr → Prop} {A0 A1 : Nat → Prop} {H0 : Heap} {a : Array Value} {pc : Nat} {ls : Array Slot} {st0 rest : List Value}
theorem vx_keep {st₀ t T' : State} {L : List Loc} (h0 : st₀.heap = H) (e1 : T'.heap = t.heap) (hS : va_S A0 H0 H locs) (hA : ∀ q, q < H.size → A1 q → A0 q) (hf : ∀ q, free q → A0 q) (hL : ∀ q ∈ L, free q.base) (hF : va_F A1 st₀ t) :
    H.size ≤ T'.heap.size ∧ (∀ q : Nat, q < H.size → ¬ A1 q → T'.heap[q]? = H[q]?) ∧ va_S A0 H0 T'.heap (locs ++ L) := by
  obtain ⟨hz, hk⟩ := hF
  rw [h0] at hz hk
  exact ⟨by rw [e1]; exact hz, fun q h1 h2 => by rw [e1]; exact hk q h1 h2,
    ⟨Nat.le_trans hS.1 (by rw [e1]; exact hz), fun q h1 h2 => by rw [e1, hk q (Nat.lt_of_lt_of_le h1 hS.1) (fun z => h2 (hA q (Nat.lt_of_lt_of_le h1 hS.1) z))]; exact hS.2.1 q h1 h2, fun q hq => by
      rcases List.mem_append.mp hq with h | h
      · exact hS.2.2 q h
      · exact hf _ (hL q h)⟩⟩
theorem vx_calli {S SX : Type} {post : Int32 → S → Prop} {px : SX → Prop} {B : S → State → Prop} {BX : String → SX → State → Prop} {AX : Nat → Prop} (hr : vx_Run p l e R s m args below meth c H locs cells slots mc ms (F0 m pc ls st0) rest (va_Qi post B A1 a) (vx_X px BX AX) free) (hS : va_S A0 H0 H locs) (hA : ∀ q, q < H.size → A1 q → A0 q) (hf : ∀ q, free q → A0 q) (hAX : ∀ q, q < H.size → AX q → A0 q)
    (kx : ∀ (E : String) (ce : Cell) (q9 : Addr) (u : SX) (t : State) (H1 : Heap) (locs1 : List Loc), t.heap = H1 → s.vm.Alike t.vm → px u → BX E u t → H.size ≤ H1.size → (∀ q : Nat, q < H.size → ¬ AX q → H1[q]? = H[q]?) → va_S A0 H0 H1 locs1 → H1[q9]? = some ce → ce.vm = .none → s.vm.findClass E = some ce.cls → vx_W p l e R s m args below meth c H1 locs1 (cells + mc) (slots + ms) Q (F0 m pc ls rest) q9)
    (kk : ∀ (r : Int32) (u : S) (t : State) (H1 : Heap) (locs1 : List Loc), t.heap = H1 → s.vm.Alike t.vm → post r u → B u t → H.size ≤ H1.size → (∀ q : Nat, q < H.size → ¬ A1 q → H1[q]? = H[q]?) → va_S A0 H0 H1 locs1 → W p l e R s m args below meth c H1 locs1 (cells + mc) (slots + ms) Q (F0 m (pc + 3) ls (.int r :: rest))) : W p l e R s m args below meth c H locs cells slots Q (F0 m pc ls st0) := by
  intro T hT X
  rcases hr T hT X with ⟨v, st₀, t, T', L, h0, X', hL, e1, e2, ⟨⟨r, u, hv, hp, hb⟩, hF⟩, st⟩ | ⟨q, st₀, t, T', L, E, ce, h0, X', hL, e1, e2, ⟨u, hp, hb, hF⟩, hce, hcv, hcl, st⟩
  · cases hv
    obtain ⟨k1, k2, k3⟩ := vx_keep h0 e1 hS hA hf hL hF
    obtain ⟨t2, a1, b1⟩ := kk r u t T'.heap (locs ++ L) e1.symm (by rw [← e2]; exact X'.warmed.alike) hp hb k1 k2 k3 T' rfl X'
    exact ⟨t2, st t2 a1, b1⟩
  · obtain ⟨k1, k2, k3⟩ := vx_keep h0 e1 hS hAX hf hL hF
    obtain ⟨t2, a1, b1⟩ := kx E ce q u t T'.heap (locs ++ L) e1.symm (by rw [← e2]; exact X'.warmed.alike) hp hb k1 k2 k3 (by rw [e1]; exact hce) hcv hcl T' rfl X'
    exact ⟨t2, st.trans a1, b1⟩
theorem vx_calll {S SX : Type} {post : Int64 → S → Prop} {px : SX → Prop} {B : S → State → Prop} {BX : String → SX → State → Prop} {AX : Nat → Prop} (hr : vx_Run p l e R s m args below meth c H locs cells slots mc ms (F0 m pc ls st0) rest (va_Ql post B A1 a) (vx_X px BX AX) free) (hS : va_S A0 H0 H locs) (hA : ∀ q, q < H.size → A1 q → A0 q) (hf : ∀ q, free q → A0 q) (hAX : ∀ q, q < H.size → AX q → A0 q)
    (kx : ∀ (E : String) (ce : Cell) (q9 : Addr) (u : SX) (t : State) (H1 : Heap) (locs1 : List Loc), t.heap = H1 → s.vm.Alike t.vm → px u → BX E u t → H.size ≤ H1.size → (∀ q : Nat, q < H.size → ¬ AX q → H1[q]? = H[q]?) → va_S A0 H0 H1 locs1 → H1[q9]? = some ce → ce.vm = .none → s.vm.findClass E = some ce.cls → vx_W p l e R s m args below meth c H1 locs1 (cells + mc) (slots + ms) Q (F0 m pc ls rest) q9)
    (kk : ∀ (r : Int64) (u : S) (t : State) (H1 : Heap) (locs1 : List Loc), t.heap = H1 → s.vm.Alike t.vm → post r u → B u t → H.size ≤ H1.size → (∀ q : Nat, q < H.size → ¬ A1 q → H1[q]? = H[q]?) → va_S A0 H0 H1 locs1 → W p l e R s m args below meth c H1 locs1 (cells + mc) (slots + ms) Q (F0 m (pc + 3) ls (.long r :: rest))) : W p l e R s m args below meth c H locs cells slots Q (F0 m pc ls st0) := by
  intro T hT X
  rcases hr T hT X with ⟨v, st₀, t, T', L, h0, X', hL, e1, e2, ⟨⟨r, u, hv, hp, hb⟩, hF⟩, st⟩ | ⟨q, st₀, t, T', L, E, ce, h0, X', hL, e1, e2, ⟨u, hp, hb, hF⟩, hce, hcv, hcl, st⟩
  · cases hv
    obtain ⟨k1, k2, k3⟩ := vx_keep h0 e1 hS hA hf hL hF
    obtain ⟨t2, a1, b1⟩ := kk r u t T'.heap (locs ++ L) e1.symm (by rw [← e2]; exact X'.warmed.alike) hp hb k1 k2 k3 T' rfl X'
    exact ⟨t2, st t2 a1, b1⟩
  · obtain ⟨k1, k2, k3⟩ := vx_keep h0 e1 hS hAX hf hL hF
    obtain ⟨t2, a1, b1⟩ := kx E ce q u t T'.heap (locs ++ L) e1.symm (by rw [← e2]; exact X'.warmed.alike) hp hb k1 k2 k3 (by rw [e1]; exact hce) hcv hcl T' rfl X'
    exact ⟨t2, st.trans a1, b1⟩
theorem vx_callf {S SX : Type} {post : UInt32 → S → Prop} {px : SX → Prop} {B : S → State → Prop} {BX : String → SX → State → Prop} {AX : Nat → Prop} (hr : vx_Run p l e R s m args below meth c H locs cells slots mc ms (F0 m pc ls st0) rest (va_Qf post B A1 a) (vx_X px BX AX) free) (hS : va_S A0 H0 H locs) (hA : ∀ q, q < H.size → A1 q → A0 q) (hf : ∀ q, free q → A0 q) (hAX : ∀ q, q < H.size → AX q → A0 q)
    (kx : ∀ (E : String) (ce : Cell) (q9 : Addr) (u : SX) (t : State) (H1 : Heap) (locs1 : List Loc), t.heap = H1 → s.vm.Alike t.vm → px u → BX E u t → H.size ≤ H1.size → (∀ q : Nat, q < H.size → ¬ AX q → H1[q]? = H[q]?) → va_S A0 H0 H1 locs1 → H1[q9]? = some ce → ce.vm = .none → s.vm.findClass E = some ce.cls → vx_W p l e R s m args below meth c H1 locs1 (cells + mc) (slots + ms) Q (F0 m pc ls rest) q9)
    (kk : ∀ (r : UInt32) (u : S) (t : State) (H1 : Heap) (locs1 : List Loc), t.heap = H1 → s.vm.Alike t.vm → post r u → B u t → H.size ≤ H1.size → (∀ q : Nat, q < H.size → ¬ A1 q → H1[q]? = H[q]?) → va_S A0 H0 H1 locs1 → W p l e R s m args below meth c H1 locs1 (cells + mc) (slots + ms) Q (F0 m (pc + 3) ls (.float r :: rest))) : W p l e R s m args below meth c H locs cells slots Q (F0 m pc ls st0) := by
  intro T hT X
  rcases hr T hT X with ⟨v, st₀, t, T', L, h0, X', hL, e1, e2, ⟨⟨r, u, hv, hp, hb⟩, hF⟩, st⟩ | ⟨q, st₀, t, T', L, E, ce, h0, X', hL, e1, e2, ⟨u, hp, hb, hF⟩, hce, hcv, hcl, st⟩
  · cases hv
    obtain ⟨k1, k2, k3⟩ := vx_keep h0 e1 hS hA hf hL hF
    obtain ⟨t2, a1, b1⟩ := kk r u t T'.heap (locs ++ L) e1.symm (by rw [← e2]; exact X'.warmed.alike) hp hb k1 k2 k3 T' rfl X'
    exact ⟨t2, st t2 a1, b1⟩
  · obtain ⟨k1, k2, k3⟩ := vx_keep h0 e1 hS hAX hf hL hF
    obtain ⟨t2, a1, b1⟩ := kx E ce q u t T'.heap (locs ++ L) e1.symm (by rw [← e2]; exact X'.warmed.alike) hp hb k1 k2 k3 (by rw [e1]; exact hce) hcv hcl T' rfl X'
    exact ⟨t2, st.trans a1, b1⟩
theorem vx_calld {S SX : Type} {post : UInt64 → S → Prop} {px : SX → Prop} {B : S → State → Prop} {BX : String → SX → State → Prop} {AX : Nat → Prop} (hr : vx_Run p l e R s m args below meth c H locs cells slots mc ms (F0 m pc ls st0) rest (va_Qd post B A1 a) (vx_X px BX AX) free) (hS : va_S A0 H0 H locs) (hA : ∀ q, q < H.size → A1 q → A0 q) (hf : ∀ q, free q → A0 q) (hAX : ∀ q, q < H.size → AX q → A0 q)
    (kx : ∀ (E : String) (ce : Cell) (q9 : Addr) (u : SX) (t : State) (H1 : Heap) (locs1 : List Loc), t.heap = H1 → s.vm.Alike t.vm → px u → BX E u t → H.size ≤ H1.size → (∀ q : Nat, q < H.size → ¬ AX q → H1[q]? = H[q]?) → va_S A0 H0 H1 locs1 → H1[q9]? = some ce → ce.vm = .none → s.vm.findClass E = some ce.cls → vx_W p l e R s m args below meth c H1 locs1 (cells + mc) (slots + ms) Q (F0 m pc ls rest) q9)
    (kk : ∀ (r : UInt64) (u : S) (t : State) (H1 : Heap) (locs1 : List Loc), t.heap = H1 → s.vm.Alike t.vm → post r u → B u t → H.size ≤ H1.size → (∀ q : Nat, q < H.size → ¬ A1 q → H1[q]? = H[q]?) → va_S A0 H0 H1 locs1 → W p l e R s m args below meth c H1 locs1 (cells + mc) (slots + ms) Q (F0 m (pc + 3) ls (.double r :: rest))) : W p l e R s m args below meth c H locs cells slots Q (F0 m pc ls st0) := by
  intro T hT X
  rcases hr T hT X with ⟨v, st₀, t, T', L, h0, X', hL, e1, e2, ⟨⟨r, u, hv, hp, hb⟩, hF⟩, st⟩ | ⟨q, st₀, t, T', L, E, ce, h0, X', hL, e1, e2, ⟨u, hp, hb, hF⟩, hce, hcv, hcl, st⟩
  · cases hv
    obtain ⟨k1, k2, k3⟩ := vx_keep h0 e1 hS hA hf hL hF
    obtain ⟨t2, a1, b1⟩ := kk r u t T'.heap (locs ++ L) e1.symm (by rw [← e2]; exact X'.warmed.alike) hp hb k1 k2 k3 T' rfl X'
    exact ⟨t2, st t2 a1, b1⟩
  · obtain ⟨k1, k2, k3⟩ := vx_keep h0 e1 hS hAX hf hL hF
    obtain ⟨t2, a1, b1⟩ := kx E ce q u t T'.heap (locs ++ L) e1.symm (by rw [← e2]; exact X'.warmed.alike) hp hb k1 k2 k3 (by rw [e1]; exact hce) hcv hcl T' rfl X'
    exact ⟨t2, st.trans a1, b1⟩
theorem vx_callv {S SX : Type} {post : S → Prop} {px : SX → Prop} {B : S → State → Prop} {BX : String → SX → State → Prop} {AX : Nat → Prop} (hr : vx_Run p l e R s m args below meth c H locs cells slots mc ms (F0 m pc ls st0) rest (va_Qv post B A1 a) (vx_X px BX AX) free) (hS : va_S A0 H0 H locs) (hA : ∀ q, q < H.size → A1 q → A0 q) (hf : ∀ q, free q → A0 q) (hAX : ∀ q, q < H.size → AX q → A0 q)
    (kx : ∀ (E : String) (ce : Cell) (q9 : Addr) (u : SX) (t : State) (H1 : Heap) (locs1 : List Loc), t.heap = H1 → s.vm.Alike t.vm → px u → BX E u t → H.size ≤ H1.size → (∀ q : Nat, q < H.size → ¬ AX q → H1[q]? = H[q]?) → va_S A0 H0 H1 locs1 → H1[q9]? = some ce → ce.vm = .none → s.vm.findClass E = some ce.cls → vx_W p l e R s m args below meth c H1 locs1 (cells + mc) (slots + ms) Q (F0 m pc ls rest) q9)
    (kk : ∀ (u : S) (t : State) (H1 : Heap) (locs1 : List Loc), t.heap = H1 → s.vm.Alike t.vm → post u → B u t → H.size ≤ H1.size → (∀ q : Nat, q < H.size → ¬ A1 q → H1[q]? = H[q]?) → va_S A0 H0 H1 locs1 → W p l e R s m args below meth c H1 locs1 (cells + mc) (slots + ms) Q (F0 m (pc + 3) ls (rest))) : W p l e R s m args below meth c H locs cells slots Q (F0 m pc ls st0) := by
  intro T hT X
  rcases hr T hT X with ⟨v, st₀, t, T', L, h0, X', hL, e1, e2, ⟨⟨u, hv, hp, hb⟩, hF⟩, st⟩ | ⟨q, st₀, t, T', L, E, ce, h0, X', hL, e1, e2, ⟨u, hp, hb, hF⟩, hce, hcv, hcl, st⟩
  · cases hv
    obtain ⟨k1, k2, k3⟩ := vx_keep h0 e1 hS hA hf hL hF
    obtain ⟨t2, a1, b1⟩ := kk u t T'.heap (locs ++ L) e1.symm (by rw [← e2]; exact X'.warmed.alike) hp hb k1 k2 k3 T' rfl X'
    exact ⟨t2, st t2 a1, b1⟩
  · obtain ⟨k1, k2, k3⟩ := vx_keep h0 e1 hS hAX hf hL hF
    obtain ⟨t2, a1, b1⟩ := kx E ce q u t T'.heap (locs ++ L) e1.symm (by rw [← e2]; exact X'.warmed.alike) hp hb k1 k2 k3 (by rw [e1]; exact hce) hcv hcl T' rfl X'
    exact ⟨t2, st.trans a1, b1⟩
/-- caught by the row x of this method's table; the rows ahead don't take it -/
theorem vx_catch {own name : String} {E : String} {ce : Cell} {q : Addr} (hown : s.vm.findClass own = some m.cls) (pre : List ExceptionTableEntry) (x : ExceptionTableEntry) (suf : List ExceptionTableEntry) (hsplit : c.exceptionTable.toList = pre ++ x :: suf)
    (hpass : ∀ z ∈ pre, covers z pc = false ∨ (z.catchType ≠ 0 ∧ ∃ nm : String, (Cond.classLink own z.catchType nm).before args s = true ∧ va_Nc E nm s)) (hx : covers x pc = true) (h0 : x.catchType ≠ 0)
    (hlink : (Cond.classLink own x.catchType name).before args s = true) (hcast : (Cond.castable E name).before args s = true) (hcell : H[q]? = some ce) (hv : ce.vm = .none) (hcl : s.vm.findClass E = some ce.cls)
    (kk : W p l e R s m args below meth c H locs cells slots Q (F0 m x.handlerPc ls [.ref q])) : vx_W p l e R s m args below meth c H locs cells slots Q (F0 m pc ls rest) q := by
  intro T hT X
  have hpl : e.platform.magicAccessors = ({} : Platform).magicAccessors := by rw [X.admits.platform]
  obtain ⟨c3, c4, hc3, hc4, hasg⟩ := Cond.castable_spec hcast
  cases Option.some.inj (hc3.symm.trans hcl)
  obtain ⟨c5, hc5, hcl5⟩ := Cond.classLink_spec hown hlink e.platform hpl
  cases Option.some.inj (hc4.symm.trans hc5)
  obtain ⟨vm', X', st⟩ := X.thenCaughtThrough q (g := F0 m pc ls rest) rfl (Steps.refl _) (by rw [hT]; exact hcell) (by rw [hv]; rfl) (by obtain ⟨k9, h9, -⟩ := Vm.findClass_spec hcl; exact ⟨k9, h9⟩) pre x suf hsplit
    (fun z hz => by
      rcases hpass z hz with h | ⟨hz0, nm, hl1, hn1⟩
      · exact Or.inl h
      · obtain ⟨c6, hc6, hcl6⟩ := Cond.classLink_spec hown hl1 e.platform hpl
        obtain ⟨a8, b8, h1, h2, h3⟩ := hn1
        cases Option.some.inj (h1.symm.trans hcl)
        cases Option.some.inj (h2.symm.trans hc6)
        exact Or.inr ⟨hz0, _, hcl6, h3⟩) hx (Or.inr ⟨h0, c4, hcl5, hasg⟩)
  obtain ⟨t, a1, b1⟩ := kk (T.setVm vm') hT X'
  exact ⟨t, st.trans a1, b1⟩
end Rows
section Ends
variable {p : Program} {l : Launch} {e : Env} {R : Room} {s : State} {m : MethodId} {args : Array Value} {below : List Frame} {meth : Method} {c : Code} {H : Heap} {locs : List Loc} {cells slots : Nat} {Q : State → Prop}
variable {mc ms : Nat} {free : Addr → Prop} {A0 A1 : Nat → Prop} {H0 : Heap} {a : Array Value} {ls : Array Slot} {st0 rest : List Value}
variable {Qc : Array Value → State → Outcome → State → Prop} {XC : String → State → State → Prop}
/-- what a body that may throw owes at its end -/
def vx_MQ (below : List Frame) (Qc : Array Value → State → Outcome → State → Prop) (XC : String → State → State → Prop) (a : Array Value) (s : State) (mc ms : Nat) (free : Addr → Prop) : State → Prop := fun t =>
  ∃ o, t.status = .running ∧ Ended t below o ∧ vx_Q Qc XC mc ms free a s o t
theorem vx_ret {g : JFrame} {mc ms : Nat} (k : W p l e R s m args below meth c H locs cells slots (MQ below Qc args s mc ms free) g) : W p l e R s m args below meth c H locs cells slots (vx_MQ below Qc XC args s mc ms free) g := by
  intro T hT X
  obtain ⟨t, a1, o, b1, b2, b3, b4⟩ := k T hT X
  exact ⟨t, a1, o, b1, b2, Or.inl ⟨b3, b4⟩⟩
/-- not caught here: it goes on to the caller -/
theorem vx_widen {g : JFrame} {q : Addr} {k n : Nat} (h1 : cells ≤ k) (h2 : slots ≤ n) (kk : vx_W p l e R s m args below meth c H locs k n Q g q) : vx_W p l e R s m args below meth c H locs cells slots Q g q := fun T hT X => kk T hT (stand_widen X h1 h2)
theorem vx_out {pc : Nat} {E : String} {ce : Cell} {q : Addr} {mc ms : Nat} (hout : ∀ x ∈ c.exceptionTable.toList, covers x pc = false) (hlocks : meth.locks = false) (hcell : H[q]? = some ce) (hv : ce.vm = .none) (hcl : s.vm.findClass E = some ce.cls)
    (hx : ∀ t : State, t.heap = H → s.vm.Alike t.vm → XC E s t) (hf : ∀ z ∈ locs, free z.base) (hc : cells ≤ mc) (hs : slots ≤ ms) :
    vx_W p l e R s m args below meth c H locs cells slots (vx_MQ below Qc XC args s mc ms free) (F0 m pc ls rest) q := by
  intro T hT X
  obtain ⟨st1, hrun, hend, hW, hsm⟩ := X.leaveThrown q (g := F0 m pc ls rest) rfl rfl rfl hout hlocks
  have hcell9 : (T.setFrames (.throwing q :: below)).heap[q]? = some ce := by
    show T.heap[q]? = some ce
    rw [hT]; exact hcell
  exact ⟨_, st1, .threw q, hrun, hend, Or.inr ⟨q, rfl, E, ce, locs, hx _ hT hW.alike, hcell9, hv, hcl, hW, hsm.mono hc hs, hf⟩⟩
theorem vx_frame {U : State} {k n : Nat} (h : s.sameButNew ({ U with vm := s.vm } : State) locs k n) : s.heap.size ≤ U.heap.size ∧ ∀ q : Nat, q < s.heap.size → (∀ z ∈ locs, z.base ≠ q) → U.heap[q]? = s.heap[q]? := by
  obtain ⟨-, h2, -, -, -, h6⟩ := h
  refine ⟨h2, fun q hq hz => ?_⟩
  obtain ⟨c9, e1, e2, e3, e4⟩ := h6 q _ (Array.getElem?_eq_getElem hq)
  have hs : c9.slots = (s.heap[q]).slots := Array.ext_getElem? fun i => e4 i fun hm => hz _ hm rfl
  have h9 : c9 = s.heap[q] := by
    rw [hs] at e2
    exact e2
  have e5 : U.heap[q]? = some c9 := e1
  rw [e5, h9, Array.getElem?_eq_getElem hq]
/-- the words of a throw but the four that speak of the heap -/
def vx_no (w : Cond) : Bool := decide (w ≠ .isRef (.static Bundle.tN "UNASSIGNED_STACK" Bundle.steD)) && decide (w ≠ .isRef (.static Bundle.tN "SUPPRESSED_SENTINEL" Bundle.listD)) && decide (w ≠ .laysStatic Bundle.tN "UNASSIGNED_STACK" Bundle.steD) && decide (w ≠ .laysStatic Bundle.tN "SUPPRESSED_SENTINEL" Bundle.listD)
def vx_at0 (own : String) (ic : Nat) (X : String) (names : List String) : List Cond := (Bundle.ownAtoms0 own ic X names).filter vx_no
def vx_atS (own : String) (ic : Nat) (X : String) (names : List String) : List Cond := (Bundle.ownAtoms own ic X names).filter vx_no
/-- a word that the tables alone decide, or a good one -/
def vx_ot (w : Cond) : Bool := w.onTables || goodWord w
theorem vx_ot_at {args a' : Array Value} {s U : State} {w : Cond} (hW : s.WarmedH U.vm) (hvm : s.vm = U.vm) (hg : vx_ot w = true) (h : w.before args s = true) : w.before a' U = true := by
  simp only [vx_ot, Bool.or_eq_true] at hg
  rcases hg with hg | hg
  · exact va_tabs hg hvm h
  · exact word_at hW (good_of_word hg) h
/-- a list's words: the good ones out of the method's own list, the others by premises of their own -/
theorem vx_hat {args : Array Value} {s : State} {L B : List Cond} (h1 : ∀ w ∈ L.filter goodWord, w.before args s = true) (h2 : ∀ w ∈ L.filter (fun w => !goodWord w), w ∈ B) (h3 : ∀ w ∈ B, w.before args s = true) : ∀ w ∈ L, w.before args s = true := by
  intro w hw
  by_cases g : goodWord w = true
  · exact h1 w (List.mem_filter.mpr ⟨hw, g⟩)
  · refine h3 w (h2 w (List.mem_filter.mpr ⟨hw, ?_⟩))
    show (!goodWord w) = true
    cases hgw : goodWord w
    · rfl
    · exact absurd hgw g
theorem vx_c {args : Array Value} {s : State} {w : Cond} {B : List Cond} (h : w.before args s = true) (t : ∀ w ∈ B, w.before args s = true) : ∀ w' ∈ w :: B, w'.before args s = true := fun w' h' => (List.mem_cons.mp h').elim (fun e => by rw [e]; exact h) (t w')
theorem vx_n {args : Array Value} {s : State} : ∀ w ∈ ([] : List Cond), w.before args s = true := fun _ h => nomatch h
theorem vx_own {args : Array Value} {s : State} {L : List Cond} (h1 : ∀ w ∈ L.filter vx_no, w.before args s = true)
    (hU : (Cond.isRef (.static Bundle.tN "UNASSIGNED_STACK" Bundle.steD)).before args s = true) (hN : (Cond.isRef (.static Bundle.tN "SUPPRESSED_SENTINEL" Bundle.listD)).before args s = true)
    (lU : (Cond.laysStatic Bundle.tN "UNASSIGNED_STACK" Bundle.steD).before args s = true) (lN : (Cond.laysStatic Bundle.tN "SUPPRESSED_SENTINEL" Bundle.listD).before args s = true) : ∀ w ∈ L, w.before args s = true := by
  intro w hw
  by_cases e1 : w = .isRef (.static Bundle.tN "UNASSIGNED_STACK" Bundle.steD)
  · rw [e1]; exact hU
  · by_cases e2 : w = .isRef (.static Bundle.tN "SUPPRESSED_SENTINEL" Bundle.listD)
    · rw [e2]; exact hN
    · by_cases e3 : w = .laysStatic Bundle.tN "UNASSIGNED_STACK" Bundle.steD
      · rw [e3]; exact lU
      · by_cases e4 : w = .laysStatic Bundle.tN "SUPPRESSED_SENTINEL" Bundle.listD
        · rw [e4]; exact lN
        · exact h1 w (List.mem_filter.mpr ⟨hw, by unfold vx_no; rw [decide_eq_true e1, decide_eq_true e2, decide_eq_true e3, decide_eq_true e4]; rfl⟩)
/-- where a static field lies, its class's statics cell in H -/
def vx_L (C n d : String) (A : Nat → Prop) (U : State) (H : Heap) : Prop := ∃ (c : ClassId) (k : Class) (i : Nat) (f : Field) (a : Nat) (cell : Cell), U.vm.findClass C = some c ∧ U.fieldFound? C n d = some (c, k, i, f) ∧ f.isStatic = true ∧ k.statics = some a ∧ H[a]? = some cell ∧ cell.vm.isStatics = true ∧ cell.cls = c ∧ f.slot < cell.slots.size ∧ k.staticTypes[f.slot]? = some f.type ∧ ¬ A a
theorem vx_L.moved {C n d : String} {A : Nat → Prop} {u U : State} {H : Heap} (hvm : u.vm.Alike U.vm) (h : vx_L C n d A u H) : vx_L C n d A U H := by
  obtain ⟨c, k, i, f, a, cell, h1, h2, h3, h4, h5, h6, h7, h8, h9, h10⟩ := h
  obtain ⟨k', hi', he⟩ := State.fieldFound?_setVm hvm h2
  exact ⟨c, k', i, f, a, cell, by rw [hvm.findClass]; exact h1, hi', h3, by rw [he]; exact h4, h5, h6, h7, h8, by rw [he]; exact h9, h10⟩
theorem vx_L.kept {C n d : String} {A : Nat → Prop} {U : State} {H H1 : Heap} (h : vx_L C n d A U H) (hq : ∀ a : Nat, a < H.size → ¬ A a → H1[a]? = H[a]?) : vx_L C n d A U H1 := by
  obtain ⟨c, k, i, f, a, cell, h1, h2, h3, h4, h5, h6, h7, h8, h9, h10⟩ := h
  exact ⟨c, k, i, f, a, cell, h1, h2, h3, h4, by rw [hq a (Array.getElem?_eq_some_iff.mp h5).1 h10]; exact h5, h6, h7, h8, h9, h10⟩
theorem vx_L.narrow {C n d : String} {A B : Nat → Prop} {U : State} {H : Heap} (h : vx_L C n d A U H) (hAB : ∀ q, B q → A q) : vx_L C n d B U H := by
  obtain ⟨c, k, i, f, a, cell, h1, h2, h3, h4, h5, h6, h7, h8, h9, h10⟩ := h
  exact ⟨c, k, i, f, a, cell, h1, h2, h3, h4, h5, h6, h7, h8, h9, fun z => h10 (hAB _ z)⟩
theorem vx_L.word {C n d : String} {A : Nat → Prop} {s : State} {args : Array Value} (h : vx_L C n d A s s.heap) : (Cond.laysStatic C n d).before args s = true := by
  obtain ⟨c, k, i, f, a, cell, h1, h2, h3, h4, h5, h6, h7, h8, h9, -⟩ := h
  show (Cond.laysStatic C n d).holds args s none s [] = true
  exact Cond.laysStatic_of h1 h2 h3 h4 h5 h6 h7 h8 h9
/-- .. and what it holds: null or some reference -/
def vx_Zq (C n d : String) (A : Nat → Prop) (U : State) (H : Heap) : Prop := va_Zq C n d A U H ∧ vx_L C n d A U H
theorem vx_Zq.moved {C n d : String} {A : Nat → Prop} {u U : State} {H : Heap} (hvm : u.vm.Alike U.vm) (h : vx_Zq C n d A u H) : vx_Zq C n d A U H := ⟨va_Zq.moved hvm h.1, vx_L.moved hvm h.2⟩
theorem vx_Zq.kept {C n d : String} {A : Nat → Prop} {U : State} {H H1 : Heap} (h : vx_Zq C n d A U H) (hq : ∀ a : Nat, a < H.size → ¬ A a → H1[a]? = H[a]?) : vx_Zq C n d A U H1 := ⟨va_Zq.kept h.1 hq, vx_L.kept h.2 hq⟩
theorem vx_Zq.narrow {C n d : String} {A B : Nat → Prop} {U : State} {H : Heap} (h : vx_Zq C n d A U H) (hAB : ∀ q, B q → A q) : vx_Zq C n d B U H := ⟨va_Zq.narrow h.1 hAB, vx_L.narrow h.2 hAB⟩
theorem vx_Zqof {args : Array Value} {s : State} {C n d : String} {A : Nat → Prop} (hl : (Cond.laysStatic C n d).before args s = true) (hini : (Cond.initialized C).before args s = true) (h : (Cond.isRef (.static C n d)).before args s = true) (hA : ∀ a : Nat, a < s.heap.size → ¬ A a) : vx_Zq C n d A s s.heap := by
  refine ⟨va_Zqof hl hini h hA, ?_⟩
  obtain ⟨c, k, i, f, a, cell, h1, h2, h3, h4, h5, h6, h7, h8, h9⟩ := Cond.laysStatic_spec hl
  exact ⟨c, k, i, f, a, cell, h1, h2, h3, h4, h5, h6, h7, h8, h9, hA a (Array.getElem?_eq_some_iff.mp h5).1⟩
theorem vx_isRef {C n d : String} {v : Value} {A : Nat → Prop} {s : State} {args : Array Value} (h : va_Z C n d v A s s.heap) (hv : v.isRef = true) : (Cond.isRef (.static C n d)).before args s = true := by
  obtain ⟨cf, kf, fi, f, a, cell, h1, h2, h3, h4, h5, h6, h7, -⟩ := h
  have he : (Term.static C n d).eval args s none [] s = some v := by
    simp [Term.eval, State.fieldNamed?, h1, h2, h4, h5, h6, h7]
  simp only [Cond.before, Cond.holds, Cond.value, he]
  cases v <;> simp_all [Value.isRef]
theorem vx_isRefq {C n d : String} {A : Nat → Prop} {s : State} {args : Array Value} (h : va_Zq C n d A s s.heap) : (Cond.isRef (.static C n d)).before args s = true := by
  rcases h with h | ⟨t, h⟩
  · exact vx_isRef h rfl
  · exact vx_isRef h rfl
/-- the same frame, seen from here: as if the method were called anew in this heap -/
theorem vx_rebase {T : State} (X : Stand p l e R s m args below meth c T locs cells slots) {R' : Room} (hf : R'.frames ≤ R.frames) (hl : R'.locals ≤ R.locals) (hc : cells + R'.cells ≤ R.cells) (hs : slots + R'.slots ≤ R.slots) :
    Stand p l e R' ((T.setVm s.vm).setFrames (.invoking m args :: below)) m args below meth c T [] 0 0 := by
  have htop : (T.setVm s.vm).topJava?.isSome := X.here.top
  have hF : ((T.setVm s.vm).setFrames (.invoking m args :: below)).frames = .invoking m args :: below := State.frames_setFrames _ (State.cur_lt_of_top htop)
  obtain ⟨g₀, hg0⟩ := Option.isSome_iff_exists.mp htop
  obtain ⟨r, hr⟩ := State.topJava?_eq_some.mp hg0
  have hl9 : e.platform.stackLimits (T.setVm s.vm).me = e.platform.stackLimits s.me := X.limits
  have hb9 : (T.setVm s.vm).me.stackBytes = s.me.stackBytes := X.bytes
  refine ⟨X.admits, X.cas, X.clock, hF, ?_, X.hears, X.method, X.code, X.here, X.tail, X.warmed, ?_, ?_, ?_⟩
  · have h := X.room
    have hU : ((T.setVm s.vm).setFrames (.invoking m args :: below)).localsInUse = s.localsInUse := by
      rw [State.localsInUse_invoking hF (meth := meth) (c := c) X.method X.code, State.localsInUse_invoking X.frames X.method X.code]
    simp only [State.hasRoom, Bool.and_eq_true, decide_eq_true_eq] at h ⊢
    obtain ⟨⟨⟨⟨h1, h2, h3, h4, h5, h6⟩, h7⟩, h8⟩, h9⟩ := h
    rw [X.frames, List.length_cons] at h2 h3
    have q1 := X.heapSize
    have q2 := X.used
    simp only [hF, hU, List.length_cons, State.stackLimits_setFrames, State.stackBytes_setFrames, hl9, hb9]
    refine ⟨⟨⟨⟨by omega, by omega, by omega, by omega, by omega, h6⟩, ?_⟩, ?_⟩, X.book⟩
    · show T.heap.size + R'.cells ≤ e.platform.maxCells
      omega
    · show T.slotsUsed + R'.slots ≤ e.platform.maxSlots
      omega
  · rw [State.stackLimits_setFrames]; rfl
  · rw [State.stackBytes_setFrames]; rfl
  · refine ⟨?_, Nat.le_refl _, Nat.le_refl _, ?_, ?_, fun a c9 h9 => ⟨c9, h9, rfl, rfl, fun _ _ => rfl⟩⟩
    · obtain ⟨t, ht, -⟩ := State.frames_cons hr
      show T.setVm s.vm = { ((T.setVm s.vm).setFrames (.invoking m args :: below)).setFrames (T.setVm s.vm).frames with heap := T.heap, slotsUsed := T.slotsUsed }
      rw [State.setFrames_setFrames, State.setFrames_self ht]
      rfl
    · show T.slotsUsed = T.slotsUsed + ((T.heap.toList.drop T.heap.size).map (·.slots.size)).sum
      rw [List.drop_eq_nil_of_le (Nat.le_of_eq Array.length_toList)]
      rfl
    · show ((T.heap.toList.drop T.heap.size).map (·.slots.size)).sum ≤ 0
      rw [List.drop_eq_nil_of_le (Nat.le_of_eq Array.length_toList)]
      exact Nat.le_refl _
/-- 'throw new E()': new; dup; invokespecial; athrow -/
theorem vx_throw0 {cc : ByteArray} {pc : Nat} (hexec : p.tables.exec = Jvm.exec) (hb : c.code = cc) (hl : l.stackTraces = false) {own cls : String} {names : List String} {ik ic mc ms : Nat} {A : Nat → Prop}
    (hown : s.vm.findClass own = some m.cls) (hcls : Bundle.fit cls = true) (hnames : ∀ n ∈ names, Bundle.fit n = true)
    (hk : (Cond.classLink own ik cls).before args s = true) (hini : (Cond.initialized cls).before args s = true) (hat : ∀ w ∈ vx_at0 own ic cls names, w.before args s = true)
    (hgood : ∀ w ∈ Cond.classLink own ik cls :: Cond.initialized cls :: vx_at0 own ic cls names, vx_ot w = true)
    (hU : vx_Zq Bundle.tN "UNASSIGNED_STACK" Bundle.steD A s s.heap) (hN : vx_Zq Bundle.tN "SUPPRESSED_SENTINEL" Bundle.listD A s s.heap) (hS : va_S A s.heap H locs) (hsize : ls.size = c.maxLocals)
    (d0 : decode cc pc = .ok (.new ik, 3)) (d3 : decode cc (pc + 3) = .ok (.dup, 1)) (d4 : decode cc (pc + 4) = .ok (.invokespecial ic, 3)) (d7 : decode cc (pc + 7) = .ok (.athrow, 1))
    (hout : ∀ x ∈ c.exceptionTable.toList, covers x (pc + 7) = false)
    (hRframes : names.length + 3 < R.frames) (hRlocals : (rest.map fun v => v.category).sum + (13 * (names.length + 1) + 42) ≤ R.locals) (hRcells : cells + 1 ≤ R.cells) (hRslots : slots + 6 ≤ R.slots) (hlocks : meth.locks = false)
    (hx : ∀ t : State, s.vm.Alike t.vm → H.size ≤ t.heap.size → (∀ q : Nat, q < H.size → t.heap[q]? = H[q]?) → XC cls s t)
    (hf : ∀ z ∈ locs, free z.base) (hc : cells + 1 ≤ mc) (hs : slots + 6 ≤ ms) :
    W p l e R s m args below meth c H locs cells slots (vx_MQ below Qc XC args s mc ms free) (F0 m pc ls rest) := by
  intro T hT X
  have htr : e.platform.stackTraces = false := (show e.platform.stackTraces = l.stackTraces by rw [X.admits.platform]).trans hl
  have Y := vx_rebase X (R' := { frames := R.frames, locals := R.locals, cells := 1, slots := 6 }) (Nat.le_refl _) (Nat.le_refl _) hRcells hRslots
  obtain ⟨s', hA⟩ : ∃ z, z = (T.setVm s.vm).setFrames (.invoking m args :: below) := ⟨_, rfl⟩
  rw [← hA] at Y
  have hvm : s'.vm = s.vm := by rw [hA]; rfl
  have hhp : s'.heap = H := by rw [hA]; exact hT
  have hW0 : s.WarmedH s'.vm := by rw [hvm]; exact State.WarmedH.refl s
  have hat' : ∀ w ∈ vx_at0 own ic cls names, w.before args s' = true := fun w hw => vx_ot_at hW0 hvm.symm (hgood w (List.mem_cons_of_mem _ (List.mem_cons_of_mem _ hw))) (hat w hw)
  have hk' : (Cond.classLink own ik cls).before args s' = true := vx_ot_at hW0 hvm.symm (hgood _ List.mem_cons_self) hk
  have hini' : (Cond.initialized cls).before args s' = true := vx_ot_at hW0 hvm.symm (hgood _ (List.mem_cons_of_mem _ List.mem_cons_self)) hini
  have hU' : vx_Zq Bundle.tN "UNASSIGNED_STACK" Bundle.steD A s' s'.heap := by rw [hhp]; exact vx_Zq.moved hW0.alike (hU.kept hS.2.1)
  have hN' : vx_Zq Bundle.tN "SUPPRESSED_SENTINEL" Bundle.listD A s' s'.heap := by rw [hhp]; exact vx_Zq.moved hW0.alike (hN.kept hS.2.1)
  have h : ∀ w ∈ Bundle.ownAtoms0 own ic cls names, w.before args s' = true := vx_own hat' (vx_isRefq hU'.1) (vx_isRefq hN'.1) hU'.2.word hN'.2.word
  have hown' : s'.vm.findClass own = some m.cls := by rw [hvm]; exact hown
  have hins : (Cond.instantiable cls 6).before args s' = true := h _ (by simp [Bundle.ownAtoms0])
  obtain ⟨vm₁, cX, kX, hfX, hkX, -, -, X₁, st1⟩ := Y.newCold hexec (own := own) (C := cls) (index := ik) (n := 6) hown' hk' hins hini'
    (g := F0 m pc ls rest) rfl (by rw [hb]; exact d0) (Nat.le_refl _) (Nat.le_refl _)
  generalize hT1 : (T.setVm vm₁).pushCell { cls := cX, slots := kX.instanceTypes.map defaultValue, vm := .none } = T1 at X₁ st1
  have hcat : (Value.ref T.heap.size).category = 1 := rfl
  have hcellA : T1.heap[T.heap.size]? = some (freshCell cX kX) := by rw [← hT1]; exact State.heap_pushCell_size _ _
  have d3' : decode c.code (pc + 3) = .ok (.dup, 1) := by rw [hb]; exact d3
  obtain ⟨U, hsteps, hrun, hend, hW, hsame, ce, hce, hO⟩ := X₁.ctorThrow0 hexec htr (own := own) (cls := cls) (names := names) (ic := ic) hown' hcls hnames h (fun x hx => nomatch hx) hfX hkX hcellA (by rw [hhp, hT]; exact Nat.le_refl _)
    (g := { method := m, pc := pc + 4, locals := ls, stack := .ref T.heap.size :: .ref T.heap.size :: rest, locked := none }) rfl hsize rfl rfl (rest := rest) rfl
    (by rw [hb]; exact d4) (by rw [hb]; exact d7) hout hRframes (by simp only [List.map_cons, List.sum_cons, hcat]; omega) hlocks
  obtain ⟨f1, f2⟩ := vx_frame hsame
  rw [hhp] at f1 f2
  have hWs : s.WarmedH U.vm := State.WarmedH.trans hW0 hW
  have hcl : s.vm.findClass cls = some ce.cls := by
    have h9 := hO.cls
    rw [hvm] at h9
    exact h9
  have hall : s.sameButNew ({ U with vm := s.vm } : State) locs mc ms := by
    subst hA
    obtain ⟨e1, e2⟩ := hsame
    rw [State.setFrames_setFrames] at e1
    have h2 : (T.setVm s.vm).sameButNew ({ U with vm := s.vm } : State) [] (0 + 1) (0 + 6) := ⟨e1, e2⟩
    have h3 := X.same.trans h2
    rw [List.append_nil] at h3
    exact h3.mono hc hs
  refine ⟨U, ?_, .threw T.heap.size, hrun, hend, Or.inr ⟨T.heap.size, rfl, cls, ce, locs, hx U hWs.alike f1 (fun q hq => f2 q hq (fun z hz => nomatch hz)), hce, hO.vm, hcl, hWs, hall, hf⟩⟩
  refine st1 _ ?_
  show Steps p.tables e below (T1.setTop { method := m, pc := pc + 3, locals := ls, stack := .ref T.heap.size :: rest, locked := none }) _
  jvm_step X₁.here [X₁.here.top, hexec, d3', Value.category]
  exact hsteps
/-- 'throw new E("text")': new; dup; ldc; invokespecial; athrow -/
theorem vx_throwS {cc : ByteArray} {pc : Nat} (hexec : p.tables.exec = Jvm.exec) (hb : c.code = cc) (hl : l.stackTraces = false) {own cls text : String} {names : List String} {ik is ic mc ms sa : Nat} {A : Nat → Prop}
    (hown : s.vm.findClass own = some m.cls) (hcls : Bundle.fit cls = true) (hnames : ∀ n ∈ names, Bundle.fit n = true)
    (hk : (Cond.classLink own ik cls).before args s = true) (hini : (Cond.initialized cls).before args s = true) (hstr : vk_R own is text sa s) (hat : ∀ w ∈ vx_atS own ic cls names, w.before args s = true)
    (hgood : ∀ w ∈ Cond.classLink own ik cls :: Cond.initialized cls :: vx_atS own ic cls names, vx_ot w = true)
    (hU : vx_Zq Bundle.tN "UNASSIGNED_STACK" Bundle.steD A s s.heap) (hN : vx_Zq Bundle.tN "SUPPRESSED_SENTINEL" Bundle.listD A s s.heap) (hS : va_S A s.heap H locs) (hsize : ls.size = c.maxLocals)
    (d0 : decode cc pc = .ok (.new ik, 3)) (d3 : decode cc (pc + 3) = .ok (.dup, 1)) (d4 : decode cc (pc + 4) = .ok (.ldc is, 2)) (d6 : decode cc (pc + 6) = .ok (.invokespecial ic, 3)) (d9 : decode cc (pc + 9) = .ok (.athrow, 1))
    (hout : ∀ x ∈ c.exceptionTable.toList, covers x (pc + 9) = false)
    (hRframes : names.length + 3 < R.frames) (hRlocals : (rest.map fun v => v.category).sum + (13 * (names.length + 1) + 43) ≤ R.locals) (hRcells : cells + 1 ≤ R.cells) (hRslots : slots + 6 ≤ R.slots) (hlocks : meth.locks = false)
    (hx : ∀ t : State, s.vm.Alike t.vm → H.size ≤ t.heap.size → (∀ q : Nat, q < H.size → t.heap[q]? = H[q]?) → XC cls s t)
    (hf : ∀ z ∈ locs, free z.base) (hc : cells + 1 ≤ mc) (hs : slots + 6 ≤ ms) :
    W p l e R s m args below meth c H locs cells slots (vx_MQ below Qc XC args s mc ms free) (F0 m pc ls rest) := by
  intro T hT X
  have htr : e.platform.stackTraces = false := (show e.platform.stackTraces = l.stackTraces by rw [X.admits.platform]).trans hl
  have Y := vx_rebase X (R' := { frames := R.frames, locals := R.locals, cells := 1, slots := 6 }) (Nat.le_refl _) (Nat.le_refl _) hRcells hRslots
  obtain ⟨s', hA⟩ : ∃ z, z = (T.setVm s.vm).setFrames (.invoking m args :: below) := ⟨_, rfl⟩
  rw [← hA] at Y
  have hvm : s'.vm = s.vm := by rw [hA]; rfl
  have hhp : s'.heap = H := by rw [hA]; exact hT
  have hW0 : s.WarmedH s'.vm := by rw [hvm]; exact State.WarmedH.refl s
  have hat' : ∀ w ∈ vx_atS own ic cls names, w.before args s' = true := fun w hw => vx_ot_at hW0 hvm.symm (hgood w (List.mem_cons_of_mem _ (List.mem_cons_of_mem _ hw))) (hat w hw)
  have hk' : (Cond.classLink own ik cls).before args s' = true := vx_ot_at hW0 hvm.symm (hgood _ List.mem_cons_self) hk
  have hini' : (Cond.initialized cls).before args s' = true := vx_ot_at hW0 hvm.symm (hgood _ (List.mem_cons_of_mem _ List.mem_cons_self)) hini
  have hU' : vx_Zq Bundle.tN "UNASSIGNED_STACK" Bundle.steD A s' s'.heap := by rw [hhp]; exact vx_Zq.moved hW0.alike (hU.kept hS.2.1)
  have hN' : vx_Zq Bundle.tN "SUPPRESSED_SENTINEL" Bundle.listD A s' s'.heap := by rw [hhp]; exact vx_Zq.moved hW0.alike (hN.kept hS.2.1)
  have h : ∀ w ∈ Bundle.ownAtoms own ic cls names, w.before args s' = true := vx_own hat' (vx_isRefq hU'.1) (vx_isRefq hN'.1) hU'.2.word hN'.2.word
  have hown' : s'.vm.findClass own = some m.cls := by rw [hvm]; exact hown
  have hins : (Cond.instantiable cls 6).before args s' = true := h _ (by simp [Bundle.ownAtoms])
  obtain ⟨vm₁, cX, kX, hfX, hkX, -, -, X₁, st1⟩ := Y.newCold hexec (own := own) (C := cls) (index := ik) (n := 6) hown' hk' hins hini'
    (g := F0 m pc ls rest) rfl (by rw [hb]; exact d0) (Nat.le_refl _) (Nat.le_refl _)
  generalize hT1 : (T.setVm vm₁).pushCell { cls := cX, slots := kX.instanceTypes.map defaultValue, vm := .none } = T1 at X₁ st1
  have hcat : (Value.ref T.heap.size).category = 1 := rfl
  have hcellA : T1.heap[T.heap.size]? = some (freshCell cX kX) := by rw [← hT1]; exact State.heap_pushCell_size _ _
  have d3' : decode c.code (pc + 3) = .ok (.dup, 1) := by rw [hb]; exact d3
  have d4' : decode c.code (pc + 4) = .ok (.ldc is, 2) := by rw [hb]; exact d4
  have hstr' : vk_R own is text sa s' := vk_R.warm hW0 hstr
  obtain ⟨U, hsteps, hrun, hend, hW, hsame, ce, hce, hO⟩ := X₁.ctorThrowS hexec htr (own := own) (cls := cls) (names := names) (ic := ic) hown' hcls hnames h (fun x hx => nomatch hx) hfX hkX hcellA (by rw [hhp, hT]; exact Nat.le_refl _) (msg := .ref sa) rfl
    (g := { method := m, pc := pc + 6, locals := ls, stack := .ref sa :: .ref T.heap.size :: .ref T.heap.size :: rest, locked := none }) rfl hsize rfl rfl (rest := rest) rfl
    (by rw [hb]; exact d6) (by rw [hb]; exact d9) hout hRframes (by simp only [List.map_cons, List.sum_cons, hcat]; omega) hlocks
  obtain ⟨f1, f2⟩ := vx_frame hsame
  rw [hhp] at f1 f2
  have hWs : s.WarmedH U.vm := State.WarmedH.trans hW0 hW
  have hcl : s.vm.findClass cls = some ce.cls := by
    have h9 := hO.cls
    rw [hvm] at h9
    exact h9
  have hall : s.sameButNew ({ U with vm := s.vm } : State) locs mc ms := by
    subst hA
    obtain ⟨e1, e2⟩ := hsame
    rw [State.setFrames_setFrames] at e1
    have h2 : (T.setVm s.vm).sameButNew ({ U with vm := s.vm } : State) [] (0 + 1) (0 + 6) := ⟨e1, e2⟩
    have h3 := X.same.trans h2
    rw [List.append_nil] at h3
    exact h3.mono hc hs
  refine ⟨U, ?_, .threw T.heap.size, hrun, hend, Or.inr ⟨T.heap.size, rfl, cls, ce, locs, hx U hWs.alike f1 (fun q hq => f2 q hq (fun z hz => nomatch hz)), hce, hO.vm, hcl, hWs, hall, hf⟩⟩
  refine st1 _ ?_
  show Steps p.tables e below (T1.setTop { method := m, pc := pc + 3, locals := ls, stack := .ref T.heap.size :: rest, locked := none }) _
  jvm_step X₁.here [X₁.here.top, hexec, d3', Value.category]
  exact X₁.ldcString hexec (own := own) (text := text) (index := is) (a := sa) hown' hstr'.1 hstr'.2
    (g := { method := m, pc := pc + 4, locals := ls, stack := .ref T.heap.size :: .ref T.heap.size :: rest, locked := none }) rfl d4' _ hsteps
/-- 'throw new E("text")', the text by a wide index -/
theorem vx_throwSW {cc : ByteArray} {pc : Nat} (hexec : p.tables.exec = Jvm.exec) (hb : c.code = cc) (hl : l.stackTraces = false) {own cls text : String} {names : List String} {ik is ic mc ms sa : Nat} {A : Nat → Prop}
    (hown : s.vm.findClass own = some m.cls) (hcls : Bundle.fit cls = true) (hnames : ∀ n ∈ names, Bundle.fit n = true)
    (hk : (Cond.classLink own ik cls).before args s = true) (hini : (Cond.initialized cls).before args s = true) (hstr : vk_R own is text sa s) (hat : ∀ w ∈ vx_atS own ic cls names, w.before args s = true)
    (hgood : ∀ w ∈ Cond.classLink own ik cls :: Cond.initialized cls :: vx_atS own ic cls names, vx_ot w = true)
    (hU : vx_Zq Bundle.tN "UNASSIGNED_STACK" Bundle.steD A s s.heap) (hN : vx_Zq Bundle.tN "SUPPRESSED_SENTINEL" Bundle.listD A s s.heap) (hS : va_S A s.heap H locs) (hsize : ls.size = c.maxLocals)
    (d0 : decode cc pc = .ok (.new ik, 3)) (d3 : decode cc (pc + 3) = .ok (.dup, 1)) (d4 : decode cc (pc + 4) = .ok (.ldc_w is, 3)) (d7 : decode cc (pc + 7) = .ok (.invokespecial ic, 3)) (d10 : decode cc (pc + 10) = .ok (.athrow, 1))
    (hout : ∀ x ∈ c.exceptionTable.toList, covers x (pc + 10) = false)
    (hRframes : names.length + 3 < R.frames) (hRlocals : (rest.map fun v => v.category).sum + (13 * (names.length + 1) + 43) ≤ R.locals) (hRcells : cells + 1 ≤ R.cells) (hRslots : slots + 6 ≤ R.slots) (hlocks : meth.locks = false)
    (hx : ∀ t : State, s.vm.Alike t.vm → H.size ≤ t.heap.size → (∀ q : Nat, q < H.size → t.heap[q]? = H[q]?) → XC cls s t)
    (hf : ∀ z ∈ locs, free z.base) (hc : cells + 1 ≤ mc) (hs : slots + 6 ≤ ms) :
    W p l e R s m args below meth c H locs cells slots (vx_MQ below Qc XC args s mc ms free) (F0 m pc ls rest) := by
  intro T hT X
  have htr : e.platform.stackTraces = false := (show e.platform.stackTraces = l.stackTraces by rw [X.admits.platform]).trans hl
  have Y := vx_rebase X (R' := { frames := R.frames, locals := R.locals, cells := 1, slots := 6 }) (Nat.le_refl _) (Nat.le_refl _) hRcells hRslots
  obtain ⟨s', hA⟩ : ∃ z, z = (T.setVm s.vm).setFrames (.invoking m args :: below) := ⟨_, rfl⟩
  rw [← hA] at Y
  have hvm : s'.vm = s.vm := by rw [hA]; rfl
  have hhp : s'.heap = H := by rw [hA]; exact hT
  have hW0 : s.WarmedH s'.vm := by rw [hvm]; exact State.WarmedH.refl s
  have hat' : ∀ w ∈ vx_atS own ic cls names, w.before args s' = true := fun w hw => vx_ot_at hW0 hvm.symm (hgood w (List.mem_cons_of_mem _ (List.mem_cons_of_mem _ hw))) (hat w hw)
  have hk' : (Cond.classLink own ik cls).before args s' = true := vx_ot_at hW0 hvm.symm (hgood _ List.mem_cons_self) hk
  have hini' : (Cond.initialized cls).before args s' = true := vx_ot_at hW0 hvm.symm (hgood _ (List.mem_cons_of_mem _ List.mem_cons_self)) hini
  have hU' : vx_Zq Bundle.tN "UNASSIGNED_STACK" Bundle.steD A s' s'.heap := by rw [hhp]; exact vx_Zq.moved hW0.alike (hU.kept hS.2.1)
  have hN' : vx_Zq Bundle.tN "SUPPRESSED_SENTINEL" Bundle.listD A s' s'.heap := by rw [hhp]; exact vx_Zq.moved hW0.alike (hN.kept hS.2.1)
  have h : ∀ w ∈ Bundle.ownAtoms own ic cls names, w.before args s' = true := vx_own hat' (vx_isRefq hU'.1) (vx_isRefq hN'.1) hU'.2.word hN'.2.word
  have hown' : s'.vm.findClass own = some m.cls := by rw [hvm]; exact hown
  have hins : (Cond.instantiable cls 6).before args s' = true := h _ (by simp [Bundle.ownAtoms])
  obtain ⟨vm₁, cX, kX, hfX, hkX, -, -, X₁, st1⟩ := Y.newCold hexec (own := own) (C := cls) (index := ik) (n := 6) hown' hk' hins hini'
    (g := F0 m pc ls rest) rfl (by rw [hb]; exact d0) (Nat.le_refl _) (Nat.le_refl _)
  generalize hT1 : (T.setVm vm₁).pushCell { cls := cX, slots := kX.instanceTypes.map defaultValue, vm := .none } = T1 at X₁ st1
  have hcat : (Value.ref T.heap.size).category = 1 := rfl
  have hcellA : T1.heap[T.heap.size]? = some (freshCell cX kX) := by rw [← hT1]; exact State.heap_pushCell_size _ _
  have d3' : decode c.code (pc + 3) = .ok (.dup, 1) := by rw [hb]; exact d3
  have d4' : decode c.code (pc + 4) = .ok (.ldc_w is, 3) := by rw [hb]; exact d4
  have hstr' : vk_R own is text sa s' := vk_R.warm hW0 hstr
  obtain ⟨U, hsteps, hrun, hend, hW, hsame, ce, hce, hO⟩ := X₁.ctorThrowS hexec htr (own := own) (cls := cls) (names := names) (ic := ic) hown' hcls hnames h (fun x hx => nomatch hx) hfX hkX hcellA (by rw [hhp, hT]; exact Nat.le_refl _) (msg := .ref sa) rfl
    (g := { method := m, pc := pc + 7, locals := ls, stack := .ref sa :: .ref T.heap.size :: .ref T.heap.size :: rest, locked := none }) rfl hsize rfl rfl (rest := rest) rfl
    (by rw [hb]; exact d7) (by rw [hb]; exact d10) hout hRframes (by simp only [List.map_cons, List.sum_cons, hcat]; omega) hlocks
  obtain ⟨f1, f2⟩ := vx_frame hsame
  rw [hhp] at f1 f2
  have hWs : s.WarmedH U.vm := State.WarmedH.trans hW0 hW
  have hcl : s.vm.findClass cls = some ce.cls := by
    have h9 := hO.cls
    rw [hvm] at h9
    exact h9
  have hall : s.sameButNew ({ U with vm := s.vm } : State) locs mc ms := by
    subst hA
    obtain ⟨e1, e2⟩ := hsame
    rw [State.setFrames_setFrames] at e1
    have h2 : (T.setVm s.vm).sameButNew ({ U with vm := s.vm } : State) [] (0 + 1) (0 + 6) := ⟨e1, e2⟩
    have h3 := X.same.trans h2
    rw [List.append_nil] at h3
    exact h3.mono hc hs
  refine ⟨U, ?_, .threw T.heap.size, hrun, hend, Or.inr ⟨T.heap.size, rfl, cls, ce, locs, hx U hWs.alike f1 (fun q hq => f2 q hq (fun z hz => nomatch hz)), hce, hO.vm, hcl, hWs, hall, hf⟩⟩
  refine st1 _ ?_
  show Steps p.tables e below (T1.setTop { method := m, pc := pc + 3, locals := ls, stack := .ref T.heap.size :: rest, locked := none }) _
  jvm_step X₁.here [X₁.here.top, hexec, d3', Value.category]
  exact X₁.ldcStringW hexec (own := own) (text := text) (index := is) (a := sa) hown' hstr'.1 hstr'.2
    (g := { method := m, pc := pc + 4, locals := ls, stack := .ref T.heap.size :: .ref T.heap.size :: rest, locked := none }) rfl d4' _ hsteps
end Ends
section Bodies
variable {l : Launch}
theorem vx_ofW {y : MethodName} {ws ws' : List Cond} {rm : Room} {Pc : Array Value → State → Prop} {Qc : Array Value → State → Outcome → State → Prop} {XC : String → State → State → Prop} {mc ms : Nat} {free : Addr → Prop} {cc : ByteArray} {maxL : Nat} {ret : Option FieldType}
    (hy : plainName y.cls = true) (hw : ws = Cond.code y cc maxL ret :: ws')
    (body : ∀ p e s m args below meth c s₁, BodyLoose p l y (headSpec ws rm) cc maxL ret e s m args below meth c s₁ → c.maxLocals = maxL → (∀ x ∈ c.exceptionTable.toList, False) → Pc args s →
      W p l e (headSpec ws rm).room s m args below meth c s.heap [] 0 0 (vx_MQ below Qc XC args s mc ms free) (entryFrame m args maxL)) : vx_Met l y ws rm Pc Qc XC mc ms free := by
  refine MetFree.of_bodyS (code := cc) (maxLocals := maxL) (ret := ret) hy ?_ ?_
  · intro args s m h hn
    obtain ⟨meth, c, h1, h2, h3, h4, h5, h6, -, -⟩ := Cond.code_spec hn (atoms_spec (ws := ws) h _ (by rw [hw]; exact List.mem_cons_self))
    exact ⟨meth, c, h1, h2, h3, h4, h5, h6⟩
  · intro p e s m args below meth c s₁ B hml hP _
    have hh0 : s₁.heap = s.heap := by rw [B.state]; rfl
    have ht : ∀ x ∈ c.exceptionTable.toList, False := by
      obtain ⟨meth9, c9, h1, h2, -, -, -, -, h7, -⟩ := Cond.code_spec B.named (atoms_spec (ws := ws) B.pre _ (by rw [hw]; exact List.mem_cons_self))
      cases Option.some.inj (h1.symm.trans B.method)
      cases Option.some.inj (h2.symm.trans (Stand.of_body B).code)
      intro x hx
      rw [Array.isEmpty_iff.mp h7] at hx
      cases hx
    obtain ⟨t, a1, o, b1, b2, b3⟩ := body p e s m args below meth c s₁ B hml ht hP s₁ hh0 (Stand.of_body B)
    exact ⟨t, o, a1, b1, b2, b3⟩
/-- the table of a body with handlers -/
theorem vx_table {p : Program} {x y : MethodName} {S : Spec} {cc bytes : ByteArray} {maxL maxL' : Nat} {ret ret' : Option FieldType} {e : Env} {s s₁ : State} {m : MethodId} {args : Array Value} {below : List Frame} {meth : Method} {c : Code} {hh : List (Nat × Nat × Nat × Nat)}
    (B : BodyLoose p l y S cc maxL ret e s m args below meth c s₁) (h : (Cond.codeWith y bytes maxL' ret' hh).before args s = true) : c.exceptionTable.toList = tableOf hh := by
  obtain ⟨m9, meth9, c9, hn9, h1, h2, -, -, h6, -⟩ := Cond.codeWith_spec h
  cases Option.some.inj (hn9.symm.trans B.named)
  cases Option.some.inj (h1.symm.trans B.method)
  cases Option.some.inj (h2.symm.trans (Stand.of_body B).code)
  rw [← h6, table_eq]
end Bodies
end VXA
/-! ===== END ===== -/
/-! ===== BEGIN a static call of a method with an exception table ===== -/
section VXS
variable {p : Program} {l : Launch} {e : Env} {R : Room} {s : State} {m : MethodId} {args : Array Value} {below : List Frame} {meth : Method} {c : Code} {T : State} {H : Heap} {locs : List Loc} {cells slots : Nat}
abbrev vx_CSW (R : Room) (s : State) (args : Array Value) (own : String) (index : Nat) (y : MethodName) (bytes : ByteArray) (maxL : Nat) (ret : Option FieldType) (hh : List (Nat × Nat × Nat × Nat)) (ws : List Cond) (rm : Room) (mc ms n : Nat) : Prop :=
  (rm.cells = mc ∧ rm.slots = ms ∧ rm.frames + 1 ≤ R.frames ∧ 8 + (maxL + 11) + rm.locals ≤ R.locals ∧ (∀ w ∈ ws, ∀ (a' : Array Value) (U : State), s.WarmedH U.vm → w.before a' U = true) ∧ Cond.codeWith y bytes maxL ret hh ∈ ws) ∧
  (Cond.codeWith y bytes maxL ret hh).before args s = true ∧ (Cond.initialized y.cls).before args s = true ∧ (y.cls ≠ "java/lang/invoke/MethodHandle" ∧ y.cls ≠ "java/lang/invoke/VarHandle") ∧
  (∀ sig, parseMethodDescriptor y.desc = some sig → n = sig.parameters.length) ∧ (Cond.methodLink own index y).before args s = true ∧ (Cond.static y).before args s = true
theorem vx_cwSW {own : String} {index maxL mc ms : Nat} {y : MethodName} {bytes : ByteArray} {ret : Option FieldType} {hh : List (Nat × Nat × Nat × Nat)} {Ts ws ws' : List Cond} {rm : Room} (n : Nat) (ht : ∀ w ∈ Ts, w.before args s = true) (hT : GoodIn Ts (va_wsS own index y ws)) (hw : ws = Cond.codeWith y bytes maxL ret hh :: ws') (hrc : rm.cells = mc) (hrs : rm.slots = ms)
    (hd : y.cls ≠ "java/lang/invoke/MethodHandle" ∧ y.cls ≠ "java/lang/invoke/VarHandle" ∧ (parseMethodDescriptor y.desc).map (fun d => d.parameters.length) = some n) (hR : rm.frames + 1 ≤ R.frames ∧ 8 + (maxL + 11) + rm.locals ≤ R.locals) :
    vx_CSW R s args own index y bytes maxL ret hh ws rm mc ms n := by
  have ok : ∀ w ∈ va_wsS own index y ws, w.before args s = true := fun w h => ht w (hT w h).1
  have hG : GoodIn Ts ws := fun w h => hT w (by unfold va_wsS; exact List.mem_append_right _ h)
  have hc : Cond.codeWith y bytes maxL ret hh ∈ ws := by rw [hw]; exact List.mem_cons_self
  refine ⟨⟨hrc, hrs, hR.1, hR.2, pay_in ht hG, hc⟩, ht _ (hG _ hc).1, ok _ (by simp [va_wsS]), ⟨hd.1, hd.2.1⟩, fun sig h => ?_, ok _ (by simp [va_wsS]), ok _ (by simp [va_wsS])⟩
  have h2 := hd.2.2
  rw [h] at h2
  exact (Option.some.inj h2).symm
theorem vx_callSW (X : Stand p l e R s m args below meth c T locs cells slots) (hexec : p.tables.exec = Jvm.exec) {own : String} {index : Nat} {y : MethodName} {bytes : ByteArray} {maxL : Nat} {ret : Option FieldType} {hh : List (Nat × Nat × Nat × Nat)}
    (hown : s.vm.findClass own = some m.cls) (hlink : (Cond.methodLink own index y).before args s = true) (hstat : (Cond.static y).before args s = true) (hinit : (Cond.initialized y.cls).before args s = true)
    (hcode : (Cond.codeWith y bytes maxL ret hh).before args s = true) (hy : y.cls ≠ "java/lang/invoke/MethodHandle" ∧ y.cls ≠ "java/lang/invoke/VarHandle")
    {W9 : Nat} {Pre : Pt → Array Value → Prop} {Post : Pt → Array Value → Option Value → Pt → Prop} (hK : Back l R p e below s args y 3 W9 Pre Post)
    {g : JFrame} (hg : g.method = m) (hsize : g.locals.size = c.maxLocals) {argsL rest : List Value} (hlen : ∀ sig, parseMethodDescriptor y.desc = some sig → argsL.length = sig.parameters.length)
    (hstack : g.stack = argsL.reverse ++ rest) (hW : 2 * g.monitorRoom + (rest.map fun v => v.category).sum ≤ W9) (hdg : decode c.code g.pc = .ok (.invokestatic index, 3))
    (hpre : ∀ vm₁, s.WarmedH vm₁ → Pre ⟨T.setVm vm₁, locs, cells, slots⟩ argsL.toArray) :
    ∃ (v : Option Value) (vm₁ : Vm) (B : Pt), s.WarmedH vm₁ ∧ Stand p l e R s m args below meth c B.U B.locs B.cells B.slots ∧ Post ⟨T.setVm vm₁, locs, cells, slots⟩ argsL.toArray v B ∧
      ∀ target, Steps p.tables e below (B.U.setTop { g with pc := g.pc + 3, stack := v.toList ++ rest }) target → Steps p.tables e below (T.setTop g) target := by
  obtain ⟨mk, methM, cM, hnamed, hmethM, -, -, -, -, -, -, hsigM⟩ := Cond.codeWith_spec hcode
  have hstatic : methM.isStatic = true := Cond.static_spec hnamed hmethM hstat
  obtain ⟨kP, hkP, -⟩ := className_of_methodNamed hnamed
  have hinitP : kP.init = .initialized := Cond.initialized_spec (findClass_of_methodNamed hnamed) hkP hinit
  obtain ⟨vm₁, X₁, hstep₁⟩ := X.invokestatic hexec hown hlink hnamed hmethM hstatic hkP hinitP hy (g := g) hg (argsL := argsL) (rest := rest) (hlen _ hsigM) hstack hdg
  obtain ⟨v, B, X', hpost, hsteps⟩ := hK m meth c ⟨T.setVm vm₁, locs, cells, slots⟩ { g with stack := rest } (.invokestatic index) mk argsL.toArray X₁ hg hsize hdg hW (X₁.named hnamed) (hpre vm₁ X₁.warmed)
  exact ⟨v, vm₁, B, X₁.warmed, X', hpost, fun target h => hstep₁ _ fun acts => by rw [doInvoke_state]; exact hsteps.trans h⟩
theorem vx_runSW {y : MethodName} {bytes cc : ByteArray} {maxL nL mc ms n index : Nat} {ret : Option FieldType} {hh : List (Nat × Nat × Nat × Nat)} {ws : List Cond} {rm : Room} {Pc : Array Value → State → Prop} {Qc : Array Value → State → Outcome → State → Prop} {free : Addr → Prop} {Ts : List Cond} {own : String} {As rest : List Value} {g : JFrame}
    (S : CallFix p m c cc nL s args Ts own) (hM : Met l y ws rm Pc Qc mc ms free) (cw : vx_CSW R s args own index y bytes maxL ret hh ws rm mc ms n) (hp : PreS s H Pc As)
    (hg : g.method = m) (hn : As.length = n) (hsize : g.locals.size = nL) (hstack : g.stack = As.reverse ++ rest) (hW : 2 * g.monitorRoom + (rest.map fun v => v.category).sum ≤ 8) (hdg : decode cc g.pc = .ok (.invokestatic index, 3)) (hf : cells + mc ≤ R.cells ∧ slots + ms ≤ R.slots) :
    va_Run p l e R s m args below meth c H locs cells slots mc ms g rest (Qc As.toArray) (free) := by
  obtain ⟨⟨hrc, hrs, hfr, hlo, hws, hcw⟩, hcode, hini, hy, hlen, hl, hstt⟩ := cw
  have hK : Back l R p e below s args y 3 8 (PreOf R mc ms Pc) (PostOf Qc mc ms free) := va_backW (hh := hh) (bytes := bytes) (maxL := maxL) (ret := ret) hM hp.1 hrc hrs hfr hlo hws hcw (fun a' U hW => word_at hW (Or.inl (by first | rfl | simp [Cond.onTables, Cond.keeps, Cond.steady])) hini)
  obtain ⟨hx, hb, hml, ho, -⟩ := S
  intro T hT X
  obtain ⟨v, vm₁, ⟨U', l2, c2, s2⟩, hW₁, X', ⟨g', mk, t, L, e1, e2, hq, h1, hL, h2, h3⟩, st⟩ := vx_callSW X hx (hh := hh) (bytes := bytes) (maxL := maxL) (ret := ret) ho hl hstt hini hcode hy hK hg (hsize.trans hml.symm) (argsL := As) (rest := rest) (fun sig h => hn.trans (hlen sig h)) hstack hW (by rw [hb]; exact hdg)
    (fun vm₁ hW₁ => ⟨hf.1, hf.2, hp.2 (T.setVm vm₁) hT hW₁⟩)
  dsimp only [Pt.U, Pt.locs, Pt.cells, Pt.slots] at X' e1 e2 h1 h2 h3 st
  subst h1; subst h2; subst h3
  exact ⟨v, (T.setVm vm₁).calling g' mk As.toArray, t, U', L, hT, X', hL, e1, e2, hq, st⟩
/-- not caught here, past rows that name other classes: it goes on to the caller -/
theorem vx_outP {p : Program} {l : Launch} {e : Env} {R : Room} {s : State} {m : MethodId} {args : Array Value} {below : List Frame} {meth : Method} {c : Code} {H : Heap} {locs : List Loc} {cells slots : Nat} {free : Addr → Prop} {ls : Array Slot} {rest : List Value} {Qc : Array Value → State → Outcome → State → Prop} {XC : String → State → State → Prop}
    {pc : Nat} {own E : String} {ce : Cell} {q : Addr} {mc ms : Nat} (hown : s.vm.findClass own = some m.cls) (hlocks : meth.locks = false)
    (hpass : ∀ z ∈ c.exceptionTable.toList, covers z pc = false ∨ (z.catchType ≠ 0 ∧ ∃ nm : String, (Cond.classLink own z.catchType nm).before args s = true ∧ va_Nc E nm s)) (hcell : H[q]? = some ce) (hv : ce.vm = .none) (hcl : s.vm.findClass E = some ce.cls)
    (hx : ∀ t : State, t.heap = H → s.vm.Alike t.vm → XC E s t) (hf : ∀ z ∈ locs, free z.base) (hc : cells ≤ mc) (hs : slots ≤ ms) :
    vx_W p l e R s m args below meth c H locs cells slots (vx_MQ below Qc XC args s mc ms free) (F0 m pc ls rest) q := by
  intro T hT X
  have hpl : e.platform.magicAccessors = ({} : Platform).magicAccessors := by rw [X.admits.platform]
  obtain ⟨vm', hW', X', st⟩ := X.outThrough hlocks q (g := F0 m pc ls rest) rfl rfl rfl (cell := ce) (by rw [hT]; exact hcell) (by rw [hv]; rfl)
    (by obtain ⟨k9, h9, -⟩ := Vm.findClass_spec hcl; exact ⟨k9, h9⟩) (fun z hz => by
      rcases hpass z hz with h | ⟨hz0, nm, hl1, hn1⟩
      · exact Or.inl h
      · obtain ⟨c6, hc6, hcl6⟩ := Cond.classLink_spec hown hl1 e.platform hpl
        obtain ⟨a8, b8, h1, h2, h3⟩ := hn1
        cases Option.some.inj (h1.symm.trans hcl)
        cases Option.some.inj (h2.symm.trans hc6)
        exact Or.inr ⟨hz0, _, hcl6, h3⟩)
  obtain ⟨g₀, hfr⟩ := X'.frames_eq
  have hcell9 : ((T.setVm vm').setFrames (.throwing q :: below)).heap[q]? = some ce := by
    show T.heap[q]? = some ce
    rw [hT]; exact hcell
  have hend : Ended ((T.setVm vm').setFrames (.throwing q :: below)) below (.threw q) := State.frames_setFrames _ (State.cur_lt_of_frames hfr)
  refine ⟨(T.setVm vm').setFrames (.throwing q :: below), ?_, .threw q, X'.here.running, hend, Or.inr ⟨q, rfl, E, ce, locs, hx _ hT (X'.ends _).1.alike, hcell9, hv, hcl, (X'.ends _).1, (X'.ends _).2.mono hc hs, hf⟩⟩
  rw [X.pushThrowing_eq]
  exact st
/-- a thing of a world lies in the heap -/
theorem vx_lt {D : va_G} {cl : List vw_C} {ws : va_W} {H1 : Heap} (h : va_P D cl ws H1) {k : Nat} {q : Nat × va_E} (hk : ws[k]? = some q) : q.1 < H1.size := (h k q hk).lt
end VXS
/-! ===== END ===== -/
/-! ===== BEGIN methods with a table of their own: called by a name, returning or throwing ===== -/
section VXH
/-! vx_backW, vx_callVX, vx_callSX, vx_callVW, vx_runVW, vx_runVX, vx_runSX, vx_ofWH follow the same proofs as their sisters above (Free/Laws.lean, Shelf42/LK1.lean); vx_outP calls Shelf42/NT130.lean (outThrough). -/
section
variable {l : Launch} {R : Room} {p : Program} {e : Env} {below : List Frame} {s : State} {sargs : Array Value} {y : MethodName} {len W9 : Nat}
theorem vx_backW {ws : List Cond} {rm : Room} {Pc : Array Value → State → Prop} {Qc : Array Value → State → Outcome → State → Prop} {XC : String → State → State → Prop} {mc ms : Nat} {free : Addr → Prop} {bytes : ByteArray} {maxL : Nat} {ret : Option FieldType} {hh : List (Nat × Nat × Nat × Nat)}
    (hM : vx_Met l y ws rm Pc Qc XC mc ms free) (hblind : FrameBlind Pc) (hrc : rm.cells = mc) (hrs : rm.slots = ms)
    (hframes : rm.frames + 1 ≤ R.frames) (hlocals : W9 + (maxL + 11) + rm.locals ≤ R.locals)
    (hws : ∀ w ∈ ws, ∀ a' U, s.WarmedH U.vm → w.before a' U = true) (hcode : Cond.codeWith y bytes maxL ret hh ∈ ws) (hinit : ∀ a' U, s.WarmedH U.vm → (Cond.initialized y.cls).before a' U = true) :
    vx_Back l R p e below s sargs y len W9 (PreOf R mc ms Pc) (PostOf Qc mc ms free) (vx_Post XC mc ms free) := by
  intro m meth c A g ig mk a X hg hsize hdg hW hn hp
  have h1 : (headSpec ws rm).pre.before a A.U = true := atoms_intro fun w hw => hws w hw _ _ X.warmed
  have h2 : (Cond.codeWith y bytes maxL ret hh).before a A.U = true := hws _ hcode _ _ X.warmed
  have h3 : (Cond.initialized y.cls).before a A.U = true := hinit _ _ X.warmed
  have h4 : A.cells + (headSpec ws rm).room.cells ≤ R.cells := by rw [show (headSpec ws rm).room.cells = mc from hrc]; exact hp.1
  have h5 : A.slots + (headSpec ws rm).room.slots ≤ R.slots := by rw [show (headSpec ws rm).room.slots = ms from hrs]; exact hp.2.1
  have hPc : Pc a (A.U.calling g mk a) := hblind _ _ _ _ hp.2.2
  obtain ⟨U, Ls, c0, s0⟩ := A
  dsimp only [Pt.U, Pt.locs, Pt.cells, Pt.slots] at h1 h2 h3 h4 h5 X hn hPc ⊢
  obtain ⟨m9, methY, cY, hn9, hmY, hcY, -, hlY, -⟩ := Cond.codeWith_spec h2
  cases Option.some.inj (hn9.symm.trans hn)
  obtain ⟨kY, hkY, -⟩ := className_of_methodNamed hn
  have hinitY : kY.init = .initialized := Cond.initialized_spec (findClass_of_methodNamed hn) hkY h3
  have h : At U g.method c below := by rw [hg]; exact X.here
  have hlocals9 : W9 + (maxL + 11) + (headSpec ws rm).room.locals ≤ R.locals := hlocals
  have happ : (headSpec ws rm).appliesLoose y e.platform (U.calling g mk a) = true :=
    Spec.appliesLoose_calling (g := g) h hdg hn hkY hinitY
      (X.room_calling (g := g) (R' := (headSpec ws rm).room) hsize hmY hcY hframes (by rw [hlY]; omega) h4 h5) h1
  obtain ⟨mid, hmid⟩ := h.above
  have hfr : (U.setTop g).frames = (.java g :: mid) ++ below := by rw [State.frames_setTop' g h.top, hmid]; rfl
  obtain ⟨o, s₂, hsteps, -, hend, hq⟩ := Steps.callFree hM p X.admits X.cas X.clock (acts := []) hfr happ hPc trivial
  have hq' : vx_Q Qc XC mc ms free a (U.calling g mk a) o s₂ := hq
  rw [State.frames_setTop' g h.top] at hend
  obtain ⟨g₀, hg0⟩ := Option.isSome_iff_exists.mp h.top
  obtain ⟨r, hr⟩ := State.topJava?_eq_some.mp hg0
  have hr' : (({ U with heap := s₂.heap, slotsUsed := s₂.slotsUsed } : State).setVm s₂.vm).frames = .java g₀ :: r := hr
  rcases hq' with ⟨hqc, L, hfe, hL⟩ | ⟨q, rfl, E, ce, L, hx, hce, hcv, hcl, hW₂, hsm, hL⟩
  · obtain ⟨⟨v, rfl⟩, hW₂, e2, q2, q3, q4, q5, q6⟩ := id hfe
    have e3 : s₂ = ({ (U.calling g mk a).setFrames s₂.frames with heap := s₂.heap, slotsUsed := s₂.slotsUsed } : State).setVm s₂.vm := by
      have : s₂ = ({ s₂ with vm := (U.calling g mk a).vm } : State).setVm s₂.vm := rfl
      rw [e2] at this
      exact this
    obtain ⟨c₂, i₂, len₂, hc₂, hd₂, hf₂⟩ := hend
    have hW' : U.WarmedH s₂.vm := hW₂
    have hcc : c₂ = c := by
      have h1 : s₂.code? g.method = U.code? g.method := by
        rw [State.code?_eq, State.code?_eq, hW'.alike.method?]
      exact Option.some.inj (hc₂.symm.trans (h1.trans h.code))
    subst hcc
    have hlen : len₂ = len := by rw [hdg] at hd₂; cases hd₂; rfl
    subst hlen
    have hs₂ : s₂ = (({ U with heap := s₂.heap, slotsUsed := s₂.slotsUsed } : State).setVm s₂.vm).setTop { g with pc := g.pc + len₂, stack := v.toList ++ g.stack } := by
      refine e3.trans ?_
      rw [hf₂, State.calling_eq h.top, State.setFrames_setFrames, State.setTop_of_frames _ hr', hr]
      rfl
    have hsame : U.sameButNew ({ U with heap := s₂.heap, slotsUsed := s₂.slotsUsed } : State) L mc ms := by
      refine ⟨?_, q2, q3, q4, q5, q6⟩
      obtain ⟨t, ht, -⟩ := State.frames_cons hr
      show ({ U with heap := s₂.heap, slotsUsed := s₂.slotsUsed } : State) = { U.setFrames U.frames with heap := s₂.heap, slotsUsed := s₂.slotsUsed }
      rw [State.setFrames_self ht]
    subst hg
    refine Or.inl ⟨v, ⟨(({ U with heap := s₂.heap, slotsUsed := s₂.slotsUsed } : State).setVm s₂.vm), Ls ++ L, c0 + mc, s0 + ms⟩,
      ⟨X.admits, X.cas, X.clock, X.frames, X.room, X.hears, X.method, X.code, (X.here.setHeapUsed s₂.heap s₂.slotsUsed).setVm hW'.alike, X.tail, State.WarmedH.trans X.warmed hW', X.limits, X.bytes, X.same.trans (hsame.setVm s.vm)⟩,
      ⟨g, mk, s₂, L, rfl, rfl, hqc, rfl, hL, rfl, rfl⟩, ?_⟩
    show Steps p.tables e below _ ((({ U with heap := s₂.heap, slotsUsed := s₂.slotsUsed } : State).setVm s₂.vm).setTop { g with pc := g.pc + len₂, stack := v.toList ++ g.stack })
    rw [← hs₂]
    exact hsteps
  · obtain ⟨e2, q2, q3, q4, q5, q6⟩ := id hsm
    have e3 : s₂ = ({ (U.calling g mk a).setFrames s₂.frames with heap := s₂.heap, slotsUsed := s₂.slotsUsed } : State).setVm s₂.vm := by
      have : s₂ = ({ s₂ with vm := (U.calling g mk a).vm } : State).setVm s₂.vm := rfl
      rw [e2] at this
      exact this
    have hf₂ : s₂.frames = .throwing q :: .java g :: U.frames.tail := hend
    have hW' : U.WarmedH s₂.vm := hW₂
    have hs₂ : s₂ = ((({ U with heap := s₂.heap, slotsUsed := s₂.slotsUsed } : State).setVm s₂.vm).setTop g).pushFrame (.throwing q) := by
      refine e3.trans ?_
      rw [hf₂, State.calling_eq h.top, State.setFrames_setFrames, State.pushFrame, State.frames_setTop _ hr', State.setTop_of_frames _ hr', State.setFrames_setFrames, hr]
      rfl
    have hsame : U.sameButNew ({ U with heap := s₂.heap, slotsUsed := s₂.slotsUsed } : State) L mc ms := by
      refine ⟨?_, q2, q3, q4, q5, q6⟩
      obtain ⟨t, ht, -⟩ := State.frames_cons hr
      show ({ U with heap := s₂.heap, slotsUsed := s₂.slotsUsed } : State) = { U.setFrames U.frames with heap := s₂.heap, slotsUsed := s₂.slotsUsed }
      rw [State.setFrames_self ht]
    subst hg
    refine Or.inr ⟨q, ⟨(({ U with heap := s₂.heap, slotsUsed := s₂.slotsUsed } : State).setVm s₂.vm), Ls ++ L, c0 + mc, s0 + ms⟩,
      ⟨X.admits, X.cas, X.clock, X.frames, X.room, X.hears, X.method, X.code, (X.here.setHeapUsed s₂.heap s₂.slotsUsed).setVm hW'.alike, X.tail, State.WarmedH.trans X.warmed hW', X.limits, X.bytes, X.same.trans (hsame.setVm s.vm)⟩,
      ⟨g, mk, s₂, L, E, ce, rfl, rfl, hx, hce, hcv, hcl, rfl, hL, rfl, rfl⟩, ?_⟩
    show Steps p.tables e below _ (((({ U with heap := s₂.heap, slotsUsed := s₂.slotsUsed } : State).setVm s₂.vm).setTop g).pushFrame (.throwing q))
    rw [← hs₂]
    exact hsteps
end
variable {p : Program} {l : Launch} {e : Env} {R : Room} {s : State} {m : MethodId} {args : Array Value} {below : List Frame} {meth : Method} {c : Code} {T : State} {H : Heap} {locs : List Loc} {cells slots : Nat}
theorem vx_callVX (X : Stand p l e R s m args below meth c T locs cells slots) (hexec : p.tables.exec = Jvm.exec) {own C : String} {index : Nat} {y : MethodName} {bytes : ByteArray} {maxL : Nat} {ret : Option FieldType} {hh : List (Nat × Nat × Nat × Nat)}
    (hown : s.vm.findClass own = some m.cls) (hlink : (Cond.methodLink own index y).before args s = true) (hinst : (Cond.instanceMethod y).before args s = true) (hsel : (Cond.selects C y y).before args s = true)
    (hcode : (Cond.codeWith y bytes maxL ret hh).before args s = true) (hy : y.cls ≠ "java/lang/invoke/MethodHandle" ∧ y.cls ≠ "java/lang/invoke/VarHandle")
    {W9 : Nat} {Pre : Pt → Array Value → Prop} {Post : Pt → Array Value → Option Value → Pt → Prop} {PostX : Pt → Array Value → Addr → Pt → Prop} (hK : vx_Back l R p e below s args y 3 W9 Pre Post PostX)
    {b : Addr} {cellB : Cell} (hcell : T.heap[b]? = some cellB) (hobj : cellB.vm.isStatics = false) (hcls : s.vm.findClass C = some cellB.cls)
    {g : JFrame} (hg : g.method = m) (hsize : g.locals.size = c.maxLocals) {argsL rest : List Value} (hlen : ∀ sig, parseMethodDescriptor y.desc = some sig → argsL.length = sig.parameters.length)
    (hstack : g.stack = argsL.reverse ++ .ref b :: rest) (hW : 2 * g.monitorRoom + (rest.map fun v => v.category).sum ≤ W9) (hdg : decode c.code g.pc = .ok (.invokevirtual index, 3))
    (hpre : ∀ vm₁, s.WarmedH vm₁ → Pre ⟨T.setVm vm₁, locs, cells, slots⟩ (Value.ref b :: argsL).toArray) :
    (∃ (v : Option Value) (vm₁ : Vm) (B : Pt), s.WarmedH vm₁ ∧ Stand p l e R s m args below meth c B.U B.locs B.cells B.slots ∧ Post ⟨T.setVm vm₁, locs, cells, slots⟩ (Value.ref b :: argsL).toArray v B ∧
      ∀ target, Steps p.tables e below (B.U.setTop { g with pc := g.pc + 3, stack := v.toList ++ rest }) target → Steps p.tables e below (T.setTop g) target) ∨
    (∃ (q : Addr) (vm₁ : Vm) (B : Pt), s.WarmedH vm₁ ∧ Stand p l e R s m args below meth c B.U B.locs B.cells B.slots ∧ PostX ⟨T.setVm vm₁, locs, cells, slots⟩ (Value.ref b :: argsL).toArray q B ∧
      Steps p.tables e below (T.setTop g) ((B.U.setTop { g with stack := rest }).pushFrame (.throwing q))) := by
  obtain ⟨mk, methM, hnamed, hmethM, hstM, habM⟩ := Cond.instanceMethod_spec hinst
  obtain ⟨m8, methM', cM, hn8, hmethM', -, -, -, -, -, -, hsigM⟩ := Cond.codeWith_spec hcode
  cases Option.some.inj (hn8.symm.trans hnamed)
  cases hmethM.symm.trans hmethM'
  obtain ⟨c2, r2, m2, q1, q2, q3, q4, kP, hkP, hkPi⟩ := Cond.selects_spec hsel
  cases hcls.symm.trans q1
  cases (State.methodFound?_of_named hnamed hy).symm.trans q2
  cases hnamed.symm.trans q3
  have hselP : selectMethod e.platform s.vm cellB.cls mk = .method mk := by rw [Launch.admits_selectMethod X.admits]; exact q4
  obtain ⟨vm₁, X₁, hstep₁⟩ := X.invokevirtual hexec hown hlink hnamed hmethM hstM hkP hkPi hy (a := b) (cell := cellB) hcell
    (fun z h => by rw [h] at hobj; cases hobj) hselP hmethM habM hkP hkPi (g := g) hg (argsL := argsL) (rest := rest) (hlen _ hsigM) hstack hdg
  rcases hK m meth c ⟨T.setVm vm₁, locs, cells, slots⟩ { g with stack := rest } (.invokevirtual index) mk (Value.ref b :: argsL).toArray X₁ hg hsize hdg hW (X₁.named hnamed) (hpre vm₁ X₁.warmed) with ⟨v, B, X', hpost, hsteps⟩ | ⟨q, B, X', hpost, hsteps⟩
  · exact Or.inl ⟨v, vm₁, B, X₁.warmed, X', hpost, fun target h => hstep₁ _ fun acts => by rw [doInvoke_state]; exact hsteps.trans h⟩
  · exact Or.inr ⟨q, vm₁, B, X₁.warmed, X', hpost, hstep₁ _ fun acts => by rw [doInvoke_state]; exact hsteps⟩
theorem vx_callSX (X : Stand p l e R s m args below meth c T locs cells slots) (hexec : p.tables.exec = Jvm.exec) {own : String} {index : Nat} {y : MethodName} {bytes : ByteArray} {maxL : Nat} {ret : Option FieldType} {hh : List (Nat × Nat × Nat × Nat)}
    (hown : s.vm.findClass own = some m.cls) (hlink : (Cond.methodLink own index y).before args s = true) (hstat : (Cond.static y).before args s = true) (hinit : (Cond.initialized y.cls).before args s = true)
    (hcode : (Cond.codeWith y bytes maxL ret hh).before args s = true) (hy : y.cls ≠ "java/lang/invoke/MethodHandle" ∧ y.cls ≠ "java/lang/invoke/VarHandle")
    {W9 : Nat} {Pre : Pt → Array Value → Prop} {Post : Pt → Array Value → Option Value → Pt → Prop} {PostX : Pt → Array Value → Addr → Pt → Prop} (hK : vx_Back l R p e below s args y 3 W9 Pre Post PostX)
    {g : JFrame} (hg : g.method = m) (hsize : g.locals.size = c.maxLocals) {argsL rest : List Value} (hlen : ∀ sig, parseMethodDescriptor y.desc = some sig → argsL.length = sig.parameters.length)
    (hstack : g.stack = argsL.reverse ++ rest) (hW : 2 * g.monitorRoom + (rest.map fun v => v.category).sum ≤ W9) (hdg : decode c.code g.pc = .ok (.invokestatic index, 3))
    (hpre : ∀ vm₁, s.WarmedH vm₁ → Pre ⟨T.setVm vm₁, locs, cells, slots⟩ argsL.toArray) :
    (∃ (v : Option Value) (vm₁ : Vm) (B : Pt), s.WarmedH vm₁ ∧ Stand p l e R s m args below meth c B.U B.locs B.cells B.slots ∧ Post ⟨T.setVm vm₁, locs, cells, slots⟩ argsL.toArray v B ∧
      ∀ target, Steps p.tables e below (B.U.setTop { g with pc := g.pc + 3, stack := v.toList ++ rest }) target → Steps p.tables e below (T.setTop g) target) ∨
    (∃ (q : Addr) (vm₁ : Vm) (B : Pt), s.WarmedH vm₁ ∧ Stand p l e R s m args below meth c B.U B.locs B.cells B.slots ∧ PostX ⟨T.setVm vm₁, locs, cells, slots⟩ argsL.toArray q B ∧
      Steps p.tables e below (T.setTop g) ((B.U.setTop { g with stack := rest }).pushFrame (.throwing q))) := by
  obtain ⟨mk, methM, cM, hnamed, hmethM, -, -, -, -, -, -, hsigM⟩ := Cond.codeWith_spec hcode
  have hstatic : methM.isStatic = true := Cond.static_spec hnamed hmethM hstat
  obtain ⟨kP, hkP, -⟩ := className_of_methodNamed hnamed
  have hinitP : kP.init = .initialized := Cond.initialized_spec (findClass_of_methodNamed hnamed) hkP hinit
  obtain ⟨vm₁, X₁, hstep₁⟩ := X.invokestatic hexec hown hlink hnamed hmethM hstatic hkP hinitP hy (g := g) hg (argsL := argsL) (rest := rest) (hlen _ hsigM) hstack hdg
  rcases hK m meth c ⟨T.setVm vm₁, locs, cells, slots⟩ { g with stack := rest } (.invokestatic index) mk argsL.toArray X₁ hg hsize hdg hW (X₁.named hnamed) (hpre vm₁ X₁.warmed) with ⟨v, B, X', hpost, hsteps⟩ | ⟨q, B, X', hpost, hsteps⟩
  · exact Or.inl ⟨v, vm₁, B, X₁.warmed, X', hpost, fun target h => hstep₁ _ fun acts => by rw [doInvoke_state]; exact hsteps.trans h⟩
  · exact Or.inr ⟨q, vm₁, B, X₁.warmed, X', hpost, hstep₁ _ fun acts => by rw [doInvoke_state]; exact hsteps⟩
theorem vx_callVW (X : Stand p l e R s m args below meth c T locs cells slots) (hexec : p.tables.exec = Jvm.exec) {own C : String} {index : Nat} {y : MethodName} {bytes : ByteArray} {maxL : Nat} {ret : Option FieldType} {hh : List (Nat × Nat × Nat × Nat)}
    (hown : s.vm.findClass own = some m.cls) (hlink : (Cond.methodLink own index y).before args s = true) (hinst : (Cond.instanceMethod y).before args s = true) (hsel : (Cond.selects C y y).before args s = true)
    (hcode : (Cond.codeWith y bytes maxL ret hh).before args s = true) (hy : y.cls ≠ "java/lang/invoke/MethodHandle" ∧ y.cls ≠ "java/lang/invoke/VarHandle")
    {W9 : Nat} {Pre : Pt → Array Value → Prop} {Post : Pt → Array Value → Option Value → Pt → Prop} (hK : Back l R p e below s args y 3 W9 Pre Post)
    {b : Addr} {cellB : Cell} (hcell : T.heap[b]? = some cellB) (hobj : cellB.vm.isStatics = false) (hcls : s.vm.findClass C = some cellB.cls)
    {g : JFrame} (hg : g.method = m) (hsize : g.locals.size = c.maxLocals) {argsL rest : List Value} (hlen : ∀ sig, parseMethodDescriptor y.desc = some sig → argsL.length = sig.parameters.length)
    (hstack : g.stack = argsL.reverse ++ .ref b :: rest) (hW : 2 * g.monitorRoom + (rest.map fun v => v.category).sum ≤ W9) (hdg : decode c.code g.pc = .ok (.invokevirtual index, 3))
    (hpre : ∀ vm₁, s.WarmedH vm₁ → Pre ⟨T.setVm vm₁, locs, cells, slots⟩ (Value.ref b :: argsL).toArray) :
    ∃ (v : Option Value) (vm₁ : Vm) (B : Pt), s.WarmedH vm₁ ∧ Stand p l e R s m args below meth c B.U B.locs B.cells B.slots ∧ Post ⟨T.setVm vm₁, locs, cells, slots⟩ (Value.ref b :: argsL).toArray v B ∧
      ∀ target, Steps p.tables e below (B.U.setTop { g with pc := g.pc + 3, stack := v.toList ++ rest }) target → Steps p.tables e below (T.setTop g) target := by
  obtain ⟨mk, methM, hnamed, hmethM, hstM, habM⟩ := Cond.instanceMethod_spec hinst
  obtain ⟨m8, methM', cM, hn8, hmethM', -, -, -, -, -, -, hsigM⟩ := Cond.codeWith_spec hcode
  cases Option.some.inj (hn8.symm.trans hnamed)
  cases hmethM.symm.trans hmethM'
  obtain ⟨c2, r2, m2, q1, q2, q3, q4, kP, hkP, hkPi⟩ := Cond.selects_spec hsel
  cases hcls.symm.trans q1
  cases (State.methodFound?_of_named hnamed hy).symm.trans q2
  cases hnamed.symm.trans q3
  have hselP : selectMethod e.platform s.vm cellB.cls mk = .method mk := by rw [Launch.admits_selectMethod X.admits]; exact q4
  obtain ⟨vm₁, X₁, hstep₁⟩ := X.invokevirtual hexec hown hlink hnamed hmethM hstM hkP hkPi hy (a := b) (cell := cellB) hcell
    (fun z h => by rw [h] at hobj; cases hobj) hselP hmethM habM hkP hkPi (g := g) hg (argsL := argsL) (rest := rest) (hlen _ hsigM) hstack hdg
  obtain ⟨v, B, X', hpost, hsteps⟩ := hK m meth c ⟨T.setVm vm₁, locs, cells, slots⟩ { g with stack := rest } (.invokevirtual index) mk (Value.ref b :: argsL).toArray X₁ hg hsize hdg hW (X₁.named hnamed) (hpre vm₁ X₁.warmed)
  exact ⟨v, vm₁, B, X₁.warmed, X', hpost, fun target h => hstep₁ _ fun acts => by rw [doInvoke_state]; exact hsteps.trans h⟩
abbrev vx_CVW (R : Room) (s : State) (args : Array Value) (own C : String) (index : Nat) (y : MethodName) (bytes : ByteArray) (maxL : Nat) (ret : Option FieldType) (hh : List (Nat × Nat × Nat × Nat)) (ws : List Cond) (rm : Room) (mc ms n : Nat) : Prop :=
  (rm.cells = mc ∧ rm.slots = ms ∧ rm.frames + 1 ≤ R.frames ∧ 8 + (maxL + 11) + rm.locals ≤ R.locals ∧ (∀ w ∈ ws, ∀ (a' : Array Value) (U : State), s.WarmedH U.vm → w.before a' U = true) ∧ Cond.codeWith y bytes maxL ret hh ∈ ws) ∧
  (Cond.codeWith y bytes maxL ret hh).before args s = true ∧ (Cond.initialized y.cls).before args s = true ∧ (y.cls ≠ "java/lang/invoke/MethodHandle" ∧ y.cls ≠ "java/lang/invoke/VarHandle") ∧
  (∀ sig, parseMethodDescriptor y.desc = some sig → n = sig.parameters.length) ∧ (Cond.methodLink own index y).before args s = true ∧ (Cond.instanceMethod y).before args s = true ∧ (Cond.selects C y y).before args s = true
theorem vx_cwVW {own C : String} {index maxL mc ms : Nat} {y : MethodName} {bytes : ByteArray} {ret : Option FieldType} {hh : List (Nat × Nat × Nat × Nat)} {Ts ws ws' : List Cond} {rm : Room} (n : Nat) (ht : ∀ w ∈ Ts, w.before args s = true) (hT : GoodIn Ts (wsV own index C y ws)) (hw : ws = Cond.codeWith y bytes maxL ret hh :: ws') (hrc : rm.cells = mc) (hrs : rm.slots = ms)
    (hd : y.cls = C ∧ y.cls ≠ "java/lang/invoke/MethodHandle" ∧ y.cls ≠ "java/lang/invoke/VarHandle" ∧ (parseMethodDescriptor y.desc).map (fun d => d.parameters.length) = some n) (hR : rm.frames + 1 ≤ R.frames ∧ 8 + (maxL + 11) + rm.locals ≤ R.locals) :
    vx_CVW R s args own C index y bytes maxL ret hh ws rm mc ms n := by
  obtain ⟨hC, hd⟩ := hd
  subst hC
  have ok : ∀ w ∈ wsV own index y.cls y ws, w.before args s = true := fun w h => ht w (hT w h).1
  have hG : GoodIn Ts ws := fun w h => hT w (by unfold wsV; exact List.mem_append_right _ h)
  have hc : Cond.codeWith y bytes maxL ret hh ∈ ws := by rw [hw]; exact List.mem_cons_self
  refine ⟨⟨hrc, hrs, hR.1, hR.2, pay_in ht hG, hc⟩, ht _ (hG _ hc).1, ok _ (by simp [wsV]), ⟨hd.1, hd.2.1⟩, fun sig h => ?_, ok _ (by simp [wsV]), ok _ (by simp [wsV]), ok _ (by simp [wsV])⟩
  have h2 := hd.2.2
  rw [h] at h2
  exact (Option.some.inj h2).symm
theorem vx_runVW {y : MethodName} {bytes cc : ByteArray} {maxL nL mc ms n index : Nat} {ret : Option FieldType} {hh : List (Nat × Nat × Nat × Nat)} {ws : List Cond} {rm : Room} {Pc : Array Value → State → Prop} {Qc : Array Value → State → Outcome → State → Prop} {free : Addr → Prop} {Ts : List Cond} {own C : String} {b : Addr} {As rest : List Value} {g : JFrame}
    (S : CallFix p m c cc nL s args Ts own) (hM : Met l y ws rm Pc Qc mc ms free) (cw : vx_CVW R s args own C index y bytes maxL ret hh ws rm mc ms n) (hp : PreV s H C b Pc As)
    (hg : g.method = m) (hn : As.length = n) (hsize : g.locals.size = nL) (hstack : g.stack = As.reverse ++ .ref b :: rest) (hW : 2 * g.monitorRoom + (rest.map fun v => v.category).sum ≤ 8) (hdg : decode cc g.pc = .ok (.invokevirtual index, 3)) (hf : cells + mc ≤ R.cells ∧ slots + ms ≤ R.slots) :
    va_Run p l e R s m args below meth c H locs cells slots mc ms g rest (Qc (Value.ref b :: As).toArray) free := by
  obtain ⟨⟨hrc, hrs, hfr, hlo, hws, hcw⟩, hcode, hini, hy, hlen, hl, hin, hse⟩ := cw
  have hK : Back l R p e below s args y 3 8 (PreOf R mc ms Pc) (PostOf Qc mc ms free) := va_backW (hh := hh) (bytes := bytes) (maxL := maxL) (ret := ret) hM hp.1 hrc hrs hfr hlo hws hcw (fun a' U hW => word_at hW (Or.inl (by first | rfl | simp [Cond.onTables, Cond.keeps, Cond.steady])) hini)
  obtain ⟨hx, hb, hml, ho, -⟩ := S
  obtain ⟨-, ⟨cellB, hcB, hoB, hclB⟩, hPc⟩ := hp
  intro T hT X
  obtain ⟨v, vm₁, ⟨U', l2, c2, s2⟩, hW₁, X', ⟨g', mk, t, L, e1, e2, hq, h1, hL, h2, h3⟩, st⟩ := vx_callVW X hx (C := C) (hh := hh) (bytes := bytes) (maxL := maxL) (ret := ret) ho hl hin hse hcode hy hK (by rw [hT]; exact hcB) hoB hclB hg (hsize.trans hml.symm) (argsL := As) (rest := rest) (fun sig h => hn.trans (hlen sig h)) hstack hW (by rw [hb]; exact hdg)
    (fun vm₁ hW₁ => ⟨hf.1, hf.2, hPc (T.setVm vm₁) hT hW₁⟩)
  dsimp only [Pt.U, Pt.locs, Pt.cells, Pt.slots] at X' e1 e2 h1 h2 h3 st
  subst h1; subst h2; subst h3
  exact ⟨v, (T.setVm vm₁).calling g' mk (Value.ref b :: As).toArray, t, U', L, hT, X', hL, e1, e2, hq, st⟩
section
variable {y : MethodName} {bytes cc : ByteArray} {maxL nL mc ms n index : Nat} {ret : Option FieldType} {ws : List Cond} {rm : Room} {Pc : Array Value → State → Prop} {Qc : Array Value → State → Outcome → State → Prop} {XC : String → State → State → Prop} {free : Addr → Prop} {Ts : List Cond} {own C : String} {b : Addr} {As rest : List Value} {g : JFrame}
theorem vx_runVX {hh : List (Nat × Nat × Nat × Nat)} (S : CallFix p m c cc nL s args Ts own) (hM : vx_Met l y ws rm Pc Qc XC mc ms free) (cw : vx_CVW R s args own C index y bytes maxL ret hh ws rm mc ms n) (hp : PreV s H C b Pc As)
    (hg : g.method = m) (hn : As.length = n) (hsize : g.locals.size = nL) (hstack : g.stack = As.reverse ++ .ref b :: rest) (hW : 2 * g.monitorRoom + (rest.map fun v => v.category).sum ≤ 8) (hdg : decode cc g.pc = .ok (.invokevirtual index, 3)) (hf : cells + mc ≤ R.cells ∧ slots + ms ≤ R.slots) :
    vx_Run p l e R s m args below meth c H locs cells slots mc ms g rest (Qc (Value.ref b :: As).toArray) XC free := by
  obtain ⟨⟨hrc, hrs, hfr, hlo, hws, hcw⟩, hcode, hini, hy, hlen, hl, hin, hse⟩ := cw
  have hK : vx_Back l R p e below s args y 3 8 (PreOf R mc ms Pc) (PostOf Qc mc ms free) (vx_Post XC mc ms free) := vx_backW (hh := hh) (bytes := bytes) (maxL := maxL) (ret := ret) hM hp.1 hrc hrs hfr hlo hws hcw (fun a' U hW => word_at hW (Or.inl (by first | rfl | simp [Cond.onTables, Cond.keeps, Cond.steady])) hini)
  obtain ⟨hx, hb, hml, ho, -⟩ := S
  obtain ⟨-, ⟨cellB, hcB, hoB, hclB⟩, hPc⟩ := hp
  intro T hT X
  rcases vx_callVX X hx (C := C) (hh := hh) (bytes := bytes) (maxL := maxL) (ret := ret) ho hl hin hse hcode hy hK (by rw [hT]; exact hcB) hoB hclB hg (hsize.trans hml.symm) (argsL := As) (rest := rest) (fun sig h => hn.trans (hlen sig h)) hstack hW (by rw [hb]; exact hdg)
    (fun vm₁ hW₁ => ⟨hf.1, hf.2, hPc (T.setVm vm₁) hT hW₁⟩) with ⟨v, vm₁, ⟨U', l2, c2, s2⟩, hW₁, X', ⟨g', mk, t, L, e1, e2, hq, h1, hL, h2, h3⟩, st⟩ | ⟨q, vm₁, ⟨U', l2, c2, s2⟩, hW₁, X', ⟨g', mk, t, L, E, ce, e1, e2, hq, hce, hcv, hcl, h1, hL, h2, h3⟩, st⟩
  · dsimp only [Pt.U, Pt.locs, Pt.cells, Pt.slots] at X' e1 e2 h1 h2 h3 st
    subst h1; subst h2; subst h3
    exact Or.inl ⟨v, (T.setVm vm₁).calling g' mk (Value.ref b :: As).toArray, t, U', L, hT, X', hL, e1, e2, hq, st⟩
  · dsimp only [Pt.U, Pt.locs, Pt.cells, Pt.slots] at X' e1 e2 h1 h2 h3 st hcl
    subst h1; subst h2; subst h3
    exact Or.inr ⟨q, (T.setVm vm₁).calling g' mk (Value.ref b :: As).toArray, t, U', L, E, ce, hT, X', hL, e1, e2, hq, hce, hcv, vx_cls hW₁ hcl, st⟩
theorem vx_runSX {hh : List (Nat × Nat × Nat × Nat)} (S : CallFix p m c cc nL s args Ts own) (hM : vx_Met l y ws rm Pc Qc XC mc ms free) (cw : vx_CSW R s args own index y bytes maxL ret hh ws rm mc ms n) (hp : PreS s H Pc As)
    (hg : g.method = m) (hn : As.length = n) (hsize : g.locals.size = nL) (hstack : g.stack = As.reverse ++ rest) (hW : 2 * g.monitorRoom + (rest.map fun v => v.category).sum ≤ 8) (hdg : decode cc g.pc = .ok (.invokestatic index, 3)) (hf : cells + mc ≤ R.cells ∧ slots + ms ≤ R.slots) :
    vx_Run p l e R s m args below meth c H locs cells slots mc ms g rest (Qc As.toArray) XC free := by
  obtain ⟨⟨hrc, hrs, hfr, hlo, hws, hcw⟩, hcode, hini, hy, hlen, hl, hstt⟩ := cw
  have hK : vx_Back l R p e below s args y 3 8 (PreOf R mc ms Pc) (PostOf Qc mc ms free) (vx_Post XC mc ms free) := vx_backW (hh := hh) (bytes := bytes) (maxL := maxL) (ret := ret) hM hp.1 hrc hrs hfr hlo hws hcw (fun a' U hW => word_at hW (Or.inl (by first | rfl | simp [Cond.onTables, Cond.keeps, Cond.steady])) hini)
  obtain ⟨hx, hb, hml, ho, -⟩ := S
  intro T hT X
  rcases vx_callSX X hx (hh := hh) (bytes := bytes) (maxL := maxL) (ret := ret) ho hl hstt hini hcode hy hK hg (hsize.trans hml.symm) (argsL := As) (rest := rest) (fun sig h => hn.trans (hlen sig h)) hstack hW (by rw [hb]; exact hdg)
    (fun vm₁ hW₁ => ⟨hf.1, hf.2, hp.2 (T.setVm vm₁) hT hW₁⟩) with ⟨v, vm₁, ⟨U', l2, c2, s2⟩, hW₁, X', ⟨g', mk, t, L, e1, e2, hq, h1, hL, h2, h3⟩, st⟩ | ⟨q, vm₁, ⟨U', l2, c2, s2⟩, hW₁, X', ⟨g', mk, t, L, E, ce, e1, e2, hq, hce, hcv, hcl, h1, hL, h2, h3⟩, st⟩
  · dsimp only [Pt.U, Pt.locs, Pt.cells, Pt.slots] at X' e1 e2 h1 h2 h3 st
    subst h1; subst h2; subst h3
    exact Or.inl ⟨v, (T.setVm vm₁).calling g' mk As.toArray, t, U', L, hT, X', hL, e1, e2, hq, st⟩
  · dsimp only [Pt.U, Pt.locs, Pt.cells, Pt.slots] at X' e1 e2 h1 h2 h3 st hcl
    subst h1; subst h2; subst h3
    exact Or.inr ⟨q, (T.setVm vm₁).calling g' mk As.toArray, t, U', L, E, ce, hT, X', hL, e1, e2, hq, hce, hcv, vx_cls hW₁ hcl, st⟩
end
end VXH
theorem vx_ofWH {l : Launch} {y : MethodName} {ws ws' : List Cond} {rm : Room} {Pc : Array Value → State → Prop} {Qc : Array Value → State → Outcome → State → Prop} {XC : String → State → State → Prop} {mc ms : Nat} {free : Addr → Prop} {cc : ByteArray} {maxL : Nat} {ret : Option FieldType} {hh : List (Nat × Nat × Nat × Nat)}
    (hy : plainName y.cls = true) (hw : ws = Cond.codeWith y cc maxL ret hh :: ws')
    (body : ∀ p e s m args below meth c s₁, BodyLoose p l y (headSpec ws rm) cc maxL ret e s m args below meth c s₁ → c.maxLocals = maxL → Pc args s →
      W p l e (headSpec ws rm).room s m args below meth c s.heap [] 0 0 (vx_MQ below Qc XC args s mc ms free) (entryFrame m args maxL)) : vx_Met l y ws rm Pc Qc XC mc ms free := by
  refine MetFree.of_bodyS (code := cc) (maxLocals := maxL) (ret := ret) hy ?_ ?_
  · intro args s m h hn
    obtain ⟨m9, meth, c, hn9, h1, h2, h3, h4, -, h5, h6, -⟩ := Cond.codeWith_spec (atoms_spec (ws := ws) h _ (by rw [hw]; exact List.mem_cons_self))
    cases hn.symm.trans hn9
    exact ⟨meth, c, h1, h2, h3, h4, h5, h6⟩
  · intro p e s m args below meth c s₁ B hml hP _
    have hh0 : s₁.heap = s.heap := by rw [B.state]; rfl
    obtain ⟨t, a1, o, b1, b2, b3⟩ := body p e s m args below meth c s₁ B hml hP s₁ hh0 (Stand.of_body B)
    exact ⟨t, o, a1, b1, b2, b3⟩
/-! ===== END ===== -/
end
section
def RX0 : String := "ScrimshawKernel$Fields"
def TX0 : u_T := fun k => match k with
  | _ => ("ScrimshawKernel$Fields", "rows", "[J", true)
def tyX0 : Nat → FieldType := fun k => match k with
  | _ => .array .long
abbrev wsX00 : List Cond := u_ws RX0 TX0 1
theorem nmX0 : ∀ a, a < 1 → ∀ b, b < 1 → a ≠ b → (TX0 a).2.1 ≠ (TX0 b).2.1 := by decide +kernel
theorem tyX0_ok : ∀ k, k < 1 → parseFieldDescriptor (TX0 k).2.2.1 = some (tyX0 k) := by decide +kernel
abbrev cX0_init : ByteArray := prog_2_method_1_code
def yX0_init : MethodName := ⟨RX0, "<init>", "()V"⟩
abbrev cX0_row : ByteArray := prog_2_method_2_code
def yX0_row : MethodName := ⟨RX0, "row", "(I)J"⟩
abbrev cX0_putRow : ByteArray := prog_2_method_3_code
def yX0_putRow : MethodName := ⟨RX0, "putRow", "(IJ)V"⟩
abbrev cX0_holds : ByteArray := prog_2_method_4_code
def yX0_holds : MethodName := ⟨RX0, "holds", "(II)Z"⟩
abbrev cX0_add : ByteArray := prog_2_method_5_code
def yX0_add : MethodName := ⟨RX0, "add", "(II)V"⟩
abbrev cX0_empty : ByteArray := prog_2_method_6_code
def yX0_empty : MethodName := ⟨RX0, "empty", "()V"⟩
abbrev cX0_isEmpty : ByteArray := prog_2_method_7_code
def yX0_isEmpty : MethodName := ⟨RX0, "isEmpty", "()Z"⟩
abbrev cX0_copy : ByteArray := prog_2_method_8_code
def yX0_copy : MethodName := ⟨RX0, "copy", "(LScrimshawKernel$Fields;)V"⟩
abbrev cX0_isSame : ByteArray := prog_2_method_9_code
def yX0_isSame : MethodName := ⟨RX0, "isSame", "(LScrimshawKernel$Fields;)Z"⟩
abbrev cX0_meets : ByteArray := prog_2_method_10_code
def yX0_meets : MethodName := ⟨RX0, "meets", "(LScrimshawKernel$Fields;)Z"⟩
abbrev cX0_unite : ByteArray := prog_2_method_11_code
def yX0_unite : MethodName := ⟨RX0, "unite", "(LScrimshawKernel$Fields;)V"⟩
abbrev cX0_count : ByteArray := prog_2_method_12_code
def yX0_count : MethodName := ⟨RX0, "count", "()I"⟩
abbrev cX0_countEdges : ByteArray := prog_2_method_13_code
def yX0_countEdges : MethodName := ⟨RX0, "countEdges", "()I"⟩
abbrev cX0_sumOfX : ByteArray := prog_2_method_14_code
def yX0_sumOfX : MethodName := ⟨RX0, "sumOfX", "()I"⟩
abbrev cX0_columns : ByteArray := prog_2_method_15_code
def yX0_columns : MethodName := ⟨RX0, "columns", "()J"⟩
abbrev cX0_leastX : ByteArray := prog_2_method_16_code
def yX0_leastX : MethodName := ⟨RX0, "leastX", "()I"⟩
abbrev cX0_greatestX : ByteArray := prog_2_method_17_code
def yX0_greatestX : MethodName := ⟨RX0, "greatestX", "()I"⟩
abbrev cX0_leastY : ByteArray := prog_2_method_18_code
def yX0_leastY : MethodName := ⟨RX0, "leastY", "()I"⟩
abbrev cX0_greatestY : ByteArray := prog_2_method_19_code
def yX0_greatestY : MethodName := ⟨RX0, "greatestY", "()I"⟩
abbrev cX0_shift : ByteArray := prog_2_method_20_code
def yX0_shift : MethodName := ⟨RX0, "shift", "(II)V"⟩
abbrev cX0_shifted : ByteArray := prog_2_method_21_code
def yX0_shifted : MethodName := ⟨RX0, "shifted", "(JI)J"⟩
abbrev cX0_putTurned : ByteArray := prog_2_method_22_code
def yX0_putTurned : MethodName := ⟨RX0, "putTurned", "(LScrimshawKernel$Fields;)V"⟩
abbrev cX0_widen : ByteArray := prog_2_method_23_code
def yX0_widen : MethodName := ⟨RX0, "widen", "(I)V"⟩
abbrev cX0_narrow : ByteArray := prog_2_method_24_code
def yX0_narrow : MethodName := ⟨RX0, "narrow", "(I)V"⟩
def RX1 : String := "ScrimshawKernel$Flood"
def TX1 : u_T := fun k => match k with
  | 0 => ("ScrimshawKernel$Flood", "rest", "LScrimshawKernel$Fields;", true)
  | 1 => ("ScrimshawKernel$Flood", "found", "LScrimshawKernel$Fields;", true)
  | 2 => ("ScrimshawKernel$Flood", "low", "I", false)
  | _ => ("ScrimshawKernel$Flood", "high", "I", false)
def tyX1 : Nat → FieldType := fun k => match k with
  | 0 => .object "ScrimshawKernel$Fields"
  | 1 => .object "ScrimshawKernel$Fields"
  | 2 => .int
  | _ => .int
abbrev wsX10 : List Cond := u_ws RX1 TX1 4
theorem nmX1 : ∀ a, a < 4 → ∀ b, b < 4 → a ≠ b → (TX1 a).2.1 ≠ (TX1 b).2.1 := by decide +kernel
theorem tyX1_ok : ∀ k, k < 4 → parseFieldDescriptor (TX1 k).2.2.1 = some (tyX1 k) := by decide +kernel
abbrev cX1_init : ByteArray := prog_3_method_1_code
def yX1_init : MethodName := ⟨RX1, "<init>", "()V"⟩
abbrev cX1_countPieces : ByteArray := prog_3_method_2_code
def yX1_countPieces : MethodName := ⟨RX1, "countPieces", "(LScrimshawKernel$Fields;)I"⟩
abbrev cX1_countHoles : ByteArray := prog_3_method_3_code
def yX1_countHoles : MethodName := ⟨RX1, "countHoles", "(LScrimshawKernel$Fields;)I"⟩
abbrev cX1_fillHoles : ByteArray := prog_3_method_4_code
def yX1_fillHoles : MethodName := ⟨RX1, "fillHoles", "(LScrimshawKernel$Fields;)I"⟩
abbrev cX1_leavePiece : ByteArray := prog_3_method_5_code
def yX1_leavePiece : MethodName := ⟨RX1, "leavePiece", "(LScrimshawKernel$Fields;II)V"⟩
abbrev cX1_findHoles : ByteArray := prog_3_method_6_code
def yX1_findHoles : MethodName := ⟨RX1, "findHoles", "(LScrimshawKernel$Fields;)V"⟩
abbrev cX1_countParts : ByteArray := prog_3_method_7_code
def yX1_countParts : MethodName := ⟨RX1, "countParts", "(Z)I"⟩
abbrev cX1_take : ByteArray := prog_3_method_8_code
def yX1_take : MethodName := ⟨RX1, "take", "(IIZ)V"⟩
abbrev cX1_removeFound : ByteArray := prog_3_method_9_code
def yX1_removeFound : MethodName := ⟨RX1, "removeFound", "()V"⟩
abbrev cX1_spread : ByteArray := prog_3_method_10_code
def yX1_spread : MethodName := ⟨RX1, "spread", "(Z)V"⟩
abbrev cX1_spreadInto : ByteArray := prog_3_method_11_code
def yX1_spreadInto : MethodName := ⟨RX1, "spreadInto", "(IZ)Z"⟩
abbrev cX1_along : ByteArray := prog_3_method_12_code
def yX1_along : MethodName := ⟨RX1, "along", "(JJ)J"⟩
def RX2 : String := "ScrimshawKernel$History"
def TX2 : u_T := fun k => match k with
  | 0 => ("ScrimshawKernel$History", "kept", "[LScrimshawKernel$Fields;", true)
  | 1 => ("ScrimshawKernel$History", "keptRegions", "[I", true)
  | 2 => ("ScrimshawKernel$History", "latest", "I", false)
  | _ => ("ScrimshawKernel$History", "count", "I", false)
def tyX2 : Nat → FieldType := fun k => match k with
  | 0 => .array (.object "ScrimshawKernel$Fields")
  | 1 => .array .int
  | 2 => .int
  | _ => .int
abbrev wsX20 : List Cond := u_ws RX2 TX2 4
theorem nmX2 : ∀ a, a < 4 → ∀ b, b < 4 → a ≠ b → (TX2 a).2.1 ≠ (TX2 b).2.1 := by decide +kernel
theorem tyX2_ok : ∀ k, k < 4 → parseFieldDescriptor (TX2 k).2.2.1 = some (tyX2 k) := by decide +kernel
abbrev cX2_init : ByteArray := prog_4_method_1_code
def yX2_init : MethodName := ⟨RX2, "<init>", "()V"⟩
abbrev cX2_count : ByteArray := prog_4_method_2_code
def yX2_count : MethodName := ⟨RX2, "count", "()I"⟩
abbrev cX2_keep : ByteArray := prog_4_method_3_code
def yX2_keep : MethodName := ⟨RX2, "keep", "(ILScrimshawKernel$Fields;)V"⟩
abbrev cX2_latestRegion : ByteArray := prog_4_method_4_code
def yX2_latestRegion : MethodName := ⟨RX2, "latestRegion", "()I"⟩
abbrev cX2_takeBack : ByteArray := prog_4_method_5_code
def yX2_takeBack : MethodName := ⟨RX2, "takeBack", "(LScrimshawKernel$Fields;)V"⟩
abbrev cX2_isAt : ByteArray := prog_4_method_6_code
def yX2_isAt : MethodName := ⟨RX2, "isAt", "(I)Z"⟩
def RX3 : String := "ScrimshawKernel$Outline"
def TX3 : u_T := fun k => match k with
  | 0 => ("ScrimshawKernel$Outline", "region", "LScrimshawKernel$Fields;", true)
  | 1 => ("ScrimshawKernel$Outline", "walkedRight", "LScrimshawKernel$Fields;", true)
  | 2 => ("ScrimshawKernel$Outline", "walkedUp", "LScrimshawKernel$Fields;", true)
  | 3 => ("ScrimshawKernel$Outline", "fromY", "I", false)
  | 4 => ("ScrimshawKernel$Outline", "x", "I", false)
  | 5 => ("ScrimshawKernel$Outline", "y", "I", false)
  | 6 => ("ScrimshawKernel$Outline", "way", "I", false)
  | 7 => ("ScrimshawKernel$Outline", "cornerCount", "I", false)
  | 8 => ("ScrimshawKernel$Outline", "areaAround", "I", false)
  | 9 => ("ScrimshawKernel$Outline", "wanted", "I", false)
  | 10 => ("ScrimshawKernel$Outline", "wantedX", "I", false)
  | _ => ("ScrimshawKernel$Outline", "wantedY", "I", false)
def tyX3 : Nat → FieldType := fun k => match k with
  | 0 => .object "ScrimshawKernel$Fields"
  | 1 => .object "ScrimshawKernel$Fields"
  | 2 => .object "ScrimshawKernel$Fields"
  | 3 => .int
  | 4 => .int
  | 5 => .int
  | 6 => .int
  | 7 => .int
  | 8 => .int
  | 9 => .int
  | 10 => .int
  | _ => .int
abbrev wsX30 : List Cond := u_ws RX3 TX3 12
theorem nmX3 : ∀ a, a < 12 → ∀ b, b < 12 → a ≠ b → (TX3 a).2.1 ≠ (TX3 b).2.1 := by decide +kernel
theorem tyX3_ok : ∀ k, k < 12 → parseFieldDescriptor (TX3 k).2.2.1 = some (tyX3 k) := by decide +kernel
abbrev cX3_init : ByteArray := prog_5_method_1_code
def yX3_init : MethodName := ⟨RX3, "<init>", "()V"⟩
abbrev cX3_cornerCount : ByteArray := prog_5_method_2_code
def yX3_cornerCount : MethodName := ⟨RX3, "cornerCount", "()I"⟩
abbrev cX3_areaAround : ByteArray := prog_5_method_3_code
def yX3_areaAround : MethodName := ⟨RX3, "areaAround", "()I"⟩
abbrev cX3_wantedX : ByteArray := prog_5_method_4_code
def yX3_wantedX : MethodName := ⟨RX3, "wantedX", "()I"⟩
abbrev cX3_wantedY : ByteArray := prog_5_method_5_code
def yX3_wantedY : MethodName := ⟨RX3, "wantedY", "()I"⟩
abbrev cX3_countContours : ByteArray := prog_5_method_6_code
def yX3_countContours : MethodName := ⟨RX3, "countContours", "(LScrimshawKernel$Fields;)I"⟩
abbrev cX3_goTo : ByteArray := prog_5_method_7_code
def yX3_goTo : MethodName := ⟨RX3, "goTo", "(LScrimshawKernel$Fields;II)Z"⟩
abbrev cX3_begin : ByteArray := prog_5_method_8_code
def yX3_begin : MethodName := ⟨RX3, "begin", "(LScrimshawKernel$Fields;)V"⟩
abbrev cX3_next : ByteArray := prog_5_method_9_code
def yX3_next : MethodName := ⟨RX3, "next", "(I)Z"⟩
abbrev cX3_beginAt : ByteArray := prog_5_method_10_code
def yX3_beginAt : MethodName := ⟨RX3, "beginAt", "(II)V"⟩
abbrev cX3_walk : ByteArray := prog_5_method_11_code
def yX3_walk : MethodName := ⟨RX3, "walk", "()V"⟩
abbrev cX3_noteCorner : ByteArray := prog_5_method_12_code
def yX3_noteCorner : MethodName := ⟨RX3, "noteCorner", "()V"⟩
abbrev cX3_noteEdge : ByteArray := prog_5_method_13_code
def yX3_noteEdge : MethodName := ⟨RX3, "noteEdge", "()V"⟩
abbrev cX3_goOn : ByteArray := prog_5_method_14_code
def yX3_goOn : MethodName := ⟨RX3, "goOn", "()V"⟩
def RX4 : String := "ScrimshawKernel$Pen"
def TX4 : u_T := fun k => match k with
  | 0 => ("ScrimshawKernel$Pen", "xs", "[I", true)
  | 1 => ("ScrimshawKernel$Pen", "ys", "[I", true)
  | 2 => ("ScrimshawKernel$Pen", "length", "I", false)
  | 3 => ("ScrimshawKernel$Pen", "firstX", "I", false)
  | 4 => ("ScrimshawKernel$Pen", "firstY", "I", false)
  | 5 => ("ScrimshawKernel$Pen", "atX", "I", false)
  | 6 => ("ScrimshawKernel$Pen", "atY", "I", false)
  | _ => ("ScrimshawKernel$Pen", "crossings", "[I", true)
def tyX4 : Nat → FieldType := fun k => match k with
  | 0 => .array .int
  | 1 => .array .int
  | 2 => .int
  | 3 => .int
  | 4 => .int
  | 5 => .int
  | 6 => .int
  | _ => .array .int
abbrev wsX40 : List Cond := u_ws RX4 TX4 8
theorem nmX4 : ∀ a, a < 8 → ∀ b, b < 8 → a ≠ b → (TX4 a).2.1 ≠ (TX4 b).2.1 := by decide +kernel
theorem tyX4_ok : ∀ k, k < 8 → parseFieldDescriptor (TX4 k).2.2.1 = some (tyX4 k) := by decide +kernel
abbrev cX4_init : ByteArray := prog_6_method_1_code
def yX4_init : MethodName := ⟨RX4, "<init>", "()V"⟩
abbrev cX4_length : ByteArray := prog_6_method_2_code
def yX4_length : MethodName := ⟨RX4, "length", "()I"⟩
abbrev cX4_atX : ByteArray := prog_6_method_3_code
def yX4_atX : MethodName := ⟨RX4, "atX", "()I"⟩
abbrev cX4_atY : ByteArray := prog_6_method_4_code
def yX4_atY : MethodName := ⟨RX4, "atY", "()I"⟩
abbrev cX4_isFull : ByteArray := prog_6_method_5_code
def yX4_isFull : MethodName := ⟨RX4, "isFull", "()Z"⟩
abbrev cX4_begin : ByteArray := prog_6_method_6_code
def yX4_begin : MethodName := ⟨RX4, "begin", "(II)V"⟩
abbrev cX4_beginAnew : ByteArray := prog_6_method_7_code
def yX4_beginAnew : MethodName := ⟨RX4, "beginAnew", "()V"⟩
abbrev cX4_add : ByteArray := prog_6_method_8_code
def yX4_add : MethodName := ⟨RX4, "add", "(II)V"⟩
abbrev cX4_putInside : ByteArray := prog_6_method_9_code
def yX4_putInside : MethodName := ⟨RX4, "putInside", "(LScrimshawKernel$Fields;I)V"⟩
abbrev cX4_countCrossings : ByteArray := prog_6_method_10_code
def yX4_countCrossings : MethodName := ⟨RX4, "countCrossings", "(I)V"⟩
abbrev cX4_addCrossing : ByteArray := prog_6_method_11_code
def yX4_addCrossing : MethodName := ⟨RX4, "addCrossing", "(IIII)V"⟩
abbrev cX4_inside : ByteArray := prog_6_method_12_code
def yX4_inside : MethodName := ⟨RX4, "inside", "(I)J"⟩
def RX5 : String := "ScrimshawKernel$StripWalk"
def TX5 : u_T := fun k => match k with
  | 0 => ("ScrimshawKernel$StripWalk", "region", "LScrimshawKernel$Fields;", true)
  | 1 => ("ScrimshawKernel$StripWalk", "fromY", "I", false)
  | 2 => ("ScrimshawKernel$StripWalk", "toCome", "J", false)
  | 3 => ("ScrimshawKernel$StripWalk", "x", "I", false)
  | 4 => ("ScrimshawKernel$StripWalk", "y", "I", false)
  | 5 => ("ScrimshawKernel$StripWalk", "width", "I", false)
  | _ => ("ScrimshawKernel$StripWalk", "height", "I", false)
def tyX5 : Nat → FieldType := fun k => match k with
  | 0 => .object "ScrimshawKernel$Fields"
  | 1 => .int
  | 2 => .long
  | 3 => .int
  | 4 => .int
  | 5 => .int
  | _ => .int
abbrev wsX50 : List Cond := u_ws RX5 TX5 7
theorem nmX5 : ∀ a, a < 7 → ∀ b, b < 7 → a ≠ b → (TX5 a).2.1 ≠ (TX5 b).2.1 := by decide +kernel
theorem tyX5_ok : ∀ k, k < 7 → parseFieldDescriptor (TX5 k).2.2.1 = some (tyX5 k) := by decide +kernel
abbrev cX5_init : ByteArray := prog_7_method_1_code
def yX5_init : MethodName := ⟨RX5, "<init>", "()V"⟩
abbrev cX5_measure : ByteArray := prog_7_method_2_code
def yX5_measure : MethodName := ⟨RX5, "measure", "(I)I"⟩
abbrev cX5_countStrips : ByteArray := prog_7_method_3_code
def yX5_countStrips : MethodName := ⟨RX5, "countStrips", "(LScrimshawKernel$Fields;)I"⟩
abbrev cX5_goTo : ByteArray := prog_7_method_4_code
def yX5_goTo : MethodName := ⟨RX5, "goTo", "(LScrimshawKernel$Fields;I)Z"⟩
abbrev cX5_begin : ByteArray := prog_7_method_5_code
def yX5_begin : MethodName := ⟨RX5, "begin", "(LScrimshawKernel$Fields;)V"⟩
abbrev cX5_next : ByteArray := prog_7_method_6_code
def yX5_next : MethodName := ⟨RX5, "next", "()Z"⟩
abbrev cX5_take : ByteArray := prog_7_method_7_code
def yX5_take : MethodName := ⟨RX5, "take", "(J)V"⟩
abbrev cX5_isRunAt : ByteArray := prog_7_method_8_code
def yX5_isRunAt : MethodName := ⟨RX5, "isRunAt", "(IJ)Z"⟩
abbrev cX5_firstRun : ByteArray := prog_7_method_9_code
def yX5_firstRun : MethodName := ⟨RX5, "firstRun", "(J)J"⟩
def RX6 : String := "ScrimshawKernel"
def TX6 : u_T := fun k => match k with
  | 0 => ("ScrimshawKernel", "regions", "[LScrimshawKernel$Fields;", true)
  | 1 => ("ScrimshawKernel", "spare", "LScrimshawKernel$Fields;", true)
  | 2 => ("ScrimshawKernel", "pen", "LScrimshawKernel$Pen;", true)
  | 3 => ("ScrimshawKernel", "history", "LScrimshawKernel$History;", true)
  | 4 => ("ScrimshawKernel", "flood", "LScrimshawKernel$Flood;", true)
  | 5 => ("ScrimshawKernel", "outline", "LScrimshawKernel$Outline;", true)
  | _ => ("ScrimshawKernel", "stripWalk", "LScrimshawKernel$StripWalk;", true)
def tyX6 : Nat → FieldType := fun k => match k with
  | 0 => .array (.object "ScrimshawKernel$Fields")
  | 1 => .object "ScrimshawKernel$Fields"
  | 2 => .object "ScrimshawKernel$Pen"
  | 3 => .object "ScrimshawKernel$History"
  | 4 => .object "ScrimshawKernel$Flood"
  | 5 => .object "ScrimshawKernel$Outline"
  | _ => .object "ScrimshawKernel$StripWalk"
abbrev wsX60 : List Cond := u_ws RX6 TX6 7
theorem nmX6 : ∀ a, a < 7 → ∀ b, b < 7 → a ≠ b → (TX6 a).2.1 ≠ (TX6 b).2.1 := by decide +kernel
theorem tyX6_ok : ∀ k, k < 7 → parseFieldDescriptor (TX6 k).2.2.1 = some (tyX6 k) := by decide +kernel
abbrev cX6_init : ByteArray := prog_1_method_1_code
def yX6_init : MethodName := ⟨RX6, "<init>", "()V"⟩
abbrev cX6_moveTo : ByteArray := prog_1_method_2_code
def yX6_moveTo : MethodName := ⟨RX6, "moveTo", "(II)I"⟩
abbrev cX6_lineX : ByteArray := prog_1_method_3_code
def yX6_lineX : MethodName := ⟨RX6, "lineX", "(I)I"⟩
abbrev cX6_lineY : ByteArray := prog_1_method_4_code
def yX6_lineY : MethodName := ⟨RX6, "lineY", "(I)I"⟩
abbrev cX6_close : ByteArray := prog_1_method_5_code
def yX6_close : MethodName := ⟨RX6, "close", "(II)I"⟩
abbrev cX6_points : ByteArray := prog_1_method_6_code
def yX6_points : MethodName := ⟨RX6, "points", "()I"⟩
abbrev cX6_addRectangle : ByteArray := prog_1_method_7_code
def yX6_addRectangle : MethodName := ⟨RX6, "addRectangle", "(IIIII)I"⟩
abbrev cX6_combine : ByteArray := prog_1_method_8_code
def yX6_combine : MethodName := ⟨RX6, "combine", "(IIII)I"⟩
abbrev cX6_move : ByteArray := prog_1_method_9_code
def yX6_move : MethodName := ⟨RX6, "move", "(III)I"⟩
abbrev cX6_turn : ByteArray := prog_1_method_10_code
def yX6_turn : MethodName := ⟨RX6, "turn", "(II)I"⟩
abbrev cX6_mirror : ByteArray := prog_1_method_11_code
def yX6_mirror : MethodName := ⟨RX6, "mirror", "(I)I"⟩
abbrev cX6_grow : ByteArray := prog_1_method_12_code
def yX6_grow : MethodName := ⟨RX6, "grow", "(III)I"⟩
abbrev cX6_shrink : ByteArray := prog_1_method_13_code
def yX6_shrink : MethodName := ⟨RX6, "shrink", "(III)I"⟩
abbrev cX6_fill : ByteArray := prog_1_method_14_code
def yX6_fill : MethodName := ⟨RX6, "fill", "(I)I"⟩
abbrev cX6_keepPiece : ByteArray := prog_1_method_15_code
def yX6_keepPiece : MethodName := ⟨RX6, "keepPiece", "(III)I"⟩
abbrev cX6_clear : ByteArray := prog_1_method_16_code
def yX6_clear : MethodName := ⟨RX6, "clear", "(I)I"⟩
abbrev cX6_undo : ByteArray := prog_1_method_17_code
def yX6_undo : MethodName := ⟨RX6, "undo", "()I"⟩
abbrev cX6_area : ByteArray := prog_1_method_18_code
def yX6_area : MethodName := ⟨RX6, "area", "(I)I"⟩
abbrev cX6_edges : ByteArray := prog_1_method_19_code
def yX6_edges : MethodName := ⟨RX6, "edges", "(I)I"⟩
abbrev cX6_pieces : ByteArray := prog_1_method_20_code
def yX6_pieces : MethodName := ⟨RX6, "pieces", "(I)I"⟩
abbrev cX6_holes : ByteArray := prog_1_method_21_code
def yX6_holes : MethodName := ⟨RX6, "holes", "(I)I"⟩
abbrev cX6_has : ByteArray := prog_1_method_22_code
def yX6_has : MethodName := ⟨RX6, "has", "(III)Z"⟩
abbrev cX6_bound : ByteArray := prog_1_method_23_code
def yX6_bound : MethodName := ⟨RX6, "bound", "(II)I"⟩
abbrev cX6_contours : ByteArray := prog_1_method_24_code
def yX6_contours : MethodName := ⟨RX6, "contours", "(I)I"⟩
abbrev cX6_corners : ByteArray := prog_1_method_25_code
def yX6_corners : MethodName := ⟨RX6, "corners", "(II)I"⟩
abbrev cX6_cornerX : ByteArray := prog_1_method_26_code
def yX6_cornerX : MethodName := ⟨RX6, "cornerX", "(III)I"⟩
abbrev cX6_cornerY : ByteArray := prog_1_method_27_code
def yX6_cornerY : MethodName := ⟨RX6, "cornerY", "(III)I"⟩
abbrev cX6_areaOf : ByteArray := prog_1_method_28_code
def yX6_areaOf : MethodName := ⟨RX6, "areaOf", "(II)I"⟩
abbrev cX6_strips : ByteArray := prog_1_method_29_code
def yX6_strips : MethodName := ⟨RX6, "strips", "(I)I"⟩
abbrev cX6_strip : ByteArray := prog_1_method_30_code
def yX6_strip : MethodName := ⟨RX6, "strip", "(III)I"⟩
abbrev cX6_hatch : ByteArray := prog_1_method_31_code
def yX6_hatch : MethodName := ⟨RX6, "hatch", "(IIII)I"⟩
abbrev cX6_hatched : ByteArray := prog_1_method_32_code
def yX6_hatched : MethodName := ⟨RX6, "hatched", "(IIII)I"⟩
abbrev cX6_apart : ByteArray := prog_1_method_33_code
def yX6_apart : MethodName := ⟨RX6, "apart", "(II)I"⟩
abbrev cX6_isSameForm : ByteArray := prog_1_method_34_code
def yX6_isSameForm : MethodName := ⟨RX6, "isSameForm", "(II)Z"⟩
abbrev cX6_middleX : ByteArray := prog_1_method_35_code
def yX6_middleX : MethodName := ⟨RX6, "middleX", "(I)D"⟩
abbrev cX6_digest : ByteArray := prog_1_method_36_code
def yX6_digest : MethodName := ⟨RX6, "digest", "()J"⟩
abbrev cX6_regionAt : ByteArray := prog_1_method_37_code
def yX6_regionAt : MethodName := ⟨RX6, "regionAt", "(I)LScrimshawKernel$Fields;"⟩
abbrev cX6_checkLine : ByteArray := prog_1_method_38_code
def yX6_checkLine : MethodName := ⟨RX6, "checkLine", "(IJ)V"⟩
abbrev cX6_checkRoom : ByteArray := prog_1_method_39_code
def yX6_checkRoom : MethodName := ⟨RX6, "checkRoom", "(JJ)V"⟩
abbrev cX6_checkGrowth : ByteArray := prog_1_method_40_code
def yX6_checkGrowth : MethodName := ⟨RX6, "checkGrowth", "(II)V"⟩
abbrev cX6_checkHatching : ByteArray := prog_1_method_41_code
def yX6_checkHatching : MethodName := ⟨RX6, "checkHatching", "(III)V"⟩
abbrev cX6_walkTo : ByteArray := prog_1_method_42_code
def yX6_walkTo : MethodName := ⟨RX6, "walkTo", "(III)V"⟩
abbrev cX6_isInReach : ByteArray := prog_1_method_43_code
def yX6_isInReach : MethodName := ⟨RX6, "isInReach", "(J)Z"⟩
abbrev cX6_isFrom : ByteArray := prog_1_method_44_code
def yX6_isFrom : MethodName := ⟨RX6, "isFrom", "(III)Z"⟩
abbrev cX6_boundOf : ByteArray := prog_1_method_45_code
def yX6_boundOf : MethodName := ⟨RX6, "boundOf", "(LScrimshawKernel$Fields;I)I"⟩
abbrev cX6_combined : ByteArray := prog_1_method_46_code
def yX6_combined : MethodName := ⟨RX6, "combined", "(JJI)J"⟩
abbrev cX6_mirrored : ByteArray := prog_1_method_47_code
def yX6_mirrored : MethodName := ⟨RX6, "mirrored", "(J)J"⟩
abbrev cX6_fieldsBehind : ByteArray := prog_1_method_48_code
def yX6_fieldsBehind : MethodName := ⟨RX6, "fieldsBehind", "(LScrimshawKernel$Fields;II)J"⟩
abbrev cX6_fieldsOnLines : ByteArray := prog_1_method_49_code
def yX6_fieldsOnLines : MethodName := ⟨RX6, "fieldsOnLines", "(IIII)J"⟩
abbrev cX6_numberOfLine : ByteArray := prog_1_method_50_code
def yX6_numberOfLine : MethodName := ⟨RX6, "numberOfLine", "(III)I"⟩
abbrev cX6_mixed : ByteArray := prog_1_method_51_code
def yX6_mixed : MethodName := ⟨RX6, "mixed", "(JJ)J"⟩
abbrev cX6_digestOfContours : ByteArray := prog_1_method_52_code
def yX6_digestOfContours : MethodName := ⟨RX6, "digestOfContours", "(JLScrimshawKernel$Fields;)J"⟩
abbrev cX6_digestOfStrips : ByteArray := prog_1_method_53_code
def yX6_digestOfStrips : MethodName := ⟨RX6, "digestOfStrips", "(JLScrimshawKernel$Fields;)J"⟩
abbrev cX6_bit : ByteArray := prog_1_method_54_code
def yX6_bit : MethodName := ⟨RX6, "bit", "(I)J"⟩
abbrev cX6_lowestBit : ByteArray := prog_1_method_55_code
def yX6_lowestBit : MethodName := ⟨RX6, "lowestBit", "(J)I"⟩
def RX7 : String := "ScrimshawKernelModel"
def TX7 : u_T := fun k => match k with
  | 0 => ("ScrimshawKernelModel", "thrown", "I", false)
  | 1 => ("ScrimshawKernelModel", "fields", "[[Z", true)
  | 2 => ("ScrimshawKernelModel", "pathX", "[I", true)
  | 3 => ("ScrimshawKernelModel", "pathY", "[I", true)
  | 4 => ("ScrimshawKernelModel", "points", "I", false)
  | 5 => ("ScrimshawKernelModel", "kept", "I", false)
  | 6 => ("ScrimshawKernelModel", "keptRegion", "[I", true)
  | _ => ("ScrimshawKernelModel", "keptFields", "[[Z", true)
def tyX7 : Nat → FieldType := fun k => match k with
  | 0 => .int
  | 1 => .array (.array .boolean)
  | 2 => .array .int
  | 3 => .array .int
  | 4 => .int
  | 5 => .int
  | 6 => .array .int
  | _ => .array (.array .boolean)
abbrev wsX70 : List Cond := u_ws RX7 TX7 8
theorem nmX7 : ∀ a, a < 8 → ∀ b, b < 8 → a ≠ b → (TX7 a).2.1 ≠ (TX7 b).2.1 := by decide +kernel
theorem tyX7_ok : ∀ k, k < 8 → parseFieldDescriptor (TX7 k).2.2.1 = some (tyX7 k) := by decide +kernel
abbrev cX7_init : ByteArray := prog_9_method_1_code
def yX7_init : MethodName := ⟨RX7, "<init>", "()V"⟩
abbrev cX7_thrown : ByteArray := prog_9_method_2_code
def yX7_thrown : MethodName := ⟨RX7, "thrown", "()I"⟩
abbrev cX7_no : ByteArray := prog_9_method_3_code
def yX7_no : MethodName := ⟨RX7, "no", "(I)I"⟩
abbrev cX7_isIn : ByteArray := prog_9_method_4_code
def yX7_isIn : MethodName := ⟨RX7, "isIn", "(III)Z"⟩
abbrev cX7_isRegion : ByteArray := prog_9_method_5_code
def yX7_isRegion : MethodName := ⟨RX7, "isRegion", "(I)Z"⟩
abbrev cX7_isField : ByteArray := prog_9_method_6_code
def yX7_isField : MethodName := ⟨RX7, "isField", "(II)Z"⟩
abbrev cX7_at : ByteArray := prog_9_method_7_code
def yX7_at : MethodName := ⟨RX7, "at", "(II)I"⟩
abbrev cX7_has : ByteArray := prog_9_method_8_code
def yX7_has : MethodName := ⟨RX7, "has", "([ZII)Z"⟩
abbrev cX7_areaOf : ByteArray := prog_9_method_9_code
def yX7_areaOf : MethodName := ⟨RX7, "areaOf", "([Z)I"⟩
abbrev cX7_change : ByteArray := prog_9_method_10_code
def yX7_change : MethodName := ⟨RX7, "change", "(I[Z)I"⟩
abbrev cX7_moveTo : ByteArray := prog_9_method_11_code
def yX7_moveTo : MethodName := ⟨RX7, "moveTo", "(II)I"⟩
abbrev cX7_line : ByteArray := prog_9_method_12_code
def yX7_line : MethodName := ⟨RX7, "line", "(II)I"⟩
abbrev cX7_lineX : ByteArray := prog_9_method_13_code
def yX7_lineX : MethodName := ⟨RX7, "lineX", "(I)I"⟩
abbrev cX7_lineY : ByteArray := prog_9_method_14_code
def yX7_lineY : MethodName := ⟨RX7, "lineY", "(I)I"⟩
abbrev cX7_cross : ByteArray := prog_9_method_15_code
def yX7_cross : MethodName := ⟨RX7, "cross", "([I[IIII)V"⟩
abbrev cX7_close : ByteArray := prog_9_method_16_code
def yX7_close : MethodName := ⟨RX7, "close", "(II)I"⟩
abbrev cX7_points : ByteArray := prog_9_method_17_code
def yX7_points : MethodName := ⟨RX7, "points", "()I"⟩
abbrev cX7_addRectangle : ByteArray := prog_9_method_18_code
def yX7_addRectangle : MethodName := ⟨RX7, "addRectangle", "(IIIII)I"⟩
abbrev cX7_combine : ByteArray := prog_9_method_19_code
def yX7_combine : MethodName := ⟨RX7, "combine", "(IIII)I"⟩
abbrev cX7_move : ByteArray := prog_9_method_20_code
def yX7_move : MethodName := ⟨RX7, "move", "(III)I"⟩
abbrev cX7_turn : ByteArray := prog_9_method_21_code
def yX7_turn : MethodName := ⟨RX7, "turn", "(II)I"⟩
abbrev cX7_mirror : ByteArray := prog_9_method_22_code
def yX7_mirror : MethodName := ⟨RX7, "mirror", "(I)I"⟩
abbrev cX7_distance : ByteArray := prog_9_method_23_code
def yX7_distance : MethodName := ⟨RX7, "distance", "(III)I"⟩
abbrev cX7_grow : ByteArray := prog_9_method_24_code
def yX7_grow : MethodName := ⟨RX7, "grow", "(III)I"⟩
abbrev cX7_shrink : ByteArray := prog_9_method_25_code
def yX7_shrink : MethodName := ⟨RX7, "shrink", "(III)I"⟩
abbrev cX7_parts : ByteArray := prog_9_method_26_code
def yX7_parts : MethodName := ⟨RX7, "parts", "([ZZ)[I"⟩
abbrev cX7_most : ByteArray := prog_9_method_27_code
def yX7_most : MethodName := ⟨RX7, "most", "([I)I"⟩
abbrev cX7_partAt : ByteArray := prog_9_method_28_code
def yX7_partAt : MethodName := ⟨RX7, "partAt", "([III)I"⟩
abbrev cX7_holesNow : ByteArray := prog_9_method_29_code
def yX7_holesNow : MethodName := ⟨RX7, "holesNow", "(I)I"⟩
abbrev cX7_fill : ByteArray := prog_9_method_30_code
def yX7_fill : MethodName := ⟨RX7, "fill", "(I)I"⟩
abbrev cX7_keepPiece : ByteArray := prog_9_method_31_code
def yX7_keepPiece : MethodName := ⟨RX7, "keepPiece", "(III)I"⟩
abbrev cX7_clear : ByteArray := prog_9_method_32_code
def yX7_clear : MethodName := ⟨RX7, "clear", "(I)I"⟩
abbrev cX7_undo : ByteArray := prog_9_method_33_code
def yX7_undo : MethodName := ⟨RX7, "undo", "()I"⟩
abbrev cX7_area : ByteArray := prog_9_method_34_code
def yX7_area : MethodName := ⟨RX7, "area", "(I)I"⟩
abbrev cX7_edgesNow : ByteArray := prog_9_method_35_code
def yX7_edgesNow : MethodName := ⟨RX7, "edgesNow", "(I)I"⟩
abbrev cX7_edges : ByteArray := prog_9_method_36_code
def yX7_edges : MethodName := ⟨RX7, "edges", "(I)I"⟩
abbrev cX7_pieces : ByteArray := prog_9_method_37_code
def yX7_pieces : MethodName := ⟨RX7, "pieces", "(I)I"⟩
abbrev cX7_holes : ByteArray := prog_9_method_38_code
def yX7_holes : MethodName := ⟨RX7, "holes", "(I)I"⟩
abbrev cX7_has_ : ByteArray := prog_9_method_39_code
def yX7_has_ : MethodName := ⟨RX7, "has", "(III)Z"⟩
abbrev cX7_boundNow : ByteArray := prog_9_method_40_code
def yX7_boundNow : MethodName := ⟨RX7, "boundNow", "(II)I"⟩
abbrev cX7_bound : ByteArray := prog_9_method_41_code
def yX7_bound : MethodName := ⟨RX7, "bound", "(II)I"⟩
abbrev cX7_isEdge : ByteArray := prog_9_method_42_code
def yX7_isEdge : MethodName := ⟨RX7, "isEdge", "([ZIII)Z"⟩
abbrev cX7_stepX : ByteArray := prog_9_method_43_code
def yX7_stepX : MethodName := ⟨RX7, "stepX", "(I)I"⟩
abbrev cX7_stepY : ByteArray := prog_9_method_44_code
def yX7_stepY : MethodName := ⟨RX7, "stepY", "(I)I"⟩
abbrev cX7_contoursNow : ByteArray := prog_9_method_45_code
def yX7_contoursNow : MethodName := ⟨RX7, "contoursNow", "(I)[I"⟩
abbrev cX7_put : ByteArray := prog_9_method_46_code
def yX7_put : MethodName := ⟨RX7, "put", "([IIII)[I"⟩
abbrev cX7_headOf : ByteArray := prog_9_method_47_code
def yX7_headOf : MethodName := ⟨RX7, "headOf", "([II)I"⟩
abbrev cX7_contours : ByteArray := prog_9_method_48_code
def yX7_contours : MethodName := ⟨RX7, "contours", "(I)I"⟩
abbrev cX7_ofContour : ByteArray := prog_9_method_49_code
def yX7_ofContour : MethodName := ⟨RX7, "ofContour", "(III)I"⟩
abbrev cX7_corners : ByteArray := prog_9_method_50_code
def yX7_corners : MethodName := ⟨RX7, "corners", "(II)I"⟩
abbrev cX7_areaOf_ : ByteArray := prog_9_method_51_code
def yX7_areaOf_ : MethodName := ⟨RX7, "areaOf", "(II)I"⟩
abbrev cX7_corner : ByteArray := prog_9_method_52_code
def yX7_corner : MethodName := ⟨RX7, "corner", "(IIII)I"⟩
abbrev cX7_cornerX : ByteArray := prog_9_method_53_code
def yX7_cornerX : MethodName := ⟨RX7, "cornerX", "(III)I"⟩
abbrev cX7_cornerY : ByteArray := prog_9_method_54_code
def yX7_cornerY : MethodName := ⟨RX7, "cornerY", "(III)I"⟩
abbrev cX7_isRun : ByteArray := prog_9_method_55_code
def yX7_isRun : MethodName := ⟨RX7, "isRun", "([ZIII)Z"⟩
abbrev cX7_stripsNow : ByteArray := prog_9_method_56_code
def yX7_stripsNow : MethodName := ⟨RX7, "stripsNow", "(I)[I"⟩
abbrev cX7_strips : ByteArray := prog_9_method_57_code
def yX7_strips : MethodName := ⟨RX7, "strips", "(I)I"⟩
abbrev cX7_strip : ByteArray := prog_9_method_58_code
def yX7_strip : MethodName := ⟨RX7, "strip", "(III)I"⟩
abbrev cX7_isOnLine : ByteArray := prog_9_method_59_code
def yX7_isOnLine : MethodName := ⟨RX7, "isOnLine", "(IIIII)Z"⟩
abbrev cX7_hatching : ByteArray := prog_9_method_60_code
def yX7_hatching : MethodName := ⟨RX7, "hatching", "(IIIIZ)I"⟩
abbrev cX7_hatch : ByteArray := prog_9_method_61_code
def yX7_hatch : MethodName := ⟨RX7, "hatch", "(IIII)I"⟩
abbrev cX7_hatched : ByteArray := prog_9_method_62_code
def yX7_hatched : MethodName := ⟨RX7, "hatched", "(IIII)I"⟩
abbrev cX7_apart : ByteArray := prog_9_method_63_code
def yX7_apart : MethodName := ⟨RX7, "apart", "(II)I"⟩
abbrev cX7_isSameForm : ByteArray := prog_9_method_64_code
def yX7_isSameForm : MethodName := ⟨RX7, "isSameForm", "(II)Z"⟩
abbrev cX7_middleX : ByteArray := prog_9_method_65_code
def yX7_middleX : MethodName := ⟨RX7, "middleX", "(I)D"⟩
abbrev cX7_digest : ByteArray := prog_9_method_66_code
def yX7_digest : MethodName := ⟨RX7, "digest", "()J"⟩
def RJx145de : String := "java/io/Serializable"
def TJx145de : u_T := fun k => match k with
  | _ => ("", "", "", false)
def tyJx145de : Nat → FieldType := fun k => match k with
  | _ => .int
abbrev wsJx145de0 : List Cond := u_ws RJx145de TJx145de 0
theorem nmJx145de : ∀ a, a < 0 → ∀ b, b < 0 → a ≠ b → (TJx145de a).2.1 ≠ (TJx145de b).2.1 := by decide +kernel
theorem tyJx145de_ok : ∀ k, k < 0 → parseFieldDescriptor (TJx145de k).2.2.1 = some (tyJx145de k) := by decide +kernel
def RJ13 : String := "java/lang/Long"
def TJ13 : u_T := fun k => match k with
  | _ => ("", "", "", false)
def tyJ13 : Nat → FieldType := fun k => match k with
  | _ => .int
abbrev wsJ130 : List Cond := u_ws RJ13 TJ13 0
theorem nmJ13 : ∀ a, a < 0 → ∀ b, b < 0 → a ≠ b → (TJ13 a).2.1 ≠ (TJ13 b).2.1 := by decide +kernel
theorem tyJ13_ok : ∀ k, k < 0 → parseFieldDescriptor (TJ13 k).2.2.1 = some (tyJ13 k) := by decide +kernel
abbrev cJ13_bitCount_95d88 : ByteArray := prog_14_method_50_code
def yJ13_bitCount_95d88 : MethodName := ⟨RJ13, "bitCount", "(J)I"⟩
def RJ9 : String := "java/lang/Math"
def TJ9 : u_T := fun k => match k with
  | _ => ("", "", "", false)
def tyJ9 : Nat → FieldType := fun k => match k with
  | _ => .int
abbrev wsJ90 : List Cond := u_ws RJ9 TJ9 0
theorem nmJ9 : ∀ a, a < 0 → ∀ b, b < 0 → a ≠ b → (TJ9 a).2.1 ≠ (TJ9 b).2.1 := by decide +kernel
theorem tyJ9_ok : ∀ k, k < 0 → parseFieldDescriptor (TJ9 k).2.2.1 = some (tyJ9 k) := by decide +kernel
abbrev cJ9_abs_0f7a4 : ByteArray := prog_15_method_59_code
def yJ9_abs_0f7a4 : MethodName := ⟨RJ9, "abs", "(I)I"⟩
abbrev cJ9_max_7cf53 : ByteArray := prog_15_method_65_code
def yJ9_max_7cf53 : MethodName := ⟨RJ9, "max", "(II)I"⟩
abbrev cJ9_min_7cf53 : ByteArray := prog_15_method_69_code
def yJ9_min_7cf53 : MethodName := ⟨RJ9, "min", "(II)I"⟩
def RJ0 : String := "java/lang/String"
def TJ0 : u_T := fun k => match k with
  | _ => ("", "", "", false)
def tyJ0 : Nat → FieldType := fun k => match k with
  | _ => .int
abbrev wsJ00 : List Cond := u_ws RJ0 TJ0 0
theorem nmJ0 : ∀ a, a < 0 → ∀ b, b < 0 → a ≠ b → (TJ0 a).2.1 ≠ (TJ0 b).2.1 := by decide +kernel
theorem tyJ0_ok : ∀ k, k < 0 → parseFieldDescriptor (TJ0 k).2.2.1 = some (tyJ0 k) := by decide +kernel
def RJ10 : String := "java/lang/System"
def TJ10 : u_T := fun k => match k with
  | _ => ("", "", "", false)
def tyJ10 : Nat → FieldType := fun k => match k with
  | _ => .int
abbrev wsJ100 : List Cond := u_ws RJ10 TJ10 0
theorem nmJ10 : ∀ a, a < 0 → ∀ b, b < 0 → a ≠ b → (TJ10 a).2.1 ≠ (TJ10 b).2.1 := by decide +kernel
theorem tyJ10_ok : ∀ k, k < 0 → parseFieldDescriptor (TJ10 k).2.2.1 = some (tyJ10 k) := by decide +kernel
def RJ7 : String := "java/util/Arrays"
def TJ7 : u_T := fun k => match k with
  | _ => ("", "", "", false)
def tyJ7 : Nat → FieldType := fun k => match k with
  | _ => .int
abbrev wsJ70 : List Cond := u_ws RJ7 TJ7 0
theorem nmJ7 : ∀ a, a < 0 → ∀ b, b < 0 → a ≠ b → (TJ7 a).2.1 ≠ (TJ7 b).2.1 := by decide +kernel
theorem tyJ7_ok : ∀ k, k < 0 → parseFieldDescriptor (TJ7 k).2.2.1 = some (tyJ7 k) := by decide +kernel
abbrev cJ7_fill_d0a16 : ByteArray := prog_20_method_101_code
def yJ7_fill_d0a16 : MethodName := ⟨RJ7, "fill", "([JJ)V"⟩
abbrev cJ7_fill_53178 : ByteArray := prog_20_method_103_code
def yJ7_fill_53178 : MethodName := ⟨RJ7, "fill", "([II)V"⟩
def RL : String := "ScrimshawKernelLaw"
abbrev cL_moveTo : ByteArray := method_3_code
def yL_moveTo : MethodName := ⟨RL, "moveTo", "(LScrimshawKernel;II[J)I"⟩
abbrev cL_lineX : ByteArray := method_4_code
def yL_lineX : MethodName := ⟨RL, "lineX", "(LScrimshawKernel;I[J)I"⟩
abbrev cL_lineY : ByteArray := method_5_code
def yL_lineY : MethodName := ⟨RL, "lineY", "(LScrimshawKernel;I[J)I"⟩
abbrev cL_close : ByteArray := method_6_code
def yL_close : MethodName := ⟨RL, "close", "(LScrimshawKernel;II[J)I"⟩
abbrev cL_addRectangle : ByteArray := method_7_code
def yL_addRectangle : MethodName := ⟨RL, "addRectangle", "(LScrimshawKernel;IIIII[J)I"⟩
abbrev cL_combine : ByteArray := method_8_code
def yL_combine : MethodName := ⟨RL, "combine", "(LScrimshawKernel;IIII[J)I"⟩
abbrev cL_move : ByteArray := method_9_code
def yL_move : MethodName := ⟨RL, "move", "(LScrimshawKernel;III[J)I"⟩
abbrev cL_turn : ByteArray := method_10_code
def yL_turn : MethodName := ⟨RL, "turn", "(LScrimshawKernel;II[J)I"⟩
abbrev cL_mirror : ByteArray := method_11_code
def yL_mirror : MethodName := ⟨RL, "mirror", "(LScrimshawKernel;I[J)I"⟩
abbrev cL_grow : ByteArray := method_12_code
def yL_grow : MethodName := ⟨RL, "grow", "(LScrimshawKernel;III[J)I"⟩
abbrev cL_shrink : ByteArray := method_13_code
def yL_shrink : MethodName := ⟨RL, "shrink", "(LScrimshawKernel;III[J)I"⟩
abbrev cL_fill : ByteArray := method_14_code
def yL_fill : MethodName := ⟨RL, "fill", "(LScrimshawKernel;I[J)I"⟩
abbrev cL_keepPiece : ByteArray := method_15_code
def yL_keepPiece : MethodName := ⟨RL, "keepPiece", "(LScrimshawKernel;III[J)I"⟩
abbrev cL_clear : ByteArray := method_16_code
def yL_clear : MethodName := ⟨RL, "clear", "(LScrimshawKernel;I[J)I"⟩
abbrev cL_area : ByteArray := method_17_code
def yL_area : MethodName := ⟨RL, "area", "(LScrimshawKernel;I[J)I"⟩
abbrev cL_edges : ByteArray := method_18_code
def yL_edges : MethodName := ⟨RL, "edges", "(LScrimshawKernel;I[J)I"⟩
abbrev cL_pieces : ByteArray := method_19_code
def yL_pieces : MethodName := ⟨RL, "pieces", "(LScrimshawKernel;I[J)I"⟩
abbrev cL_holes : ByteArray := method_20_code
def yL_holes : MethodName := ⟨RL, "holes", "(LScrimshawKernel;I[J)I"⟩
abbrev cL_has : ByteArray := method_21_code
def yL_has : MethodName := ⟨RL, "has", "(LScrimshawKernel;III[J)I"⟩
abbrev cL_bound : ByteArray := method_22_code
def yL_bound : MethodName := ⟨RL, "bound", "(LScrimshawKernel;II[J)I"⟩
abbrev cL_contours : ByteArray := method_23_code
def yL_contours : MethodName := ⟨RL, "contours", "(LScrimshawKernel;I[J)I"⟩
abbrev cL_corners : ByteArray := method_24_code
def yL_corners : MethodName := ⟨RL, "corners", "(LScrimshawKernel;II[J)I"⟩
abbrev cL_cornerX : ByteArray := method_25_code
def yL_cornerX : MethodName := ⟨RL, "cornerX", "(LScrimshawKernel;III[J)I"⟩
abbrev cL_cornerY : ByteArray := method_26_code
def yL_cornerY : MethodName := ⟨RL, "cornerY", "(LScrimshawKernel;III[J)I"⟩
abbrev cL_areaOf : ByteArray := method_27_code
def yL_areaOf : MethodName := ⟨RL, "areaOf", "(LScrimshawKernel;II[J)I"⟩
abbrev cL_strips : ByteArray := method_28_code
def yL_strips : MethodName := ⟨RL, "strips", "(LScrimshawKernel;I[J)I"⟩
abbrev cL_strip : ByteArray := method_29_code
def yL_strip : MethodName := ⟨RL, "strip", "(LScrimshawKernel;III[J)I"⟩
abbrev cL_hatch : ByteArray := method_30_code
def yL_hatch : MethodName := ⟨RL, "hatch", "(LScrimshawKernel;IIII[J)I"⟩
abbrev cL_hatched : ByteArray := method_31_code
def yL_hatched : MethodName := ⟨RL, "hatched", "(LScrimshawKernel;IIII[J)I"⟩
abbrev cL_apart : ByteArray := method_32_code
def yL_apart : MethodName := ⟨RL, "apart", "(LScrimshawKernel;II[J)I"⟩
abbrev cL_isSameForm : ByteArray := method_33_code
def yL_isSameForm : MethodName := ⟨RL, "isSameForm", "(LScrimshawKernel;II[J)I"⟩
abbrev cL_middleX : ByteArray := method_34_code
def yL_middleX : MethodName := ⟨RL, "middleX", "(LScrimshawKernel;I[D)I"⟩
abbrev cL_law : ByteArray := code
def yL_law : MethodName := ⟨RL, "law", "([I)Z"⟩
abbrev vwCl : List vw_C := [(RX0, TX0, 1), (RX1, TX1, 4), (RX2, TX2, 4), (RX3, TX3, 12), (RX4, TX4, 8), (RX5, TX5, 7), (RX6, TX6, 7), (RX7, TX7, 8)]
end
section
theorem dX0_init_0 : decode cX0_init 0 = .ok (.aload_n 0, 1) := by decide +kernel
theorem dX0_init_1 : decode cX0_init 1 = .ok (.invokespecial 3, 3) := by decide +kernel
theorem dX0_init_4 : decode cX0_init 4 = .ok (.aload_n 0, 1) := by decide +kernel
theorem dX0_init_5 : decode cX0_init 5 = .ok (.bipush 64, 2) := by decide +kernel
theorem dX0_init_7 : decode cX0_init 7 = .ok (.newarray .long, 2) := by decide +kernel
theorem dX0_init_9 : decode cX0_init 9 = .ok (.putfield 9, 3) := by decide +kernel
theorem dX0_init_12 : decode cX0_init 12 = .ok (.return_, 1) := by decide +kernel
theorem dX0_row_0 : decode cX0_row 0 = .ok (.iload_n 1, 1) := by decide +kernel
theorem dX0_row_1 : decode cX0_row 1 = .ok (.bipush (-32), 2) := by decide +kernel
theorem dX0_row_3 : decode cX0_row 3 = .ok (.isub, 1) := by decide +kernel
theorem dX0_row_4 : decode cX0_row 4 = .ok (.istore_n 2, 1) := by decide +kernel
theorem dX0_row_5 : decode cX0_row 5 = .ok (.iload_n 2, 1) := by decide +kernel
theorem dX0_row_6 : decode cX0_row 6 = .ok (.ifCond .lt 21, 3) := by decide +kernel
theorem dX0_row_9 : decode cX0_row 9 = .ok (.iload_n 2, 1) := by decide +kernel
theorem dX0_row_10 : decode cX0_row 10 = .ok (.aload_n 0, 1) := by decide +kernel
theorem dX0_row_11 : decode cX0_row 11 = .ok (.getfield 9, 3) := by decide +kernel
theorem dX0_row_14 : decode cX0_row 14 = .ok (.arraylength, 1) := by decide +kernel
theorem dX0_row_15 : decode cX0_row 15 = .ok (.if_icmp .ge 12, 3) := by decide +kernel
theorem dX0_row_18 : decode cX0_row 18 = .ok (.aload_n 0, 1) := by decide +kernel
theorem dX0_row_19 : decode cX0_row 19 = .ok (.getfield 9, 3) := by decide +kernel
theorem dX0_row_22 : decode cX0_row 22 = .ok (.iload_n 2, 1) := by decide +kernel
theorem dX0_row_23 : decode cX0_row 23 = .ok (.laload, 1) := by decide +kernel
theorem dX0_row_24 : decode cX0_row 24 = .ok (.goto 4, 3) := by decide +kernel
theorem dX0_row_27 : decode cX0_row 27 = .ok (.lconst 0, 1) := by decide +kernel
theorem dX0_row_28 : decode cX0_row 28 = .ok (.lreturn, 1) := by decide +kernel
theorem dX0_putRow_0 : decode cX0_putRow 0 = .ok (.iload_n 1, 1) := by decide +kernel
theorem dX0_putRow_1 : decode cX0_putRow 1 = .ok (.bipush (-32), 2) := by decide +kernel
theorem dX0_putRow_3 : decode cX0_putRow 3 = .ok (.isub, 1) := by decide +kernel
theorem dX0_putRow_4 : decode cX0_putRow 4 = .ok (.istore 4, 2) := by decide +kernel
theorem dX0_putRow_6 : decode cX0_putRow 6 = .ok (.iload 4, 2) := by decide +kernel
theorem dX0_putRow_8 : decode cX0_putRow 8 = .ok (.ifCond .lt 21, 3) := by decide +kernel
theorem dX0_putRow_11 : decode cX0_putRow 11 = .ok (.iload 4, 2) := by decide +kernel
theorem dX0_putRow_13 : decode cX0_putRow 13 = .ok (.aload_n 0, 1) := by decide +kernel
theorem dX0_putRow_14 : decode cX0_putRow 14 = .ok (.getfield 9, 3) := by decide +kernel
theorem dX0_putRow_17 : decode cX0_putRow 17 = .ok (.arraylength, 1) := by decide +kernel
theorem dX0_putRow_18 : decode cX0_putRow 18 = .ok (.if_icmp .ge 11, 3) := by decide +kernel
theorem dX0_putRow_21 : decode cX0_putRow 21 = .ok (.aload_n 0, 1) := by decide +kernel
theorem dX0_putRow_22 : decode cX0_putRow 22 = .ok (.getfield 9, 3) := by decide +kernel
theorem dX0_putRow_25 : decode cX0_putRow 25 = .ok (.iload 4, 2) := by decide +kernel
theorem dX0_putRow_27 : decode cX0_putRow 27 = .ok (.lload_n 2, 1) := by decide +kernel
theorem dX0_putRow_28 : decode cX0_putRow 28 = .ok (.lastore, 1) := by decide +kernel
theorem dX0_putRow_29 : decode cX0_putRow 29 = .ok (.return_, 1) := by decide +kernel
theorem dX0_empty_0 : decode cX0_empty 0 = .ok (.aload_n 0, 1) := by decide +kernel
theorem dX0_empty_1 : decode cX0_empty 1 = .ok (.getfield 9, 3) := by decide +kernel
theorem dX0_empty_4 : decode cX0_empty 4 = .ok (.lconst 0, 1) := by decide +kernel
theorem dX0_empty_5 : decode cX0_empty 5 = .ok (.invokestatic 15, 3) := by decide +kernel
theorem dX0_empty_8 : decode cX0_empty 8 = .ok (.return_, 1) := by decide +kernel
theorem dX0_copy_0 : decode cX0_copy 0 = .ok (.bipush (-32), 2) := by decide +kernel
theorem dX0_copy_2 : decode cX0_copy 2 = .ok (.istore_n 2, 1) := by decide +kernel
theorem dX0_copy_3 : decode cX0_copy 3 = .ok (.iload_n 2, 1) := by decide +kernel
theorem dX0_copy_4 : decode cX0_copy 4 = .ok (.bipush 31, 2) := by decide +kernel
theorem dX0_copy_6 : decode cX0_copy 6 = .ok (.if_icmp .gt 19, 3) := by decide +kernel
theorem dX0_copy_9 : decode cX0_copy 9 = .ok (.aload_n 0, 1) := by decide +kernel
theorem dX0_copy_10 : decode cX0_copy 10 = .ok (.iload_n 2, 1) := by decide +kernel
theorem dX0_copy_11 : decode cX0_copy 11 = .ok (.aload_n 1, 1) := by decide +kernel
theorem dX0_copy_12 : decode cX0_copy 12 = .ok (.iload_n 2, 1) := by decide +kernel
theorem dX0_copy_13 : decode cX0_copy 13 = .ok (.invokevirtual 25, 3) := by decide +kernel
theorem dX0_copy_16 : decode cX0_copy 16 = .ok (.invokevirtual 29, 3) := by decide +kernel
theorem dX0_copy_19 : decode cX0_copy 19 = .ok (.iinc 2 1, 3) := by decide +kernel
theorem dX0_copy_22 : decode cX0_copy 22 = .ok (.goto (-19), 3) := by decide +kernel
theorem dX0_copy_25 : decode cX0_copy 25 = .ok (.return_, 1) := by decide +kernel
theorem dX0_count_0 : decode cX0_count 0 = .ok (.iconst 0, 1) := by decide +kernel
theorem dX0_count_1 : decode cX0_count 1 = .ok (.istore_n 1, 1) := by decide +kernel
theorem dX0_count_2 : decode cX0_count 2 = .ok (.bipush (-32), 2) := by decide +kernel
theorem dX0_count_4 : decode cX0_count 4 = .ok (.istore_n 2, 1) := by decide +kernel
theorem dX0_count_5 : decode cX0_count 5 = .ok (.iload_n 2, 1) := by decide +kernel
theorem dX0_count_6 : decode cX0_count 6 = .ok (.bipush 31, 2) := by decide +kernel
theorem dX0_count_8 : decode cX0_count 8 = .ok (.if_icmp .gt 20, 3) := by decide +kernel
theorem dX0_count_11 : decode cX0_count 11 = .ok (.iload_n 1, 1) := by decide +kernel
theorem dX0_count_12 : decode cX0_count 12 = .ok (.aload_n 0, 1) := by decide +kernel
theorem dX0_count_13 : decode cX0_count 13 = .ok (.iload_n 2, 1) := by decide +kernel
theorem dX0_count_14 : decode cX0_count 14 = .ok (.invokevirtual 25, 3) := by decide +kernel
theorem dX0_count_17 : decode cX0_count 17 = .ok (.invokestatic 33, 3) := by decide +kernel
theorem dX0_count_20 : decode cX0_count 20 = .ok (.iadd, 1) := by decide +kernel
theorem dX0_count_21 : decode cX0_count 21 = .ok (.istore_n 1, 1) := by decide +kernel
theorem dX0_count_22 : decode cX0_count 22 = .ok (.iinc 2 1, 3) := by decide +kernel
theorem dX0_count_25 : decode cX0_count 25 = .ok (.goto (-20), 3) := by decide +kernel
theorem dX0_count_28 : decode cX0_count 28 = .ok (.iload_n 1, 1) := by decide +kernel
theorem dX0_count_29 : decode cX0_count 29 = .ok (.ireturn, 1) := by decide +kernel
theorem dX0_countEdges_0 : decode cX0_countEdges 0 = .ok (.iconst 0, 1) := by decide +kernel
theorem dX0_countEdges_1 : decode cX0_countEdges 1 = .ok (.istore_n 1, 1) := by decide +kernel
theorem dX0_countEdges_2 : decode cX0_countEdges 2 = .ok (.bipush (-32), 2) := by decide +kernel
theorem dX0_countEdges_4 : decode cX0_countEdges 4 = .ok (.istore_n 2, 1) := by decide +kernel
theorem dX0_countEdges_5 : decode cX0_countEdges 5 = .ok (.iload_n 2, 1) := by decide +kernel
theorem dX0_countEdges_6 : decode cX0_countEdges 6 = .ok (.bipush 32, 2) := by decide +kernel
theorem dX0_countEdges_8 : decode cX0_countEdges 8 = .ok (.if_icmp .gt 53, 3) := by decide +kernel
theorem dX0_countEdges_11 : decode cX0_countEdges 11 = .ok (.aload_n 0, 1) := by decide +kernel
theorem dX0_countEdges_12 : decode cX0_countEdges 12 = .ok (.iload_n 2, 1) := by decide +kernel
theorem dX0_countEdges_13 : decode cX0_countEdges 13 = .ok (.invokevirtual 25, 3) := by decide +kernel
theorem dX0_countEdges_16 : decode cX0_countEdges 16 = .ok (.aload_n 0, 1) := by decide +kernel
theorem dX0_countEdges_17 : decode cX0_countEdges 17 = .ok (.iload_n 2, 1) := by decide +kernel
theorem dX0_countEdges_18 : decode cX0_countEdges 18 = .ok (.invokevirtual 25, 3) := by decide +kernel
theorem dX0_countEdges_21 : decode cX0_countEdges 21 = .ok (.iconst 1, 1) := by decide +kernel
theorem dX0_countEdges_22 : decode cX0_countEdges 22 = .ok (.lshl, 1) := by decide +kernel
theorem dX0_countEdges_23 : decode cX0_countEdges 23 = .ok (.ldc2_w 39, 3) := by decide +kernel
theorem dX0_countEdges_26 : decode cX0_countEdges 26 = .ok (.lxor, 1) := by decide +kernel
theorem dX0_countEdges_27 : decode cX0_countEdges 27 = .ok (.land, 1) := by decide +kernel
theorem dX0_countEdges_28 : decode cX0_countEdges 28 = .ok (.lstore_n 3, 1) := by decide +kernel
theorem dX0_countEdges_29 : decode cX0_countEdges 29 = .ok (.iload_n 1, 1) := by decide +kernel
theorem dX0_countEdges_30 : decode cX0_countEdges 30 = .ok (.iconst 2, 1) := by decide +kernel
theorem dX0_countEdges_31 : decode cX0_countEdges 31 = .ok (.lload_n 3, 1) := by decide +kernel
theorem dX0_countEdges_32 : decode cX0_countEdges 32 = .ok (.invokestatic 33, 3) := by decide +kernel
theorem dX0_countEdges_35 : decode cX0_countEdges 35 = .ok (.imul, 1) := by decide +kernel
theorem dX0_countEdges_36 : decode cX0_countEdges 36 = .ok (.aload_n 0, 1) := by decide +kernel
theorem dX0_countEdges_37 : decode cX0_countEdges 37 = .ok (.iload_n 2, 1) := by decide +kernel
theorem dX0_countEdges_38 : decode cX0_countEdges 38 = .ok (.invokevirtual 25, 3) := by decide +kernel
theorem dX0_countEdges_41 : decode cX0_countEdges 41 = .ok (.aload_n 0, 1) := by decide +kernel
theorem dX0_countEdges_42 : decode cX0_countEdges 42 = .ok (.iload_n 2, 1) := by decide +kernel
theorem dX0_countEdges_43 : decode cX0_countEdges 43 = .ok (.iconst 1, 1) := by decide +kernel
theorem dX0_countEdges_44 : decode cX0_countEdges 44 = .ok (.isub, 1) := by decide +kernel
theorem dX0_countEdges_45 : decode cX0_countEdges 45 = .ok (.invokevirtual 25, 3) := by decide +kernel
theorem dX0_countEdges_48 : decode cX0_countEdges 48 = .ok (.lxor, 1) := by decide +kernel
theorem dX0_countEdges_49 : decode cX0_countEdges 49 = .ok (.invokestatic 33, 3) := by decide +kernel
theorem dX0_countEdges_52 : decode cX0_countEdges 52 = .ok (.iadd, 1) := by decide +kernel
theorem dX0_countEdges_53 : decode cX0_countEdges 53 = .ok (.iadd, 1) := by decide +kernel
theorem dX0_countEdges_54 : decode cX0_countEdges 54 = .ok (.istore_n 1, 1) := by decide +kernel
theorem dX0_countEdges_55 : decode cX0_countEdges 55 = .ok (.iinc 2 1, 3) := by decide +kernel
theorem dX0_countEdges_58 : decode cX0_countEdges 58 = .ok (.goto (-53), 3) := by decide +kernel
theorem dX0_countEdges_61 : decode cX0_countEdges 61 = .ok (.iload_n 1, 1) := by decide +kernel
theorem dX0_countEdges_62 : decode cX0_countEdges 62 = .ok (.ireturn, 1) := by decide +kernel
theorem dX0_columns_0 : decode cX0_columns 0 = .ok (.lconst 0, 1) := by decide +kernel
theorem dX0_columns_1 : decode cX0_columns 1 = .ok (.lstore_n 1, 1) := by decide +kernel
theorem dX0_columns_2 : decode cX0_columns 2 = .ok (.bipush (-32), 2) := by decide +kernel
theorem dX0_columns_4 : decode cX0_columns 4 = .ok (.istore_n 3, 1) := by decide +kernel
theorem dX0_columns_5 : decode cX0_columns 5 = .ok (.iload_n 3, 1) := by decide +kernel
theorem dX0_columns_6 : decode cX0_columns 6 = .ok (.bipush 31, 2) := by decide +kernel
theorem dX0_columns_8 : decode cX0_columns 8 = .ok (.if_icmp .gt 17, 3) := by decide +kernel
theorem dX0_columns_11 : decode cX0_columns 11 = .ok (.lload_n 1, 1) := by decide +kernel
theorem dX0_columns_12 : decode cX0_columns 12 = .ok (.aload_n 0, 1) := by decide +kernel
theorem dX0_columns_13 : decode cX0_columns 13 = .ok (.iload_n 3, 1) := by decide +kernel
theorem dX0_columns_14 : decode cX0_columns 14 = .ok (.invokevirtual 25, 3) := by decide +kernel
theorem dX0_columns_17 : decode cX0_columns 17 = .ok (.lor, 1) := by decide +kernel
theorem dX0_columns_18 : decode cX0_columns 18 = .ok (.lstore_n 1, 1) := by decide +kernel
theorem dX0_columns_19 : decode cX0_columns 19 = .ok (.iinc 3 1, 3) := by decide +kernel
theorem dX0_columns_22 : decode cX0_columns 22 = .ok (.goto (-17), 3) := by decide +kernel
theorem dX0_columns_25 : decode cX0_columns 25 = .ok (.lload_n 1, 1) := by decide +kernel
theorem dX0_columns_26 : decode cX0_columns 26 = .ok (.lreturn, 1) := by decide +kernel
theorem dX0_leastX_0 : decode cX0_leastX 0 = .ok (.aload_n 0, 1) := by decide +kernel
theorem dX0_leastX_1 : decode cX0_leastX 1 = .ok (.invokevirtual 21, 3) := by decide +kernel
theorem dX0_leastX_4 : decode cX0_leastX 4 = .ok (.lstore_n 1, 1) := by decide +kernel
theorem dX0_leastX_5 : decode cX0_leastX 5 = .ok (.lload_n 1, 1) := by decide +kernel
theorem dX0_leastX_6 : decode cX0_leastX 6 = .ok (.lconst 0, 1) := by decide +kernel
theorem dX0_leastX_7 : decode cX0_leastX 7 = .ok (.lcmp, 1) := by decide +kernel
theorem dX0_leastX_8 : decode cX0_leastX 8 = .ok (.ifCond .ne 7, 3) := by decide +kernel
theorem dX0_leastX_11 : decode cX0_leastX 11 = .ok (.iconst 0, 1) := by decide +kernel
theorem dX0_leastX_12 : decode cX0_leastX 12 = .ok (.goto 10, 3) := by decide +kernel
theorem dX0_leastX_22 : decode cX0_leastX 22 = .ok (.ireturn, 1) := by decide +kernel
theorem dX0_greatestX_0 : decode cX0_greatestX 0 = .ok (.aload_n 0, 1) := by decide +kernel
theorem dX0_greatestX_1 : decode cX0_greatestX 1 = .ok (.invokevirtual 21, 3) := by decide +kernel
theorem dX0_greatestX_4 : decode cX0_greatestX 4 = .ok (.lstore_n 1, 1) := by decide +kernel
theorem dX0_greatestX_5 : decode cX0_greatestX 5 = .ok (.bipush 31, 2) := by decide +kernel
theorem dX0_greatestX_7 : decode cX0_greatestX 7 = .ok (.istore_n 3, 1) := by decide +kernel
theorem dX0_greatestX_8 : decode cX0_greatestX 8 = .ok (.iload_n 3, 1) := by decide +kernel
theorem dX0_greatestX_9 : decode cX0_greatestX 9 = .ok (.bipush (-32), 2) := by decide +kernel
theorem dX0_greatestX_11 : decode cX0_greatestX 11 = .ok (.if_icmp .lt 22, 3) := by decide +kernel
theorem dX0_greatestX_14 : decode cX0_greatestX 14 = .ok (.lload_n 1, 1) := by decide +kernel
theorem dX0_greatestX_15 : decode cX0_greatestX 15 = .ok (.iload_n 3, 1) := by decide +kernel
theorem dX0_greatestX_16 : decode cX0_greatestX 16 = .ok (.invokestatic 48, 3) := by decide +kernel
theorem dX0_greatestX_19 : decode cX0_greatestX 19 = .ok (.land, 1) := by decide +kernel
theorem dX0_greatestX_20 : decode cX0_greatestX 20 = .ok (.lconst 0, 1) := by decide +kernel
theorem dX0_greatestX_21 : decode cX0_greatestX 21 = .ok (.lcmp, 1) := by decide +kernel
theorem dX0_greatestX_22 : decode cX0_greatestX 22 = .ok (.ifCond .eq 5, 3) := by decide +kernel
theorem dX0_greatestX_27 : decode cX0_greatestX 27 = .ok (.iinc 3 (-1), 3) := by decide +kernel
theorem dX0_greatestX_30 : decode cX0_greatestX 30 = .ok (.goto (-22), 3) := by decide +kernel
theorem dX0_greatestX_33 : decode cX0_greatestX 33 = .ok (.iconst 0, 1) := by decide +kernel
theorem dX0_greatestX_34 : decode cX0_greatestX 34 = .ok (.ireturn, 1) := by decide +kernel
theorem dX0_leastY_0 : decode cX0_leastY 0 = .ok (.bipush (-32), 2) := by decide +kernel
theorem dX0_leastY_2 : decode cX0_leastY 2 = .ok (.istore_n 1, 1) := by decide +kernel
theorem dX0_leastY_3 : decode cX0_leastY 3 = .ok (.iload_n 1, 1) := by decide +kernel
theorem dX0_leastY_4 : decode cX0_leastY 4 = .ok (.bipush 31, 2) := by decide +kernel
theorem dX0_leastY_6 : decode cX0_leastY 6 = .ok (.if_icmp .gt 21, 3) := by decide +kernel
theorem dX0_leastY_9 : decode cX0_leastY 9 = .ok (.aload_n 0, 1) := by decide +kernel
theorem dX0_leastY_10 : decode cX0_leastY 10 = .ok (.iload_n 1, 1) := by decide +kernel
theorem dX0_leastY_11 : decode cX0_leastY 11 = .ok (.invokevirtual 25, 3) := by decide +kernel
theorem dX0_leastY_14 : decode cX0_leastY 14 = .ok (.lconst 0, 1) := by decide +kernel
theorem dX0_leastY_15 : decode cX0_leastY 15 = .ok (.lcmp, 1) := by decide +kernel
theorem dX0_leastY_16 : decode cX0_leastY 16 = .ok (.ifCond .eq 5, 3) := by decide +kernel
theorem dX0_leastY_21 : decode cX0_leastY 21 = .ok (.iinc 1 1, 3) := by decide +kernel
theorem dX0_leastY_24 : decode cX0_leastY 24 = .ok (.goto (-21), 3) := by decide +kernel
theorem dX0_leastY_27 : decode cX0_leastY 27 = .ok (.iconst 0, 1) := by decide +kernel
theorem dX0_leastY_28 : decode cX0_leastY 28 = .ok (.ireturn, 1) := by decide +kernel
theorem dX0_greatestY_0 : decode cX0_greatestY 0 = .ok (.bipush 31, 2) := by decide +kernel
theorem dX0_greatestY_2 : decode cX0_greatestY 2 = .ok (.istore_n 1, 1) := by decide +kernel
theorem dX0_greatestY_3 : decode cX0_greatestY 3 = .ok (.iload_n 1, 1) := by decide +kernel
theorem dX0_greatestY_4 : decode cX0_greatestY 4 = .ok (.bipush (-32), 2) := by decide +kernel
theorem dX0_greatestY_6 : decode cX0_greatestY 6 = .ok (.if_icmp .lt 21, 3) := by decide +kernel
theorem dX0_greatestY_9 : decode cX0_greatestY 9 = .ok (.aload_n 0, 1) := by decide +kernel
theorem dX0_greatestY_10 : decode cX0_greatestY 10 = .ok (.iload_n 1, 1) := by decide +kernel
theorem dX0_greatestY_11 : decode cX0_greatestY 11 = .ok (.invokevirtual 25, 3) := by decide +kernel
theorem dX0_greatestY_14 : decode cX0_greatestY 14 = .ok (.lconst 0, 1) := by decide +kernel
theorem dX0_greatestY_15 : decode cX0_greatestY 15 = .ok (.lcmp, 1) := by decide +kernel
theorem dX0_greatestY_16 : decode cX0_greatestY 16 = .ok (.ifCond .eq 5, 3) := by decide +kernel
theorem dX0_greatestY_21 : decode cX0_greatestY 21 = .ok (.iinc 1 (-1), 3) := by decide +kernel
theorem dX0_greatestY_24 : decode cX0_greatestY 24 = .ok (.goto (-21), 3) := by decide +kernel
theorem dX0_greatestY_27 : decode cX0_greatestY 27 = .ok (.iconst 0, 1) := by decide +kernel
theorem dX0_greatestY_28 : decode cX0_greatestY 28 = .ok (.ireturn, 1) := by decide +kernel
theorem dX1_init_0 : decode cX1_init 0 = .ok (.aload_n 0, 1) := by decide +kernel
theorem dX1_init_1 : decode cX1_init 1 = .ok (.invokespecial 3, 3) := by decide +kernel
theorem dX1_init_4 : decode cX1_init 4 = .ok (.aload_n 0, 1) := by decide +kernel
theorem dX1_init_5 : decode cX1_init 5 = .ok (.new 9, 3) := by decide +kernel
theorem dX1_init_8 : decode cX1_init 8 = .ok (.dup, 1) := by decide +kernel
theorem dX1_init_9 : decode cX1_init 9 = .ok (.invokespecial 11, 3) := by decide +kernel
theorem dX1_init_12 : decode cX1_init 12 = .ok (.putfield 12, 3) := by decide +kernel
theorem dX1_init_15 : decode cX1_init 15 = .ok (.aload_n 0, 1) := by decide +kernel
theorem dX1_init_16 : decode cX1_init 16 = .ok (.new 9, 3) := by decide +kernel
theorem dX1_init_19 : decode cX1_init 19 = .ok (.dup, 1) := by decide +kernel
theorem dX1_init_20 : decode cX1_init 20 = .ok (.invokespecial 11, 3) := by decide +kernel
theorem dX1_init_23 : decode cX1_init 23 = .ok (.putfield 18, 3) := by decide +kernel
theorem dX1_init_26 : decode cX1_init 26 = .ok (.return_, 1) := by decide +kernel
theorem dX1_countPieces_0 : decode cX1_countPieces 0 = .ok (.aload_n 0, 1) := by decide +kernel
theorem dX1_countPieces_1 : decode cX1_countPieces 1 = .ok (.getfield 12, 3) := by decide +kernel
theorem dX1_countPieces_4 : decode cX1_countPieces 4 = .ok (.aload_n 1, 1) := by decide +kernel
theorem dX1_countPieces_5 : decode cX1_countPieces 5 = .ok (.invokevirtual 21, 3) := by decide +kernel
theorem dX1_countPieces_8 : decode cX1_countPieces 8 = .ok (.aload_n 0, 1) := by decide +kernel
theorem dX1_countPieces_9 : decode cX1_countPieces 9 = .ok (.iconst 0, 1) := by decide +kernel
theorem dX1_countPieces_10 : decode cX1_countPieces 10 = .ok (.invokevirtual 25, 3) := by decide +kernel
theorem dX1_countPieces_13 : decode cX1_countPieces 13 = .ok (.ireturn, 1) := by decide +kernel
theorem dX1_countHoles_0 : decode cX1_countHoles 0 = .ok (.aload_n 0, 1) := by decide +kernel
theorem dX1_countHoles_1 : decode cX1_countHoles 1 = .ok (.aload_n 1, 1) := by decide +kernel
theorem dX1_countHoles_2 : decode cX1_countHoles 2 = .ok (.invokevirtual 29, 3) := by decide +kernel
theorem dX1_countHoles_5 : decode cX1_countHoles 5 = .ok (.aload_n 0, 1) := by decide +kernel
theorem dX1_countHoles_6 : decode cX1_countHoles 6 = .ok (.iconst 1, 1) := by decide +kernel
theorem dX1_countHoles_7 : decode cX1_countHoles 7 = .ok (.invokevirtual 25, 3) := by decide +kernel
theorem dX1_countHoles_10 : decode cX1_countHoles 10 = .ok (.ireturn, 1) := by decide +kernel
theorem dX1_findHoles_0 : decode cX1_findHoles 0 = .ok (.bipush (-32), 2) := by decide +kernel
theorem dX1_findHoles_2 : decode cX1_findHoles 2 = .ok (.istore_n 2, 1) := by decide +kernel
theorem dX1_findHoles_3 : decode cX1_findHoles 3 = .ok (.iload_n 2, 1) := by decide +kernel
theorem dX1_findHoles_4 : decode cX1_findHoles 4 = .ok (.bipush 31, 2) := by decide +kernel
theorem dX1_findHoles_6 : decode cX1_findHoles 6 = .ok (.if_icmp .gt 87, 3) := by decide +kernel
theorem dX1_findHoles_9 : decode cX1_findHoles 9 = .ok (.iload_n 2, 1) := by decide +kernel
theorem dX1_findHoles_10 : decode cX1_findHoles 10 = .ok (.bipush (-32), 2) := by decide +kernel
theorem dX1_findHoles_12 : decode cX1_findHoles 12 = .ok (.if_icmp .eq 9, 3) := by decide +kernel
theorem dX1_findHoles_15 : decode cX1_findHoles 15 = .ok (.iload_n 2, 1) := by decide +kernel
theorem dX1_findHoles_16 : decode cX1_findHoles 16 = .ok (.bipush 31, 2) := by decide +kernel
theorem dX1_findHoles_18 : decode cX1_findHoles 18 = .ok (.if_icmp .ne 7, 3) := by decide +kernel
theorem dX1_findHoles_21 : decode cX1_findHoles 21 = .ok (.iconst 1, 1) := by decide +kernel
theorem dX1_findHoles_22 : decode cX1_findHoles 22 = .ok (.goto 4, 3) := by decide +kernel
theorem dX1_findHoles_25 : decode cX1_findHoles 25 = .ok (.iconst 0, 1) := by decide +kernel
theorem dX1_findHoles_26 : decode cX1_findHoles 26 = .ok (.istore_n 3, 1) := by decide +kernel
theorem dX1_findHoles_27 : decode cX1_findHoles 27 = .ok (.iload_n 3, 1) := by decide +kernel
theorem dX1_findHoles_28 : decode cX1_findHoles 28 = .ok (.ifCond .eq 9, 3) := by decide +kernel
theorem dX1_findHoles_31 : decode cX1_findHoles 31 = .ok (.ldc2_w 46, 3) := by decide +kernel
theorem dX1_findHoles_34 : decode cX1_findHoles 34 = .ok (.goto 14, 3) := by decide +kernel
theorem dX1_findHoles_37 : decode cX1_findHoles 37 = .ok (.bipush (-32), 2) := by decide +kernel
theorem dX1_findHoles_39 : decode cX1_findHoles 39 = .ok (.invokestatic 48, 3) := by decide +kernel
theorem dX1_findHoles_42 : decode cX1_findHoles 42 = .ok (.bipush 31, 2) := by decide +kernel
theorem dX1_findHoles_44 : decode cX1_findHoles 44 = .ok (.invokestatic 48, 3) := by decide +kernel
theorem dX1_findHoles_47 : decode cX1_findHoles 47 = .ok (.lor, 1) := by decide +kernel
theorem dX1_findHoles_48 : decode cX1_findHoles 48 = .ok (.lstore 4, 2) := by decide +kernel
theorem dX1_findHoles_50 : decode cX1_findHoles 50 = .ok (.aload_n 0, 1) := by decide +kernel
theorem dX1_findHoles_51 : decode cX1_findHoles 51 = .ok (.getfield 12, 3) := by decide +kernel
theorem dX1_findHoles_54 : decode cX1_findHoles 54 = .ok (.iload_n 2, 1) := by decide +kernel
theorem dX1_findHoles_55 : decode cX1_findHoles 55 = .ok (.aload_n 1, 1) := by decide +kernel
theorem dX1_findHoles_56 : decode cX1_findHoles 56 = .ok (.iload_n 2, 1) := by decide +kernel
theorem dX1_findHoles_57 : decode cX1_findHoles 57 = .ok (.invokevirtual 52, 3) := by decide +kernel
theorem dX1_findHoles_60 : decode cX1_findHoles 60 = .ok (.ldc2_w 46, 3) := by decide +kernel
theorem dX1_findHoles_63 : decode cX1_findHoles 63 = .ok (.lxor, 1) := by decide +kernel
theorem dX1_findHoles_64 : decode cX1_findHoles 64 = .ok (.invokevirtual 55, 3) := by decide +kernel
theorem dX1_findHoles_67 : decode cX1_findHoles 67 = .ok (.aload_n 0, 1) := by decide +kernel
theorem dX1_findHoles_68 : decode cX1_findHoles 68 = .ok (.getfield 18, 3) := by decide +kernel
theorem dX1_findHoles_71 : decode cX1_findHoles 71 = .ok (.iload_n 2, 1) := by decide +kernel
theorem dX1_findHoles_72 : decode cX1_findHoles 72 = .ok (.aload_n 1, 1) := by decide +kernel
theorem dX1_findHoles_73 : decode cX1_findHoles 73 = .ok (.iload_n 2, 1) := by decide +kernel
theorem dX1_findHoles_74 : decode cX1_findHoles 74 = .ok (.invokevirtual 52, 3) := by decide +kernel
theorem dX1_findHoles_77 : decode cX1_findHoles 77 = .ok (.ldc2_w 46, 3) := by decide +kernel
theorem dX1_findHoles_80 : decode cX1_findHoles 80 = .ok (.lxor, 1) := by decide +kernel
theorem dX1_findHoles_81 : decode cX1_findHoles 81 = .ok (.lload 4, 2) := by decide +kernel
theorem dX1_findHoles_83 : decode cX1_findHoles 83 = .ok (.land, 1) := by decide +kernel
theorem dX1_findHoles_84 : decode cX1_findHoles 84 = .ok (.invokevirtual 55, 3) := by decide +kernel
theorem dX1_findHoles_87 : decode cX1_findHoles 87 = .ok (.iinc 2 1, 3) := by decide +kernel
theorem dX1_findHoles_90 : decode cX1_findHoles 90 = .ok (.goto (-87), 3) := by decide +kernel
theorem dX1_findHoles_93 : decode cX1_findHoles 93 = .ok (.aload_n 0, 1) := by decide +kernel
theorem dX1_findHoles_94 : decode cX1_findHoles 94 = .ok (.bipush (-32), 2) := by decide +kernel
theorem dX1_findHoles_96 : decode cX1_findHoles 96 = .ok (.putfield 59, 3) := by decide +kernel
theorem dX1_findHoles_99 : decode cX1_findHoles 99 = .ok (.aload_n 0, 1) := by decide +kernel
theorem dX1_findHoles_100 : decode cX1_findHoles 100 = .ok (.bipush 31, 2) := by decide +kernel
theorem dX1_findHoles_102 : decode cX1_findHoles 102 = .ok (.putfield 63, 3) := by decide +kernel
theorem dX1_findHoles_105 : decode cX1_findHoles 105 = .ok (.aload_n 0, 1) := by decide +kernel
theorem dX1_findHoles_106 : decode cX1_findHoles 106 = .ok (.iconst 1, 1) := by decide +kernel
theorem dX1_findHoles_107 : decode cX1_findHoles 107 = .ok (.invokevirtual 66, 3) := by decide +kernel
theorem dX1_findHoles_110 : decode cX1_findHoles 110 = .ok (.aload_n 0, 1) := by decide +kernel
theorem dX1_findHoles_111 : decode cX1_findHoles 111 = .ok (.invokevirtual 70, 3) := by decide +kernel
theorem dX1_findHoles_114 : decode cX1_findHoles 114 = .ok (.return_, 1) := by decide +kernel
theorem dX1_countParts_0 : decode cX1_countParts 0 = .ok (.iconst 0, 1) := by decide +kernel
theorem dX1_countParts_1 : decode cX1_countParts 1 = .ok (.istore_n 2, 1) := by decide +kernel
theorem dX1_countParts_2 : decode cX1_countParts 2 = .ok (.bipush (-32), 2) := by decide +kernel
theorem dX1_countParts_4 : decode cX1_countParts 4 = .ok (.istore_n 3, 1) := by decide +kernel
theorem dX1_countParts_5 : decode cX1_countParts 5 = .ok (.iload_n 3, 1) := by decide +kernel
theorem dX1_countParts_6 : decode cX1_countParts 6 = .ok (.bipush 31, 2) := by decide +kernel
theorem dX1_countParts_8 : decode cX1_countParts 8 = .ok (.if_icmp .gt 61, 3) := by decide +kernel
theorem dX1_countParts_11 : decode cX1_countParts 11 = .ok (.iconst 0, 1) := by decide +kernel
theorem dX1_countParts_12 : decode cX1_countParts 12 = .ok (.istore 4, 2) := by decide +kernel
theorem dX1_countParts_14 : decode cX1_countParts 14 = .ok (.iload 4, 2) := by decide +kernel
theorem dX1_countParts_16 : decode cX1_countParts 16 = .ok (.bipush 64, 2) := by decide +kernel
theorem dX1_countParts_18 : decode cX1_countParts 18 = .ok (.if_icmp .ge 45, 3) := by decide +kernel
theorem dX1_countParts_21 : decode cX1_countParts 21 = .ok (.aload_n 0, 1) := by decide +kernel
theorem dX1_countParts_22 : decode cX1_countParts 22 = .ok (.getfield 12, 3) := by decide +kernel
theorem dX1_countParts_25 : decode cX1_countParts 25 = .ok (.iload_n 3, 1) := by decide +kernel
theorem dX1_countParts_26 : decode cX1_countParts 26 = .ok (.invokevirtual 52, 3) := by decide +kernel
theorem dX1_countParts_29 : decode cX1_countParts 29 = .ok (.lconst 0, 1) := by decide +kernel
theorem dX1_countParts_30 : decode cX1_countParts 30 = .ok (.lcmp, 1) := by decide +kernel
theorem dX1_countParts_31 : decode cX1_countParts 31 = .ok (.ifCond .eq 32, 3) := by decide +kernel
theorem dX1_countParts_63 : decode cX1_countParts 63 = .ok (.iinc 3 1, 3) := by decide +kernel
theorem dX1_countParts_66 : decode cX1_countParts 66 = .ok (.goto (-61), 3) := by decide +kernel
theorem dX1_countParts_69 : decode cX1_countParts 69 = .ok (.iload_n 2, 1) := by decide +kernel
theorem dX1_countParts_70 : decode cX1_countParts 70 = .ok (.ireturn, 1) := by decide +kernel
theorem dX1_removeFound_0 : decode cX1_removeFound 0 = .ok (.aload_n 0, 1) := by decide +kernel
theorem dX1_removeFound_1 : decode cX1_removeFound 1 = .ok (.getfield 59, 3) := by decide +kernel
theorem dX1_removeFound_4 : decode cX1_removeFound 4 = .ok (.istore_n 1, 1) := by decide +kernel
theorem dX1_removeFound_5 : decode cX1_removeFound 5 = .ok (.iload_n 1, 1) := by decide +kernel
theorem dX1_removeFound_6 : decode cX1_removeFound 6 = .ok (.aload_n 0, 1) := by decide +kernel
theorem dX1_removeFound_7 : decode cX1_removeFound 7 = .ok (.getfield 63, 3) := by decide +kernel
theorem dX1_removeFound_10 : decode cX1_removeFound 10 = .ok (.if_icmp .gt 38, 3) := by decide +kernel
theorem dX1_removeFound_13 : decode cX1_removeFound 13 = .ok (.aload_n 0, 1) := by decide +kernel
theorem dX1_removeFound_14 : decode cX1_removeFound 14 = .ok (.getfield 12, 3) := by decide +kernel
theorem dX1_removeFound_17 : decode cX1_removeFound 17 = .ok (.iload_n 1, 1) := by decide +kernel
theorem dX1_removeFound_18 : decode cX1_removeFound 18 = .ok (.aload_n 0, 1) := by decide +kernel
theorem dX1_removeFound_19 : decode cX1_removeFound 19 = .ok (.getfield 12, 3) := by decide +kernel
theorem dX1_removeFound_22 : decode cX1_removeFound 22 = .ok (.iload_n 1, 1) := by decide +kernel
theorem dX1_removeFound_23 : decode cX1_removeFound 23 = .ok (.invokevirtual 52, 3) := by decide +kernel
theorem dX1_removeFound_26 : decode cX1_removeFound 26 = .ok (.aload_n 0, 1) := by decide +kernel
theorem dX1_removeFound_27 : decode cX1_removeFound 27 = .ok (.getfield 18, 3) := by decide +kernel
theorem dX1_removeFound_30 : decode cX1_removeFound 30 = .ok (.iload_n 1, 1) := by decide +kernel
theorem dX1_removeFound_31 : decode cX1_removeFound 31 = .ok (.invokevirtual 52, 3) := by decide +kernel
theorem dX1_removeFound_34 : decode cX1_removeFound 34 = .ok (.ldc2_w 46, 3) := by decide +kernel
theorem dX1_removeFound_37 : decode cX1_removeFound 37 = .ok (.lxor, 1) := by decide +kernel
theorem dX1_removeFound_38 : decode cX1_removeFound 38 = .ok (.land, 1) := by decide +kernel
theorem dX1_removeFound_39 : decode cX1_removeFound 39 = .ok (.invokevirtual 55, 3) := by decide +kernel
theorem dX1_removeFound_42 : decode cX1_removeFound 42 = .ok (.iinc 1 1, 3) := by decide +kernel
theorem dX1_removeFound_45 : decode cX1_removeFound 45 = .ok (.goto (-40), 3) := by decide +kernel
theorem dX1_removeFound_48 : decode cX1_removeFound 48 = .ok (.return_, 1) := by decide +kernel
theorem dX1_spread_0 : decode cX1_spread 0 = .ok (.iconst 1, 1) := by decide +kernel
theorem dX1_spread_1 : decode cX1_spread 1 = .ok (.istore_n 2, 1) := by decide +kernel
theorem dX1_spread_2 : decode cX1_spread 2 = .ok (.iconst 0, 1) := by decide +kernel
theorem dX1_spread_3 : decode cX1_spread 3 = .ok (.istore_n 3, 1) := by decide +kernel
theorem dX1_spread_4 : decode cX1_spread 4 = .ok (.iload_n 3, 1) := by decide +kernel
theorem dX1_spread_5 : decode cX1_spread 5 = .ok (.sipush 4096, 3) := by decide +kernel
theorem dX1_spread_8 : decode cX1_spread 8 = .ok (.if_icmp .gt 95, 3) := by decide +kernel
theorem dX1_spread_11 : decode cX1_spread 11 = .ok (.iload_n 2, 1) := by decide +kernel
theorem dX1_spread_12 : decode cX1_spread 12 = .ok (.ifCond .eq 91, 3) := by decide +kernel
theorem dX1_spread_15 : decode cX1_spread 15 = .ok (.iconst 0, 1) := by decide +kernel
theorem dX1_spread_16 : decode cX1_spread 16 = .ok (.istore_n 2, 1) := by decide +kernel
theorem dX1_spread_17 : decode cX1_spread 17 = .ok (.aload_n 0, 1) := by decide +kernel
theorem dX1_spread_18 : decode cX1_spread 18 = .ok (.getfield 59, 3) := by decide +kernel
theorem dX1_spread_21 : decode cX1_spread 21 = .ok (.istore 4, 2) := by decide +kernel
theorem dX1_spread_23 : decode cX1_spread 23 = .ok (.iload 4, 2) := by decide +kernel
theorem dX1_spread_25 : decode cX1_spread 25 = .ok (.bipush 31, 2) := by decide +kernel
theorem dX1_spread_27 : decode cX1_spread 27 = .ok (.if_icmp .gt 30, 3) := by decide +kernel
theorem dX1_spread_30 : decode cX1_spread 30 = .ok (.iload 4, 2) := by decide +kernel
theorem dX1_spread_32 : decode cX1_spread 32 = .ok (.aload_n 0, 1) := by decide +kernel
theorem dX1_spread_33 : decode cX1_spread 33 = .ok (.getfield 63, 3) := by decide +kernel
theorem dX1_spread_36 : decode cX1_spread 36 = .ok (.iconst 1, 1) := by decide +kernel
theorem dX1_spread_37 : decode cX1_spread 37 = .ok (.iadd, 1) := by decide +kernel
theorem dX1_spread_38 : decode cX1_spread 38 = .ok (.if_icmp .gt 19, 3) := by decide +kernel
theorem dX1_spread_41 : decode cX1_spread 41 = .ok (.iload_n 2, 1) := by decide +kernel
theorem dX1_spread_42 : decode cX1_spread 42 = .ok (.aload_n 0, 1) := by decide +kernel
theorem dX1_spread_43 : decode cX1_spread 43 = .ok (.iload 4, 2) := by decide +kernel
theorem dX1_spread_45 : decode cX1_spread 45 = .ok (.iload_n 1, 1) := by decide +kernel
theorem dX1_spread_46 : decode cX1_spread 46 = .ok (.invokevirtual 81, 3) := by decide +kernel
theorem dX1_spread_49 : decode cX1_spread 49 = .ok (.ior, 1) := by decide +kernel
theorem dX1_spread_50 : decode cX1_spread 50 = .ok (.istore_n 2, 1) := by decide +kernel
theorem dX1_spread_51 : decode cX1_spread 51 = .ok (.iinc 4 1, 3) := by decide +kernel
theorem dX1_spread_54 : decode cX1_spread 54 = .ok (.goto (-31), 3) := by decide +kernel
theorem dX1_spread_57 : decode cX1_spread 57 = .ok (.aload_n 0, 1) := by decide +kernel
theorem dX1_spread_58 : decode cX1_spread 58 = .ok (.getfield 63, 3) := by decide +kernel
theorem dX1_spread_61 : decode cX1_spread 61 = .ok (.istore 4, 2) := by decide +kernel
theorem dX1_spread_63 : decode cX1_spread 63 = .ok (.iload 4, 2) := by decide +kernel
theorem dX1_spread_65 : decode cX1_spread 65 = .ok (.bipush (-32), 2) := by decide +kernel
theorem dX1_spread_67 : decode cX1_spread 67 = .ok (.if_icmp .lt 30, 3) := by decide +kernel
theorem dX1_spread_70 : decode cX1_spread 70 = .ok (.iload 4, 2) := by decide +kernel
theorem dX1_spread_72 : decode cX1_spread 72 = .ok (.aload_n 0, 1) := by decide +kernel
theorem dX1_spread_73 : decode cX1_spread 73 = .ok (.getfield 59, 3) := by decide +kernel
theorem dX1_spread_76 : decode cX1_spread 76 = .ok (.iconst 1, 1) := by decide +kernel
theorem dX1_spread_77 : decode cX1_spread 77 = .ok (.isub, 1) := by decide +kernel
theorem dX1_spread_78 : decode cX1_spread 78 = .ok (.if_icmp .lt 19, 3) := by decide +kernel
theorem dX1_spread_81 : decode cX1_spread 81 = .ok (.iload_n 2, 1) := by decide +kernel
theorem dX1_spread_82 : decode cX1_spread 82 = .ok (.aload_n 0, 1) := by decide +kernel
theorem dX1_spread_83 : decode cX1_spread 83 = .ok (.iload 4, 2) := by decide +kernel
theorem dX1_spread_85 : decode cX1_spread 85 = .ok (.iload_n 1, 1) := by decide +kernel
theorem dX1_spread_86 : decode cX1_spread 86 = .ok (.invokevirtual 81, 3) := by decide +kernel
theorem dX1_spread_89 : decode cX1_spread 89 = .ok (.ior, 1) := by decide +kernel
theorem dX1_spread_90 : decode cX1_spread 90 = .ok (.istore_n 2, 1) := by decide +kernel
theorem dX1_spread_91 : decode cX1_spread 91 = .ok (.iinc 4 (-1), 3) := by decide +kernel
theorem dX1_spread_94 : decode cX1_spread 94 = .ok (.goto (-31), 3) := by decide +kernel
theorem dX1_spread_97 : decode cX1_spread 97 = .ok (.iinc 3 1, 3) := by decide +kernel
theorem dX1_spread_100 : decode cX1_spread 100 = .ok (.goto (-96), 3) := by decide +kernel
theorem dX1_spread_103 : decode cX1_spread 103 = .ok (.return_, 1) := by decide +kernel
theorem dX1_spreadInto_0 : decode cX1_spreadInto 0 = .ok (.aload_n 0, 1) := by decide +kernel
theorem dX1_spreadInto_1 : decode cX1_spreadInto 1 = .ok (.getfield 18, 3) := by decide +kernel
theorem dX1_spreadInto_4 : decode cX1_spreadInto 4 = .ok (.iload_n 1, 1) := by decide +kernel
theorem dX1_spreadInto_5 : decode cX1_spreadInto 5 = .ok (.iconst 1, 1) := by decide +kernel
theorem dX1_spreadInto_6 : decode cX1_spreadInto 6 = .ok (.isub, 1) := by decide +kernel
theorem dX1_spreadInto_7 : decode cX1_spreadInto 7 = .ok (.invokevirtual 52, 3) := by decide +kernel
theorem dX1_spreadInto_10 : decode cX1_spreadInto 10 = .ok (.aload_n 0, 1) := by decide +kernel
theorem dX1_spreadInto_11 : decode cX1_spreadInto 11 = .ok (.getfield 18, 3) := by decide +kernel
theorem dX1_spreadInto_14 : decode cX1_spreadInto 14 = .ok (.iload_n 1, 1) := by decide +kernel
theorem dX1_spreadInto_15 : decode cX1_spreadInto 15 = .ok (.iconst 1, 1) := by decide +kernel
theorem dX1_spreadInto_16 : decode cX1_spreadInto 16 = .ok (.iadd, 1) := by decide +kernel
theorem dX1_spreadInto_17 : decode cX1_spreadInto 17 = .ok (.invokevirtual 52, 3) := by decide +kernel
theorem dX1_spreadInto_20 : decode cX1_spreadInto 20 = .ok (.lor, 1) := by decide +kernel
theorem dX1_spreadInto_21 : decode cX1_spreadInto 21 = .ok (.lstore_n 3, 1) := by decide +kernel
theorem dX1_spreadInto_22 : decode cX1_spreadInto 22 = .ok (.iload_n 2, 1) := by decide +kernel
theorem dX1_spreadInto_23 : decode cX1_spreadInto 23 = .ok (.ifCond .eq 13, 3) := by decide +kernel
theorem dX1_spreadInto_26 : decode cX1_spreadInto 26 = .ok (.lload_n 3, 1) := by decide +kernel
theorem dX1_spreadInto_27 : decode cX1_spreadInto 27 = .ok (.lload_n 3, 1) := by decide +kernel
theorem dX1_spreadInto_28 : decode cX1_spreadInto 28 = .ok (.iconst 1, 1) := by decide +kernel
theorem dX1_spreadInto_29 : decode cX1_spreadInto 29 = .ok (.lshl, 1) := by decide +kernel
theorem dX1_spreadInto_30 : decode cX1_spreadInto 30 = .ok (.lload_n 3, 1) := by decide +kernel
theorem dX1_spreadInto_31 : decode cX1_spreadInto 31 = .ok (.iconst 1, 1) := by decide +kernel
theorem dX1_spreadInto_32 : decode cX1_spreadInto 32 = .ok (.lushr, 1) := by decide +kernel
theorem dX1_spreadInto_33 : decode cX1_spreadInto 33 = .ok (.lor, 1) := by decide +kernel
theorem dX1_spreadInto_34 : decode cX1_spreadInto 34 = .ok (.lor, 1) := by decide +kernel
theorem dX1_spreadInto_35 : decode cX1_spreadInto 35 = .ok (.lstore_n 3, 1) := by decide +kernel
theorem dX1_spreadInto_36 : decode cX1_spreadInto 36 = .ok (.aload_n 0, 1) := by decide +kernel
theorem dX1_spreadInto_37 : decode cX1_spreadInto 37 = .ok (.getfield 12, 3) := by decide +kernel
theorem dX1_spreadInto_40 : decode cX1_spreadInto 40 = .ok (.iload_n 1, 1) := by decide +kernel
theorem dX1_spreadInto_41 : decode cX1_spreadInto 41 = .ok (.invokevirtual 52, 3) := by decide +kernel
theorem dX1_spreadInto_44 : decode cX1_spreadInto 44 = .ok (.lstore 5, 2) := by decide +kernel
theorem dX1_spreadInto_46 : decode cX1_spreadInto 46 = .ok (.aload_n 0, 1) := by decide +kernel
theorem dX1_spreadInto_47 : decode cX1_spreadInto 47 = .ok (.getfield 18, 3) := by decide +kernel
theorem dX1_spreadInto_50 : decode cX1_spreadInto 50 = .ok (.iload_n 1, 1) := by decide +kernel
theorem dX1_spreadInto_51 : decode cX1_spreadInto 51 = .ok (.invokevirtual 52, 3) := by decide +kernel
theorem dX1_spreadInto_54 : decode cX1_spreadInto 54 = .ok (.lstore 7, 2) := by decide +kernel
theorem dX1_spreadInto_56 : decode cX1_spreadInto 56 = .ok (.lload 5, 2) := by decide +kernel
theorem dX1_spreadInto_58 : decode cX1_spreadInto 58 = .ok (.lload 7, 2) := by decide +kernel
theorem dX1_spreadInto_60 : decode cX1_spreadInto 60 = .ok (.lload_n 3, 1) := by decide +kernel
theorem dX1_spreadInto_61 : decode cX1_spreadInto 61 = .ok (.lor, 1) := by decide +kernel
theorem dX1_spreadInto_62 : decode cX1_spreadInto 62 = .ok (.land, 1) := by decide +kernel
theorem dX1_spreadInto_63 : decode cX1_spreadInto 63 = .ok (.lload 5, 2) := by decide +kernel
theorem dX1_spreadInto_65 : decode cX1_spreadInto 65 = .ok (.invokestatic 85, 3) := by decide +kernel
theorem dX1_spreadInto_68 : decode cX1_spreadInto 68 = .ok (.lstore 9, 2) := by decide +kernel
theorem dX1_spreadInto_70 : decode cX1_spreadInto 70 = .ok (.lload 9, 2) := by decide +kernel
theorem dX1_spreadInto_72 : decode cX1_spreadInto 72 = .ok (.lload 7, 2) := by decide +kernel
theorem dX1_spreadInto_74 : decode cX1_spreadInto 74 = .ok (.lcmp, 1) := by decide +kernel
theorem dX1_spreadInto_75 : decode cX1_spreadInto 75 = .ok (.ifCond .ne 5, 3) := by decide +kernel
theorem dX1_spreadInto_78 : decode cX1_spreadInto 78 = .ok (.iconst 0, 1) := by decide +kernel
theorem dX1_spreadInto_79 : decode cX1_spreadInto 79 = .ok (.ireturn, 1) := by decide +kernel
theorem dX1_spreadInto_80 : decode cX1_spreadInto 80 = .ok (.aload_n 0, 1) := by decide +kernel
theorem dX1_spreadInto_81 : decode cX1_spreadInto 81 = .ok (.getfield 18, 3) := by decide +kernel
theorem dX1_spreadInto_84 : decode cX1_spreadInto 84 = .ok (.iload_n 1, 1) := by decide +kernel
theorem dX1_spreadInto_85 : decode cX1_spreadInto 85 = .ok (.lload 9, 2) := by decide +kernel
theorem dX1_spreadInto_87 : decode cX1_spreadInto 87 = .ok (.invokevirtual 55, 3) := by decide +kernel
theorem dX1_spreadInto_90 : decode cX1_spreadInto 90 = .ok (.aload_n 0, 1) := by decide +kernel
theorem dX1_spreadInto_91 : decode cX1_spreadInto 91 = .ok (.aload_n 0, 1) := by decide +kernel
theorem dX1_spreadInto_92 : decode cX1_spreadInto 92 = .ok (.getfield 59, 3) := by decide +kernel
theorem dX1_spreadInto_95 : decode cX1_spreadInto 95 = .ok (.iload_n 1, 1) := by decide +kernel
theorem dX1_spreadInto_96 : decode cX1_spreadInto 96 = .ok (.invokestatic 89, 3) := by decide +kernel
theorem dX1_spreadInto_99 : decode cX1_spreadInto 99 = .ok (.putfield 59, 3) := by decide +kernel
theorem dX1_spreadInto_102 : decode cX1_spreadInto 102 = .ok (.aload_n 0, 1) := by decide +kernel
theorem dX1_spreadInto_103 : decode cX1_spreadInto 103 = .ok (.aload_n 0, 1) := by decide +kernel
theorem dX1_spreadInto_104 : decode cX1_spreadInto 104 = .ok (.getfield 63, 3) := by decide +kernel
theorem dX1_spreadInto_107 : decode cX1_spreadInto 107 = .ok (.iload_n 1, 1) := by decide +kernel
theorem dX1_spreadInto_108 : decode cX1_spreadInto 108 = .ok (.invokestatic 95, 3) := by decide +kernel
theorem dX1_spreadInto_111 : decode cX1_spreadInto 111 = .ok (.putfield 63, 3) := by decide +kernel
theorem dX1_spreadInto_114 : decode cX1_spreadInto 114 = .ok (.iconst 1, 1) := by decide +kernel
theorem dX1_spreadInto_115 : decode cX1_spreadInto 115 = .ok (.ireturn, 1) := by decide +kernel
theorem dX1_along_0 : decode cX1_along 0 = .ok (.lload_n 0, 1) := by decide +kernel
theorem dX1_along_1 : decode cX1_along 1 = .ok (.lstore 4, 2) := by decide +kernel
theorem dX1_along_3 : decode cX1_along 3 = .ok (.lload_n 2, 1) := by decide +kernel
theorem dX1_along_4 : decode cX1_along 4 = .ok (.lstore 6, 2) := by decide +kernel
theorem dX1_along_6 : decode cX1_along 6 = .ok (.lload_n 0, 1) := by decide +kernel
theorem dX1_along_7 : decode cX1_along 7 = .ok (.lstore 8, 2) := by decide +kernel
theorem dX1_along_9 : decode cX1_along 9 = .ok (.lload_n 2, 1) := by decide +kernel
theorem dX1_along_10 : decode cX1_along 10 = .ok (.lstore 10, 2) := by decide +kernel
theorem dX1_along_12 : decode cX1_along 12 = .ok (.iconst 1, 1) := by decide +kernel
theorem dX1_along_13 : decode cX1_along 13 = .ok (.istore 12, 2) := by decide +kernel
theorem dX1_along_15 : decode cX1_along 15 = .ok (.iload 12, 2) := by decide +kernel
theorem dX1_along_17 : decode cX1_along 17 = .ok (.bipush 64, 2) := by decide +kernel
theorem dX1_along_19 : decode cX1_along 19 = .ok (.if_icmp .ge 58, 3) := by decide +kernel
theorem dX1_along_22 : decode cX1_along 22 = .ok (.lload 4, 2) := by decide +kernel
theorem dX1_along_24 : decode cX1_along 24 = .ok (.lload 6, 2) := by decide +kernel
theorem dX1_along_26 : decode cX1_along 26 = .ok (.lload 4, 2) := by decide +kernel
theorem dX1_along_28 : decode cX1_along 28 = .ok (.iload 12, 2) := by decide +kernel
theorem dX1_along_30 : decode cX1_along 30 = .ok (.lshl, 1) := by decide +kernel
theorem dX1_along_31 : decode cX1_along 31 = .ok (.land, 1) := by decide +kernel
theorem dX1_along_32 : decode cX1_along 32 = .ok (.lor, 1) := by decide +kernel
theorem dX1_along_33 : decode cX1_along 33 = .ok (.lstore 4, 2) := by decide +kernel
theorem dX1_along_35 : decode cX1_along 35 = .ok (.lload 6, 2) := by decide +kernel
theorem dX1_along_37 : decode cX1_along 37 = .ok (.lload 6, 2) := by decide +kernel
theorem dX1_along_39 : decode cX1_along 39 = .ok (.iload 12, 2) := by decide +kernel
theorem dX1_along_41 : decode cX1_along 41 = .ok (.lshl, 1) := by decide +kernel
theorem dX1_along_42 : decode cX1_along 42 = .ok (.land, 1) := by decide +kernel
theorem dX1_along_43 : decode cX1_along 43 = .ok (.lstore 6, 2) := by decide +kernel
theorem dX1_along_45 : decode cX1_along 45 = .ok (.lload 8, 2) := by decide +kernel
theorem dX1_along_47 : decode cX1_along 47 = .ok (.lload 10, 2) := by decide +kernel
theorem dX1_along_49 : decode cX1_along 49 = .ok (.lload 8, 2) := by decide +kernel
theorem dX1_along_51 : decode cX1_along 51 = .ok (.iload 12, 2) := by decide +kernel
theorem dX1_along_53 : decode cX1_along 53 = .ok (.lushr, 1) := by decide +kernel
theorem dX1_along_54 : decode cX1_along 54 = .ok (.land, 1) := by decide +kernel
theorem dX1_along_55 : decode cX1_along 55 = .ok (.lor, 1) := by decide +kernel
theorem dX1_along_56 : decode cX1_along 56 = .ok (.lstore 8, 2) := by decide +kernel
theorem dX1_along_58 : decode cX1_along 58 = .ok (.lload 10, 2) := by decide +kernel
theorem dX1_along_60 : decode cX1_along 60 = .ok (.lload 10, 2) := by decide +kernel
theorem dX1_along_62 : decode cX1_along 62 = .ok (.iload 12, 2) := by decide +kernel
theorem dX1_along_64 : decode cX1_along 64 = .ok (.lushr, 1) := by decide +kernel
theorem dX1_along_65 : decode cX1_along 65 = .ok (.land, 1) := by decide +kernel
theorem dX1_along_66 : decode cX1_along 66 = .ok (.lstore 10, 2) := by decide +kernel
theorem dX1_along_68 : decode cX1_along 68 = .ok (.iload 12, 2) := by decide +kernel
theorem dX1_along_70 : decode cX1_along 70 = .ok (.iconst 2, 1) := by decide +kernel
theorem dX1_along_71 : decode cX1_along 71 = .ok (.imul, 1) := by decide +kernel
theorem dX1_along_72 : decode cX1_along 72 = .ok (.istore 12, 2) := by decide +kernel
theorem dX1_along_74 : decode cX1_along 74 = .ok (.goto (-59), 3) := by decide +kernel
theorem dX1_along_77 : decode cX1_along 77 = .ok (.lload 4, 2) := by decide +kernel
theorem dX1_along_79 : decode cX1_along 79 = .ok (.lload 8, 2) := by decide +kernel
theorem dX1_along_81 : decode cX1_along 81 = .ok (.lor, 1) := by decide +kernel
theorem dX1_along_82 : decode cX1_along 82 = .ok (.lreturn, 1) := by decide +kernel
theorem dX2_init_0 : decode cX2_init 0 = .ok (.aload_n 0, 1) := by decide +kernel
theorem dX2_init_1 : decode cX2_init 1 = .ok (.invokespecial 3, 3) := by decide +kernel
theorem dX2_init_4 : decode cX2_init 4 = .ok (.aload_n 0, 1) := by decide +kernel
theorem dX2_init_5 : decode cX2_init 5 = .ok (.bipush 12, 2) := by decide +kernel
theorem dX2_init_7 : decode cX2_init 7 = .ok (.anewarray 9, 3) := by decide +kernel
theorem dX2_init_10 : decode cX2_init 10 = .ok (.putfield 11, 3) := by decide +kernel
theorem dX2_init_13 : decode cX2_init 13 = .ok (.aload_n 0, 1) := by decide +kernel
theorem dX2_init_14 : decode cX2_init 14 = .ok (.bipush 12, 2) := by decide +kernel
theorem dX2_init_16 : decode cX2_init 16 = .ok (.newarray .int, 2) := by decide +kernel
theorem dX2_init_18 : decode cX2_init 18 = .ok (.putfield 17, 3) := by decide +kernel
theorem dX2_init_21 : decode cX2_init 21 = .ok (.iconst 0, 1) := by decide +kernel
theorem dX2_init_22 : decode cX2_init 22 = .ok (.istore_n 1, 1) := by decide +kernel
theorem dX2_init_23 : decode cX2_init 23 = .ok (.iload_n 1, 1) := by decide +kernel
theorem dX2_init_24 : decode cX2_init 24 = .ok (.aload_n 0, 1) := by decide +kernel
theorem dX2_init_25 : decode cX2_init 25 = .ok (.getfield 11, 3) := by decide +kernel
theorem dX2_init_28 : decode cX2_init 28 = .ok (.arraylength, 1) := by decide +kernel
theorem dX2_init_29 : decode cX2_init 29 = .ok (.if_icmp .ge 22, 3) := by decide +kernel
theorem dX2_init_32 : decode cX2_init 32 = .ok (.aload_n 0, 1) := by decide +kernel
theorem dX2_init_33 : decode cX2_init 33 = .ok (.getfield 11, 3) := by decide +kernel
theorem dX2_init_36 : decode cX2_init 36 = .ok (.iload_n 1, 1) := by decide +kernel
theorem dX2_init_37 : decode cX2_init 37 = .ok (.new 9, 3) := by decide +kernel
theorem dX2_init_40 : decode cX2_init 40 = .ok (.dup, 1) := by decide +kernel
theorem dX2_init_41 : decode cX2_init 41 = .ok (.invokespecial 21, 3) := by decide +kernel
theorem dX2_init_44 : decode cX2_init 44 = .ok (.aastore, 1) := by decide +kernel
theorem dX2_init_45 : decode cX2_init 45 = .ok (.iinc 1 1, 3) := by decide +kernel
theorem dX2_init_48 : decode cX2_init 48 = .ok (.goto (-25), 3) := by decide +kernel
theorem dX2_init_51 : decode cX2_init 51 = .ok (.return_, 1) := by decide +kernel
theorem dX2_count_0 : decode cX2_count 0 = .ok (.aload_n 0, 1) := by decide +kernel
theorem dX2_count_1 : decode cX2_count 1 = .ok (.getfield 22, 3) := by decide +kernel
theorem dX2_count_4 : decode cX2_count 4 = .ok (.ireturn, 1) := by decide +kernel
theorem dX3_init_0 : decode cX3_init 0 = .ok (.aload_n 0, 1) := by decide +kernel
theorem dX3_init_1 : decode cX3_init 1 = .ok (.invokespecial 3, 3) := by decide +kernel
theorem dX3_init_4 : decode cX3_init 4 = .ok (.aload_n 0, 1) := by decide +kernel
theorem dX3_init_5 : decode cX3_init 5 = .ok (.new 9, 3) := by decide +kernel
theorem dX3_init_8 : decode cX3_init 8 = .ok (.dup, 1) := by decide +kernel
theorem dX3_init_9 : decode cX3_init 9 = .ok (.invokespecial 11, 3) := by decide +kernel
theorem dX3_init_12 : decode cX3_init 12 = .ok (.putfield 12, 3) := by decide +kernel
theorem dX3_init_15 : decode cX3_init 15 = .ok (.aload_n 0, 1) := by decide +kernel
theorem dX3_init_16 : decode cX3_init 16 = .ok (.new 9, 3) := by decide +kernel
theorem dX3_init_19 : decode cX3_init 19 = .ok (.dup, 1) := by decide +kernel
theorem dX3_init_20 : decode cX3_init 20 = .ok (.invokespecial 11, 3) := by decide +kernel
theorem dX3_init_23 : decode cX3_init 23 = .ok (.putfield 18, 3) := by decide +kernel
theorem dX3_init_26 : decode cX3_init 26 = .ok (.aload_n 0, 1) := by decide +kernel
theorem dX3_init_27 : decode cX3_init 27 = .ok (.new 9, 3) := by decide +kernel
theorem dX3_init_30 : decode cX3_init 30 = .ok (.dup, 1) := by decide +kernel
theorem dX3_init_31 : decode cX3_init 31 = .ok (.invokespecial 11, 3) := by decide +kernel
theorem dX3_init_34 : decode cX3_init 34 = .ok (.putfield 21, 3) := by decide +kernel
theorem dX3_init_37 : decode cX3_init 37 = .ok (.return_, 1) := by decide +kernel
theorem dX3_countContours_0 : decode cX3_countContours 0 = .ok (.aload_n 0, 1) := by decide +kernel
theorem dX3_countContours_1 : decode cX3_countContours 1 = .ok (.aload_n 1, 1) := by decide +kernel
theorem dX3_countContours_2 : decode cX3_countContours 2 = .ok (.invokevirtual 37, 3) := by decide +kernel
theorem dX3_countContours_5 : decode cX3_countContours 5 = .ok (.iconst 0, 1) := by decide +kernel
theorem dX3_countContours_6 : decode cX3_countContours 6 = .ok (.istore_n 2, 1) := by decide +kernel
theorem dX3_countContours_7 : decode cX3_countContours 7 = .ok (.iload_n 2, 1) := by decide +kernel
theorem dX3_countContours_8 : decode cX3_countContours 8 = .ok (.sipush 16384, 3) := by decide +kernel
theorem dX3_countContours_11 : decode cX3_countContours 11 = .ok (.if_icmp .ge 17, 3) := by decide +kernel
theorem dX3_countContours_14 : decode cX3_countContours 14 = .ok (.aload_n 0, 1) := by decide +kernel
theorem dX3_countContours_15 : decode cX3_countContours 15 = .ok (.iconst 0, 1) := by decide +kernel
theorem dX3_countContours_16 : decode cX3_countContours 16 = .ok (.invokevirtual 41, 3) := by decide +kernel
theorem dX3_countContours_19 : decode cX3_countContours 19 = .ok (.ifCond .eq 9, 3) := by decide +kernel
theorem dX3_countContours_28 : decode cX3_countContours 28 = .ok (.iload_n 2, 1) := by decide +kernel
theorem dX3_countContours_29 : decode cX3_countContours 29 = .ok (.ireturn, 1) := by decide +kernel
theorem dX3_begin_0 : decode cX3_begin 0 = .ok (.aload_n 0, 1) := by decide +kernel
theorem dX3_begin_1 : decode cX3_begin 1 = .ok (.getfield 12, 3) := by decide +kernel
theorem dX3_begin_4 : decode cX3_begin 4 = .ok (.aload_n 1, 1) := by decide +kernel
theorem dX3_begin_5 : decode cX3_begin 5 = .ok (.invokevirtual 45, 3) := by decide +kernel
theorem dX3_begin_8 : decode cX3_begin 8 = .ok (.aload_n 0, 1) := by decide +kernel
theorem dX3_begin_9 : decode cX3_begin 9 = .ok (.getfield 18, 3) := by decide +kernel
theorem dX3_begin_12 : decode cX3_begin 12 = .ok (.invokevirtual 48, 3) := by decide +kernel
theorem dX3_begin_15 : decode cX3_begin 15 = .ok (.aload_n 0, 1) := by decide +kernel
theorem dX3_begin_16 : decode cX3_begin 16 = .ok (.getfield 21, 3) := by decide +kernel
theorem dX3_begin_19 : decode cX3_begin 19 = .ok (.invokevirtual 48, 3) := by decide +kernel
theorem dX3_begin_22 : decode cX3_begin 22 = .ok (.aload_n 0, 1) := by decide +kernel
theorem dX3_begin_23 : decode cX3_begin 23 = .ok (.bipush (-32), 2) := by decide +kernel
theorem dX3_begin_25 : decode cX3_begin 25 = .ok (.putfield 51, 3) := by decide +kernel
theorem dX3_begin_28 : decode cX3_begin 28 = .ok (.return_, 1) := by decide +kernel
theorem dX3_next_0 : decode cX3_next 0 = .ok (.aload_n 0, 1) := by decide +kernel
theorem dX3_next_1 : decode cX3_next 1 = .ok (.iload_n 1, 1) := by decide +kernel
theorem dX3_next_2 : decode cX3_next 2 = .ok (.putfield 54, 3) := by decide +kernel
theorem dX3_next_5 : decode cX3_next 5 = .ok (.aload_n 0, 1) := by decide +kernel
theorem dX3_next_6 : decode cX3_next 6 = .ok (.getfield 51, 3) := by decide +kernel
theorem dX3_next_9 : decode cX3_next 9 = .ok (.bipush 31, 2) := by decide +kernel
theorem dX3_next_11 : decode cX3_next 11 = .ok (.if_icmp .gt 122, 3) := by decide +kernel
theorem dX3_next_14 : decode cX3_next 14 = .ok (.aload_n 0, 1) := by decide +kernel
theorem dX3_next_15 : decode cX3_next 15 = .ok (.getfield 12, 3) := by decide +kernel
theorem dX3_next_18 : decode cX3_next 18 = .ok (.aload_n 0, 1) := by decide +kernel
theorem dX3_next_19 : decode cX3_next 19 = .ok (.getfield 51, 3) := by decide +kernel
theorem dX3_next_22 : decode cX3_next 22 = .ok (.invokevirtual 57, 3) := by decide +kernel
theorem dX3_next_25 : decode cX3_next 25 = .ok (.lstore_n 2, 1) := by decide +kernel
theorem dX3_next_26 : decode cX3_next 26 = .ok (.lload_n 2, 1) := by decide +kernel
theorem dX3_next_27 : decode cX3_next 27 = .ok (.aload_n 0, 1) := by decide +kernel
theorem dX3_next_28 : decode cX3_next 28 = .ok (.getfield 12, 3) := by decide +kernel
theorem dX3_next_31 : decode cX3_next 31 = .ok (.aload_n 0, 1) := by decide +kernel
theorem dX3_next_32 : decode cX3_next 32 = .ok (.getfield 51, 3) := by decide +kernel
theorem dX3_next_35 : decode cX3_next 35 = .ok (.iconst 1, 1) := by decide +kernel
theorem dX3_next_36 : decode cX3_next 36 = .ok (.isub, 1) := by decide +kernel
theorem dX3_next_37 : decode cX3_next 37 = .ok (.invokevirtual 57, 3) := by decide +kernel
theorem dX3_next_40 : decode cX3_next 40 = .ok (.ldc2_w 61, 3) := by decide +kernel
theorem dX3_next_43 : decode cX3_next 43 = .ok (.lxor, 1) := by decide +kernel
theorem dX3_next_44 : decode cX3_next 44 = .ok (.land, 1) := by decide +kernel
theorem dX3_next_45 : decode cX3_next 45 = .ok (.aload_n 0, 1) := by decide +kernel
theorem dX3_next_46 : decode cX3_next 46 = .ok (.getfield 18, 3) := by decide +kernel
theorem dX3_next_49 : decode cX3_next 49 = .ok (.aload_n 0, 1) := by decide +kernel
theorem dX3_next_50 : decode cX3_next 50 = .ok (.getfield 51, 3) := by decide +kernel
theorem dX3_next_53 : decode cX3_next 53 = .ok (.invokevirtual 57, 3) := by decide +kernel
theorem dX3_next_56 : decode cX3_next 56 = .ok (.ldc2_w 61, 3) := by decide +kernel
theorem dX3_next_59 : decode cX3_next 59 = .ok (.lxor, 1) := by decide +kernel
theorem dX3_next_60 : decode cX3_next 60 = .ok (.land, 1) := by decide +kernel
theorem dX3_next_61 : decode cX3_next 61 = .ok (.lstore 4, 2) := by decide +kernel
theorem dX3_next_63 : decode cX3_next 63 = .ok (.lload_n 2, 1) := by decide +kernel
theorem dX3_next_64 : decode cX3_next 64 = .ok (.lload_n 2, 1) := by decide +kernel
theorem dX3_next_65 : decode cX3_next 65 = .ok (.iconst 1, 1) := by decide +kernel
theorem dX3_next_66 : decode cX3_next 66 = .ok (.lushr, 1) := by decide +kernel
theorem dX3_next_67 : decode cX3_next 67 = .ok (.ldc2_w 61, 3) := by decide +kernel
theorem dX3_next_70 : decode cX3_next 70 = .ok (.lxor, 1) := by decide +kernel
theorem dX3_next_71 : decode cX3_next 71 = .ok (.land, 1) := by decide +kernel
theorem dX3_next_72 : decode cX3_next 72 = .ok (.aload_n 0, 1) := by decide +kernel
theorem dX3_next_73 : decode cX3_next 73 = .ok (.getfield 21, 3) := by decide +kernel
theorem dX3_next_76 : decode cX3_next 76 = .ok (.aload_n 0, 1) := by decide +kernel
theorem dX3_next_77 : decode cX3_next 77 = .ok (.getfield 51, 3) := by decide +kernel
theorem dX3_next_80 : decode cX3_next 80 = .ok (.invokevirtual 57, 3) := by decide +kernel
theorem dX3_next_83 : decode cX3_next 83 = .ok (.ldc2_w 61, 3) := by decide +kernel
theorem dX3_next_86 : decode cX3_next 86 = .ok (.lxor, 1) := by decide +kernel
theorem dX3_next_87 : decode cX3_next 87 = .ok (.land, 1) := by decide +kernel
theorem dX3_next_88 : decode cX3_next 88 = .ok (.lstore 6, 2) := by decide +kernel
theorem dX3_next_90 : decode cX3_next 90 = .ok (.lload 4, 2) := by decide +kernel
theorem dX3_next_92 : decode cX3_next 92 = .ok (.lload 6, 2) := by decide +kernel
theorem dX3_next_94 : decode cX3_next 94 = .ok (.lor, 1) := by decide +kernel
theorem dX3_next_95 : decode cX3_next 95 = .ok (.lconst 0, 1) := by decide +kernel
theorem dX3_next_96 : decode cX3_next 96 = .ok (.lcmp, 1) := by decide +kernel
theorem dX3_next_97 : decode cX3_next 97 = .ok (.ifCond .eq 23, 3) := by decide +kernel
theorem dX3_next_120 : decode cX3_next 120 = .ok (.aload_n 0, 1) := by decide +kernel
theorem dX3_next_121 : decode cX3_next 121 = .ok (.dup, 1) := by decide +kernel
theorem dX3_next_122 : decode cX3_next 122 = .ok (.getfield 51, 3) := by decide +kernel
theorem dX3_next_125 : decode cX3_next 125 = .ok (.iconst 1, 1) := by decide +kernel
theorem dX3_next_126 : decode cX3_next 126 = .ok (.iadd, 1) := by decide +kernel
theorem dX3_next_127 : decode cX3_next 127 = .ok (.putfield 51, 3) := by decide +kernel
theorem dX3_next_130 : decode cX3_next 130 = .ok (.goto (-125), 3) := by decide +kernel
theorem dX3_next_133 : decode cX3_next 133 = .ok (.iconst 0, 1) := by decide +kernel
theorem dX3_next_134 : decode cX3_next 134 = .ok (.ireturn, 1) := by decide +kernel
theorem dX4_init_0 : decode cX4_init 0 = .ok (.aload_n 0, 1) := by decide +kernel
theorem dX4_init_1 : decode cX4_init 1 = .ok (.invokespecial 3, 3) := by decide +kernel
theorem dX4_init_4 : decode cX4_init 4 = .ok (.aload_n 0, 1) := by decide +kernel
theorem dX4_init_5 : decode cX4_init 5 = .ok (.bipush 60, 2) := by decide +kernel
theorem dX4_init_7 : decode cX4_init 7 = .ok (.newarray .int, 2) := by decide +kernel
theorem dX4_init_9 : decode cX4_init 9 = .ok (.putfield 9, 3) := by decide +kernel
theorem dX4_init_12 : decode cX4_init 12 = .ok (.aload_n 0, 1) := by decide +kernel
theorem dX4_init_13 : decode cX4_init 13 = .ok (.bipush 60, 2) := by decide +kernel
theorem dX4_init_15 : decode cX4_init 15 = .ok (.newarray .int, 2) := by decide +kernel
theorem dX4_init_17 : decode cX4_init 17 = .ok (.putfield 15, 3) := by decide +kernel
theorem dX4_init_20 : decode cX4_init 20 = .ok (.aload_n 0, 1) := by decide +kernel
theorem dX4_init_21 : decode cX4_init 21 = .ok (.iconst 1, 1) := by decide +kernel
theorem dX4_init_22 : decode cX4_init 22 = .ok (.putfield 18, 3) := by decide +kernel
theorem dX4_init_25 : decode cX4_init 25 = .ok (.aload_n 0, 1) := by decide +kernel
theorem dX4_init_26 : decode cX4_init 26 = .ok (.bipush 64, 2) := by decide +kernel
theorem dX4_init_28 : decode cX4_init 28 = .ok (.newarray .int, 2) := by decide +kernel
theorem dX4_init_30 : decode cX4_init 30 = .ok (.putfield 22, 3) := by decide +kernel
theorem dX4_init_33 : decode cX4_init 33 = .ok (.return_, 1) := by decide +kernel
theorem dX4_length_0 : decode cX4_length 0 = .ok (.aload_n 0, 1) := by decide +kernel
theorem dX4_length_1 : decode cX4_length 1 = .ok (.getfield 18, 3) := by decide +kernel
theorem dX4_length_4 : decode cX4_length 4 = .ok (.ireturn, 1) := by decide +kernel
theorem dX5_init_0 : decode cX5_init 0 = .ok (.aload_n 0, 1) := by decide +kernel
theorem dX5_init_1 : decode cX5_init 1 = .ok (.invokespecial 3, 3) := by decide +kernel
theorem dX5_init_4 : decode cX5_init 4 = .ok (.aload_n 0, 1) := by decide +kernel
theorem dX5_init_5 : decode cX5_init 5 = .ok (.new 9, 3) := by decide +kernel
theorem dX5_init_8 : decode cX5_init 8 = .ok (.dup, 1) := by decide +kernel
theorem dX5_init_9 : decode cX5_init 9 = .ok (.invokespecial 11, 3) := by decide +kernel
theorem dX5_init_12 : decode cX5_init 12 = .ok (.putfield 12, 3) := by decide +kernel
theorem dX5_init_15 : decode cX5_init 15 = .ok (.return_, 1) := by decide +kernel
theorem dX5_countStrips_0 : decode cX5_countStrips 0 = .ok (.aload_n 0, 1) := by decide +kernel
theorem dX5_countStrips_1 : decode cX5_countStrips 1 = .ok (.aload_n 1, 1) := by decide +kernel
theorem dX5_countStrips_2 : decode cX5_countStrips 2 = .ok (.invokevirtual 31, 3) := by decide +kernel
theorem dX5_countStrips_5 : decode cX5_countStrips 5 = .ok (.iconst 0, 1) := by decide +kernel
theorem dX5_countStrips_6 : decode cX5_countStrips 6 = .ok (.istore_n 2, 1) := by decide +kernel
theorem dX5_countStrips_7 : decode cX5_countStrips 7 = .ok (.iload_n 2, 1) := by decide +kernel
theorem dX5_countStrips_8 : decode cX5_countStrips 8 = .ok (.sipush 16384, 3) := by decide +kernel
theorem dX5_countStrips_11 : decode cX5_countStrips 11 = .ok (.if_icmp .ge 16, 3) := by decide +kernel
theorem dX5_countStrips_14 : decode cX5_countStrips 14 = .ok (.aload_n 0, 1) := by decide +kernel
theorem dX5_countStrips_15 : decode cX5_countStrips 15 = .ok (.invokevirtual 35, 3) := by decide +kernel
theorem dX5_countStrips_18 : decode cX5_countStrips 18 = .ok (.ifCond .eq 9, 3) := by decide +kernel
theorem dX5_countStrips_27 : decode cX5_countStrips 27 = .ok (.iload_n 2, 1) := by decide +kernel
theorem dX5_countStrips_28 : decode cX5_countStrips 28 = .ok (.ireturn, 1) := by decide +kernel
theorem dX5_begin_0 : decode cX5_begin 0 = .ok (.aload_n 0, 1) := by decide +kernel
theorem dX5_begin_1 : decode cX5_begin 1 = .ok (.getfield 12, 3) := by decide +kernel
theorem dX5_begin_4 : decode cX5_begin 4 = .ok (.aload_n 1, 1) := by decide +kernel
theorem dX5_begin_5 : decode cX5_begin 5 = .ok (.invokevirtual 39, 3) := by decide +kernel
theorem dX5_begin_8 : decode cX5_begin 8 = .ok (.aload_n 0, 1) := by decide +kernel
theorem dX5_begin_9 : decode cX5_begin 9 = .ok (.bipush (-32), 2) := by decide +kernel
theorem dX5_begin_11 : decode cX5_begin 11 = .ok (.putfield 42, 3) := by decide +kernel
theorem dX5_begin_14 : decode cX5_begin 14 = .ok (.aload_n 0, 1) := by decide +kernel
theorem dX5_begin_15 : decode cX5_begin 15 = .ok (.aload_n 0, 1) := by decide +kernel
theorem dX5_begin_16 : decode cX5_begin 16 = .ok (.getfield 12, 3) := by decide +kernel
theorem dX5_begin_19 : decode cX5_begin 19 = .ok (.aload_n 0, 1) := by decide +kernel
theorem dX5_begin_20 : decode cX5_begin 20 = .ok (.getfield 42, 3) := by decide +kernel
theorem dX5_begin_23 : decode cX5_begin 23 = .ok (.invokevirtual 45, 3) := by decide +kernel
theorem dX5_begin_26 : decode cX5_begin 26 = .ok (.putfield 49, 3) := by decide +kernel
theorem dX5_begin_29 : decode cX5_begin 29 = .ok (.return_, 1) := by decide +kernel
theorem dX5_next_0 : decode cX5_next 0 = .ok (.aload_n 0, 1) := by decide +kernel
theorem dX5_next_1 : decode cX5_next 1 = .ok (.getfield 42, 3) := by decide +kernel
theorem dX5_next_4 : decode cX5_next 4 = .ok (.bipush 31, 2) := by decide +kernel
theorem dX5_next_6 : decode cX5_next 6 = .ok (.if_icmp .gt 97, 3) := by decide +kernel
theorem dX5_next_9 : decode cX5_next 9 = .ok (.iconst 0, 1) := by decide +kernel
theorem dX5_next_10 : decode cX5_next 10 = .ok (.istore_n 1, 1) := by decide +kernel
theorem dX5_next_11 : decode cX5_next 11 = .ok (.iload_n 1, 1) := by decide +kernel
theorem dX5_next_12 : decode cX5_next 12 = .ok (.bipush 64, 2) := by decide +kernel
theorem dX5_next_14 : decode cX5_next 14 = .ok (.if_icmp .ge 61, 3) := by decide +kernel
theorem dX5_next_17 : decode cX5_next 17 = .ok (.aload_n 0, 1) := by decide +kernel
theorem dX5_next_18 : decode cX5_next 18 = .ok (.getfield 49, 3) := by decide +kernel
theorem dX5_next_21 : decode cX5_next 21 = .ok (.lconst 0, 1) := by decide +kernel
theorem dX5_next_22 : decode cX5_next 22 = .ok (.lcmp, 1) := by decide +kernel
theorem dX5_next_23 : decode cX5_next 23 = .ok (.ifCond .eq 52, 3) := by decide +kernel
theorem dX5_next_75 : decode cX5_next 75 = .ok (.aload_n 0, 1) := by decide +kernel
theorem dX5_next_76 : decode cX5_next 76 = .ok (.dup, 1) := by decide +kernel
theorem dX5_next_77 : decode cX5_next 77 = .ok (.getfield 42, 3) := by decide +kernel
theorem dX5_next_80 : decode cX5_next 80 = .ok (.iconst 1, 1) := by decide +kernel
theorem dX5_next_81 : decode cX5_next 81 = .ok (.iadd, 1) := by decide +kernel
theorem dX5_next_82 : decode cX5_next 82 = .ok (.putfield 42, 3) := by decide +kernel
theorem dX5_next_85 : decode cX5_next 85 = .ok (.aload_n 0, 1) := by decide +kernel
theorem dX5_next_86 : decode cX5_next 86 = .ok (.aload_n 0, 1) := by decide +kernel
theorem dX5_next_87 : decode cX5_next 87 = .ok (.getfield 12, 3) := by decide +kernel
theorem dX5_next_90 : decode cX5_next 90 = .ok (.aload_n 0, 1) := by decide +kernel
theorem dX5_next_91 : decode cX5_next 91 = .ok (.getfield 42, 3) := by decide +kernel
theorem dX5_next_94 : decode cX5_next 94 = .ok (.invokevirtual 45, 3) := by decide +kernel
theorem dX5_next_97 : decode cX5_next 97 = .ok (.putfield 49, 3) := by decide +kernel
theorem dX5_next_100 : decode cX5_next 100 = .ok (.goto (-100), 3) := by decide +kernel
theorem dX5_next_103 : decode cX5_next 103 = .ok (.iconst 0, 1) := by decide +kernel
theorem dX5_next_104 : decode cX5_next 104 = .ok (.ireturn, 1) := by decide +kernel
theorem dX6_init_0 : decode cX6_init 0 = .ok (.aload_n 0, 1) := by decide +kernel
theorem dX6_init_1 : decode cX6_init 1 = .ok (.invokespecial 3, 3) := by decide +kernel
theorem dX6_init_4 : decode cX6_init 4 = .ok (.aload_n 0, 1) := by decide +kernel
theorem dX6_init_5 : decode cX6_init 5 = .ok (.bipush 8, 2) := by decide +kernel
theorem dX6_init_7 : decode cX6_init 7 = .ok (.anewarray 9, 3) := by decide +kernel
theorem dX6_init_10 : decode cX6_init 10 = .ok (.putfield 11, 3) := by decide +kernel
theorem dX6_init_13 : decode cX6_init 13 = .ok (.aload_n 0, 1) := by decide +kernel
theorem dX6_init_14 : decode cX6_init 14 = .ok (.new 9, 3) := by decide +kernel
theorem dX6_init_17 : decode cX6_init 17 = .ok (.dup, 1) := by decide +kernel
theorem dX6_init_18 : decode cX6_init 18 = .ok (.invokespecial 15, 3) := by decide +kernel
theorem dX6_init_21 : decode cX6_init 21 = .ok (.putfield 16, 3) := by decide +kernel
theorem dX6_init_24 : decode cX6_init 24 = .ok (.aload_n 0, 1) := by decide +kernel
theorem dX6_init_25 : decode cX6_init 25 = .ok (.new 20, 3) := by decide +kernel
theorem dX6_init_28 : decode cX6_init 28 = .ok (.dup, 1) := by decide +kernel
theorem dX6_init_29 : decode cX6_init 29 = .ok (.invokespecial 22, 3) := by decide +kernel
theorem dX6_init_32 : decode cX6_init 32 = .ok (.putfield 23, 3) := by decide +kernel
theorem dX6_init_35 : decode cX6_init 35 = .ok (.aload_n 0, 1) := by decide +kernel
theorem dX6_init_36 : decode cX6_init 36 = .ok (.new 27, 3) := by decide +kernel
theorem dX6_init_39 : decode cX6_init 39 = .ok (.dup, 1) := by decide +kernel
theorem dX6_init_40 : decode cX6_init 40 = .ok (.invokespecial 29, 3) := by decide +kernel
theorem dX6_init_43 : decode cX6_init 43 = .ok (.putfield 30, 3) := by decide +kernel
theorem dX6_init_46 : decode cX6_init 46 = .ok (.aload_n 0, 1) := by decide +kernel
theorem dX6_init_47 : decode cX6_init 47 = .ok (.new 34, 3) := by decide +kernel
theorem dX6_init_50 : decode cX6_init 50 = .ok (.dup, 1) := by decide +kernel
theorem dX6_init_51 : decode cX6_init 51 = .ok (.invokespecial 36, 3) := by decide +kernel
theorem dX6_init_54 : decode cX6_init 54 = .ok (.putfield 37, 3) := by decide +kernel
theorem dX6_init_57 : decode cX6_init 57 = .ok (.aload_n 0, 1) := by decide +kernel
theorem dX6_init_58 : decode cX6_init 58 = .ok (.new 41, 3) := by decide +kernel
theorem dX6_init_61 : decode cX6_init 61 = .ok (.dup, 1) := by decide +kernel
theorem dX6_init_62 : decode cX6_init 62 = .ok (.invokespecial 43, 3) := by decide +kernel
theorem dX6_init_65 : decode cX6_init 65 = .ok (.putfield 44, 3) := by decide +kernel
theorem dX6_init_68 : decode cX6_init 68 = .ok (.aload_n 0, 1) := by decide +kernel
theorem dX6_init_69 : decode cX6_init 69 = .ok (.new 48, 3) := by decide +kernel
theorem dX6_init_72 : decode cX6_init 72 = .ok (.dup, 1) := by decide +kernel
theorem dX6_init_73 : decode cX6_init 73 = .ok (.invokespecial 50, 3) := by decide +kernel
theorem dX6_init_76 : decode cX6_init 76 = .ok (.putfield 51, 3) := by decide +kernel
theorem dX6_init_79 : decode cX6_init 79 = .ok (.iconst 0, 1) := by decide +kernel
theorem dX6_init_80 : decode cX6_init 80 = .ok (.istore_n 1, 1) := by decide +kernel
theorem dX6_init_81 : decode cX6_init 81 = .ok (.iload_n 1, 1) := by decide +kernel
theorem dX6_init_82 : decode cX6_init 82 = .ok (.aload_n 0, 1) := by decide +kernel
theorem dX6_init_83 : decode cX6_init 83 = .ok (.getfield 11, 3) := by decide +kernel
theorem dX6_init_86 : decode cX6_init 86 = .ok (.arraylength, 1) := by decide +kernel
theorem dX6_init_87 : decode cX6_init 87 = .ok (.if_icmp .ge 22, 3) := by decide +kernel
theorem dX6_init_90 : decode cX6_init 90 = .ok (.aload_n 0, 1) := by decide +kernel
theorem dX6_init_91 : decode cX6_init 91 = .ok (.getfield 11, 3) := by decide +kernel
theorem dX6_init_94 : decode cX6_init 94 = .ok (.iload_n 1, 1) := by decide +kernel
theorem dX6_init_95 : decode cX6_init 95 = .ok (.new 9, 3) := by decide +kernel
theorem dX6_init_98 : decode cX6_init 98 = .ok (.dup, 1) := by decide +kernel
theorem dX6_init_99 : decode cX6_init 99 = .ok (.invokespecial 15, 3) := by decide +kernel
theorem dX6_init_102 : decode cX6_init 102 = .ok (.aastore, 1) := by decide +kernel
theorem dX6_init_103 : decode cX6_init 103 = .ok (.iinc 1 1, 3) := by decide +kernel
theorem dX6_init_106 : decode cX6_init 106 = .ok (.goto (-25), 3) := by decide +kernel
theorem dX6_init_109 : decode cX6_init 109 = .ok (.return_, 1) := by decide +kernel
end
section
theorem dX6_digest_0 : decode cX6_digest 0 = .ok (.ldc2_w 276, 3) := by decide +kernel
theorem dX6_digest_3 : decode cX6_digest 3 = .ok (.aload_n 0, 1) := by decide +kernel
theorem dX6_digest_4 : decode cX6_digest 4 = .ok (.getfield 23, 3) := by decide +kernel
theorem dX6_digest_7 : decode cX6_digest 7 = .ok (.invokevirtual 66, 3) := by decide +kernel
theorem dX6_digest_10 : decode cX6_digest 10 = .ok (.i2l, 1) := by decide +kernel
theorem dX6_digest_11 : decode cX6_digest 11 = .ok (.invokestatic 278, 3) := by decide +kernel
theorem dX6_digest_14 : decode cX6_digest 14 = .ok (.lstore_n 1, 1) := by decide +kernel
theorem dX6_digest_15 : decode cX6_digest 15 = .ok (.iconst 0, 1) := by decide +kernel
theorem dX6_digest_16 : decode cX6_digest 16 = .ok (.istore_n 3, 1) := by decide +kernel
theorem dX6_digest_17 : decode cX6_digest 17 = .ok (.iload_n 3, 1) := by decide +kernel
theorem dX6_digest_18 : decode cX6_digest 18 = .ok (.aload_n 0, 1) := by decide +kernel
theorem dX6_digest_19 : decode cX6_digest 19 = .ok (.getfield 11, 3) := by decide +kernel
theorem dX6_digest_22 : decode cX6_digest 22 = .ok (.arraylength, 1) := by decide +kernel
theorem dX6_digest_23 : decode cX6_digest 23 = .ok (.if_icmp .ge 143, 3) := by decide +kernel
theorem dX6_digest_26 : decode cX6_digest 26 = .ok (.aload_n 0, 1) := by decide +kernel
theorem dX6_digest_27 : decode cX6_digest 27 = .ok (.getfield 11, 3) := by decide +kernel
theorem dX6_digest_30 : decode cX6_digest 30 = .ok (.iload_n 3, 1) := by decide +kernel
theorem dX6_digest_31 : decode cX6_digest 31 = .ok (.aaload, 1) := by decide +kernel
theorem dX6_digest_32 : decode cX6_digest 32 = .ok (.astore 4, 2) := by decide +kernel
theorem dX6_digest_34 : decode cX6_digest 34 = .ok (.lload_n 1, 1) := by decide +kernel
theorem dX6_digest_35 : decode cX6_digest 35 = .ok (.aload 4, 2) := by decide +kernel
theorem dX6_digest_37 : decode cX6_digest 37 = .ok (.invokevirtual 108, 3) := by decide +kernel
theorem dX6_digest_40 : decode cX6_digest 40 = .ok (.i2l, 1) := by decide +kernel
theorem dX6_digest_41 : decode cX6_digest 41 = .ok (.invokestatic 278, 3) := by decide +kernel
theorem dX6_digest_44 : decode cX6_digest 44 = .ok (.lstore_n 1, 1) := by decide +kernel
theorem dX6_digest_45 : decode cX6_digest 45 = .ok (.lload_n 1, 1) := by decide +kernel
theorem dX6_digest_46 : decode cX6_digest 46 = .ok (.aload 4, 2) := by decide +kernel
theorem dX6_digest_48 : decode cX6_digest 48 = .ok (.invokevirtual 193, 3) := by decide +kernel
theorem dX6_digest_51 : decode cX6_digest 51 = .ok (.i2l, 1) := by decide +kernel
theorem dX6_digest_52 : decode cX6_digest 52 = .ok (.invokestatic 278, 3) := by decide +kernel
theorem dX6_digest_55 : decode cX6_digest 55 = .ok (.lstore_n 1, 1) := by decide +kernel
theorem dX6_digest_56 : decode cX6_digest 56 = .ok (.lload_n 1, 1) := by decide +kernel
theorem dX6_digest_57 : decode cX6_digest 57 = .ok (.aload_n 0, 1) := by decide +kernel
theorem dX6_digest_58 : decode cX6_digest 58 = .ok (.getfield 37, 3) := by decide +kernel
theorem dX6_digest_61 : decode cX6_digest 61 = .ok (.aload 4, 2) := by decide +kernel
theorem dX6_digest_63 : decode cX6_digest 63 = .ok (.invokevirtual 196, 3) := by decide +kernel
theorem dX6_digest_66 : decode cX6_digest 66 = .ok (.i2l, 1) := by decide +kernel
theorem dX6_digest_67 : decode cX6_digest 67 = .ok (.invokestatic 278, 3) := by decide +kernel
theorem dX6_digest_70 : decode cX6_digest 70 = .ok (.lstore_n 1, 1) := by decide +kernel
theorem dX6_digest_71 : decode cX6_digest 71 = .ok (.lload_n 1, 1) := by decide +kernel
theorem dX6_digest_72 : decode cX6_digest 72 = .ok (.aload_n 0, 1) := by decide +kernel
theorem dX6_digest_73 : decode cX6_digest 73 = .ok (.getfield 37, 3) := by decide +kernel
theorem dX6_digest_76 : decode cX6_digest 76 = .ok (.aload 4, 2) := by decide +kernel
theorem dX6_digest_78 : decode cX6_digest 78 = .ok (.invokevirtual 199, 3) := by decide +kernel
theorem dX6_digest_81 : decode cX6_digest 81 = .ok (.i2l, 1) := by decide +kernel
theorem dX6_digest_82 : decode cX6_digest 82 = .ok (.invokestatic 278, 3) := by decide +kernel
theorem dX6_digest_85 : decode cX6_digest 85 = .ok (.lstore_n 1, 1) := by decide +kernel
theorem dX6_digest_86 : decode cX6_digest 86 = .ok (.iconst 0, 1) := by decide +kernel
theorem dX6_digest_87 : decode cX6_digest 87 = .ok (.istore 5, 2) := by decide +kernel
theorem dX6_digest_89 : decode cX6_digest 89 = .ok (.iload 5, 2) := by decide +kernel
theorem dX6_digest_91 : decode cX6_digest 91 = .ok (.iconst 4, 1) := by decide +kernel
theorem dX6_digest_92 : decode cX6_digest 92 = .ok (.if_icmp .ge 22, 3) := by decide +kernel
theorem dX6_digest_95 : decode cX6_digest 95 = .ok (.lload_n 1, 1) := by decide +kernel
theorem dX6_digest_96 : decode cX6_digest 96 = .ok (.aload 4, 2) := by decide +kernel
theorem dX6_digest_98 : decode cX6_digest 98 = .ok (.iload 5, 2) := by decide +kernel
theorem dX6_digest_100 : decode cX6_digest 100 = .ok (.invokestatic 208, 3) := by decide +kernel
theorem dX6_digest_103 : decode cX6_digest 103 = .ok (.i2l, 1) := by decide +kernel
theorem dX6_digest_104 : decode cX6_digest 104 = .ok (.invokestatic 278, 3) := by decide +kernel
theorem dX6_digest_107 : decode cX6_digest 107 = .ok (.lstore_n 1, 1) := by decide +kernel
theorem dX6_digest_108 : decode cX6_digest 108 = .ok (.iinc 5 1, 3) := by decide +kernel
theorem dX6_digest_111 : decode cX6_digest 111 = .ok (.goto (-22), 3) := by decide +kernel
theorem dX6_digest_114 : decode cX6_digest 114 = .ok (.lload_n 1, 1) := by decide +kernel
theorem dX6_digest_115 : decode cX6_digest 115 = .ok (.aload_n 0, 1) := by decide +kernel
theorem dX6_digest_116 : decode cX6_digest 116 = .ok (.getfield 44, 3) := by decide +kernel
theorem dX6_digest_119 : decode cX6_digest 119 = .ok (.aload 4, 2) := by decide +kernel
theorem dX6_digest_121 : decode cX6_digest 121 = .ok (.invokevirtual 212, 3) := by decide +kernel
theorem dX6_digest_124 : decode cX6_digest 124 = .ok (.i2l, 1) := by decide +kernel
theorem dX6_digest_125 : decode cX6_digest 125 = .ok (.invokestatic 278, 3) := by decide +kernel
theorem dX6_digest_128 : decode cX6_digest 128 = .ok (.lstore_n 1, 1) := by decide +kernel
theorem dX6_digest_129 : decode cX6_digest 129 = .ok (.aload_n 0, 1) := by decide +kernel
theorem dX6_digest_130 : decode cX6_digest 130 = .ok (.lload_n 1, 1) := by decide +kernel
theorem dX6_digest_131 : decode cX6_digest 131 = .ok (.aload 4, 2) := by decide +kernel
theorem dX6_digest_133 : decode cX6_digest 133 = .ok (.invokevirtual 282, 3) := by decide +kernel
theorem dX6_digest_136 : decode cX6_digest 136 = .ok (.lstore_n 1, 1) := by decide +kernel
theorem dX6_digest_137 : decode cX6_digest 137 = .ok (.lload_n 1, 1) := by decide +kernel
theorem dX6_digest_138 : decode cX6_digest 138 = .ok (.aload_n 0, 1) := by decide +kernel
theorem dX6_digest_139 : decode cX6_digest 139 = .ok (.getfield 51, 3) := by decide +kernel
theorem dX6_digest_142 : decode cX6_digest 142 = .ok (.aload 4, 2) := by decide +kernel
theorem dX6_digest_144 : decode cX6_digest 144 = .ok (.invokevirtual 231, 3) := by decide +kernel
theorem dX6_digest_147 : decode cX6_digest 147 = .ok (.i2l, 1) := by decide +kernel
theorem dX6_digest_148 : decode cX6_digest 148 = .ok (.invokestatic 278, 3) := by decide +kernel
theorem dX6_digest_151 : decode cX6_digest 151 = .ok (.lstore_n 1, 1) := by decide +kernel
theorem dX6_digest_152 : decode cX6_digest 152 = .ok (.aload_n 0, 1) := by decide +kernel
theorem dX6_digest_153 : decode cX6_digest 153 = .ok (.lload_n 1, 1) := by decide +kernel
theorem dX6_digest_154 : decode cX6_digest 154 = .ok (.aload 4, 2) := by decide +kernel
theorem dX6_digest_156 : decode cX6_digest 156 = .ok (.invokevirtual 286, 3) := by decide +kernel
theorem dX6_digest_159 : decode cX6_digest 159 = .ok (.lstore_n 1, 1) := by decide +kernel
theorem dX6_digest_160 : decode cX6_digest 160 = .ok (.iinc 3 1, 3) := by decide +kernel
theorem dX6_digest_163 : decode cX6_digest 163 = .ok (.goto (-146), 3) := by decide +kernel
theorem dX6_digest_166 : decode cX6_digest 166 = .ok (.lload_n 1, 1) := by decide +kernel
theorem dX6_digest_167 : decode cX6_digest 167 = .ok (.aload_n 0, 1) := by decide +kernel
theorem dX6_digest_168 : decode cX6_digest 168 = .ok (.getfield 30, 3) := by decide +kernel
theorem dX6_digest_171 : decode cX6_digest 171 = .ok (.invokevirtual 289, 3) := by decide +kernel
theorem dX6_digest_174 : decode cX6_digest 174 = .ok (.i2l, 1) := by decide +kernel
theorem dX6_digest_175 : decode cX6_digest 175 = .ok (.invokestatic 278, 3) := by decide +kernel
theorem dX6_digest_178 : decode cX6_digest 178 = .ok (.lreturn, 1) := by decide +kernel
theorem dX6_boundOf_0 : decode cX6_boundOf 0 = .ok (.iload_n 1, 1) := by decide +kernel
theorem dX6_boundOf_1 : decode cX6_boundOf 1 = .ok (.tableswitch 42 0 2 #[27, 32, 37], 27) := by decide +kernel
theorem dX6_boundOf_28 : decode cX6_boundOf 28 = .ok (.aload_n 0, 1) := by decide +kernel
theorem dX6_boundOf_29 : decode cX6_boundOf 29 = .ok (.invokevirtual 138, 3) := by decide +kernel
theorem dX6_boundOf_32 : decode cX6_boundOf 32 = .ok (.ireturn, 1) := by decide +kernel
theorem dX6_boundOf_33 : decode cX6_boundOf 33 = .ok (.aload_n 0, 1) := by decide +kernel
theorem dX6_boundOf_34 : decode cX6_boundOf 34 = .ok (.invokevirtual 144, 3) := by decide +kernel
theorem dX6_boundOf_37 : decode cX6_boundOf 37 = .ok (.ireturn, 1) := by decide +kernel
theorem dX6_boundOf_38 : decode cX6_boundOf 38 = .ok (.aload_n 0, 1) := by decide +kernel
theorem dX6_boundOf_39 : decode cX6_boundOf 39 = .ok (.invokevirtual 141, 3) := by decide +kernel
theorem dX6_boundOf_42 : decode cX6_boundOf 42 = .ok (.ireturn, 1) := by decide +kernel
theorem dX6_boundOf_43 : decode cX6_boundOf 43 = .ok (.aload_n 0, 1) := by decide +kernel
theorem dX6_boundOf_44 : decode cX6_boundOf 44 = .ok (.invokevirtual 147, 3) := by decide +kernel
theorem dX6_boundOf_47 : decode cX6_boundOf 47 = .ok (.ireturn, 1) := by decide +kernel
theorem dX6_mixed_0 : decode cX6_mixed 0 = .ok (.lload_n 0, 1) := by decide +kernel
theorem dX6_mixed_1 : decode cX6_mixed 1 = .ok (.ldc2_w 304, 3) := by decide +kernel
theorem dX6_mixed_4 : decode cX6_mixed 4 = .ok (.lmul, 1) := by decide +kernel
theorem dX6_mixed_5 : decode cX6_mixed 5 = .ok (.lload_n 2, 1) := by decide +kernel
theorem dX6_mixed_6 : decode cX6_mixed 6 = .ok (.ladd, 1) := by decide +kernel
theorem dX6_mixed_7 : decode cX6_mixed 7 = .ok (.lreturn, 1) := by decide +kernel
theorem dX6_digestOfContours_0 : decode cX6_digestOfContours 0 = .ok (.lload_n 1, 1) := by decide +kernel
theorem dX6_digestOfContours_1 : decode cX6_digestOfContours 1 = .ok (.lstore 4, 2) := by decide +kernel
theorem dX6_digestOfContours_3 : decode cX6_digestOfContours 3 = .ok (.aload_n 0, 1) := by decide +kernel
theorem dX6_digestOfContours_4 : decode cX6_digestOfContours 4 = .ok (.getfield 44, 3) := by decide +kernel
theorem dX6_digestOfContours_7 : decode cX6_digestOfContours 7 = .ok (.aload_n 3, 1) := by decide +kernel
theorem dX6_digestOfContours_8 : decode cX6_digestOfContours 8 = .ok (.invokevirtual 330, 3) := by decide +kernel
theorem dX6_digestOfContours_11 : decode cX6_digestOfContours 11 = .ok (.iconst 0, 1) := by decide +kernel
theorem dX6_digestOfContours_12 : decode cX6_digestOfContours 12 = .ok (.istore 6, 2) := by decide +kernel
theorem dX6_digestOfContours_14 : decode cX6_digestOfContours 14 = .ok (.iload 6, 2) := by decide +kernel
theorem dX6_digestOfContours_16 : decode cX6_digestOfContours 16 = .ok (.sipush 16384, 3) := by decide +kernel
theorem dX6_digestOfContours_19 : decode cX6_digestOfContours 19 = .ok (.if_icmp .ge 80, 3) := by decide +kernel
theorem dX6_digestOfContours_22 : decode cX6_digestOfContours 22 = .ok (.aload_n 0, 1) := by decide +kernel
theorem dX6_digestOfContours_23 : decode cX6_digestOfContours 23 = .ok (.getfield 44, 3) := by decide +kernel
theorem dX6_digestOfContours_26 : decode cX6_digestOfContours 26 = .ok (.iconst 0, 1) := by decide +kernel
theorem dX6_digestOfContours_27 : decode cX6_digestOfContours 27 = .ok (.invokevirtual 332, 3) := by decide +kernel
theorem dX6_digestOfContours_30 : decode cX6_digestOfContours 30 = .ok (.ifCond .eq 69, 3) := by decide +kernel
theorem dX6_digestOfContours_99 : decode cX6_digestOfContours 99 = .ok (.lload 4, 2) := by decide +kernel
theorem dX6_digestOfContours_101 : decode cX6_digestOfContours 101 = .ok (.lreturn, 1) := by decide +kernel
theorem dX6_digestOfStrips_0 : decode cX6_digestOfStrips 0 = .ok (.lload_n 1, 1) := by decide +kernel
theorem dX6_digestOfStrips_1 : decode cX6_digestOfStrips 1 = .ok (.lstore 4, 2) := by decide +kernel
theorem dX6_digestOfStrips_3 : decode cX6_digestOfStrips 3 = .ok (.aload_n 0, 1) := by decide +kernel
theorem dX6_digestOfStrips_4 : decode cX6_digestOfStrips 4 = .ok (.getfield 51, 3) := by decide +kernel
theorem dX6_digestOfStrips_7 : decode cX6_digestOfStrips 7 = .ok (.aload_n 3, 1) := by decide +kernel
theorem dX6_digestOfStrips_8 : decode cX6_digestOfStrips 8 = .ok (.invokevirtual 336, 3) := by decide +kernel
theorem dX6_digestOfStrips_11 : decode cX6_digestOfStrips 11 = .ok (.iconst 0, 1) := by decide +kernel
theorem dX6_digestOfStrips_12 : decode cX6_digestOfStrips 12 = .ok (.istore 6, 2) := by decide +kernel
theorem dX6_digestOfStrips_14 : decode cX6_digestOfStrips 14 = .ok (.iload 6, 2) := by decide +kernel
theorem dX6_digestOfStrips_16 : decode cX6_digestOfStrips 16 = .ok (.sipush 16384, 3) := by decide +kernel
theorem dX6_digestOfStrips_19 : decode cX6_digestOfStrips 19 = .ok (.if_icmp .ge 51, 3) := by decide +kernel
theorem dX6_digestOfStrips_22 : decode cX6_digestOfStrips 22 = .ok (.aload_n 0, 1) := by decide +kernel
theorem dX6_digestOfStrips_23 : decode cX6_digestOfStrips 23 = .ok (.getfield 51, 3) := by decide +kernel
theorem dX6_digestOfStrips_26 : decode cX6_digestOfStrips 26 = .ok (.invokevirtual 337, 3) := by decide +kernel
theorem dX6_digestOfStrips_29 : decode cX6_digestOfStrips 29 = .ok (.ifCond .eq 41, 3) := by decide +kernel
theorem dX6_digestOfStrips_70 : decode cX6_digestOfStrips 70 = .ok (.lload 4, 2) := by decide +kernel
theorem dX6_digestOfStrips_72 : decode cX6_digestOfStrips 72 = .ok (.lreturn, 1) := by decide +kernel
theorem dX6_bit_0 : decode cX6_bit 0 = .ok (.lconst 1, 1) := by decide +kernel
theorem dX6_bit_1 : decode cX6_bit 1 = .ok (.iload_n 0, 1) := by decide +kernel
theorem dX6_bit_2 : decode cX6_bit 2 = .ok (.bipush (-32), 2) := by decide +kernel
theorem dX6_bit_4 : decode cX6_bit 4 = .ok (.isub, 1) := by decide +kernel
theorem dX6_bit_5 : decode cX6_bit 5 = .ok (.lshl, 1) := by decide +kernel
theorem dX6_bit_6 : decode cX6_bit 6 = .ok (.lreturn, 1) := by decide +kernel
theorem dX7_init_0 : decode cX7_init 0 = .ok (.aload_n 0, 1) := by decide +kernel
theorem dX7_init_1 : decode cX7_init 1 = .ok (.invokespecial 3, 3) := by decide +kernel
theorem dX7_init_4 : decode cX7_init 4 = .ok (.aload_n 0, 1) := by decide +kernel
theorem dX7_init_5 : decode cX7_init 5 = .ok (.bipush 8, 2) := by decide +kernel
theorem dX7_init_7 : decode cX7_init 7 = .ok (.sipush 4096, 3) := by decide +kernel
theorem dX7_init_10 : decode cX7_init 10 = .ok (.multianewarray 9 2, 4) := by decide +kernel
theorem dX7_init_14 : decode cX7_init 14 = .ok (.putfield 11, 3) := by decide +kernel
theorem dX7_init_17 : decode cX7_init 17 = .ok (.aload_n 0, 1) := by decide +kernel
theorem dX7_init_18 : decode cX7_init 18 = .ok (.bipush 61, 2) := by decide +kernel
theorem dX7_init_20 : decode cX7_init 20 = .ok (.newarray .int, 2) := by decide +kernel
theorem dX7_init_22 : decode cX7_init 22 = .ok (.putfield 14, 3) := by decide +kernel
theorem dX7_init_25 : decode cX7_init 25 = .ok (.aload_n 0, 1) := by decide +kernel
theorem dX7_init_26 : decode cX7_init 26 = .ok (.bipush 61, 2) := by decide +kernel
theorem dX7_init_28 : decode cX7_init 28 = .ok (.newarray .int, 2) := by decide +kernel
theorem dX7_init_30 : decode cX7_init 30 = .ok (.putfield 18, 3) := by decide +kernel
theorem dX7_init_33 : decode cX7_init 33 = .ok (.aload_n 0, 1) := by decide +kernel
theorem dX7_init_34 : decode cX7_init 34 = .ok (.iconst 1, 1) := by decide +kernel
theorem dX7_init_35 : decode cX7_init 35 = .ok (.putfield 21, 3) := by decide +kernel
theorem dX7_init_38 : decode cX7_init 38 = .ok (.aload_n 0, 1) := by decide +kernel
theorem dX7_init_39 : decode cX7_init 39 = .ok (.bipush 13, 2) := by decide +kernel
theorem dX7_init_41 : decode cX7_init 41 = .ok (.newarray .int, 2) := by decide +kernel
theorem dX7_init_43 : decode cX7_init 43 = .ok (.putfield 25, 3) := by decide +kernel
theorem dX7_init_46 : decode cX7_init 46 = .ok (.aload_n 0, 1) := by decide +kernel
theorem dX7_init_47 : decode cX7_init 47 = .ok (.bipush 13, 2) := by decide +kernel
theorem dX7_init_49 : decode cX7_init 49 = .ok (.anewarray 28, 3) := by decide +kernel
theorem dX7_init_52 : decode cX7_init 52 = .ok (.putfield 30, 3) := by decide +kernel
theorem dX7_init_55 : decode cX7_init 55 = .ok (.return_, 1) := by decide +kernel
theorem dX7_isIn_0 : decode cX7_isIn 0 = .ok (.iload_n 0, 1) := by decide +kernel
theorem dX7_isIn_1 : decode cX7_isIn 1 = .ok (.iload_n 1, 1) := by decide +kernel
theorem dX7_isIn_2 : decode cX7_isIn 2 = .ok (.if_icmp .lt 12, 3) := by decide +kernel
theorem dX7_isIn_5 : decode cX7_isIn 5 = .ok (.iload_n 0, 1) := by decide +kernel
theorem dX7_isIn_6 : decode cX7_isIn 6 = .ok (.iload_n 2, 1) := by decide +kernel
theorem dX7_isIn_7 : decode cX7_isIn 7 = .ok (.if_icmp .gt 7, 3) := by decide +kernel
theorem dX7_isIn_10 : decode cX7_isIn 10 = .ok (.iconst 1, 1) := by decide +kernel
theorem dX7_isIn_11 : decode cX7_isIn 11 = .ok (.goto 4, 3) := by decide +kernel
theorem dX7_isIn_14 : decode cX7_isIn 14 = .ok (.iconst 0, 1) := by decide +kernel
theorem dX7_isIn_15 : decode cX7_isIn 15 = .ok (.ireturn, 1) := by decide +kernel
theorem dX7_isField_0 : decode cX7_isField 0 = .ok (.iload_n 0, 1) := by decide +kernel
theorem dX7_isField_1 : decode cX7_isField 1 = .ok (.bipush (-32), 2) := by decide +kernel
theorem dX7_isField_3 : decode cX7_isField 3 = .ok (.bipush 31, 2) := by decide +kernel
theorem dX7_isField_5 : decode cX7_isField 5 = .ok (.invokestatic 36, 3) := by decide +kernel
theorem dX7_isField_8 : decode cX7_isField 8 = .ok (.ifCond .eq 18, 3) := by decide +kernel
theorem dX7_isField_11 : decode cX7_isField 11 = .ok (.iload_n 1, 1) := by decide +kernel
theorem dX7_isField_12 : decode cX7_isField 12 = .ok (.bipush (-32), 2) := by decide +kernel
theorem dX7_isField_14 : decode cX7_isField 14 = .ok (.bipush 31, 2) := by decide +kernel
theorem dX7_isField_16 : decode cX7_isField 16 = .ok (.invokestatic 36, 3) := by decide +kernel
theorem dX7_isField_19 : decode cX7_isField 19 = .ok (.ifCond .eq 7, 3) := by decide +kernel
theorem dX7_isField_22 : decode cX7_isField 22 = .ok (.iconst 1, 1) := by decide +kernel
theorem dX7_isField_23 : decode cX7_isField 23 = .ok (.goto 4, 3) := by decide +kernel
theorem dX7_isField_26 : decode cX7_isField 26 = .ok (.iconst 0, 1) := by decide +kernel
theorem dX7_isField_27 : decode cX7_isField 27 = .ok (.ireturn, 1) := by decide +kernel
theorem dX7_at_0 : decode cX7_at 0 = .ok (.iload_n 1, 1) := by decide +kernel
theorem dX7_at_1 : decode cX7_at 1 = .ok (.bipush (-32), 2) := by decide +kernel
theorem dX7_at_3 : decode cX7_at 3 = .ok (.isub, 1) := by decide +kernel
theorem dX7_at_4 : decode cX7_at 4 = .ok (.bipush 64, 2) := by decide +kernel
theorem dX7_at_6 : decode cX7_at 6 = .ok (.imul, 1) := by decide +kernel
theorem dX7_at_7 : decode cX7_at 7 = .ok (.iload_n 0, 1) := by decide +kernel
theorem dX7_at_8 : decode cX7_at 8 = .ok (.iadd, 1) := by decide +kernel
theorem dX7_at_9 : decode cX7_at 9 = .ok (.bipush (-32), 2) := by decide +kernel
theorem dX7_at_11 : decode cX7_at 11 = .ok (.isub, 1) := by decide +kernel
theorem dX7_at_12 : decode cX7_at 12 = .ok (.ireturn, 1) := by decide +kernel
theorem dX7_has_0 : decode cX7_has 0 = .ok (.iload_n 1, 1) := by decide +kernel
theorem dX7_has_1 : decode cX7_has 1 = .ok (.iload_n 2, 1) := by decide +kernel
theorem dX7_has_2 : decode cX7_has 2 = .ok (.invokestatic 40, 3) := by decide +kernel
theorem dX7_has_5 : decode cX7_has 5 = .ok (.ifCond .eq 17, 3) := by decide +kernel
theorem dX7_has_8 : decode cX7_has 8 = .ok (.aload_n 0, 1) := by decide +kernel
theorem dX7_has_9 : decode cX7_has 9 = .ok (.iload_n 1, 1) := by decide +kernel
theorem dX7_has_10 : decode cX7_has 10 = .ok (.iload_n 2, 1) := by decide +kernel
theorem dX7_has_11 : decode cX7_has 11 = .ok (.invokestatic 44, 3) := by decide +kernel
theorem dX7_has_14 : decode cX7_has 14 = .ok (.baload, 1) := by decide +kernel
theorem dX7_has_15 : decode cX7_has 15 = .ok (.ifCond .eq 7, 3) := by decide +kernel
theorem dX7_has_22 : decode cX7_has 22 = .ok (.iconst 0, 1) := by decide +kernel
theorem dX7_has_23 : decode cX7_has 23 = .ok (.ireturn, 1) := by decide +kernel
theorem dX7_areaOf_0 : decode cX7_areaOf 0 = .ok (.iconst 0, 1) := by decide +kernel
theorem dX7_areaOf_1 : decode cX7_areaOf 1 = .ok (.istore_n 1, 1) := by decide +kernel
theorem dX7_areaOf_2 : decode cX7_areaOf 2 = .ok (.aload_n 0, 1) := by decide +kernel
theorem dX7_areaOf_3 : decode cX7_areaOf 3 = .ok (.astore_n 2, 1) := by decide +kernel
theorem dX7_areaOf_4 : decode cX7_areaOf 4 = .ok (.aload_n 2, 1) := by decide +kernel
theorem dX7_areaOf_5 : decode cX7_areaOf 5 = .ok (.arraylength, 1) := by decide +kernel
theorem dX7_areaOf_6 : decode cX7_areaOf 6 = .ok (.istore_n 3, 1) := by decide +kernel
theorem dX7_areaOf_7 : decode cX7_areaOf 7 = .ok (.iconst 0, 1) := by decide +kernel
theorem dX7_areaOf_8 : decode cX7_areaOf 8 = .ok (.istore 4, 2) := by decide +kernel
theorem dX7_areaOf_10 : decode cX7_areaOf 10 = .ok (.iload 4, 2) := by decide +kernel
theorem dX7_areaOf_12 : decode cX7_areaOf 12 = .ok (.iload_n 3, 1) := by decide +kernel
theorem dX7_areaOf_13 : decode cX7_areaOf 13 = .ok (.if_icmp .ge 28, 3) := by decide +kernel
theorem dX7_areaOf_16 : decode cX7_areaOf 16 = .ok (.aload_n 2, 1) := by decide +kernel
theorem dX7_areaOf_17 : decode cX7_areaOf 17 = .ok (.iload 4, 2) := by decide +kernel
theorem dX7_areaOf_19 : decode cX7_areaOf 19 = .ok (.baload, 1) := by decide +kernel
theorem dX7_areaOf_20 : decode cX7_areaOf 20 = .ok (.istore 5, 2) := by decide +kernel
theorem dX7_areaOf_22 : decode cX7_areaOf 22 = .ok (.iload_n 1, 1) := by decide +kernel
theorem dX7_areaOf_23 : decode cX7_areaOf 23 = .ok (.iload 5, 2) := by decide +kernel
theorem dX7_areaOf_25 : decode cX7_areaOf 25 = .ok (.ifCond .eq 7, 3) := by decide +kernel
theorem dX7_areaOf_28 : decode cX7_areaOf 28 = .ok (.iconst 1, 1) := by decide +kernel
theorem dX7_areaOf_29 : decode cX7_areaOf 29 = .ok (.goto 4, 3) := by decide +kernel
theorem dX7_areaOf_32 : decode cX7_areaOf 32 = .ok (.iconst 0, 1) := by decide +kernel
theorem dX7_areaOf_33 : decode cX7_areaOf 33 = .ok (.iadd, 1) := by decide +kernel
theorem dX7_areaOf_34 : decode cX7_areaOf 34 = .ok (.istore_n 1, 1) := by decide +kernel
theorem dX7_areaOf_35 : decode cX7_areaOf 35 = .ok (.iinc 4 1, 3) := by decide +kernel
theorem dX7_areaOf_38 : decode cX7_areaOf 38 = .ok (.goto (-28), 3) := by decide +kernel
theorem dX7_areaOf_41 : decode cX7_areaOf 41 = .ok (.iload_n 1, 1) := by decide +kernel
theorem dX7_areaOf_42 : decode cX7_areaOf 42 = .ok (.ireturn, 1) := by decide +kernel
theorem dX7_parts_0 : decode cX7_parts 0 = .ok (.bipush 66, 2) := by decide +kernel
theorem dX7_parts_2 : decode cX7_parts 2 = .ok (.istore_n 2, 1) := by decide +kernel
theorem dX7_parts_3 : decode cX7_parts 3 = .ok (.iload_n 2, 1) := by decide +kernel
theorem dX7_parts_4 : decode cX7_parts 4 = .ok (.iload_n 2, 1) := by decide +kernel
theorem dX7_parts_5 : decode cX7_parts 5 = .ok (.imul, 1) := by decide +kernel
theorem dX7_parts_6 : decode cX7_parts 6 = .ok (.newarray .int, 2) := by decide +kernel
theorem dX7_parts_8 : decode cX7_parts 8 = .ok (.astore_n 3, 1) := by decide +kernel
theorem dX7_parts_9 : decode cX7_parts 9 = .ok (.iload_n 2, 1) := by decide +kernel
theorem dX7_parts_10 : decode cX7_parts 10 = .ok (.iload_n 2, 1) := by decide +kernel
theorem dX7_parts_11 : decode cX7_parts 11 = .ok (.imul, 1) := by decide +kernel
theorem dX7_parts_12 : decode cX7_parts 12 = .ok (.newarray .int, 2) := by decide +kernel
theorem dX7_parts_14 : decode cX7_parts 14 = .ok (.astore 4, 2) := by decide +kernel
theorem dX7_parts_16 : decode cX7_parts 16 = .ok (.iconst 0, 1) := by decide +kernel
theorem dX7_parts_17 : decode cX7_parts 17 = .ok (.istore 5, 2) := by decide +kernel
theorem dX7_parts_19 : decode cX7_parts 19 = .ok (.iconst 0, 1) := by decide +kernel
theorem dX7_parts_20 : decode cX7_parts 20 = .ok (.istore 6, 2) := by decide +kernel
theorem dX7_parts_22 : decode cX7_parts 22 = .ok (.iload 6, 2) := by decide +kernel
theorem dX7_parts_24 : decode cX7_parts 24 = .ok (.aload_n 3, 1) := by decide +kernel
theorem dX7_parts_25 : decode cX7_parts 25 = .ok (.arraylength, 1) := by decide +kernel
theorem dX7_parts_26 : decode cX7_parts 26 = .ok (.if_icmp .ge 253, 3) := by decide +kernel
theorem dX7_parts_29 : decode cX7_parts 29 = .ok (.aload_n 0, 1) := by decide +kernel
theorem dX7_parts_30 : decode cX7_parts 30 = .ok (.iload 6, 2) := by decide +kernel
theorem dX7_parts_32 : decode cX7_parts 32 = .ok (.iload_n 2, 1) := by decide +kernel
theorem dX7_parts_33 : decode cX7_parts 33 = .ok (.irem, 1) := by decide +kernel
theorem dX7_parts_34 : decode cX7_parts 34 = .ok (.bipush (-32), 2) := by decide +kernel
theorem dX7_parts_36 : decode cX7_parts 36 = .ok (.iadd, 1) := by decide +kernel
theorem dX7_parts_37 : decode cX7_parts 37 = .ok (.iconst 1, 1) := by decide +kernel
theorem dX7_parts_38 : decode cX7_parts 38 = .ok (.isub, 1) := by decide +kernel
theorem dX7_parts_39 : decode cX7_parts 39 = .ok (.iload 6, 2) := by decide +kernel
theorem dX7_parts_41 : decode cX7_parts 41 = .ok (.iload_n 2, 1) := by decide +kernel
theorem dX7_parts_42 : decode cX7_parts 42 = .ok (.idiv, 1) := by decide +kernel
theorem dX7_parts_43 : decode cX7_parts 43 = .ok (.bipush (-32), 2) := by decide +kernel
theorem dX7_parts_45 : decode cX7_parts 45 = .ok (.iadd, 1) := by decide +kernel
theorem dX7_parts_46 : decode cX7_parts 46 = .ok (.iconst 1, 1) := by decide +kernel
theorem dX7_parts_47 : decode cX7_parts 47 = .ok (.isub, 1) := by decide +kernel
theorem dX7_parts_48 : decode cX7_parts 48 = .ok (.invokestatic 95, 3) := by decide +kernel
theorem dX7_parts_51 : decode cX7_parts 51 = .ok (.iload_n 1, 1) := by decide +kernel
theorem dX7_parts_52 : decode cX7_parts 52 = .ok (.if_icmp .ne 7, 3) := by decide +kernel
theorem dX7_parts_55 : decode cX7_parts 55 = .ok (.iconst 1, 1) := by decide +kernel
theorem dX7_parts_56 : decode cX7_parts 56 = .ok (.goto 4, 3) := by decide +kernel
theorem dX7_parts_59 : decode cX7_parts 59 = .ok (.iconst 0, 1) := by decide +kernel
theorem dX7_parts_60 : decode cX7_parts 60 = .ok (.istore 7, 2) := by decide +kernel
theorem dX7_parts_62 : decode cX7_parts 62 = .ok (.iload 7, 2) := by decide +kernel
theorem dX7_parts_64 : decode cX7_parts 64 = .ok (.ifCond .eq 209, 3) := by decide +kernel
theorem dX7_parts_67 : decode cX7_parts 67 = .ok (.aload_n 3, 1) := by decide +kernel
theorem dX7_parts_68 : decode cX7_parts 68 = .ok (.iload 6, 2) := by decide +kernel
theorem dX7_parts_70 : decode cX7_parts 70 = .ok (.iaload, 1) := by decide +kernel
theorem dX7_parts_71 : decode cX7_parts 71 = .ok (.ifCond .eq 6, 3) := by decide +kernel
theorem dX7_parts_74 : decode cX7_parts 74 = .ok (.goto 199, 3) := by decide +kernel
theorem dX7_parts_77 : decode cX7_parts 77 = .ok (.aload_n 3, 1) := by decide +kernel
theorem dX7_parts_78 : decode cX7_parts 78 = .ok (.iload 6, 2) := by decide +kernel
theorem dX7_parts_80 : decode cX7_parts 80 = .ok (.iinc 5 1, 3) := by decide +kernel
theorem dX7_parts_83 : decode cX7_parts 83 = .ok (.iload 5, 2) := by decide +kernel
theorem dX7_parts_85 : decode cX7_parts 85 = .ok (.iastore, 1) := by decide +kernel
theorem dX7_parts_86 : decode cX7_parts 86 = .ok (.iconst 0, 1) := by decide +kernel
theorem dX7_parts_87 : decode cX7_parts 87 = .ok (.istore 8, 2) := by decide +kernel
end
section
theorem dX7_parts_89 : decode cX7_parts 89 = .ok (.iconst 0, 1) := by decide +kernel
theorem dX7_parts_90 : decode cX7_parts 90 = .ok (.istore 9, 2) := by decide +kernel
theorem dX7_parts_92 : decode cX7_parts 92 = .ok (.aload 4, 2) := by decide +kernel
theorem dX7_parts_94 : decode cX7_parts 94 = .ok (.iload 9, 2) := by decide +kernel
theorem dX7_parts_96 : decode cX7_parts 96 = .ok (.iinc 9 1, 3) := by decide +kernel
theorem dX7_parts_99 : decode cX7_parts 99 = .ok (.iload 6, 2) := by decide +kernel
theorem dX7_parts_101 : decode cX7_parts 101 = .ok (.iastore, 1) := by decide +kernel
theorem dX7_parts_102 : decode cX7_parts 102 = .ok (.iload 8, 2) := by decide +kernel
theorem dX7_parts_104 : decode cX7_parts 104 = .ok (.iload 9, 2) := by decide +kernel
theorem dX7_parts_106 : decode cX7_parts 106 = .ok (.if_icmp .ge 167, 3) := by decide +kernel
theorem dX7_parts_109 : decode cX7_parts 109 = .ok (.aload 4, 2) := by decide +kernel
theorem dX7_parts_111 : decode cX7_parts 111 = .ok (.iload 8, 2) := by decide +kernel
theorem dX7_parts_113 : decode cX7_parts 113 = .ok (.iinc 8 1, 3) := by decide +kernel
theorem dX7_parts_116 : decode cX7_parts 116 = .ok (.iaload, 1) := by decide +kernel
theorem dX7_parts_117 : decode cX7_parts 117 = .ok (.istore 10, 2) := by decide +kernel
theorem dX7_parts_119 : decode cX7_parts 119 = .ok (.iconst 0, 1) := by decide +kernel
theorem dX7_parts_120 : decode cX7_parts 120 = .ok (.istore 11, 2) := by decide +kernel
theorem dX7_parts_122 : decode cX7_parts 122 = .ok (.iload 11, 2) := by decide +kernel
theorem dX7_parts_124 : decode cX7_parts 124 = .ok (.bipush 9, 2) := by decide +kernel
theorem dX7_parts_126 : decode cX7_parts 126 = .ok (.if_icmp .ge 144, 3) := by decide +kernel
theorem dX7_parts_129 : decode cX7_parts 129 = .ok (.iload 11, 2) := by decide +kernel
theorem dX7_parts_131 : decode cX7_parts 131 = .ok (.iconst 3, 1) := by decide +kernel
theorem dX7_parts_132 : decode cX7_parts 132 = .ok (.irem, 1) := by decide +kernel
theorem dX7_parts_133 : decode cX7_parts 133 = .ok (.iconst 1, 1) := by decide +kernel
theorem dX7_parts_134 : decode cX7_parts 134 = .ok (.isub, 1) := by decide +kernel
theorem dX7_parts_135 : decode cX7_parts 135 = .ok (.istore 12, 2) := by decide +kernel
theorem dX7_parts_137 : decode cX7_parts 137 = .ok (.iload 11, 2) := by decide +kernel
theorem dX7_parts_139 : decode cX7_parts 139 = .ok (.iconst 3, 1) := by decide +kernel
theorem dX7_parts_140 : decode cX7_parts 140 = .ok (.idiv, 1) := by decide +kernel
theorem dX7_parts_141 : decode cX7_parts 141 = .ok (.iconst 1, 1) := by decide +kernel
theorem dX7_parts_142 : decode cX7_parts 142 = .ok (.isub, 1) := by decide +kernel
theorem dX7_parts_143 : decode cX7_parts 143 = .ok (.istore 13, 2) := by decide +kernel
theorem dX7_parts_145 : decode cX7_parts 145 = .ok (.iload_n 1, 1) := by decide +kernel
theorem dX7_parts_146 : decode cX7_parts 146 = .ok (.ifCond .eq 16, 3) := by decide +kernel
theorem dX7_parts_162 : decode cX7_parts 162 = .ok (.iload 10, 2) := by decide +kernel
theorem dX7_parts_164 : decode cX7_parts 164 = .ok (.iload_n 2, 1) := by decide +kernel
theorem dX7_parts_165 : decode cX7_parts 165 = .ok (.irem, 1) := by decide +kernel
theorem dX7_parts_166 : decode cX7_parts 166 = .ok (.iload 12, 2) := by decide +kernel
theorem dX7_parts_168 : decode cX7_parts 168 = .ok (.iadd, 1) := by decide +kernel
theorem dX7_parts_169 : decode cX7_parts 169 = .ok (.istore 14, 2) := by decide +kernel
theorem dX7_parts_171 : decode cX7_parts 171 = .ok (.iload 10, 2) := by decide +kernel
theorem dX7_parts_173 : decode cX7_parts 173 = .ok (.iload_n 2, 1) := by decide +kernel
theorem dX7_parts_174 : decode cX7_parts 174 = .ok (.idiv, 1) := by decide +kernel
theorem dX7_parts_175 : decode cX7_parts 175 = .ok (.iload 13, 2) := by decide +kernel
theorem dX7_parts_177 : decode cX7_parts 177 = .ok (.iadd, 1) := by decide +kernel
theorem dX7_parts_178 : decode cX7_parts 178 = .ok (.istore 15, 2) := by decide +kernel
theorem dX7_parts_180 : decode cX7_parts 180 = .ok (.iload 14, 2) := by decide +kernel
theorem dX7_parts_182 : decode cX7_parts 182 = .ok (.iconst 0, 1) := by decide +kernel
theorem dX7_parts_183 : decode cX7_parts 183 = .ok (.iload_n 2, 1) := by decide +kernel
theorem dX7_parts_184 : decode cX7_parts 184 = .ok (.iconst 1, 1) := by decide +kernel
theorem dX7_parts_185 : decode cX7_parts 185 = .ok (.isub, 1) := by decide +kernel
theorem dX7_parts_186 : decode cX7_parts 186 = .ok (.invokestatic 36, 3) := by decide +kernel
theorem dX7_parts_189 : decode cX7_parts 189 = .ok (.ifCond .eq 75, 3) := by decide +kernel
theorem dX7_parts_192 : decode cX7_parts 192 = .ok (.iload 15, 2) := by decide +kernel
theorem dX7_parts_194 : decode cX7_parts 194 = .ok (.iconst 0, 1) := by decide +kernel
theorem dX7_parts_195 : decode cX7_parts 195 = .ok (.iload_n 2, 1) := by decide +kernel
theorem dX7_parts_196 : decode cX7_parts 196 = .ok (.iconst 1, 1) := by decide +kernel
theorem dX7_parts_197 : decode cX7_parts 197 = .ok (.isub, 1) := by decide +kernel
theorem dX7_parts_198 : decode cX7_parts 198 = .ok (.invokestatic 36, 3) := by decide +kernel
theorem dX7_parts_201 : decode cX7_parts 201 = .ok (.ifCond .ne 6, 3) := by decide +kernel
theorem dX7_parts_204 : decode cX7_parts 204 = .ok (.goto 60, 3) := by decide +kernel
theorem dX7_parts_207 : decode cX7_parts 207 = .ok (.iload 15, 2) := by decide +kernel
theorem dX7_parts_209 : decode cX7_parts 209 = .ok (.iload_n 2, 1) := by decide +kernel
theorem dX7_parts_210 : decode cX7_parts 210 = .ok (.imul, 1) := by decide +kernel
theorem dX7_parts_211 : decode cX7_parts 211 = .ok (.iload 14, 2) := by decide +kernel
theorem dX7_parts_213 : decode cX7_parts 213 = .ok (.iadd, 1) := by decide +kernel
theorem dX7_parts_214 : decode cX7_parts 214 = .ok (.istore 16, 2) := by decide +kernel
theorem dX7_parts_216 : decode cX7_parts 216 = .ok (.aload_n 3, 1) := by decide +kernel
theorem dX7_parts_217 : decode cX7_parts 217 = .ok (.iload 16, 2) := by decide +kernel
theorem dX7_parts_219 : decode cX7_parts 219 = .ok (.iaload, 1) := by decide +kernel
theorem dX7_parts_220 : decode cX7_parts 220 = .ok (.ifCond .ne 44, 3) := by decide +kernel
theorem dX7_parts_223 : decode cX7_parts 223 = .ok (.aload_n 0, 1) := by decide +kernel
theorem dX7_parts_224 : decode cX7_parts 224 = .ok (.iload 14, 2) := by decide +kernel
theorem dX7_parts_226 : decode cX7_parts 226 = .ok (.bipush (-32), 2) := by decide +kernel
theorem dX7_parts_228 : decode cX7_parts 228 = .ok (.iadd, 1) := by decide +kernel
theorem dX7_parts_229 : decode cX7_parts 229 = .ok (.iconst 1, 1) := by decide +kernel
theorem dX7_parts_230 : decode cX7_parts 230 = .ok (.isub, 1) := by decide +kernel
theorem dX7_parts_231 : decode cX7_parts 231 = .ok (.iload 15, 2) := by decide +kernel
theorem dX7_parts_233 : decode cX7_parts 233 = .ok (.bipush (-32), 2) := by decide +kernel
theorem dX7_parts_235 : decode cX7_parts 235 = .ok (.iadd, 1) := by decide +kernel
theorem dX7_parts_236 : decode cX7_parts 236 = .ok (.iconst 1, 1) := by decide +kernel
theorem dX7_parts_237 : decode cX7_parts 237 = .ok (.isub, 1) := by decide +kernel
theorem dX7_parts_238 : decode cX7_parts 238 = .ok (.invokestatic 95, 3) := by decide +kernel
theorem dX7_parts_241 : decode cX7_parts 241 = .ok (.iload_n 1, 1) := by decide +kernel
theorem dX7_parts_242 : decode cX7_parts 242 = .ok (.if_icmp .eq 6, 3) := by decide +kernel
theorem dX7_parts_248 : decode cX7_parts 248 = .ok (.aload_n 3, 1) := by decide +kernel
theorem dX7_parts_249 : decode cX7_parts 249 = .ok (.iload 16, 2) := by decide +kernel
theorem dX7_parts_251 : decode cX7_parts 251 = .ok (.iload 5, 2) := by decide +kernel
theorem dX7_parts_253 : decode cX7_parts 253 = .ok (.iastore, 1) := by decide +kernel
theorem dX7_parts_254 : decode cX7_parts 254 = .ok (.aload 4, 2) := by decide +kernel
theorem dX7_parts_256 : decode cX7_parts 256 = .ok (.iload 9, 2) := by decide +kernel
theorem dX7_parts_258 : decode cX7_parts 258 = .ok (.iinc 9 1, 3) := by decide +kernel
theorem dX7_parts_261 : decode cX7_parts 261 = .ok (.iload 16, 2) := by decide +kernel
theorem dX7_parts_263 : decode cX7_parts 263 = .ok (.iastore, 1) := by decide +kernel
theorem dX7_parts_264 : decode cX7_parts 264 = .ok (.iinc 11 1, 3) := by decide +kernel
theorem dX7_parts_267 : decode cX7_parts 267 = .ok (.goto (-145), 3) := by decide +kernel
theorem dX7_parts_270 : decode cX7_parts 270 = .ok (.goto (-168), 3) := by decide +kernel
theorem dX7_parts_273 : decode cX7_parts 273 = .ok (.iinc 6 1, 3) := by decide +kernel
theorem dX7_parts_276 : decode cX7_parts 276 = .ok (.goto (-254), 3) := by decide +kernel
theorem dX7_parts_279 : decode cX7_parts 279 = .ok (.aload_n 3, 1) := by decide +kernel
theorem dX7_parts_280 : decode cX7_parts 280 = .ok (.areturn, 1) := by decide +kernel
theorem dX7_most_0 : decode cX7_most 0 = .ok (.iconst 0, 1) := by decide +kernel
theorem dX7_most_1 : decode cX7_most 1 = .ok (.istore_n 1, 1) := by decide +kernel
theorem dX7_most_2 : decode cX7_most 2 = .ok (.aload_n 0, 1) := by decide +kernel
theorem dX7_most_3 : decode cX7_most 3 = .ok (.astore_n 2, 1) := by decide +kernel
theorem dX7_most_4 : decode cX7_most 4 = .ok (.aload_n 2, 1) := by decide +kernel
theorem dX7_most_5 : decode cX7_most 5 = .ok (.arraylength, 1) := by decide +kernel
theorem dX7_most_6 : decode cX7_most 6 = .ok (.istore_n 3, 1) := by decide +kernel
theorem dX7_most_7 : decode cX7_most 7 = .ok (.iconst 0, 1) := by decide +kernel
theorem dX7_most_8 : decode cX7_most 8 = .ok (.istore 4, 2) := by decide +kernel
theorem dX7_most_10 : decode cX7_most 10 = .ok (.iload 4, 2) := by decide +kernel
theorem dX7_most_12 : decode cX7_most 12 = .ok (.iload_n 3, 1) := by decide +kernel
theorem dX7_most_13 : decode cX7_most 13 = .ok (.if_icmp .ge 22, 3) := by decide +kernel
theorem dX7_most_16 : decode cX7_most 16 = .ok (.aload_n 2, 1) := by decide +kernel
theorem dX7_most_17 : decode cX7_most 17 = .ok (.iload 4, 2) := by decide +kernel
theorem dX7_most_19 : decode cX7_most 19 = .ok (.iaload, 1) := by decide +kernel
theorem dX7_most_20 : decode cX7_most 20 = .ok (.istore 5, 2) := by decide +kernel
theorem dX7_most_22 : decode cX7_most 22 = .ok (.iload_n 1, 1) := by decide +kernel
theorem dX7_most_23 : decode cX7_most 23 = .ok (.iload 5, 2) := by decide +kernel
theorem dX7_most_25 : decode cX7_most 25 = .ok (.invokestatic 73, 3) := by decide +kernel
theorem dX7_most_28 : decode cX7_most 28 = .ok (.istore_n 1, 1) := by decide +kernel
theorem dX7_most_29 : decode cX7_most 29 = .ok (.iinc 4 1, 3) := by decide +kernel
theorem dX7_most_32 : decode cX7_most 32 = .ok (.goto (-22), 3) := by decide +kernel
theorem dX7_most_35 : decode cX7_most 35 = .ok (.iload_n 1, 1) := by decide +kernel
theorem dX7_most_36 : decode cX7_most 36 = .ok (.ireturn, 1) := by decide +kernel
theorem dX7_holesNow_0 : decode cX7_holesNow 0 = .ok (.aload_n 0, 1) := by decide +kernel
theorem dX7_holesNow_1 : decode cX7_holesNow 1 = .ok (.getfield 11, 3) := by decide +kernel
theorem dX7_holesNow_4 : decode cX7_holesNow 4 = .ok (.iload_n 1, 1) := by decide +kernel
theorem dX7_holesNow_5 : decode cX7_holesNow 5 = .ok (.aaload, 1) := by decide +kernel
theorem dX7_holesNow_6 : decode cX7_holesNow 6 = .ok (.iconst 0, 1) := by decide +kernel
theorem dX7_holesNow_7 : decode cX7_holesNow 7 = .ok (.invokestatic 99, 3) := by decide +kernel
theorem dX7_holesNow_10 : decode cX7_holesNow 10 = .ok (.invokestatic 103, 3) := by decide +kernel
theorem dX7_holesNow_13 : decode cX7_holesNow 13 = .ok (.iconst 1, 1) := by decide +kernel
theorem dX7_holesNow_14 : decode cX7_holesNow 14 = .ok (.isub, 1) := by decide +kernel
theorem dX7_holesNow_15 : decode cX7_holesNow 15 = .ok (.ireturn, 1) := by decide +kernel
theorem dX7_edgesNow_0 : decode cX7_edgesNow 0 = .ok (.iconst 0, 1) := by decide +kernel
theorem dX7_edgesNow_1 : decode cX7_edgesNow 1 = .ok (.istore_n 2, 1) := by decide +kernel
theorem dX7_edgesNow_2 : decode cX7_edgesNow 2 = .ok (.bipush (-32), 2) := by decide +kernel
theorem dX7_edgesNow_4 : decode cX7_edgesNow 4 = .ok (.istore_n 3, 1) := by decide +kernel
theorem dX7_edgesNow_5 : decode cX7_edgesNow 5 = .ok (.iload_n 3, 1) := by decide +kernel
theorem dX7_edgesNow_6 : decode cX7_edgesNow 6 = .ok (.bipush 31, 2) := by decide +kernel
theorem dX7_edgesNow_8 : decode cX7_edgesNow 8 = .ok (.if_icmp .gt 145, 3) := by decide +kernel
theorem dX7_edgesNow_11 : decode cX7_edgesNow 11 = .ok (.bipush (-32), 2) := by decide +kernel
theorem dX7_edgesNow_13 : decode cX7_edgesNow 13 = .ok (.istore 4, 2) := by decide +kernel
theorem dX7_edgesNow_15 : decode cX7_edgesNow 15 = .ok (.iload 4, 2) := by decide +kernel
theorem dX7_edgesNow_17 : decode cX7_edgesNow 17 = .ok (.bipush 31, 2) := by decide +kernel
theorem dX7_edgesNow_19 : decode cX7_edgesNow 19 = .ok (.if_icmp .gt 128, 3) := by decide +kernel
theorem dX7_edgesNow_22 : decode cX7_edgesNow 22 = .ok (.aload_n 0, 1) := by decide +kernel
theorem dX7_edgesNow_23 : decode cX7_edgesNow 23 = .ok (.getfield 11, 3) := by decide +kernel
theorem dX7_edgesNow_26 : decode cX7_edgesNow 26 = .ok (.iload_n 1, 1) := by decide +kernel
theorem dX7_edgesNow_27 : decode cX7_edgesNow 27 = .ok (.aaload, 1) := by decide +kernel
theorem dX7_edgesNow_28 : decode cX7_edgesNow 28 = .ok (.iload_n 3, 1) := by decide +kernel
theorem dX7_edgesNow_29 : decode cX7_edgesNow 29 = .ok (.iload 4, 2) := by decide +kernel
theorem dX7_edgesNow_31 : decode cX7_edgesNow 31 = .ok (.invokestatic 44, 3) := by decide +kernel
theorem dX7_edgesNow_34 : decode cX7_edgesNow 34 = .ok (.baload, 1) := by decide +kernel
theorem dX7_edgesNow_35 : decode cX7_edgesNow 35 = .ok (.ifCond .ne 6, 3) := by decide +kernel
theorem dX7_edgesNow_38 : decode cX7_edgesNow 38 = .ok (.goto 103, 3) := by decide +kernel
theorem dX7_edgesNow_141 : decode cX7_edgesNow 141 = .ok (.iinc 4 1, 3) := by decide +kernel
theorem dX7_edgesNow_144 : decode cX7_edgesNow 144 = .ok (.goto (-129), 3) := by decide +kernel
theorem dX7_edgesNow_147 : decode cX7_edgesNow 147 = .ok (.iinc 3 1, 3) := by decide +kernel
theorem dX7_edgesNow_150 : decode cX7_edgesNow 150 = .ok (.goto (-145), 3) := by decide +kernel
theorem dX7_edgesNow_153 : decode cX7_edgesNow 153 = .ok (.iload_n 2, 1) := by decide +kernel
theorem dX7_edgesNow_154 : decode cX7_edgesNow 154 = .ok (.ireturn, 1) := by decide +kernel
theorem dX7_boundNow_0 : decode cX7_boundNow 0 = .ok (.iconst 0, 1) := by decide +kernel
theorem dX7_boundNow_1 : decode cX7_boundNow 1 = .ok (.istore_n 3, 1) := by decide +kernel
theorem dX7_boundNow_2 : decode cX7_boundNow 2 = .ok (.iconst 0, 1) := by decide +kernel
theorem dX7_boundNow_3 : decode cX7_boundNow 3 = .ok (.istore 4, 2) := by decide +kernel
theorem dX7_boundNow_5 : decode cX7_boundNow 5 = .ok (.bipush (-32), 2) := by decide +kernel
theorem dX7_boundNow_7 : decode cX7_boundNow 7 = .ok (.istore 5, 2) := by decide +kernel
theorem dX7_boundNow_9 : decode cX7_boundNow 9 = .ok (.iload 5, 2) := by decide +kernel
theorem dX7_boundNow_11 : decode cX7_boundNow 11 = .ok (.bipush 31, 2) := by decide +kernel
theorem dX7_boundNow_13 : decode cX7_boundNow 13 = .ok (.if_icmp .gt 92, 3) := by decide +kernel
theorem dX7_boundNow_16 : decode cX7_boundNow 16 = .ok (.bipush (-32), 2) := by decide +kernel
theorem dX7_boundNow_18 : decode cX7_boundNow 18 = .ok (.istore 6, 2) := by decide +kernel
theorem dX7_boundNow_20 : decode cX7_boundNow 20 = .ok (.iload 6, 2) := by decide +kernel
theorem dX7_boundNow_22 : decode cX7_boundNow 22 = .ok (.bipush 31, 2) := by decide +kernel
theorem dX7_boundNow_24 : decode cX7_boundNow 24 = .ok (.if_icmp .gt 75, 3) := by decide +kernel
theorem dX7_boundNow_27 : decode cX7_boundNow 27 = .ok (.aload_n 0, 1) := by decide +kernel
theorem dX7_boundNow_28 : decode cX7_boundNow 28 = .ok (.getfield 11, 3) := by decide +kernel
theorem dX7_boundNow_31 : decode cX7_boundNow 31 = .ok (.iload_n 1, 1) := by decide +kernel
theorem dX7_boundNow_32 : decode cX7_boundNow 32 = .ok (.aaload, 1) := by decide +kernel
theorem dX7_boundNow_33 : decode cX7_boundNow 33 = .ok (.iload 5, 2) := by decide +kernel
theorem dX7_boundNow_35 : decode cX7_boundNow 35 = .ok (.iload 6, 2) := by decide +kernel
theorem dX7_boundNow_37 : decode cX7_boundNow 37 = .ok (.invokestatic 44, 3) := by decide +kernel
theorem dX7_boundNow_40 : decode cX7_boundNow 40 = .ok (.baload, 1) := by decide +kernel
theorem dX7_boundNow_41 : decode cX7_boundNow 41 = .ok (.ifCond .ne 6, 3) := by decide +kernel
theorem dX7_boundNow_44 : decode cX7_boundNow 44 = .ok (.goto 49, 3) := by decide +kernel
theorem dX7_boundNow_93 : decode cX7_boundNow 93 = .ok (.iinc 6 1, 3) := by decide +kernel
theorem dX7_boundNow_96 : decode cX7_boundNow 96 = .ok (.goto (-76), 3) := by decide +kernel
theorem dX7_boundNow_99 : decode cX7_boundNow 99 = .ok (.iinc 5 1, 3) := by decide +kernel
theorem dX7_boundNow_102 : decode cX7_boundNow 102 = .ok (.goto (-93), 3) := by decide +kernel
theorem dX7_boundNow_105 : decode cX7_boundNow 105 = .ok (.iload_n 3, 1) := by decide +kernel
theorem dX7_boundNow_106 : decode cX7_boundNow 106 = .ok (.ireturn, 1) := by decide +kernel
theorem dX7_isEdge_0 : decode cX7_isEdge 0 = .ok (.iload_n 3, 1) := by decide +kernel
theorem dX7_isEdge_1 : decode cX7_isEdge 1 = .ok (.tableswitch 109 0 2 #[27, 53, 79], 27) := by decide +kernel
theorem dX7_isEdge_28 : decode cX7_isEdge 28 = .ok (.aload_n 0, 1) := by decide +kernel
theorem dX7_isEdge_29 : decode cX7_isEdge 29 = .ok (.iload_n 1, 1) := by decide +kernel
theorem dX7_isEdge_30 : decode cX7_isEdge 30 = .ok (.iload_n 2, 1) := by decide +kernel
theorem dX7_isEdge_31 : decode cX7_isEdge 31 = .ok (.invokestatic 95, 3) := by decide +kernel
theorem dX7_isEdge_34 : decode cX7_isEdge 34 = .ok (.ifCond .eq 18, 3) := by decide +kernel
theorem dX7_isEdge_52 : decode cX7_isEdge 52 = .ok (.iconst 0, 1) := by decide +kernel
theorem dX7_isEdge_53 : decode cX7_isEdge 53 = .ok (.ireturn, 1) := by decide +kernel
theorem dX7_isEdge_54 : decode cX7_isEdge 54 = .ok (.aload_n 0, 1) := by decide +kernel
theorem dX7_isEdge_55 : decode cX7_isEdge 55 = .ok (.iload_n 1, 1) := by decide +kernel
theorem dX7_isEdge_56 : decode cX7_isEdge 56 = .ok (.iconst 1, 1) := by decide +kernel
theorem dX7_isEdge_57 : decode cX7_isEdge 57 = .ok (.isub, 1) := by decide +kernel
theorem dX7_isEdge_58 : decode cX7_isEdge 58 = .ok (.iload_n 2, 1) := by decide +kernel
theorem dX7_isEdge_59 : decode cX7_isEdge 59 = .ok (.invokestatic 95, 3) := by decide +kernel
theorem dX7_isEdge_62 : decode cX7_isEdge 62 = .ok (.ifCond .eq 16, 3) := by decide +kernel
theorem dX7_isEdge_78 : decode cX7_isEdge 78 = .ok (.iconst 0, 1) := by decide +kernel
theorem dX7_isEdge_79 : decode cX7_isEdge 79 = .ok (.ireturn, 1) := by decide +kernel
theorem dX7_contoursNow_0 : decode cX7_contoursNow 0 = .ok (.aload_n 0, 1) := by decide +kernel
theorem dX7_contoursNow_1 : decode cX7_contoursNow 1 = .ok (.getfield 11, 3) := by decide +kernel
theorem dX7_contoursNow_4 : decode cX7_contoursNow 4 = .ok (.iload_n 1, 1) := by decide +kernel
theorem dX7_contoursNow_5 : decode cX7_contoursNow 5 = .ok (.aaload, 1) := by decide +kernel
theorem dX7_contoursNow_6 : decode cX7_contoursNow 6 = .ok (.astore_n 2, 1) := by decide +kernel
theorem dX7_contoursNow_7 : decode cX7_contoursNow 7 = .ok (.sipush 16900, 3) := by decide +kernel
theorem dX7_contoursNow_10 : decode cX7_contoursNow 10 = .ok (.newarray .boolean, 2) := by decide +kernel
theorem dX7_contoursNow_12 : decode cX7_contoursNow 12 = .ok (.astore_n 3, 1) := by decide +kernel
theorem dX7_contoursNow_13 : decode cX7_contoursNow 13 = .ok (.bipush 64, 2) := by decide +kernel
theorem dX7_contoursNow_15 : decode cX7_contoursNow 15 = .ok (.newarray .int, 2) := by decide +kernel
theorem dX7_contoursNow_17 : decode cX7_contoursNow 17 = .ok (.astore 4, 2) := by decide +kernel
theorem dX7_contoursNow_19 : decode cX7_contoursNow 19 = .ok (.iconst 1, 1) := by decide +kernel
theorem dX7_contoursNow_20 : decode cX7_contoursNow 20 = .ok (.istore 5, 2) := by decide +kernel
theorem dX7_contoursNow_22 : decode cX7_contoursNow 22 = .ok (.bipush (-32), 2) := by decide +kernel
theorem dX7_contoursNow_24 : decode cX7_contoursNow 24 = .ok (.istore 6, 2) := by decide +kernel
theorem dX7_contoursNow_26 : decode cX7_contoursNow 26 = .ok (.iload 6, 2) := by decide +kernel
theorem dX7_contoursNow_28 : decode cX7_contoursNow 28 = .ok (.bipush 32, 2) := by decide +kernel
theorem dX7_contoursNow_30 : decode cX7_contoursNow 30 = .ok (.if_icmp .gt 402, 3) := by decide +kernel
theorem dX7_contoursNow_33 : decode cX7_contoursNow 33 = .ok (.bipush (-32), 2) := by decide +kernel
theorem dX7_contoursNow_35 : decode cX7_contoursNow 35 = .ok (.istore 7, 2) := by decide +kernel
theorem dX7_contoursNow_37 : decode cX7_contoursNow 37 = .ok (.iload 7, 2) := by decide +kernel
theorem dX7_contoursNow_39 : decode cX7_contoursNow 39 = .ok (.bipush 32, 2) := by decide +kernel
theorem dX7_contoursNow_41 : decode cX7_contoursNow 41 = .ok (.if_icmp .gt 385, 3) := by decide +kernel
theorem dX7_contoursNow_44 : decode cX7_contoursNow 44 = .ok (.iconst 0, 1) := by decide +kernel
theorem dX7_contoursNow_45 : decode cX7_contoursNow 45 = .ok (.istore 8, 2) := by decide +kernel
theorem dX7_contoursNow_47 : decode cX7_contoursNow 47 = .ok (.iload 8, 2) := by decide +kernel
theorem dX7_contoursNow_49 : decode cX7_contoursNow 49 = .ok (.iconst 2, 1) := by decide +kernel
theorem dX7_contoursNow_50 : decode cX7_contoursNow 50 = .ok (.if_icmp .ge 370, 3) := by decide +kernel
theorem dX7_contoursNow_53 : decode cX7_contoursNow 53 = .ok (.iload 6, 2) := by decide +kernel
theorem dX7_contoursNow_55 : decode cX7_contoursNow 55 = .ok (.bipush (-32), 2) := by decide +kernel
theorem dX7_contoursNow_57 : decode cX7_contoursNow 57 = .ok (.isub, 1) := by decide +kernel
theorem dX7_contoursNow_58 : decode cX7_contoursNow 58 = .ok (.bipush 65, 2) := by decide +kernel
theorem dX7_contoursNow_60 : decode cX7_contoursNow 60 = .ok (.imul, 1) := by decide +kernel
theorem dX7_contoursNow_61 : decode cX7_contoursNow 61 = .ok (.iload 7, 2) := by decide +kernel
theorem dX7_contoursNow_63 : decode cX7_contoursNow 63 = .ok (.iadd, 1) := by decide +kernel
theorem dX7_contoursNow_64 : decode cX7_contoursNow 64 = .ok (.bipush (-32), 2) := by decide +kernel
theorem dX7_contoursNow_66 : decode cX7_contoursNow 66 = .ok (.isub, 1) := by decide +kernel
theorem dX7_contoursNow_67 : decode cX7_contoursNow 67 = .ok (.iconst 4, 1) := by decide +kernel
theorem dX7_contoursNow_68 : decode cX7_contoursNow 68 = .ok (.imul, 1) := by decide +kernel
theorem dX7_contoursNow_69 : decode cX7_contoursNow 69 = .ok (.iload 8, 2) := by decide +kernel
theorem dX7_contoursNow_71 : decode cX7_contoursNow 71 = .ok (.iadd, 1) := by decide +kernel
theorem dX7_contoursNow_72 : decode cX7_contoursNow 72 = .ok (.istore 9, 2) := by decide +kernel
theorem dX7_contoursNow_74 : decode cX7_contoursNow 74 = .ok (.aload_n 2, 1) := by decide +kernel
theorem dX7_contoursNow_75 : decode cX7_contoursNow 75 = .ok (.iload 7, 2) := by decide +kernel
theorem dX7_contoursNow_77 : decode cX7_contoursNow 77 = .ok (.iload 6, 2) := by decide +kernel
theorem dX7_contoursNow_79 : decode cX7_contoursNow 79 = .ok (.iload 8, 2) := by decide +kernel
theorem dX7_contoursNow_81 : decode cX7_contoursNow 81 = .ok (.invokestatic 120, 3) := by decide +kernel
theorem dX7_contoursNow_84 : decode cX7_contoursNow 84 = .ok (.ifCond .eq 330, 3) := by decide +kernel
theorem dX7_contoursNow_414 : decode cX7_contoursNow 414 = .ok (.iinc 8 1, 3) := by decide +kernel
theorem dX7_contoursNow_417 : decode cX7_contoursNow 417 = .ok (.goto (-370), 3) := by decide +kernel
theorem dX7_contoursNow_420 : decode cX7_contoursNow 420 = .ok (.iinc 7 1, 3) := by decide +kernel
theorem dX7_contoursNow_423 : decode cX7_contoursNow 423 = .ok (.goto (-386), 3) := by decide +kernel
theorem dX7_contoursNow_426 : decode cX7_contoursNow 426 = .ok (.iinc 6 1, 3) := by decide +kernel
theorem dX7_contoursNow_429 : decode cX7_contoursNow 429 = .ok (.goto (-403), 3) := by decide +kernel
theorem dX7_contoursNow_432 : decode cX7_contoursNow 432 = .ok (.aload 4, 2) := by decide +kernel
theorem dX7_contoursNow_434 : decode cX7_contoursNow 434 = .ok (.areturn, 1) := by decide +kernel
theorem dX7_stripsNow_0 : decode cX7_stripsNow 0 = .ok (.aload_n 0, 1) := by decide +kernel
theorem dX7_stripsNow_1 : decode cX7_stripsNow 1 = .ok (.getfield 11, 3) := by decide +kernel
theorem dX7_stripsNow_4 : decode cX7_stripsNow 4 = .ok (.iload_n 1, 1) := by decide +kernel
theorem dX7_stripsNow_5 : decode cX7_stripsNow 5 = .ok (.aaload, 1) := by decide +kernel
theorem dX7_stripsNow_6 : decode cX7_stripsNow 6 = .ok (.astore_n 2, 1) := by decide +kernel
theorem dX7_stripsNow_7 : decode cX7_stripsNow 7 = .ok (.bipush 64, 2) := by decide +kernel
theorem dX7_stripsNow_9 : decode cX7_stripsNow 9 = .ok (.newarray .int, 2) := by decide +kernel
theorem dX7_stripsNow_11 : decode cX7_stripsNow 11 = .ok (.astore_n 3, 1) := by decide +kernel
theorem dX7_stripsNow_12 : decode cX7_stripsNow 12 = .ok (.iconst 1, 1) := by decide +kernel
theorem dX7_stripsNow_13 : decode cX7_stripsNow 13 = .ok (.istore 4, 2) := by decide +kernel
theorem dX7_stripsNow_15 : decode cX7_stripsNow 15 = .ok (.bipush (-32), 2) := by decide +kernel
theorem dX7_stripsNow_17 : decode cX7_stripsNow 17 = .ok (.istore 5, 2) := by decide +kernel
theorem dX7_stripsNow_19 : decode cX7_stripsNow 19 = .ok (.iload 5, 2) := by decide +kernel
theorem dX7_stripsNow_21 : decode cX7_stripsNow 21 = .ok (.bipush 31, 2) := by decide +kernel
theorem dX7_stripsNow_23 : decode cX7_stripsNow 23 = .ok (.if_icmp .gt 155, 3) := by decide +kernel
theorem dX7_stripsNow_26 : decode cX7_stripsNow 26 = .ok (.bipush (-32), 2) := by decide +kernel
theorem dX7_stripsNow_28 : decode cX7_stripsNow 28 = .ok (.istore 6, 2) := by decide +kernel
theorem dX7_stripsNow_30 : decode cX7_stripsNow 30 = .ok (.iload 6, 2) := by decide +kernel
theorem dX7_stripsNow_32 : decode cX7_stripsNow 32 = .ok (.bipush 31, 2) := by decide +kernel
theorem dX7_stripsNow_34 : decode cX7_stripsNow 34 = .ok (.if_icmp .gt 138, 3) := by decide +kernel
theorem dX7_stripsNow_37 : decode cX7_stripsNow 37 = .ok (.aload_n 2, 1) := by decide +kernel
theorem dX7_stripsNow_38 : decode cX7_stripsNow 38 = .ok (.iload 6, 2) := by decide +kernel
theorem dX7_stripsNow_40 : decode cX7_stripsNow 40 = .ok (.iload 5, 2) := by decide +kernel
theorem dX7_stripsNow_42 : decode cX7_stripsNow 42 = .ok (.invokestatic 95, 3) := by decide +kernel
theorem dX7_stripsNow_45 : decode cX7_stripsNow 45 = .ok (.ifCond .eq 121, 3) := by decide +kernel
theorem dX7_stripsNow_166 : decode cX7_stripsNow 166 = .ok (.iinc 6 1, 3) := by decide +kernel
theorem dX7_stripsNow_169 : decode cX7_stripsNow 169 = .ok (.goto (-139), 3) := by decide +kernel
theorem dX7_stripsNow_172 : decode cX7_stripsNow 172 = .ok (.iinc 5 1, 3) := by decide +kernel
theorem dX7_stripsNow_175 : decode cX7_stripsNow 175 = .ok (.goto (-156), 3) := by decide +kernel
theorem dX7_stripsNow_178 : decode cX7_stripsNow 178 = .ok (.aload_n 3, 1) := by decide +kernel
theorem dX7_stripsNow_179 : decode cX7_stripsNow 179 = .ok (.areturn, 1) := by decide +kernel
theorem dX7_digest_0 : decode cX7_digest 0 = .ok (.aload_n 0, 1) := by decide +kernel
theorem dX7_digest_1 : decode cX7_digest 1 = .ok (.iconst 0, 1) := by decide +kernel
theorem dX7_digest_2 : decode cX7_digest 2 = .ok (.putfield 33, 3) := by decide +kernel
theorem dX7_digest_5 : decode cX7_digest 5 = .ok (.ldc2_w 166, 3) := by decide +kernel
theorem dX7_digest_8 : decode cX7_digest 8 = .ok (.aload_n 0, 1) := by decide +kernel
theorem dX7_digest_9 : decode cX7_digest 9 = .ok (.getfield 21, 3) := by decide +kernel
theorem dX7_digest_12 : decode cX7_digest 12 = .ok (.i2l, 1) := by decide +kernel
theorem dX7_digest_13 : decode cX7_digest 13 = .ok (.ladd, 1) := by decide +kernel
theorem dX7_digest_14 : decode cX7_digest 14 = .ok (.lstore_n 1, 1) := by decide +kernel
theorem dX7_digest_15 : decode cX7_digest 15 = .ok (.iconst 0, 1) := by decide +kernel
theorem dX7_digest_16 : decode cX7_digest 16 = .ok (.istore_n 3, 1) := by decide +kernel
theorem dX7_digest_17 : decode cX7_digest 17 = .ok (.iload_n 3, 1) := by decide +kernel
theorem dX7_digest_18 : decode cX7_digest 18 = .ok (.bipush 8, 2) := by decide +kernel
theorem dX7_digest_20 : decode cX7_digest 20 = .ok (.if_icmp .ge 235, 3) := by decide +kernel
theorem dX7_digest_23 : decode cX7_digest 23 = .ok (.lload_n 1, 1) := by decide +kernel
theorem dX7_digest_24 : decode cX7_digest 24 = .ok (.ldc2_w 168, 3) := by decide +kernel
theorem dX7_digest_27 : decode cX7_digest 27 = .ok (.lmul, 1) := by decide +kernel
theorem dX7_digest_28 : decode cX7_digest 28 = .ok (.aload_n 0, 1) := by decide +kernel
theorem dX7_digest_29 : decode cX7_digest 29 = .ok (.getfield 11, 3) := by decide +kernel
theorem dX7_digest_32 : decode cX7_digest 32 = .ok (.iload_n 3, 1) := by decide +kernel
theorem dX7_digest_33 : decode cX7_digest 33 = .ok (.aaload, 1) := by decide +kernel
theorem dX7_digest_34 : decode cX7_digest 34 = .ok (.invokestatic 57, 3) := by decide +kernel
theorem dX7_digest_37 : decode cX7_digest 37 = .ok (.i2l, 1) := by decide +kernel
theorem dX7_digest_38 : decode cX7_digest 38 = .ok (.ladd, 1) := by decide +kernel
theorem dX7_digest_39 : decode cX7_digest 39 = .ok (.ldc2_w 168, 3) := by decide +kernel
theorem dX7_digest_42 : decode cX7_digest 42 = .ok (.lmul, 1) := by decide +kernel
theorem dX7_digest_43 : decode cX7_digest 43 = .ok (.aload_n 0, 1) := by decide +kernel
theorem dX7_digest_44 : decode cX7_digest 44 = .ok (.iload_n 3, 1) := by decide +kernel
theorem dX7_digest_45 : decode cX7_digest 45 = .ok (.invokevirtual 111, 3) := by decide +kernel
theorem dX7_digest_48 : decode cX7_digest 48 = .ok (.i2l, 1) := by decide +kernel
theorem dX7_digest_49 : decode cX7_digest 49 = .ok (.ladd, 1) := by decide +kernel
theorem dX7_digest_50 : decode cX7_digest 50 = .ok (.ldc2_w 168, 3) := by decide +kernel
theorem dX7_digest_53 : decode cX7_digest 53 = .ok (.lmul, 1) := by decide +kernel
theorem dX7_digest_54 : decode cX7_digest 54 = .ok (.aload_n 0, 1) := by decide +kernel
theorem dX7_digest_55 : decode cX7_digest 55 = .ok (.getfield 11, 3) := by decide +kernel
theorem dX7_digest_58 : decode cX7_digest 58 = .ok (.iload_n 3, 1) := by decide +kernel
theorem dX7_digest_59 : decode cX7_digest 59 = .ok (.aaload, 1) := by decide +kernel
theorem dX7_digest_60 : decode cX7_digest 60 = .ok (.iconst 1, 1) := by decide +kernel
theorem dX7_digest_61 : decode cX7_digest 61 = .ok (.invokestatic 99, 3) := by decide +kernel
theorem dX7_digest_64 : decode cX7_digest 64 = .ok (.invokestatic 103, 3) := by decide +kernel
theorem dX7_digest_67 : decode cX7_digest 67 = .ok (.i2l, 1) := by decide +kernel
theorem dX7_digest_68 : decode cX7_digest 68 = .ok (.ladd, 1) := by decide +kernel
theorem dX7_digest_69 : decode cX7_digest 69 = .ok (.ldc2_w 168, 3) := by decide +kernel
theorem dX7_digest_72 : decode cX7_digest 72 = .ok (.lmul, 1) := by decide +kernel
theorem dX7_digest_73 : decode cX7_digest 73 = .ok (.aload_n 0, 1) := by decide +kernel
theorem dX7_digest_74 : decode cX7_digest 74 = .ok (.iload_n 3, 1) := by decide +kernel
theorem dX7_digest_75 : decode cX7_digest 75 = .ok (.invokevirtual 114, 3) := by decide +kernel
theorem dX7_digest_78 : decode cX7_digest 78 = .ok (.i2l, 1) := by decide +kernel
theorem dX7_digest_79 : decode cX7_digest 79 = .ok (.ladd, 1) := by decide +kernel
theorem dX7_digest_80 : decode cX7_digest 80 = .ok (.lstore_n 1, 1) := by decide +kernel
theorem dX7_digest_81 : decode cX7_digest 81 = .ok (.iconst 0, 1) := by decide +kernel
theorem dX7_digest_82 : decode cX7_digest 82 = .ok (.istore 4, 2) := by decide +kernel
theorem dX7_digest_84 : decode cX7_digest 84 = .ok (.iload 4, 2) := by decide +kernel
theorem dX7_digest_86 : decode cX7_digest 86 = .ok (.iconst 4, 1) := by decide +kernel
theorem dX7_digest_87 : decode cX7_digest 87 = .ok (.if_icmp .ge 24, 3) := by decide +kernel
theorem dX7_digest_90 : decode cX7_digest 90 = .ok (.lload_n 1, 1) := by decide +kernel
theorem dX7_digest_91 : decode cX7_digest 91 = .ok (.ldc2_w 168, 3) := by decide +kernel
theorem dX7_digest_94 : decode cX7_digest 94 = .ok (.lmul, 1) := by decide +kernel
theorem dX7_digest_95 : decode cX7_digest 95 = .ok (.aload_n 0, 1) := by decide +kernel
theorem dX7_digest_96 : decode cX7_digest 96 = .ok (.iload_n 3, 1) := by decide +kernel
theorem dX7_digest_97 : decode cX7_digest 97 = .ok (.iload 4, 2) := by decide +kernel
theorem dX7_digest_99 : decode cX7_digest 99 = .ok (.invokevirtual 117, 3) := by decide +kernel
theorem dX7_digest_102 : decode cX7_digest 102 = .ok (.i2l, 1) := by decide +kernel
theorem dX7_digest_103 : decode cX7_digest 103 = .ok (.ladd, 1) := by decide +kernel
theorem dX7_digest_104 : decode cX7_digest 104 = .ok (.lstore_n 1, 1) := by decide +kernel
theorem dX7_digest_105 : decode cX7_digest 105 = .ok (.iinc 4 1, 3) := by decide +kernel
theorem dX7_digest_108 : decode cX7_digest 108 = .ok (.goto (-24), 3) := by decide +kernel
theorem dX7_digest_111 : decode cX7_digest 111 = .ok (.aload_n 0, 1) := by decide +kernel
theorem dX7_digest_112 : decode cX7_digest 112 = .ok (.iload_n 3, 1) := by decide +kernel
theorem dX7_digest_113 : decode cX7_digest 113 = .ok (.invokevirtual 134, 3) := by decide +kernel
theorem dX7_digest_116 : decode cX7_digest 116 = .ok (.astore 4, 2) := by decide +kernel
theorem dX7_digest_118 : decode cX7_digest 118 = .ok (.lload_n 1, 1) := by decide +kernel
theorem dX7_digest_119 : decode cX7_digest 119 = .ok (.ldc2_w 168, 3) := by decide +kernel
theorem dX7_digest_122 : decode cX7_digest 122 = .ok (.lmul, 1) := by decide +kernel
theorem dX7_digest_123 : decode cX7_digest 123 = .ok (.aload 4, 2) := by decide +kernel
theorem dX7_digest_125 : decode cX7_digest 125 = .ok (.iconst 0, 1) := by decide +kernel
theorem dX7_digest_126 : decode cX7_digest 126 = .ok (.iaload, 1) := by decide +kernel
theorem dX7_digest_127 : decode cX7_digest 127 = .ok (.i2l, 1) := by decide +kernel
theorem dX7_digest_128 : decode cX7_digest 128 = .ok (.ladd, 1) := by decide +kernel
theorem dX7_digest_129 : decode cX7_digest 129 = .ok (.lstore_n 1, 1) := by decide +kernel
theorem dX7_digest_130 : decode cX7_digest 130 = .ok (.iconst 0, 1) := by decide +kernel
theorem dX7_digest_131 : decode cX7_digest 131 = .ok (.istore 5, 2) := by decide +kernel
theorem dX7_digest_133 : decode cX7_digest 133 = .ok (.iload 5, 2) := by decide +kernel
theorem dX7_digest_135 : decode cX7_digest 135 = .ok (.aload 4, 2) := by decide +kernel
theorem dX7_digest_137 : decode cX7_digest 137 = .ok (.iconst 0, 1) := by decide +kernel
theorem dX7_digest_138 : decode cX7_digest 138 = .ok (.iaload, 1) := by decide +kernel
theorem dX7_digest_139 : decode cX7_digest 139 = .ok (.if_icmp .ge 70, 3) := by decide +kernel
theorem dX7_digest_209 : decode cX7_digest 209 = .ok (.aload_n 0, 1) := by decide +kernel
theorem dX7_digest_210 : decode cX7_digest 210 = .ok (.iload_n 3, 1) := by decide +kernel
theorem dX7_digest_211 : decode cX7_digest 211 = .ok (.invokevirtual 155, 3) := by decide +kernel
theorem dX7_digest_214 : decode cX7_digest 214 = .ok (.astore 5, 2) := by decide +kernel
theorem dX7_digest_216 : decode cX7_digest 216 = .ok (.iconst 0, 1) := by decide +kernel
theorem dX7_digest_217 : decode cX7_digest 217 = .ok (.istore 6, 2) := by decide +kernel
theorem dX7_digest_219 : decode cX7_digest 219 = .ok (.iload 6, 2) := by decide +kernel
theorem dX7_digest_221 : decode cX7_digest 221 = .ok (.iconst 4, 1) := by decide +kernel
theorem dX7_digest_222 : decode cX7_digest 222 = .ok (.aload 5, 2) := by decide +kernel
theorem dX7_digest_224 : decode cX7_digest 224 = .ok (.iconst 0, 1) := by decide +kernel
theorem dX7_digest_225 : decode cX7_digest 225 = .ok (.iaload, 1) := by decide +kernel
theorem dX7_digest_226 : decode cX7_digest 226 = .ok (.imul, 1) := by decide +kernel
theorem dX7_digest_227 : decode cX7_digest 227 = .ok (.if_icmp .gt 22, 3) := by decide +kernel
theorem dX7_digest_230 : decode cX7_digest 230 = .ok (.lload_n 1, 1) := by decide +kernel
theorem dX7_digest_231 : decode cX7_digest 231 = .ok (.ldc2_w 168, 3) := by decide +kernel
theorem dX7_digest_234 : decode cX7_digest 234 = .ok (.lmul, 1) := by decide +kernel
theorem dX7_digest_235 : decode cX7_digest 235 = .ok (.aload 5, 2) := by decide +kernel
theorem dX7_digest_237 : decode cX7_digest 237 = .ok (.iload 6, 2) := by decide +kernel
theorem dX7_digest_239 : decode cX7_digest 239 = .ok (.iaload, 1) := by decide +kernel
theorem dX7_digest_240 : decode cX7_digest 240 = .ok (.i2l, 1) := by decide +kernel
theorem dX7_digest_241 : decode cX7_digest 241 = .ok (.ladd, 1) := by decide +kernel
theorem dX7_digest_242 : decode cX7_digest 242 = .ok (.lstore_n 1, 1) := by decide +kernel
theorem dX7_digest_243 : decode cX7_digest 243 = .ok (.iinc 6 1, 3) := by decide +kernel
theorem dX7_digest_246 : decode cX7_digest 246 = .ok (.goto (-27), 3) := by decide +kernel
theorem dX7_digest_249 : decode cX7_digest 249 = .ok (.iinc 3 1, 3) := by decide +kernel
theorem dX7_digest_252 : decode cX7_digest 252 = .ok (.goto (-235), 3) := by decide +kernel
theorem dX7_digest_255 : decode cX7_digest 255 = .ok (.lload_n 1, 1) := by decide +kernel
theorem dX7_digest_256 : decode cX7_digest 256 = .ok (.ldc2_w 168, 3) := by decide +kernel
theorem dX7_digest_259 : decode cX7_digest 259 = .ok (.lmul, 1) := by decide +kernel
theorem dX7_digest_260 : decode cX7_digest 260 = .ok (.aload_n 0, 1) := by decide +kernel
theorem dX7_digest_261 : decode cX7_digest 261 = .ok (.getfield 54, 3) := by decide +kernel
theorem dX7_digest_264 : decode cX7_digest 264 = .ok (.i2l, 1) := by decide +kernel
theorem dX7_digest_265 : decode cX7_digest 265 = .ok (.ladd, 1) := by decide +kernel
theorem dX7_digest_266 : decode cX7_digest 266 = .ok (.lreturn, 1) := by decide +kernel
theorem dJ13_bitCount_95d88_0 : decode cJ13_bitCount_95d88 0 = .ok (.lload_n 0, 1) := by decide +kernel
theorem dJ13_bitCount_95d88_1 : decode cJ13_bitCount_95d88 1 = .ok (.lload_n 0, 1) := by decide +kernel
theorem dJ13_bitCount_95d88_2 : decode cJ13_bitCount_95d88 2 = .ok (.iconst 1, 1) := by decide +kernel
theorem dJ13_bitCount_95d88_3 : decode cJ13_bitCount_95d88 3 = .ok (.lushr, 1) := by decide +kernel
theorem dJ13_bitCount_95d88_4 : decode cJ13_bitCount_95d88 4 = .ok (.ldc2_w 314, 3) := by decide +kernel
theorem dJ13_bitCount_95d88_7 : decode cJ13_bitCount_95d88 7 = .ok (.land, 1) := by decide +kernel
theorem dJ13_bitCount_95d88_8 : decode cJ13_bitCount_95d88 8 = .ok (.lsub, 1) := by decide +kernel
theorem dJ13_bitCount_95d88_9 : decode cJ13_bitCount_95d88 9 = .ok (.lstore_n 0, 1) := by decide +kernel
theorem dJ13_bitCount_95d88_10 : decode cJ13_bitCount_95d88 10 = .ok (.lload_n 0, 1) := by decide +kernel
theorem dJ13_bitCount_95d88_11 : decode cJ13_bitCount_95d88 11 = .ok (.ldc2_w 316, 3) := by decide +kernel
theorem dJ13_bitCount_95d88_14 : decode cJ13_bitCount_95d88 14 = .ok (.land, 1) := by decide +kernel
theorem dJ13_bitCount_95d88_15 : decode cJ13_bitCount_95d88 15 = .ok (.lload_n 0, 1) := by decide +kernel
theorem dJ13_bitCount_95d88_16 : decode cJ13_bitCount_95d88 16 = .ok (.iconst 2, 1) := by decide +kernel
theorem dJ13_bitCount_95d88_17 : decode cJ13_bitCount_95d88 17 = .ok (.lushr, 1) := by decide +kernel
theorem dJ13_bitCount_95d88_18 : decode cJ13_bitCount_95d88 18 = .ok (.ldc2_w 316, 3) := by decide +kernel
theorem dJ13_bitCount_95d88_21 : decode cJ13_bitCount_95d88 21 = .ok (.land, 1) := by decide +kernel
theorem dJ13_bitCount_95d88_22 : decode cJ13_bitCount_95d88 22 = .ok (.ladd, 1) := by decide +kernel
theorem dJ13_bitCount_95d88_23 : decode cJ13_bitCount_95d88 23 = .ok (.lstore_n 0, 1) := by decide +kernel
theorem dJ13_bitCount_95d88_24 : decode cJ13_bitCount_95d88 24 = .ok (.lload_n 0, 1) := by decide +kernel
theorem dJ13_bitCount_95d88_25 : decode cJ13_bitCount_95d88 25 = .ok (.lload_n 0, 1) := by decide +kernel
theorem dJ13_bitCount_95d88_26 : decode cJ13_bitCount_95d88 26 = .ok (.iconst 4, 1) := by decide +kernel
theorem dJ13_bitCount_95d88_27 : decode cJ13_bitCount_95d88 27 = .ok (.lushr, 1) := by decide +kernel
theorem dJ13_bitCount_95d88_28 : decode cJ13_bitCount_95d88 28 = .ok (.ladd, 1) := by decide +kernel
theorem dJ13_bitCount_95d88_29 : decode cJ13_bitCount_95d88 29 = .ok (.ldc2_w 318, 3) := by decide +kernel
theorem dJ13_bitCount_95d88_32 : decode cJ13_bitCount_95d88 32 = .ok (.land, 1) := by decide +kernel
theorem dJ13_bitCount_95d88_33 : decode cJ13_bitCount_95d88 33 = .ok (.lstore_n 0, 1) := by decide +kernel
theorem dJ13_bitCount_95d88_34 : decode cJ13_bitCount_95d88 34 = .ok (.lload_n 0, 1) := by decide +kernel
theorem dJ13_bitCount_95d88_35 : decode cJ13_bitCount_95d88 35 = .ok (.lload_n 0, 1) := by decide +kernel
theorem dJ13_bitCount_95d88_36 : decode cJ13_bitCount_95d88 36 = .ok (.bipush 8, 2) := by decide +kernel
theorem dJ13_bitCount_95d88_38 : decode cJ13_bitCount_95d88 38 = .ok (.lushr, 1) := by decide +kernel
theorem dJ13_bitCount_95d88_39 : decode cJ13_bitCount_95d88 39 = .ok (.ladd, 1) := by decide +kernel
theorem dJ13_bitCount_95d88_40 : decode cJ13_bitCount_95d88 40 = .ok (.lstore_n 0, 1) := by decide +kernel
theorem dJ13_bitCount_95d88_41 : decode cJ13_bitCount_95d88 41 = .ok (.lload_n 0, 1) := by decide +kernel
theorem dJ13_bitCount_95d88_42 : decode cJ13_bitCount_95d88 42 = .ok (.lload_n 0, 1) := by decide +kernel
theorem dJ13_bitCount_95d88_43 : decode cJ13_bitCount_95d88 43 = .ok (.bipush 16, 2) := by decide +kernel
theorem dJ13_bitCount_95d88_45 : decode cJ13_bitCount_95d88 45 = .ok (.lushr, 1) := by decide +kernel
theorem dJ13_bitCount_95d88_46 : decode cJ13_bitCount_95d88 46 = .ok (.ladd, 1) := by decide +kernel
theorem dJ13_bitCount_95d88_47 : decode cJ13_bitCount_95d88 47 = .ok (.lstore_n 0, 1) := by decide +kernel
theorem dJ13_bitCount_95d88_48 : decode cJ13_bitCount_95d88 48 = .ok (.lload_n 0, 1) := by decide +kernel
theorem dJ13_bitCount_95d88_49 : decode cJ13_bitCount_95d88 49 = .ok (.lload_n 0, 1) := by decide +kernel
theorem dJ13_bitCount_95d88_50 : decode cJ13_bitCount_95d88 50 = .ok (.bipush 32, 2) := by decide +kernel
theorem dJ13_bitCount_95d88_52 : decode cJ13_bitCount_95d88 52 = .ok (.lushr, 1) := by decide +kernel
theorem dJ13_bitCount_95d88_53 : decode cJ13_bitCount_95d88 53 = .ok (.ladd, 1) := by decide +kernel
theorem dJ13_bitCount_95d88_54 : decode cJ13_bitCount_95d88 54 = .ok (.lstore_n 0, 1) := by decide +kernel
theorem dJ13_bitCount_95d88_55 : decode cJ13_bitCount_95d88 55 = .ok (.lload_n 0, 1) := by decide +kernel
theorem dJ13_bitCount_95d88_56 : decode cJ13_bitCount_95d88 56 = .ok (.l2i, 1) := by decide +kernel
theorem dJ13_bitCount_95d88_57 : decode cJ13_bitCount_95d88 57 = .ok (.bipush 127, 2) := by decide +kernel
theorem dJ13_bitCount_95d88_59 : decode cJ13_bitCount_95d88 59 = .ok (.iand, 1) := by decide +kernel
theorem dJ13_bitCount_95d88_60 : decode cJ13_bitCount_95d88 60 = .ok (.ireturn, 1) := by decide +kernel
theorem dJ7_fill_d0a16_0 : decode cJ7_fill_d0a16 0 = .ok (.iconst 0, 1) := by decide +kernel
theorem dJ7_fill_d0a16_1 : decode cJ7_fill_d0a16 1 = .ok (.istore_n 3, 1) := by decide +kernel
theorem dJ7_fill_d0a16_2 : decode cJ7_fill_d0a16 2 = .ok (.aload_n 0, 1) := by decide +kernel
theorem dJ7_fill_d0a16_3 : decode cJ7_fill_d0a16 3 = .ok (.arraylength, 1) := by decide +kernel
theorem dJ7_fill_d0a16_4 : decode cJ7_fill_d0a16 4 = .ok (.istore 4, 2) := by decide +kernel
theorem dJ7_fill_d0a16_6 : decode cJ7_fill_d0a16 6 = .ok (.iload_n 3, 1) := by decide +kernel
theorem dJ7_fill_d0a16_7 : decode cJ7_fill_d0a16 7 = .ok (.iload 4, 2) := by decide +kernel
theorem dJ7_fill_d0a16_9 : decode cJ7_fill_d0a16 9 = .ok (.if_icmp .ge 13, 3) := by decide +kernel
theorem dJ7_fill_d0a16_12 : decode cJ7_fill_d0a16 12 = .ok (.aload_n 0, 1) := by decide +kernel
theorem dJ7_fill_d0a16_13 : decode cJ7_fill_d0a16 13 = .ok (.iload_n 3, 1) := by decide +kernel
theorem dJ7_fill_d0a16_14 : decode cJ7_fill_d0a16 14 = .ok (.lload_n 1, 1) := by decide +kernel
theorem dJ7_fill_d0a16_15 : decode cJ7_fill_d0a16 15 = .ok (.lastore, 1) := by decide +kernel
theorem dJ7_fill_d0a16_16 : decode cJ7_fill_d0a16 16 = .ok (.iinc 3 1, 3) := by decide +kernel
theorem dJ7_fill_d0a16_19 : decode cJ7_fill_d0a16 19 = .ok (.goto (-13), 3) := by decide +kernel
theorem dJ7_fill_d0a16_22 : decode cJ7_fill_d0a16 22 = .ok (.return_, 1) := by decide +kernel
end
section
theorem dL_law_0 : decode cL_law 0 = .ok (.new 8, 3) := by decide +kernel
theorem dL_law_3 : decode cL_law 3 = .ok (.dup, 1) := by decide +kernel
theorem dL_law_4 : decode cL_law 4 = .ok (.invokespecial 119, 3) := by decide +kernel
theorem dL_law_7 : decode cL_law 7 = .ok (.astore_n 1, 1) := by decide +kernel
theorem dL_law_8 : decode cL_law 8 = .ok (.new 120, 3) := by decide +kernel
theorem dL_law_11 : decode cL_law 11 = .ok (.dup, 1) := by decide +kernel
theorem dL_law_12 : decode cL_law 12 = .ok (.invokespecial 122, 3) := by decide +kernel
theorem dL_law_15 : decode cL_law 15 = .ok (.astore_n 2, 1) := by decide +kernel
theorem dL_law_16 : decode cL_law 16 = .ok (.iconst 1, 1) := by decide +kernel
theorem dL_law_17 : decode cL_law 17 = .ok (.newarray .long, 2) := by decide +kernel
theorem dL_law_19 : decode cL_law 19 = .ok (.astore_n 3, 1) := by decide +kernel
theorem dL_law_20 : decode cL_law 20 = .ok (.iconst 1, 1) := by decide +kernel
theorem dL_law_21 : decode cL_law 21 = .ok (.newarray .double, 2) := by decide +kernel
theorem dL_law_23 : decode cL_law 23 = .ok (.astore 4, 2) := by decide +kernel
theorem dL_law_25 : decode cL_law 25 = .ok (.iconst 0, 1) := by decide +kernel
theorem dL_law_26 : decode cL_law 26 = .ok (.istore 5, 2) := by decide +kernel
theorem dL_law_28 : decode cL_law 28 = .ok (.iload 5, 2) := by decide +kernel
theorem dL_law_30 : decode cL_law 30 = .ok (.aload_n 0, 1) := by decide +kernel
theorem dL_law_31 : decode cL_law 31 = .ok (.arraylength, 1) := by decide +kernel
theorem dL_law_32 : decode cL_law 32 = .ok (.bipush 6, 2) := by decide +kernel
theorem dL_law_34 : decode cL_law 34 = .ok (.isub, 1) := by decide +kernel
theorem dL_law_35 : decode cL_law 35 = .ok (.if_icmp .gt 1579, 3) := by decide +kernel
theorem dL_law_38 : decode cL_law 38 = .ok (.aload_n 0, 1) := by decide +kernel
theorem dL_law_39 : decode cL_law 39 = .ok (.iload 5, 2) := by decide +kernel
theorem dL_law_41 : decode cL_law 41 = .ok (.iaload, 1) := by decide +kernel
theorem dL_law_42 : decode cL_law 42 = .ok (.bipush 63, 2) := by decide +kernel
theorem dL_law_44 : decode cL_law 44 = .ok (.iand, 1) := by decide +kernel
theorem dL_law_45 : decode cL_law 45 = .ok (.tableswitch 1563 0 34 #[155, 195, 223, 251, 291, 304, 380, 444, 496, 564, 592, 644, 696, 724, 776, 804, 817, 845, 873, 901, 929, 981, 1021, 1049, 1089, 1141, 1193, 1233, 1261, 1313, 1377, 1441, 1481, 1521, 1550], 155) := by decide +kernel
theorem dL_law_1595 : decode cL_law 1595 = .ok (.aload_n 1, 1) := by decide +kernel
theorem dL_law_1596 : decode cL_law 1596 = .ok (.invokevirtual 239, 3) := by decide +kernel
theorem dL_law_1599 : decode cL_law 1599 = .ok (.pop2, 1) := by decide +kernel
theorem dL_law_1600 : decode cL_law 1600 = .ok (.aload_n 2, 1) := by decide +kernel
theorem dL_law_1601 : decode cL_law 1601 = .ok (.invokevirtual 243, 3) := by decide +kernel
theorem dL_law_1604 : decode cL_law 1604 = .ok (.pop2, 1) := by decide +kernel
theorem dL_law_1605 : decode cL_law 1605 = .ok (.goto 3, 3) := by decide +kernel
theorem dL_law_1608 : decode cL_law 1608 = .ok (.iinc 5 6, 3) := by decide +kernel
theorem dL_law_1611 : decode cL_law 1611 = .ok (.goto (-1583), 3) := by decide +kernel
theorem dL_law_1614 : decode cL_law 1614 = .ok (.iconst 1, 1) := by decide +kernel
theorem dL_law_1615 : decode cL_law 1615 = .ok (.ireturn, 1) := by decide +kernel
end
section
/-- the words of the tables that go with every state of one launch -/
def zWS : List Cond := lw_tbl.filter goodWord
theorem zws_m (i : Nat) {w : Cond} (h : lw_tbl[i]? = some w) (hg : goodWord w = true) : w ∈ zWS := List.mem_filter.mpr ⟨List.mem_of_getElem? h, hg⟩
theorem m_1 : Cond.selects "ScrimshawKernel$Flood" ⟨"ScrimshawKernel$Flood", "countParts", "(Z)I"⟩ ⟨"ScrimshawKernel$Flood", "countParts", "(Z)I"⟩ ∈ zWS := zws_m 1 (by decide +kernel) rfl
theorem m_3 : Cond.selects "ScrimshawKernel$Flood" ⟨"ScrimshawKernel$Flood", "spread", "(Z)V"⟩ ⟨"ScrimshawKernel$Flood", "spread", "(Z)V"⟩ ∈ zWS := zws_m 3 (by decide +kernel) rfl
theorem m_4 : Cond.selects "ScrimshawKernel$Flood" ⟨"ScrimshawKernel$Flood", "spreadInto", "(IZ)Z"⟩ ⟨"ScrimshawKernel$Flood", "spreadInto", "(IZ)Z"⟩ ∈ zWS := zws_m 4 (by decide +kernel) rfl
theorem m_5 : Cond.selects "ScrimshawKernel$Flood" ⟨"ScrimshawKernel$Flood", "removeFound", "()V"⟩ ⟨"ScrimshawKernel$Flood", "removeFound", "()V"⟩ ∈ zWS := zws_m 5 (by decide +kernel) rfl
theorem m_6 : Cond.selects "ScrimshawKernel$Flood" ⟨"ScrimshawKernel$Flood", "findHoles", "(LScrimshawKernel$Fields;)V"⟩ ⟨"ScrimshawKernel$Flood", "findHoles", "(LScrimshawKernel$Fields;)V"⟩ ∈ zWS := zws_m 6 (by decide +kernel) rfl
theorem m_7 : Cond.selects "ScrimshawKernel$Fields" ⟨"ScrimshawKernel$Fields", "columns", "()J"⟩ ⟨"ScrimshawKernel$Fields", "columns", "()J"⟩ ∈ zWS := zws_m 7 (by decide +kernel) rfl
theorem m_13 : Cond.selects "ScrimshawKernel" ⟨"ScrimshawKernel", "digestOfContours", "(JLScrimshawKernel$Fields;)J"⟩ ⟨"ScrimshawKernel", "digestOfContours", "(JLScrimshawKernel$Fields;)J"⟩ ∈ zWS := zws_m 13 (by decide +kernel) rfl
theorem m_16 : Cond.selects "ScrimshawKernel" ⟨"ScrimshawKernel", "digestOfStrips", "(JLScrimshawKernel$Fields;)J"⟩ ⟨"ScrimshawKernel", "digestOfStrips", "(JLScrimshawKernel$Fields;)J"⟩ ∈ zWS := zws_m 16 (by decide +kernel) rfl
theorem m_27 : Cond.selects "ScrimshawKernelModel" ⟨"ScrimshawKernelModel", "edgesNow", "(I)I"⟩ ⟨"ScrimshawKernelModel", "edgesNow", "(I)I"⟩ ∈ zWS := zws_m 27 (by decide +kernel) rfl
theorem m_28 : Cond.selects "ScrimshawKernelModel" ⟨"ScrimshawKernelModel", "holesNow", "(I)I"⟩ ⟨"ScrimshawKernelModel", "holesNow", "(I)I"⟩ ∈ zWS := zws_m 28 (by decide +kernel) rfl
theorem m_29 : Cond.selects "ScrimshawKernelModel" ⟨"ScrimshawKernelModel", "boundNow", "(II)I"⟩ ⟨"ScrimshawKernelModel", "boundNow", "(II)I"⟩ ∈ zWS := zws_m 29 (by decide +kernel) rfl
theorem m_30 : Cond.selects "ScrimshawKernelModel" ⟨"ScrimshawKernelModel", "contoursNow", "(I)[I"⟩ ⟨"ScrimshawKernelModel", "contoursNow", "(I)[I"⟩ ∈ zWS := zws_m 30 (by decide +kernel) rfl
theorem m_33 : Cond.selects "ScrimshawKernelModel" ⟨"ScrimshawKernelModel", "stripsNow", "(I)[I"⟩ ⟨"ScrimshawKernelModel", "stripsNow", "(I)[I"⟩ ∈ zWS := zws_m 33 (by decide +kernel) rfl
theorem m_36 : Cond.initialized "ScrimshawKernel" ∈ zWS := zws_m 36 (by decide +kernel) rfl
theorem m_37 : Cond.initialized "ScrimshawKernel$Fields" ∈ zWS := zws_m 37 (by decide +kernel) rfl
theorem m_38 : Cond.initialized "ScrimshawKernel$Pen" ∈ zWS := zws_m 38 (by decide +kernel) rfl
theorem m_39 : Cond.initialized "ScrimshawKernel$History" ∈ zWS := zws_m 39 (by decide +kernel) rfl
theorem m_40 : Cond.initialized "ScrimshawKernel$Flood" ∈ zWS := zws_m 40 (by decide +kernel) rfl
theorem m_41 : Cond.initialized "ScrimshawKernel$Outline" ∈ zWS := zws_m 41 (by decide +kernel) rfl
theorem m_42 : Cond.initialized "ScrimshawKernel$StripWalk" ∈ zWS := zws_m 42 (by decide +kernel) rfl
theorem m_43 : Cond.initialized "ScrimshawKernelModel" ∈ zWS := zws_m 43 (by decide +kernel) rfl
theorem m_44 : Cond.initialized "java/lang/Throwable" ∈ zWS := zws_m 44 (by decide +kernel) rfl
theorem m_47 : Cond.initialized "java/lang/IllegalArgumentException" ∈ zWS := zws_m 47 (by decide +kernel) rfl
theorem m_48 : Cond.initialized "java/lang/IllegalStateException" ∈ zWS := zws_m 48 (by decide +kernel) rfl
theorem m_49 : Cond.initialized "java/lang/IndexOutOfBoundsException" ∈ zWS := zws_m 49 (by decide +kernel) rfl
theorem m_50 : Cond.initialized "java/lang/Math" ∈ zWS := zws_m 50 (by decide +kernel) rfl
theorem m_51 : Cond.initialized "java/util/Arrays" ∈ zWS := zws_m 51 (by decide +kernel) rfl
theorem m_52 : Cond.initialized "java/lang/Long" ∈ zWS := zws_m 52 (by decide +kernel) rfl
theorem m_54 : Cond.classLink "ScrimshawKernelLaw" (8 : Nat) "ScrimshawKernel" ∈ zWS := zws_m 54 (by decide +kernel) rfl
theorem m_55 : Cond.instantiable "ScrimshawKernel" (7 : Nat) ∈ zWS := zws_m 55 (by decide +kernel) rfl
theorem m_56 : Cond.methodLink "ScrimshawKernelLaw" (119 : Nat) ({ cls := "ScrimshawKernel", name := "<init>", desc := "()V" } : MethodName) ∈ zWS := zws_m 56 (by decide +kernel) rfl
theorem m_57 : Cond.instanceMethod ({ cls := "ScrimshawKernel", name := "<init>", desc := "()V" } : MethodName) ∈ zWS := zws_m 57 (by decide +kernel) rfl
theorem m_58 : Cond.code ({ cls := "ScrimshawKernel", name := "<init>", desc := "()V" } : MethodName) prog_1_method_1_code (2 : Nat) (Option.none : Option FieldType) ∈ zWS := zws_m 58 (by decide +kernel) rfl
theorem m_59 : Cond.methodLink "ScrimshawKernel" (3 : Nat) ({ cls := "java/lang/Object", name := "<init>", desc := "()V" } : MethodName) ∈ zWS := zws_m 59 (by decide +kernel) rfl
theorem m_60 : Cond.instanceMethod ({ cls := "java/lang/Object", name := "<init>", desc := "()V" } : MethodName) ∈ zWS := zws_m 60 (by decide +kernel) rfl
theorem m_61 : Cond.code ({ cls := "java/lang/Object", name := "<init>", desc := "()V" } : MethodName) object_method_1_code (1 : Nat) (Option.none : Option FieldType) ∈ zWS := zws_m 61 (by decide +kernel) rfl
theorem m_62 : Cond.classLink "ScrimshawKernel" (9 : Nat) "ScrimshawKernel$Fields" ∈ zWS := zws_m 62 (by decide +kernel) rfl
theorem m_63 : lw_tbl[63]? = some (Cond.arrayOver (FieldType.object "ScrimshawKernel$Fields")) := by decide +kernel
theorem m_64 : Cond.instantiable "ScrimshawKernel$Fields" (1 : Nat) ∈ zWS := zws_m 64 (by decide +kernel) rfl
theorem m_65 : lw_tbl[65]? = some (Cond.methodLinkNest "ScrimshawKernel" (15 : Nat) ({ cls := "ScrimshawKernel$Fields", name := "<init>", desc := "()V" } : MethodName) "ScrimshawKernel") := by decide +kernel
theorem m_66 : Cond.instanceMethod ({ cls := "ScrimshawKernel$Fields", name := "<init>", desc := "()V" } : MethodName) ∈ zWS := zws_m 66 (by decide +kernel) rfl
theorem m_67 : Cond.code ({ cls := "ScrimshawKernel$Fields", name := "<init>", desc := "()V" } : MethodName) prog_2_method_1_code (1 : Nat) (Option.none : Option FieldType) ∈ zWS := zws_m 67 (by decide +kernel) rfl
theorem m_68 : Cond.methodLink "ScrimshawKernel$Fields" (3 : Nat) ({ cls := "java/lang/Object", name := "<init>", desc := "()V" } : MethodName) ∈ zWS := zws_m 68 (by decide +kernel) rfl
theorem m_69 : Cond.fieldLink "ScrimshawKernel$Fields" (9 : Nat) "ScrimshawKernel$Fields" "rows" "[J" ∈ zWS := zws_m 69 (by decide +kernel) rfl
theorem m_70 : Cond.laysFinal "ScrimshawKernel$Fields" "ScrimshawKernel$Fields" "rows" "[J" ∈ zWS := zws_m 70 (by decide +kernel) rfl
theorem m_73 : Cond.arrayClass FieldType.long ∈ zWS := zws_m 73 (by decide +kernel) rfl
theorem m_74 : Cond.classLink "ScrimshawKernel" (20 : Nat) "ScrimshawKernel$Pen" ∈ zWS := zws_m 74 (by decide +kernel) rfl
theorem m_75 : Cond.instantiable "ScrimshawKernel$Pen" (8 : Nat) ∈ zWS := zws_m 75 (by decide +kernel) rfl
theorem m_76 : lw_tbl[76]? = some (Cond.methodLinkNest "ScrimshawKernel" (22 : Nat) ({ cls := "ScrimshawKernel$Pen", name := "<init>", desc := "()V" } : MethodName) "ScrimshawKernel") := by decide +kernel
theorem m_77 : Cond.instanceMethod ({ cls := "ScrimshawKernel$Pen", name := "<init>", desc := "()V" } : MethodName) ∈ zWS := zws_m 77 (by decide +kernel) rfl
theorem m_78 : Cond.code ({ cls := "ScrimshawKernel$Pen", name := "<init>", desc := "()V" } : MethodName) prog_6_method_1_code (1 : Nat) (Option.none : Option FieldType) ∈ zWS := zws_m 78 (by decide +kernel) rfl
theorem m_79 : Cond.methodLink "ScrimshawKernel$Pen" (3 : Nat) ({ cls := "java/lang/Object", name := "<init>", desc := "()V" } : MethodName) ∈ zWS := zws_m 79 (by decide +kernel) rfl
theorem m_80 : Cond.fieldLink "ScrimshawKernel$Pen" (9 : Nat) "ScrimshawKernel$Pen" "xs" "[I" ∈ zWS := zws_m 80 (by decide +kernel) rfl
theorem m_81 : Cond.fieldLink "ScrimshawKernel$Pen" (15 : Nat) "ScrimshawKernel$Pen" "ys" "[I" ∈ zWS := zws_m 81 (by decide +kernel) rfl
theorem m_82 : Cond.fieldLink "ScrimshawKernel$Pen" (18 : Nat) "ScrimshawKernel$Pen" "length" "I" ∈ zWS := zws_m 82 (by decide +kernel) rfl
theorem m_87 : Cond.fieldLink "ScrimshawKernel$Pen" (22 : Nat) "ScrimshawKernel$Pen" "crossings" "[I" ∈ zWS := zws_m 87 (by decide +kernel) rfl
theorem m_88 : Cond.laysFinal "ScrimshawKernel$Pen" "ScrimshawKernel$Pen" "xs" "[I" ∈ zWS := zws_m 88 (by decide +kernel) rfl
theorem m_90 : Cond.laysFinal "ScrimshawKernel$Pen" "ScrimshawKernel$Pen" "ys" "[I" ∈ zWS := zws_m 90 (by decide +kernel) rfl
theorem m_92 : Cond.lays "ScrimshawKernel$Pen" "ScrimshawKernel$Pen" "length" "I" ∈ zWS := zws_m 92 (by decide +kernel) rfl
theorem m_94 : Cond.lays "ScrimshawKernel$Pen" "ScrimshawKernel$Pen" "firstX" "I" ∈ zWS := zws_m 94 (by decide +kernel) rfl
theorem m_96 : Cond.lays "ScrimshawKernel$Pen" "ScrimshawKernel$Pen" "firstY" "I" ∈ zWS := zws_m 96 (by decide +kernel) rfl
theorem m_98 : Cond.lays "ScrimshawKernel$Pen" "ScrimshawKernel$Pen" "atX" "I" ∈ zWS := zws_m 98 (by decide +kernel) rfl
theorem m_100 : Cond.lays "ScrimshawKernel$Pen" "ScrimshawKernel$Pen" "atY" "I" ∈ zWS := zws_m 100 (by decide +kernel) rfl
theorem m_102 : Cond.laysFinal "ScrimshawKernel$Pen" "ScrimshawKernel$Pen" "crossings" "[I" ∈ zWS := zws_m 102 (by decide +kernel) rfl
theorem m_105 : Cond.arrayClass FieldType.int ∈ zWS := zws_m 105 (by decide +kernel) rfl
theorem m_106 : Cond.classLink "ScrimshawKernel" (27 : Nat) "ScrimshawKernel$History" ∈ zWS := zws_m 106 (by decide +kernel) rfl
theorem m_107 : Cond.instantiable "ScrimshawKernel$History" (4 : Nat) ∈ zWS := zws_m 107 (by decide +kernel) rfl
theorem m_108 : Cond.methodLink "ScrimshawKernel" (29 : Nat) ({ cls := "ScrimshawKernel$History", name := "<init>", desc := "()V" } : MethodName) ∈ zWS := zws_m 108 (by decide +kernel) rfl
theorem m_109 : Cond.instanceMethod ({ cls := "ScrimshawKernel$History", name := "<init>", desc := "()V" } : MethodName) ∈ zWS := zws_m 109 (by decide +kernel) rfl
theorem m_110 : Cond.code ({ cls := "ScrimshawKernel$History", name := "<init>", desc := "()V" } : MethodName) prog_4_method_1_code (2 : Nat) (Option.none : Option FieldType) ∈ zWS := zws_m 110 (by decide +kernel) rfl
theorem m_111 : Cond.methodLink "ScrimshawKernel$History" (3 : Nat) ({ cls := "java/lang/Object", name := "<init>", desc := "()V" } : MethodName) ∈ zWS := zws_m 111 (by decide +kernel) rfl
theorem m_112 : Cond.classLink "ScrimshawKernel$History" (9 : Nat) "ScrimshawKernel$Fields" ∈ zWS := zws_m 112 (by decide +kernel) rfl
theorem m_113 : lw_tbl[113]? = some (Cond.methodLinkNest "ScrimshawKernel$History" (21 : Nat) ({ cls := "ScrimshawKernel$Fields", name := "<init>", desc := "()V" } : MethodName) "ScrimshawKernel") := by decide +kernel
theorem m_114 : Cond.fieldLink "ScrimshawKernel$History" (11 : Nat) "ScrimshawKernel$History" "kept" "[LScrimshawKernel$Fields;" ∈ zWS := zws_m 114 (by decide +kernel) rfl
theorem m_115 : Cond.fieldLink "ScrimshawKernel$History" (17 : Nat) "ScrimshawKernel$History" "keptRegions" "[I" ∈ zWS := zws_m 115 (by decide +kernel) rfl
theorem m_117 : Cond.fieldLink "ScrimshawKernel$History" (22 : Nat) "ScrimshawKernel$History" "count" "I" ∈ zWS := zws_m 117 (by decide +kernel) rfl
theorem m_118 : Cond.laysFinal "ScrimshawKernel$History" "ScrimshawKernel$History" "kept" "[LScrimshawKernel$Fields;" ∈ zWS := zws_m 118 (by decide +kernel) rfl
theorem m_120 : Cond.laysFinal "ScrimshawKernel$History" "ScrimshawKernel$History" "keptRegions" "[I" ∈ zWS := zws_m 120 (by decide +kernel) rfl
theorem m_122 : Cond.lays "ScrimshawKernel$History" "ScrimshawKernel$History" "latest" "I" ∈ zWS := zws_m 122 (by decide +kernel) rfl
theorem m_124 : Cond.lays "ScrimshawKernel$History" "ScrimshawKernel$History" "count" "I" ∈ zWS := zws_m 124 (by decide +kernel) rfl
theorem m_127 : Cond.classLink "ScrimshawKernel" (34 : Nat) "ScrimshawKernel$Flood" ∈ zWS := zws_m 127 (by decide +kernel) rfl
theorem m_128 : Cond.instantiable "ScrimshawKernel$Flood" (4 : Nat) ∈ zWS := zws_m 128 (by decide +kernel) rfl
theorem m_129 : lw_tbl[129]? = some (Cond.methodLinkNest "ScrimshawKernel" (36 : Nat) ({ cls := "ScrimshawKernel$Flood", name := "<init>", desc := "()V" } : MethodName) "ScrimshawKernel") := by decide +kernel
theorem m_130 : Cond.instanceMethod ({ cls := "ScrimshawKernel$Flood", name := "<init>", desc := "()V" } : MethodName) ∈ zWS := zws_m 130 (by decide +kernel) rfl
theorem m_131 : Cond.code ({ cls := "ScrimshawKernel$Flood", name := "<init>", desc := "()V" } : MethodName) prog_3_method_1_code (1 : Nat) (Option.none : Option FieldType) ∈ zWS := zws_m 131 (by decide +kernel) rfl
theorem m_132 : Cond.methodLink "ScrimshawKernel$Flood" (3 : Nat) ({ cls := "java/lang/Object", name := "<init>", desc := "()V" } : MethodName) ∈ zWS := zws_m 132 (by decide +kernel) rfl
theorem m_133 : Cond.classLink "ScrimshawKernel$Flood" (9 : Nat) "ScrimshawKernel$Fields" ∈ zWS := zws_m 133 (by decide +kernel) rfl
theorem m_134 : lw_tbl[134]? = some (Cond.methodLinkNest "ScrimshawKernel$Flood" (11 : Nat) ({ cls := "ScrimshawKernel$Fields", name := "<init>", desc := "()V" } : MethodName) "ScrimshawKernel") := by decide +kernel
theorem m_135 : Cond.fieldLink "ScrimshawKernel$Flood" (12 : Nat) "ScrimshawKernel$Flood" "rest" "LScrimshawKernel$Fields;" ∈ zWS := zws_m 135 (by decide +kernel) rfl
theorem m_136 : Cond.fieldLink "ScrimshawKernel$Flood" (18 : Nat) "ScrimshawKernel$Flood" "found" "LScrimshawKernel$Fields;" ∈ zWS := zws_m 136 (by decide +kernel) rfl
theorem m_137 : Cond.fieldLink "ScrimshawKernel$Flood" (59 : Nat) "ScrimshawKernel$Flood" "low" "I" ∈ zWS := zws_m 137 (by decide +kernel) rfl
theorem m_138 : Cond.fieldLink "ScrimshawKernel$Flood" (63 : Nat) "ScrimshawKernel$Flood" "high" "I" ∈ zWS := zws_m 138 (by decide +kernel) rfl
theorem m_139 : Cond.laysFinal "ScrimshawKernel$Flood" "ScrimshawKernel$Flood" "rest" "LScrimshawKernel$Fields;" ∈ zWS := zws_m 139 (by decide +kernel) rfl
theorem m_141 : Cond.laysFinal "ScrimshawKernel$Flood" "ScrimshawKernel$Flood" "found" "LScrimshawKernel$Fields;" ∈ zWS := zws_m 141 (by decide +kernel) rfl
theorem m_143 : Cond.lays "ScrimshawKernel$Flood" "ScrimshawKernel$Flood" "low" "I" ∈ zWS := zws_m 143 (by decide +kernel) rfl
theorem m_145 : Cond.lays "ScrimshawKernel$Flood" "ScrimshawKernel$Flood" "high" "I" ∈ zWS := zws_m 145 (by decide +kernel) rfl
theorem m_148 : Cond.classLink "ScrimshawKernel" (41 : Nat) "ScrimshawKernel$Outline" ∈ zWS := zws_m 148 (by decide +kernel) rfl
theorem m_149 : Cond.instantiable "ScrimshawKernel$Outline" (12 : Nat) ∈ zWS := zws_m 149 (by decide +kernel) rfl
theorem m_150 : lw_tbl[150]? = some (Cond.methodLinkNest "ScrimshawKernel" (43 : Nat) ({ cls := "ScrimshawKernel$Outline", name := "<init>", desc := "()V" } : MethodName) "ScrimshawKernel") := by decide +kernel
theorem m_151 : Cond.instanceMethod ({ cls := "ScrimshawKernel$Outline", name := "<init>", desc := "()V" } : MethodName) ∈ zWS := zws_m 151 (by decide +kernel) rfl
theorem m_152 : Cond.code ({ cls := "ScrimshawKernel$Outline", name := "<init>", desc := "()V" } : MethodName) prog_5_method_1_code (1 : Nat) (Option.none : Option FieldType) ∈ zWS := zws_m 152 (by decide +kernel) rfl
theorem m_153 : Cond.methodLink "ScrimshawKernel$Outline" (3 : Nat) ({ cls := "java/lang/Object", name := "<init>", desc := "()V" } : MethodName) ∈ zWS := zws_m 153 (by decide +kernel) rfl
theorem m_154 : Cond.classLink "ScrimshawKernel$Outline" (9 : Nat) "ScrimshawKernel$Fields" ∈ zWS := zws_m 154 (by decide +kernel) rfl
theorem m_155 : lw_tbl[155]? = some (Cond.methodLinkNest "ScrimshawKernel$Outline" (11 : Nat) ({ cls := "ScrimshawKernel$Fields", name := "<init>", desc := "()V" } : MethodName) "ScrimshawKernel") := by decide +kernel
theorem m_156 : Cond.fieldLink "ScrimshawKernel$Outline" (12 : Nat) "ScrimshawKernel$Outline" "region" "LScrimshawKernel$Fields;" ∈ zWS := zws_m 156 (by decide +kernel) rfl
theorem m_157 : Cond.fieldLink "ScrimshawKernel$Outline" (18 : Nat) "ScrimshawKernel$Outline" "walkedRight" "LScrimshawKernel$Fields;" ∈ zWS := zws_m 157 (by decide +kernel) rfl
theorem m_158 : Cond.fieldLink "ScrimshawKernel$Outline" (21 : Nat) "ScrimshawKernel$Outline" "walkedUp" "LScrimshawKernel$Fields;" ∈ zWS := zws_m 158 (by decide +kernel) rfl
theorem m_159 : Cond.fieldLink "ScrimshawKernel$Outline" (51 : Nat) "ScrimshawKernel$Outline" "fromY" "I" ∈ zWS := zws_m 159 (by decide +kernel) rfl
theorem m_165 : Cond.fieldLink "ScrimshawKernel$Outline" (54 : Nat) "ScrimshawKernel$Outline" "wanted" "I" ∈ zWS := zws_m 165 (by decide +kernel) rfl
theorem m_168 : Cond.laysFinal "ScrimshawKernel$Outline" "ScrimshawKernel$Outline" "region" "LScrimshawKernel$Fields;" ∈ zWS := zws_m 168 (by decide +kernel) rfl
theorem m_170 : Cond.laysFinal "ScrimshawKernel$Outline" "ScrimshawKernel$Outline" "walkedRight" "LScrimshawKernel$Fields;" ∈ zWS := zws_m 170 (by decide +kernel) rfl
theorem m_172 : Cond.laysFinal "ScrimshawKernel$Outline" "ScrimshawKernel$Outline" "walkedUp" "LScrimshawKernel$Fields;" ∈ zWS := zws_m 172 (by decide +kernel) rfl
theorem m_174 : Cond.lays "ScrimshawKernel$Outline" "ScrimshawKernel$Outline" "fromY" "I" ∈ zWS := zws_m 174 (by decide +kernel) rfl
theorem m_176 : Cond.lays "ScrimshawKernel$Outline" "ScrimshawKernel$Outline" "x" "I" ∈ zWS := zws_m 176 (by decide +kernel) rfl
theorem m_178 : Cond.lays "ScrimshawKernel$Outline" "ScrimshawKernel$Outline" "y" "I" ∈ zWS := zws_m 178 (by decide +kernel) rfl
theorem m_180 : Cond.lays "ScrimshawKernel$Outline" "ScrimshawKernel$Outline" "way" "I" ∈ zWS := zws_m 180 (by decide +kernel) rfl
theorem m_182 : Cond.lays "ScrimshawKernel$Outline" "ScrimshawKernel$Outline" "cornerCount" "I" ∈ zWS := zws_m 182 (by decide +kernel) rfl
theorem m_184 : Cond.lays "ScrimshawKernel$Outline" "ScrimshawKernel$Outline" "areaAround" "I" ∈ zWS := zws_m 184 (by decide +kernel) rfl
theorem m_186 : Cond.lays "ScrimshawKernel$Outline" "ScrimshawKernel$Outline" "wanted" "I" ∈ zWS := zws_m 186 (by decide +kernel) rfl
theorem m_188 : Cond.lays "ScrimshawKernel$Outline" "ScrimshawKernel$Outline" "wantedX" "I" ∈ zWS := zws_m 188 (by decide +kernel) rfl
theorem m_190 : Cond.lays "ScrimshawKernel$Outline" "ScrimshawKernel$Outline" "wantedY" "I" ∈ zWS := zws_m 190 (by decide +kernel) rfl
theorem m_193 : Cond.classLink "ScrimshawKernel" (48 : Nat) "ScrimshawKernel$StripWalk" ∈ zWS := zws_m 193 (by decide +kernel) rfl
theorem m_194 : Cond.instantiable "ScrimshawKernel$StripWalk" (7 : Nat) ∈ zWS := zws_m 194 (by decide +kernel) rfl
theorem m_195 : lw_tbl[195]? = some (Cond.methodLinkNest "ScrimshawKernel" (50 : Nat) ({ cls := "ScrimshawKernel$StripWalk", name := "<init>", desc := "()V" } : MethodName) "ScrimshawKernel") := by decide +kernel
theorem m_196 : Cond.instanceMethod ({ cls := "ScrimshawKernel$StripWalk", name := "<init>", desc := "()V" } : MethodName) ∈ zWS := zws_m 196 (by decide +kernel) rfl
theorem m_197 : Cond.code ({ cls := "ScrimshawKernel$StripWalk", name := "<init>", desc := "()V" } : MethodName) prog_7_method_1_code (1 : Nat) (Option.none : Option FieldType) ∈ zWS := zws_m 197 (by decide +kernel) rfl
theorem m_198 : Cond.methodLink "ScrimshawKernel$StripWalk" (3 : Nat) ({ cls := "java/lang/Object", name := "<init>", desc := "()V" } : MethodName) ∈ zWS := zws_m 198 (by decide +kernel) rfl
theorem m_199 : Cond.classLink "ScrimshawKernel$StripWalk" (9 : Nat) "ScrimshawKernel$Fields" ∈ zWS := zws_m 199 (by decide +kernel) rfl
theorem m_200 : lw_tbl[200]? = some (Cond.methodLinkNest "ScrimshawKernel$StripWalk" (11 : Nat) ({ cls := "ScrimshawKernel$Fields", name := "<init>", desc := "()V" } : MethodName) "ScrimshawKernel") := by decide +kernel
theorem m_201 : Cond.fieldLink "ScrimshawKernel$StripWalk" (12 : Nat) "ScrimshawKernel$StripWalk" "region" "LScrimshawKernel$Fields;" ∈ zWS := zws_m 201 (by decide +kernel) rfl
theorem m_202 : Cond.fieldLink "ScrimshawKernel$StripWalk" (42 : Nat) "ScrimshawKernel$StripWalk" "fromY" "I" ∈ zWS := zws_m 202 (by decide +kernel) rfl
theorem m_203 : Cond.fieldLink "ScrimshawKernel$StripWalk" (49 : Nat) "ScrimshawKernel$StripWalk" "toCome" "J" ∈ zWS := zws_m 203 (by decide +kernel) rfl
theorem m_208 : Cond.laysFinal "ScrimshawKernel$StripWalk" "ScrimshawKernel$StripWalk" "region" "LScrimshawKernel$Fields;" ∈ zWS := zws_m 208 (by decide +kernel) rfl
theorem m_210 : Cond.lays "ScrimshawKernel$StripWalk" "ScrimshawKernel$StripWalk" "fromY" "I" ∈ zWS := zws_m 210 (by decide +kernel) rfl
theorem m_212 : Cond.lays "ScrimshawKernel$StripWalk" "ScrimshawKernel$StripWalk" "toCome" "J" ∈ zWS := zws_m 212 (by decide +kernel) rfl
theorem m_214 : Cond.lays "ScrimshawKernel$StripWalk" "ScrimshawKernel$StripWalk" "x" "I" ∈ zWS := zws_m 214 (by decide +kernel) rfl
theorem m_216 : Cond.lays "ScrimshawKernel$StripWalk" "ScrimshawKernel$StripWalk" "y" "I" ∈ zWS := zws_m 216 (by decide +kernel) rfl
theorem m_218 : Cond.lays "ScrimshawKernel$StripWalk" "ScrimshawKernel$StripWalk" "width" "I" ∈ zWS := zws_m 218 (by decide +kernel) rfl
theorem m_220 : Cond.lays "ScrimshawKernel$StripWalk" "ScrimshawKernel$StripWalk" "height" "I" ∈ zWS := zws_m 220 (by decide +kernel) rfl
theorem m_223 : Cond.fieldLink "ScrimshawKernel" (11 : Nat) "ScrimshawKernel" "regions" "[LScrimshawKernel$Fields;" ∈ zWS := zws_m 223 (by decide +kernel) rfl
theorem m_224 : Cond.fieldLink "ScrimshawKernel" (16 : Nat) "ScrimshawKernel" "spare" "LScrimshawKernel$Fields;" ∈ zWS := zws_m 224 (by decide +kernel) rfl
theorem m_225 : Cond.fieldLink "ScrimshawKernel" (23 : Nat) "ScrimshawKernel" "pen" "LScrimshawKernel$Pen;" ∈ zWS := zws_m 225 (by decide +kernel) rfl
theorem m_226 : Cond.fieldLink "ScrimshawKernel" (30 : Nat) "ScrimshawKernel" "history" "LScrimshawKernel$History;" ∈ zWS := zws_m 226 (by decide +kernel) rfl
theorem m_227 : Cond.fieldLink "ScrimshawKernel" (37 : Nat) "ScrimshawKernel" "flood" "LScrimshawKernel$Flood;" ∈ zWS := zws_m 227 (by decide +kernel) rfl
theorem m_228 : Cond.fieldLink "ScrimshawKernel" (44 : Nat) "ScrimshawKernel" "outline" "LScrimshawKernel$Outline;" ∈ zWS := zws_m 228 (by decide +kernel) rfl
theorem m_229 : Cond.fieldLink "ScrimshawKernel" (51 : Nat) "ScrimshawKernel" "stripWalk" "LScrimshawKernel$StripWalk;" ∈ zWS := zws_m 229 (by decide +kernel) rfl
theorem m_230 : Cond.laysFinal "ScrimshawKernel" "ScrimshawKernel" "regions" "[LScrimshawKernel$Fields;" ∈ zWS := zws_m 230 (by decide +kernel) rfl
theorem m_232 : Cond.laysFinal "ScrimshawKernel" "ScrimshawKernel" "spare" "LScrimshawKernel$Fields;" ∈ zWS := zws_m 232 (by decide +kernel) rfl
theorem m_234 : Cond.laysFinal "ScrimshawKernel" "ScrimshawKernel" "pen" "LScrimshawKernel$Pen;" ∈ zWS := zws_m 234 (by decide +kernel) rfl
theorem m_236 : Cond.laysFinal "ScrimshawKernel" "ScrimshawKernel" "history" "LScrimshawKernel$History;" ∈ zWS := zws_m 236 (by decide +kernel) rfl
theorem m_238 : Cond.laysFinal "ScrimshawKernel" "ScrimshawKernel" "flood" "LScrimshawKernel$Flood;" ∈ zWS := zws_m 238 (by decide +kernel) rfl
theorem m_240 : Cond.laysFinal "ScrimshawKernel" "ScrimshawKernel" "outline" "LScrimshawKernel$Outline;" ∈ zWS := zws_m 240 (by decide +kernel) rfl
theorem m_242 : Cond.laysFinal "ScrimshawKernel" "ScrimshawKernel" "stripWalk" "LScrimshawKernel$StripWalk;" ∈ zWS := zws_m 242 (by decide +kernel) rfl
theorem m_249 : Cond.methodLink "ScrimshawKernel" (66 : Nat) ({ cls := "ScrimshawKernel$Pen", name := "length", desc := "()I" } : MethodName) ∈ zWS := zws_m 249 (by decide +kernel) rfl
theorem m_250 : Cond.instanceMethod ({ cls := "ScrimshawKernel$Pen", name := "length", desc := "()I" } : MethodName) ∈ zWS := zws_m 250 (by decide +kernel) rfl
theorem m_251 : Cond.selects "ScrimshawKernel$Pen" ({ cls := "ScrimshawKernel$Pen", name := "length", desc := "()I" } : MethodName) ({ cls := "ScrimshawKernel$Pen", name := "length", desc := "()I" } : MethodName) ∈ zWS := zws_m 251 (by decide +kernel) rfl
theorem m_252 : Cond.code ({ cls := "ScrimshawKernel$Pen", name := "length", desc := "()I" } : MethodName) prog_6_method_2_code (1 : Nat) (Option.some FieldType.int) ∈ zWS := zws_m 252 (by decide +kernel) rfl
theorem m_270 : Cond.instanceMethod ({ cls := "ScrimshawKernel$Fields", name := "copy", desc := "(LScrimshawKernel$Fields;)V" } : MethodName) ∈ zWS := zws_m 270 (by decide +kernel) rfl
theorem m_271 : Cond.selects "ScrimshawKernel$Fields" ({ cls := "ScrimshawKernel$Fields", name := "copy", desc := "(LScrimshawKernel$Fields;)V" } : MethodName) ({ cls := "ScrimshawKernel$Fields", name := "copy", desc := "(LScrimshawKernel$Fields;)V" } : MethodName) ∈ zWS := zws_m 271 (by decide +kernel) rfl
theorem m_272 : Cond.code ({ cls := "ScrimshawKernel$Fields", name := "copy", desc := "(LScrimshawKernel$Fields;)V" } : MethodName) prog_2_method_8_code (3 : Nat) (Option.none : Option FieldType) ∈ zWS := zws_m 272 (by decide +kernel) rfl
theorem m_273 : Cond.methodLink "ScrimshawKernel$Fields" (25 : Nat) ({ cls := "ScrimshawKernel$Fields", name := "row", desc := "(I)J" } : MethodName) ∈ zWS := zws_m 273 (by decide +kernel) rfl
theorem m_274 : Cond.instanceMethod ({ cls := "ScrimshawKernel$Fields", name := "row", desc := "(I)J" } : MethodName) ∈ zWS := zws_m 274 (by decide +kernel) rfl
theorem m_275 : Cond.selects "ScrimshawKernel$Fields" ({ cls := "ScrimshawKernel$Fields", name := "row", desc := "(I)J" } : MethodName) ({ cls := "ScrimshawKernel$Fields", name := "row", desc := "(I)J" } : MethodName) ∈ zWS := zws_m 275 (by decide +kernel) rfl
theorem m_276 : Cond.code ({ cls := "ScrimshawKernel$Fields", name := "row", desc := "(I)J" } : MethodName) prog_2_method_2_code (3 : Nat) (Option.some FieldType.long) ∈ zWS := zws_m 276 (by decide +kernel) rfl
theorem m_277 : Cond.methodLink "ScrimshawKernel$Fields" (29 : Nat) ({ cls := "ScrimshawKernel$Fields", name := "putRow", desc := "(IJ)V" } : MethodName) ∈ zWS := zws_m 277 (by decide +kernel) rfl
theorem m_278 : Cond.instanceMethod ({ cls := "ScrimshawKernel$Fields", name := "putRow", desc := "(IJ)V" } : MethodName) ∈ zWS := zws_m 278 (by decide +kernel) rfl
theorem m_279 : Cond.selects "ScrimshawKernel$Fields" ({ cls := "ScrimshawKernel$Fields", name := "putRow", desc := "(IJ)V" } : MethodName) ({ cls := "ScrimshawKernel$Fields", name := "putRow", desc := "(IJ)V" } : MethodName) ∈ zWS := zws_m 279 (by decide +kernel) rfl
theorem m_280 : Cond.code ({ cls := "ScrimshawKernel$Fields", name := "putRow", desc := "(IJ)V" } : MethodName) prog_2_method_3_code (5 : Nat) (Option.none : Option FieldType) ∈ zWS := zws_m 280 (by decide +kernel) rfl
theorem m_281 : Cond.methodLink "ScrimshawKernelLaw" (239 : Nat) ({ cls := "ScrimshawKernel", name := "digest", desc := "()J" } : MethodName) ∈ zWS := zws_m 281 (by decide +kernel) rfl
theorem m_282 : Cond.instanceMethod ({ cls := "ScrimshawKernel", name := "digest", desc := "()J" } : MethodName) ∈ zWS := zws_m 282 (by decide +kernel) rfl
theorem m_283 : Cond.selects "ScrimshawKernel" ({ cls := "ScrimshawKernel", name := "digest", desc := "()J" } : MethodName) ({ cls := "ScrimshawKernel", name := "digest", desc := "()J" } : MethodName) ∈ zWS := zws_m 283 (by decide +kernel) rfl
theorem m_284 : Cond.code ({ cls := "ScrimshawKernel", name := "digest", desc := "()J" } : MethodName) prog_1_method_36_code (6 : Nat) (Option.some FieldType.long) ∈ zWS := zws_m 284 (by decide +kernel) rfl
theorem m_285 : Cond.constantLong "ScrimshawKernel" (276 : Nat) (2543 : Int64) ∈ zWS := zws_m 285 (by decide +kernel) rfl
theorem m_286 : Cond.methodLink "ScrimshawKernel" (278 : Nat) ({ cls := "ScrimshawKernel", name := "mixed", desc := "(JJ)J" } : MethodName) ∈ zWS := zws_m 286 (by decide +kernel) rfl
theorem m_287 : Cond.static ({ cls := "ScrimshawKernel", name := "mixed", desc := "(JJ)J" } : MethodName) ∈ zWS := zws_m 287 (by decide +kernel) rfl
theorem m_288 : Cond.code ({ cls := "ScrimshawKernel", name := "mixed", desc := "(JJ)J" } : MethodName) prog_1_method_51_code (4 : Nat) (Option.some FieldType.long) ∈ zWS := zws_m 288 (by decide +kernel) rfl
theorem m_289 : Cond.constantLong "ScrimshawKernel" (304 : Nat) (31 : Int64) ∈ zWS := zws_m 289 (by decide +kernel) rfl
theorem m_290 : Cond.methodLink "ScrimshawKernel" (108 : Nat) ({ cls := "ScrimshawKernel$Fields", name := "count", desc := "()I" } : MethodName) ∈ zWS := zws_m 290 (by decide +kernel) rfl
theorem m_291 : Cond.instanceMethod ({ cls := "ScrimshawKernel$Fields", name := "count", desc := "()I" } : MethodName) ∈ zWS := zws_m 291 (by decide +kernel) rfl
theorem m_292 : Cond.selects "ScrimshawKernel$Fields" ({ cls := "ScrimshawKernel$Fields", name := "count", desc := "()I" } : MethodName) ({ cls := "ScrimshawKernel$Fields", name := "count", desc := "()I" } : MethodName) ∈ zWS := zws_m 292 (by decide +kernel) rfl
theorem m_293 : Cond.code ({ cls := "ScrimshawKernel$Fields", name := "count", desc := "()I" } : MethodName) prog_2_method_12_code (3 : Nat) (Option.some FieldType.int) ∈ zWS := zws_m 293 (by decide +kernel) rfl
theorem m_294 : Cond.methodLink "ScrimshawKernel$Fields" (33 : Nat) ({ cls := "java/lang/Long", name := "bitCount", desc := "(J)I" } : MethodName) ∈ zWS := zws_m 294 (by decide +kernel) rfl
theorem m_295 : Cond.static ({ cls := "java/lang/Long", name := "bitCount", desc := "(J)I" } : MethodName) ∈ zWS := zws_m 295 (by decide +kernel) rfl
theorem m_296 : Cond.code ({ cls := "java/lang/Long", name := "bitCount", desc := "(J)I" } : MethodName) prog_14_method_50_code (2 : Nat) (Option.some FieldType.int) ∈ zWS := zws_m 296 (by decide +kernel) rfl
theorem m_297 : Cond.constantLong "java/lang/Long" (314 : Nat) (6148914691236517205 : Int64) ∈ zWS := zws_m 297 (by decide +kernel) rfl
theorem m_298 : Cond.constantLong "java/lang/Long" (316 : Nat) (3689348814741910323 : Int64) ∈ zWS := zws_m 298 (by decide +kernel) rfl
theorem m_299 : Cond.constantLong "java/lang/Long" (318 : Nat) (1085102592571150095 : Int64) ∈ zWS := zws_m 299 (by decide +kernel) rfl
theorem m_300 : Cond.methodLink "ScrimshawKernel" (193 : Nat) ({ cls := "ScrimshawKernel$Fields", name := "countEdges", desc := "()I" } : MethodName) ∈ zWS := zws_m 300 (by decide +kernel) rfl
theorem m_301 : Cond.instanceMethod ({ cls := "ScrimshawKernel$Fields", name := "countEdges", desc := "()I" } : MethodName) ∈ zWS := zws_m 301 (by decide +kernel) rfl
theorem m_302 : Cond.selects "ScrimshawKernel$Fields" ({ cls := "ScrimshawKernel$Fields", name := "countEdges", desc := "()I" } : MethodName) ({ cls := "ScrimshawKernel$Fields", name := "countEdges", desc := "()I" } : MethodName) ∈ zWS := zws_m 302 (by decide +kernel) rfl
theorem m_303 : Cond.code ({ cls := "ScrimshawKernel$Fields", name := "countEdges", desc := "()I" } : MethodName) prog_2_method_13_code (5 : Nat) (Option.some FieldType.int) ∈ zWS := zws_m 303 (by decide +kernel) rfl
theorem m_304 : Cond.constantLong "ScrimshawKernel$Fields" (39 : Nat) (-1 : Int64) ∈ zWS := zws_m 304 (by decide +kernel) rfl
theorem m_305 : Cond.methodLink "ScrimshawKernel" (196 : Nat) ({ cls := "ScrimshawKernel$Flood", name := "countPieces", desc := "(LScrimshawKernel$Fields;)I" } : MethodName) ∈ zWS := zws_m 305 (by decide +kernel) rfl
theorem m_306 : Cond.instanceMethod ({ cls := "ScrimshawKernel$Flood", name := "countPieces", desc := "(LScrimshawKernel$Fields;)I" } : MethodName) ∈ zWS := zws_m 306 (by decide +kernel) rfl
theorem m_307 : Cond.selects "ScrimshawKernel$Flood" ({ cls := "ScrimshawKernel$Flood", name := "countPieces", desc := "(LScrimshawKernel$Fields;)I" } : MethodName) ({ cls := "ScrimshawKernel$Flood", name := "countPieces", desc := "(LScrimshawKernel$Fields;)I" } : MethodName) ∈ zWS := zws_m 307 (by decide +kernel) rfl
theorem m_308 : Cond.code ({ cls := "ScrimshawKernel$Flood", name := "countPieces", desc := "(LScrimshawKernel$Fields;)I" } : MethodName) prog_3_method_2_code (2 : Nat) (Option.some FieldType.int) ∈ zWS := zws_m 308 (by decide +kernel) rfl
theorem m_309 : Cond.methodLink "ScrimshawKernel$Flood" (21 : Nat) ({ cls := "ScrimshawKernel$Fields", name := "copy", desc := "(LScrimshawKernel$Fields;)V" } : MethodName) ∈ zWS := zws_m 309 (by decide +kernel) rfl
theorem m_310 : Cond.methodLink "ScrimshawKernel$Flood" (25 : Nat) ({ cls := "ScrimshawKernel$Flood", name := "countParts", desc := "(Z)I" } : MethodName) ∈ zWS := zws_m 310 (by decide +kernel) rfl
theorem m_312 : Cond.instanceMethod ({ cls := "ScrimshawKernel$Flood", name := "countParts", desc := "(Z)I" } : MethodName) ∈ zWS := zws_m 312 (by decide +kernel) rfl
theorem m_313 : Cond.code ({ cls := "ScrimshawKernel$Flood", name := "countParts", desc := "(Z)I" } : MethodName) prog_3_method_7_code (5 : Nat) (Option.some FieldType.int) ∈ zWS := zws_m 313 (by decide +kernel) rfl
theorem m_314 : Cond.methodLink "ScrimshawKernel$Flood" (52 : Nat) ({ cls := "ScrimshawKernel$Fields", name := "row", desc := "(I)J" } : MethodName) ∈ zWS := zws_m 314 (by decide +kernel) rfl
theorem m_315 : lw_tbl[315]? = some (Cond.methodLinkNest "ScrimshawKernel$Flood" (73 : Nat) ({ cls := "ScrimshawKernel", name := "lowestBit", desc := "(J)I" } : MethodName) "ScrimshawKernel") := by decide +kernel
theorem m_324 : Cond.instanceMethod ({ cls := "ScrimshawKernel$Fields", name := "empty", desc := "()V" } : MethodName) ∈ zWS := zws_m 324 (by decide +kernel) rfl
theorem m_325 : Cond.selects "ScrimshawKernel$Fields" ({ cls := "ScrimshawKernel$Fields", name := "empty", desc := "()V" } : MethodName) ({ cls := "ScrimshawKernel$Fields", name := "empty", desc := "()V" } : MethodName) ∈ zWS := zws_m 325 (by decide +kernel) rfl
theorem m_326 : Cond.code ({ cls := "ScrimshawKernel$Fields", name := "empty", desc := "()V" } : MethodName) prog_2_method_6_code (1 : Nat) (Option.none : Option FieldType) ∈ zWS := zws_m 326 (by decide +kernel) rfl
theorem m_327 : Cond.methodLink "ScrimshawKernel$Fields" (15 : Nat) ({ cls := "java/util/Arrays", name := "fill", desc := "([JJ)V" } : MethodName) ∈ zWS := zws_m 327 (by decide +kernel) rfl
theorem m_328 : Cond.static ({ cls := "java/util/Arrays", name := "fill", desc := "([JJ)V" } : MethodName) ∈ zWS := zws_m 328 (by decide +kernel) rfl
theorem m_329 : Cond.code ({ cls := "java/util/Arrays", name := "fill", desc := "([JJ)V" } : MethodName) prog_20_method_101_code (5 : Nat) (Option.none : Option FieldType) ∈ zWS := zws_m 329 (by decide +kernel) rfl
theorem m_334 : Cond.methodLink "ScrimshawKernel$Flood" (66 : Nat) ({ cls := "ScrimshawKernel$Flood", name := "spread", desc := "(Z)V" } : MethodName) ∈ zWS := zws_m 334 (by decide +kernel) rfl
theorem m_336 : Cond.instanceMethod ({ cls := "ScrimshawKernel$Flood", name := "spread", desc := "(Z)V" } : MethodName) ∈ zWS := zws_m 336 (by decide +kernel) rfl
theorem m_337 : Cond.code ({ cls := "ScrimshawKernel$Flood", name := "spread", desc := "(Z)V" } : MethodName) prog_3_method_10_code (5 : Nat) (Option.none : Option FieldType) ∈ zWS := zws_m 337 (by decide +kernel) rfl
theorem m_338 : Cond.methodLink "ScrimshawKernel$Flood" (81 : Nat) ({ cls := "ScrimshawKernel$Flood", name := "spreadInto", desc := "(IZ)Z" } : MethodName) ∈ zWS := zws_m 338 (by decide +kernel) rfl
theorem m_340 : Cond.instanceMethod ({ cls := "ScrimshawKernel$Flood", name := "spreadInto", desc := "(IZ)Z" } : MethodName) ∈ zWS := zws_m 340 (by decide +kernel) rfl
theorem m_341 : Cond.code ({ cls := "ScrimshawKernel$Flood", name := "spreadInto", desc := "(IZ)Z" } : MethodName) prog_3_method_11_code (11 : Nat) (Option.some FieldType.boolean) ∈ zWS := zws_m 341 (by decide +kernel) rfl
theorem m_342 : Cond.methodLink "ScrimshawKernel$Flood" (85 : Nat) ({ cls := "ScrimshawKernel$Flood", name := "along", desc := "(JJ)J" } : MethodName) ∈ zWS := zws_m 342 (by decide +kernel) rfl
theorem m_343 : Cond.static ({ cls := "ScrimshawKernel$Flood", name := "along", desc := "(JJ)J" } : MethodName) ∈ zWS := zws_m 343 (by decide +kernel) rfl
theorem m_344 : Cond.code ({ cls := "ScrimshawKernel$Flood", name := "along", desc := "(JJ)J" } : MethodName) prog_3_method_12_code (13 : Nat) (Option.some FieldType.long) ∈ zWS := zws_m 344 (by decide +kernel) rfl
theorem m_345 : Cond.methodLink "ScrimshawKernel$Flood" (55 : Nat) ({ cls := "ScrimshawKernel$Fields", name := "putRow", desc := "(IJ)V" } : MethodName) ∈ zWS := zws_m 345 (by decide +kernel) rfl
theorem m_346 : Cond.methodLink "ScrimshawKernel$Flood" (89 : Nat) ({ cls := "java/lang/Math", name := "min", desc := "(II)I" } : MethodName) ∈ zWS := zws_m 346 (by decide +kernel) rfl
theorem m_347 : Cond.static ({ cls := "java/lang/Math", name := "min", desc := "(II)I" } : MethodName) ∈ zWS := zws_m 347 (by decide +kernel) rfl
theorem m_348 : Cond.code ({ cls := "java/lang/Math", name := "min", desc := "(II)I" } : MethodName) prog_15_method_69_code (2 : Nat) (Option.some FieldType.int) ∈ zWS := zws_m 348 (by decide +kernel) rfl
theorem m_349 : Cond.methodLink "ScrimshawKernel$Flood" (95 : Nat) ({ cls := "java/lang/Math", name := "max", desc := "(II)I" } : MethodName) ∈ zWS := zws_m 349 (by decide +kernel) rfl
theorem m_350 : Cond.static ({ cls := "java/lang/Math", name := "max", desc := "(II)I" } : MethodName) ∈ zWS := zws_m 350 (by decide +kernel) rfl
theorem m_351 : Cond.code ({ cls := "java/lang/Math", name := "max", desc := "(II)I" } : MethodName) prog_15_method_65_code (2 : Nat) (Option.some FieldType.int) ∈ zWS := zws_m 351 (by decide +kernel) rfl
theorem m_352 : Cond.methodLink "ScrimshawKernel$Flood" (70 : Nat) ({ cls := "ScrimshawKernel$Flood", name := "removeFound", desc := "()V" } : MethodName) ∈ zWS := zws_m 352 (by decide +kernel) rfl
theorem m_354 : Cond.instanceMethod ({ cls := "ScrimshawKernel$Flood", name := "removeFound", desc := "()V" } : MethodName) ∈ zWS := zws_m 354 (by decide +kernel) rfl
theorem m_355 : Cond.code ({ cls := "ScrimshawKernel$Flood", name := "removeFound", desc := "()V" } : MethodName) prog_3_method_9_code (2 : Nat) (Option.none : Option FieldType) ∈ zWS := zws_m 355 (by decide +kernel) rfl
theorem m_356 : Cond.constantLong "ScrimshawKernel$Flood" (46 : Nat) (-1 : Int64) ∈ zWS := zws_m 356 (by decide +kernel) rfl
theorem m_357 : Cond.methodLink "ScrimshawKernel" (199 : Nat) ({ cls := "ScrimshawKernel$Flood", name := "countHoles", desc := "(LScrimshawKernel$Fields;)I" } : MethodName) ∈ zWS := zws_m 357 (by decide +kernel) rfl
theorem m_358 : Cond.instanceMethod ({ cls := "ScrimshawKernel$Flood", name := "countHoles", desc := "(LScrimshawKernel$Fields;)I" } : MethodName) ∈ zWS := zws_m 358 (by decide +kernel) rfl
theorem m_359 : Cond.selects "ScrimshawKernel$Flood" ({ cls := "ScrimshawKernel$Flood", name := "countHoles", desc := "(LScrimshawKernel$Fields;)I" } : MethodName) ({ cls := "ScrimshawKernel$Flood", name := "countHoles", desc := "(LScrimshawKernel$Fields;)I" } : MethodName) ∈ zWS := zws_m 359 (by decide +kernel) rfl
theorem m_360 : Cond.code ({ cls := "ScrimshawKernel$Flood", name := "countHoles", desc := "(LScrimshawKernel$Fields;)I" } : MethodName) prog_3_method_3_code (2 : Nat) (Option.some FieldType.int) ∈ zWS := zws_m 360 (by decide +kernel) rfl
theorem m_361 : Cond.methodLink "ScrimshawKernel$Flood" (29 : Nat) ({ cls := "ScrimshawKernel$Flood", name := "findHoles", desc := "(LScrimshawKernel$Fields;)V" } : MethodName) ∈ zWS := zws_m 361 (by decide +kernel) rfl
theorem m_363 : Cond.instanceMethod ({ cls := "ScrimshawKernel$Flood", name := "findHoles", desc := "(LScrimshawKernel$Fields;)V" } : MethodName) ∈ zWS := zws_m 363 (by decide +kernel) rfl
theorem m_364 : Cond.code ({ cls := "ScrimshawKernel$Flood", name := "findHoles", desc := "(LScrimshawKernel$Fields;)V" } : MethodName) prog_3_method_6_code (6 : Nat) (Option.none : Option FieldType) ∈ zWS := zws_m 364 (by decide +kernel) rfl
theorem m_365 : lw_tbl[365]? = some (Cond.methodLinkNest "ScrimshawKernel$Flood" (48 : Nat) ({ cls := "ScrimshawKernel", name := "bit", desc := "(I)J" } : MethodName) "ScrimshawKernel") := by decide +kernel
theorem m_366 : Cond.static ({ cls := "ScrimshawKernel", name := "bit", desc := "(I)J" } : MethodName) ∈ zWS := zws_m 366 (by decide +kernel) rfl
theorem m_367 : Cond.code ({ cls := "ScrimshawKernel", name := "bit", desc := "(I)J" } : MethodName) prog_1_method_54_code (1 : Nat) (Option.some FieldType.long) ∈ zWS := zws_m 367 (by decide +kernel) rfl
theorem m_368 : Cond.methodLink "ScrimshawKernel" (208 : Nat) ({ cls := "ScrimshawKernel", name := "boundOf", desc := "(LScrimshawKernel$Fields;I)I" } : MethodName) ∈ zWS := zws_m 368 (by decide +kernel) rfl
theorem m_369 : Cond.static ({ cls := "ScrimshawKernel", name := "boundOf", desc := "(LScrimshawKernel$Fields;I)I" } : MethodName) ∈ zWS := zws_m 369 (by decide +kernel) rfl
theorem m_370 : Cond.code ({ cls := "ScrimshawKernel", name := "boundOf", desc := "(LScrimshawKernel$Fields;I)I" } : MethodName) prog_1_method_45_code (2 : Nat) (Option.some FieldType.int) ∈ zWS := zws_m 370 (by decide +kernel) rfl
theorem m_371 : Cond.methodLink "ScrimshawKernel" (138 : Nat) ({ cls := "ScrimshawKernel$Fields", name := "leastX", desc := "()I" } : MethodName) ∈ zWS := zws_m 371 (by decide +kernel) rfl
theorem m_372 : Cond.instanceMethod ({ cls := "ScrimshawKernel$Fields", name := "leastX", desc := "()I" } : MethodName) ∈ zWS := zws_m 372 (by decide +kernel) rfl
theorem m_373 : Cond.selects "ScrimshawKernel$Fields" ({ cls := "ScrimshawKernel$Fields", name := "leastX", desc := "()I" } : MethodName) ({ cls := "ScrimshawKernel$Fields", name := "leastX", desc := "()I" } : MethodName) ∈ zWS := zws_m 373 (by decide +kernel) rfl
theorem m_374 : Cond.code ({ cls := "ScrimshawKernel$Fields", name := "leastX", desc := "()I" } : MethodName) prog_2_method_16_code (3 : Nat) (Option.some FieldType.int) ∈ zWS := zws_m 374 (by decide +kernel) rfl
theorem m_375 : Cond.methodLink "ScrimshawKernel$Fields" (21 : Nat) ({ cls := "ScrimshawKernel$Fields", name := "columns", desc := "()J" } : MethodName) ∈ zWS := zws_m 375 (by decide +kernel) rfl
theorem m_377 : Cond.instanceMethod ({ cls := "ScrimshawKernel$Fields", name := "columns", desc := "()J" } : MethodName) ∈ zWS := zws_m 377 (by decide +kernel) rfl
theorem m_378 : Cond.code ({ cls := "ScrimshawKernel$Fields", name := "columns", desc := "()J" } : MethodName) prog_2_method_15_code (4 : Nat) (Option.some FieldType.long) ∈ zWS := zws_m 378 (by decide +kernel) rfl
theorem m_379 : lw_tbl[379]? = some (Cond.methodLinkNest "ScrimshawKernel$Fields" (45 : Nat) ({ cls := "ScrimshawKernel", name := "lowestBit", desc := "(J)I" } : MethodName) "ScrimshawKernel") := by decide +kernel
theorem m_380 : Cond.methodLink "ScrimshawKernel" (144 : Nat) ({ cls := "ScrimshawKernel$Fields", name := "leastY", desc := "()I" } : MethodName) ∈ zWS := zws_m 380 (by decide +kernel) rfl
theorem m_381 : Cond.instanceMethod ({ cls := "ScrimshawKernel$Fields", name := "leastY", desc := "()I" } : MethodName) ∈ zWS := zws_m 381 (by decide +kernel) rfl
theorem m_382 : Cond.selects "ScrimshawKernel$Fields" ({ cls := "ScrimshawKernel$Fields", name := "leastY", desc := "()I" } : MethodName) ({ cls := "ScrimshawKernel$Fields", name := "leastY", desc := "()I" } : MethodName) ∈ zWS := zws_m 382 (by decide +kernel) rfl
theorem m_383 : Cond.code ({ cls := "ScrimshawKernel$Fields", name := "leastY", desc := "()I" } : MethodName) prog_2_method_18_code (2 : Nat) (Option.some FieldType.int) ∈ zWS := zws_m 383 (by decide +kernel) rfl
theorem m_384 : Cond.methodLink "ScrimshawKernel" (141 : Nat) ({ cls := "ScrimshawKernel$Fields", name := "greatestX", desc := "()I" } : MethodName) ∈ zWS := zws_m 384 (by decide +kernel) rfl
theorem m_385 : Cond.instanceMethod ({ cls := "ScrimshawKernel$Fields", name := "greatestX", desc := "()I" } : MethodName) ∈ zWS := zws_m 385 (by decide +kernel) rfl
theorem m_386 : Cond.selects "ScrimshawKernel$Fields" ({ cls := "ScrimshawKernel$Fields", name := "greatestX", desc := "()I" } : MethodName) ({ cls := "ScrimshawKernel$Fields", name := "greatestX", desc := "()I" } : MethodName) ∈ zWS := zws_m 386 (by decide +kernel) rfl
theorem m_387 : Cond.code ({ cls := "ScrimshawKernel$Fields", name := "greatestX", desc := "()I" } : MethodName) prog_2_method_17_code (4 : Nat) (Option.some FieldType.int) ∈ zWS := zws_m 387 (by decide +kernel) rfl
theorem m_388 : lw_tbl[388]? = some (Cond.methodLinkNest "ScrimshawKernel$Fields" (48 : Nat) ({ cls := "ScrimshawKernel", name := "bit", desc := "(I)J" } : MethodName) "ScrimshawKernel") := by decide +kernel
theorem m_389 : Cond.methodLink "ScrimshawKernel" (147 : Nat) ({ cls := "ScrimshawKernel$Fields", name := "greatestY", desc := "()I" } : MethodName) ∈ zWS := zws_m 389 (by decide +kernel) rfl
theorem m_390 : Cond.instanceMethod ({ cls := "ScrimshawKernel$Fields", name := "greatestY", desc := "()I" } : MethodName) ∈ zWS := zws_m 390 (by decide +kernel) rfl
theorem m_391 : Cond.selects "ScrimshawKernel$Fields" ({ cls := "ScrimshawKernel$Fields", name := "greatestY", desc := "()I" } : MethodName) ({ cls := "ScrimshawKernel$Fields", name := "greatestY", desc := "()I" } : MethodName) ∈ zWS := zws_m 391 (by decide +kernel) rfl
theorem m_392 : Cond.code ({ cls := "ScrimshawKernel$Fields", name := "greatestY", desc := "()I" } : MethodName) prog_2_method_19_code (2 : Nat) (Option.some FieldType.int) ∈ zWS := zws_m 392 (by decide +kernel) rfl
theorem m_393 : Cond.methodLink "ScrimshawKernel" (212 : Nat) ({ cls := "ScrimshawKernel$Outline", name := "countContours", desc := "(LScrimshawKernel$Fields;)I" } : MethodName) ∈ zWS := zws_m 393 (by decide +kernel) rfl
theorem m_394 : Cond.instanceMethod ({ cls := "ScrimshawKernel$Outline", name := "countContours", desc := "(LScrimshawKernel$Fields;)I" } : MethodName) ∈ zWS := zws_m 394 (by decide +kernel) rfl
theorem m_395 : Cond.selects "ScrimshawKernel$Outline" ({ cls := "ScrimshawKernel$Outline", name := "countContours", desc := "(LScrimshawKernel$Fields;)I" } : MethodName) ({ cls := "ScrimshawKernel$Outline", name := "countContours", desc := "(LScrimshawKernel$Fields;)I" } : MethodName) ∈ zWS := zws_m 395 (by decide +kernel) rfl
theorem m_396 : Cond.code ({ cls := "ScrimshawKernel$Outline", name := "countContours", desc := "(LScrimshawKernel$Fields;)I" } : MethodName) prog_5_method_6_code (3 : Nat) (Option.some FieldType.int) ∈ zWS := zws_m 396 (by decide +kernel) rfl
theorem m_397 : Cond.methodLink "ScrimshawKernel$Outline" (37 : Nat) ({ cls := "ScrimshawKernel$Outline", name := "begin", desc := "(LScrimshawKernel$Fields;)V" } : MethodName) ∈ zWS := zws_m 397 (by decide +kernel) rfl
theorem m_398 : Cond.instanceMethod ({ cls := "ScrimshawKernel$Outline", name := "begin", desc := "(LScrimshawKernel$Fields;)V" } : MethodName) ∈ zWS := zws_m 398 (by decide +kernel) rfl
theorem m_399 : Cond.selects "ScrimshawKernel$Outline" ({ cls := "ScrimshawKernel$Outline", name := "begin", desc := "(LScrimshawKernel$Fields;)V" } : MethodName) ({ cls := "ScrimshawKernel$Outline", name := "begin", desc := "(LScrimshawKernel$Fields;)V" } : MethodName) ∈ zWS := zws_m 399 (by decide +kernel) rfl
theorem m_400 : Cond.code ({ cls := "ScrimshawKernel$Outline", name := "begin", desc := "(LScrimshawKernel$Fields;)V" } : MethodName) prog_5_method_8_code (2 : Nat) (Option.none : Option FieldType) ∈ zWS := zws_m 400 (by decide +kernel) rfl
theorem m_401 : Cond.methodLink "ScrimshawKernel$Outline" (45 : Nat) ({ cls := "ScrimshawKernel$Fields", name := "copy", desc := "(LScrimshawKernel$Fields;)V" } : MethodName) ∈ zWS := zws_m 401 (by decide +kernel) rfl
theorem m_402 : Cond.methodLink "ScrimshawKernel$Outline" (48 : Nat) ({ cls := "ScrimshawKernel$Fields", name := "empty", desc := "()V" } : MethodName) ∈ zWS := zws_m 402 (by decide +kernel) rfl
theorem m_403 : Cond.methodLink "ScrimshawKernel$Outline" (41 : Nat) ({ cls := "ScrimshawKernel$Outline", name := "next", desc := "(I)Z" } : MethodName) ∈ zWS := zws_m 403 (by decide +kernel) rfl
theorem m_404 : Cond.instanceMethod ({ cls := "ScrimshawKernel$Outline", name := "next", desc := "(I)Z" } : MethodName) ∈ zWS := zws_m 404 (by decide +kernel) rfl
theorem m_405 : Cond.selects "ScrimshawKernel$Outline" ({ cls := "ScrimshawKernel$Outline", name := "next", desc := "(I)Z" } : MethodName) ({ cls := "ScrimshawKernel$Outline", name := "next", desc := "(I)Z" } : MethodName) ∈ zWS := zws_m 405 (by decide +kernel) rfl
theorem m_406 : Cond.code ({ cls := "ScrimshawKernel$Outline", name := "next", desc := "(I)Z" } : MethodName) prog_5_method_9_code (8 : Nat) (Option.some FieldType.boolean) ∈ zWS := zws_m 406 (by decide +kernel) rfl
theorem m_407 : Cond.methodLink "ScrimshawKernel$Outline" (57 : Nat) ({ cls := "ScrimshawKernel$Fields", name := "row", desc := "(I)J" } : MethodName) ∈ zWS := zws_m 407 (by decide +kernel) rfl
theorem m_408 : Cond.constantLong "ScrimshawKernel$Outline" (61 : Nat) (-1 : Int64) ∈ zWS := zws_m 408 (by decide +kernel) rfl
theorem m_409 : lw_tbl[409]? = some (Cond.methodLinkNest "ScrimshawKernel$Outline" (63 : Nat) ({ cls := "ScrimshawKernel", name := "lowestBit", desc := "(J)I" } : MethodName) "ScrimshawKernel") := by decide +kernel
theorem m_436 : Cond.methodLink "ScrimshawKernel" (282 : Nat) ({ cls := "ScrimshawKernel", name := "digestOfContours", desc := "(JLScrimshawKernel$Fields;)J" } : MethodName) ∈ zWS := zws_m 436 (by decide +kernel) rfl
theorem m_438 : Cond.instanceMethod ({ cls := "ScrimshawKernel", name := "digestOfContours", desc := "(JLScrimshawKernel$Fields;)J" } : MethodName) ∈ zWS := zws_m 438 (by decide +kernel) rfl
theorem m_439 : Cond.code ({ cls := "ScrimshawKernel", name := "digestOfContours", desc := "(JLScrimshawKernel$Fields;)J" } : MethodName) prog_1_method_52_code (7 : Nat) (Option.some FieldType.long) ∈ zWS := zws_m 439 (by decide +kernel) rfl
theorem m_440 : Cond.methodLink "ScrimshawKernel" (330 : Nat) ({ cls := "ScrimshawKernel$Outline", name := "begin", desc := "(LScrimshawKernel$Fields;)V" } : MethodName) ∈ zWS := zws_m 440 (by decide +kernel) rfl
theorem m_441 : Cond.methodLink "ScrimshawKernel" (332 : Nat) ({ cls := "ScrimshawKernel$Outline", name := "next", desc := "(I)Z" } : MethodName) ∈ zWS := zws_m 441 (by decide +kernel) rfl
theorem m_458 : Cond.methodLink "ScrimshawKernel" (231 : Nat) ({ cls := "ScrimshawKernel$StripWalk", name := "countStrips", desc := "(LScrimshawKernel$Fields;)I" } : MethodName) ∈ zWS := zws_m 458 (by decide +kernel) rfl
theorem m_459 : Cond.instanceMethod ({ cls := "ScrimshawKernel$StripWalk", name := "countStrips", desc := "(LScrimshawKernel$Fields;)I" } : MethodName) ∈ zWS := zws_m 459 (by decide +kernel) rfl
theorem m_460 : Cond.selects "ScrimshawKernel$StripWalk" ({ cls := "ScrimshawKernel$StripWalk", name := "countStrips", desc := "(LScrimshawKernel$Fields;)I" } : MethodName) ({ cls := "ScrimshawKernel$StripWalk", name := "countStrips", desc := "(LScrimshawKernel$Fields;)I" } : MethodName) ∈ zWS := zws_m 460 (by decide +kernel) rfl
theorem m_461 : Cond.code ({ cls := "ScrimshawKernel$StripWalk", name := "countStrips", desc := "(LScrimshawKernel$Fields;)I" } : MethodName) prog_7_method_3_code (3 : Nat) (Option.some FieldType.int) ∈ zWS := zws_m 461 (by decide +kernel) rfl
theorem m_462 : Cond.methodLink "ScrimshawKernel$StripWalk" (31 : Nat) ({ cls := "ScrimshawKernel$StripWalk", name := "begin", desc := "(LScrimshawKernel$Fields;)V" } : MethodName) ∈ zWS := zws_m 462 (by decide +kernel) rfl
theorem m_463 : Cond.instanceMethod ({ cls := "ScrimshawKernel$StripWalk", name := "begin", desc := "(LScrimshawKernel$Fields;)V" } : MethodName) ∈ zWS := zws_m 463 (by decide +kernel) rfl
theorem m_464 : Cond.selects "ScrimshawKernel$StripWalk" ({ cls := "ScrimshawKernel$StripWalk", name := "begin", desc := "(LScrimshawKernel$Fields;)V" } : MethodName) ({ cls := "ScrimshawKernel$StripWalk", name := "begin", desc := "(LScrimshawKernel$Fields;)V" } : MethodName) ∈ zWS := zws_m 464 (by decide +kernel) rfl
theorem m_465 : Cond.code ({ cls := "ScrimshawKernel$StripWalk", name := "begin", desc := "(LScrimshawKernel$Fields;)V" } : MethodName) prog_7_method_5_code (2 : Nat) (Option.none : Option FieldType) ∈ zWS := zws_m 465 (by decide +kernel) rfl
theorem m_466 : Cond.methodLink "ScrimshawKernel$StripWalk" (39 : Nat) ({ cls := "ScrimshawKernel$Fields", name := "copy", desc := "(LScrimshawKernel$Fields;)V" } : MethodName) ∈ zWS := zws_m 466 (by decide +kernel) rfl
theorem m_467 : Cond.methodLink "ScrimshawKernel$StripWalk" (45 : Nat) ({ cls := "ScrimshawKernel$Fields", name := "row", desc := "(I)J" } : MethodName) ∈ zWS := zws_m 467 (by decide +kernel) rfl
theorem m_468 : Cond.methodLink "ScrimshawKernel$StripWalk" (35 : Nat) ({ cls := "ScrimshawKernel$StripWalk", name := "next", desc := "()Z" } : MethodName) ∈ zWS := zws_m 468 (by decide +kernel) rfl
theorem m_469 : Cond.instanceMethod ({ cls := "ScrimshawKernel$StripWalk", name := "next", desc := "()Z" } : MethodName) ∈ zWS := zws_m 469 (by decide +kernel) rfl
theorem m_470 : Cond.selects "ScrimshawKernel$StripWalk" ({ cls := "ScrimshawKernel$StripWalk", name := "next", desc := "()Z" } : MethodName) ({ cls := "ScrimshawKernel$StripWalk", name := "next", desc := "()Z" } : MethodName) ∈ zWS := zws_m 470 (by decide +kernel) rfl
theorem m_471 : Cond.code ({ cls := "ScrimshawKernel$StripWalk", name := "next", desc := "()Z" } : MethodName) prog_7_method_6_code (4 : Nat) (Option.some FieldType.boolean) ∈ zWS := zws_m 471 (by decide +kernel) rfl
theorem m_484 : lw_tbl[484]? = some (Cond.methodLinkNest "ScrimshawKernel$StripWalk" (67 : Nat) ({ cls := "ScrimshawKernel", name := "lowestBit", desc := "(J)I" } : MethodName) "ScrimshawKernel") := by decide +kernel
theorem m_486 : Cond.methodLink "ScrimshawKernel" (286 : Nat) ({ cls := "ScrimshawKernel", name := "digestOfStrips", desc := "(JLScrimshawKernel$Fields;)J" } : MethodName) ∈ zWS := zws_m 486 (by decide +kernel) rfl
theorem m_488 : Cond.instanceMethod ({ cls := "ScrimshawKernel", name := "digestOfStrips", desc := "(JLScrimshawKernel$Fields;)J" } : MethodName) ∈ zWS := zws_m 488 (by decide +kernel) rfl
theorem m_489 : Cond.code ({ cls := "ScrimshawKernel", name := "digestOfStrips", desc := "(JLScrimshawKernel$Fields;)J" } : MethodName) prog_1_method_53_code (8 : Nat) (Option.some FieldType.long) ∈ zWS := zws_m 489 (by decide +kernel) rfl
theorem m_490 : Cond.methodLink "ScrimshawKernel" (336 : Nat) ({ cls := "ScrimshawKernel$StripWalk", name := "begin", desc := "(LScrimshawKernel$Fields;)V" } : MethodName) ∈ zWS := zws_m 490 (by decide +kernel) rfl
theorem m_491 : Cond.methodLink "ScrimshawKernel" (337 : Nat) ({ cls := "ScrimshawKernel$StripWalk", name := "next", desc := "()Z" } : MethodName) ∈ zWS := zws_m 491 (by decide +kernel) rfl
theorem m_496 : Cond.methodLink "ScrimshawKernel" (289 : Nat) ({ cls := "ScrimshawKernel$History", name := "count", desc := "()I" } : MethodName) ∈ zWS := zws_m 496 (by decide +kernel) rfl
theorem m_497 : Cond.instanceMethod ({ cls := "ScrimshawKernel$History", name := "count", desc := "()I" } : MethodName) ∈ zWS := zws_m 497 (by decide +kernel) rfl
theorem m_498 : Cond.selects "ScrimshawKernel$History" ({ cls := "ScrimshawKernel$History", name := "count", desc := "()I" } : MethodName) ({ cls := "ScrimshawKernel$History", name := "count", desc := "()I" } : MethodName) ∈ zWS := zws_m 498 (by decide +kernel) rfl
theorem m_499 : Cond.code ({ cls := "ScrimshawKernel$History", name := "count", desc := "()I" } : MethodName) prog_4_method_2_code (1 : Nat) (Option.some FieldType.int) ∈ zWS := zws_m 499 (by decide +kernel) rfl
theorem m_513 : Cond.classLink "ScrimshawKernel" (59 : Nat) "java/lang/IllegalArgumentException" ∈ zWS := zws_m 513 (by decide +kernel) rfl
theorem m_515 : lw_tbl[515]? = some (Cond.castable "java/lang/IllegalArgumentException" "java/lang/IllegalArgumentException") := by decide +kernel
theorem m_516 : lw_tbl[516]? = some (Cond.declares ({ cls := "java/lang/RuntimeException", name := "<init>", desc := "()V" } : MethodName)) := by decide +kernel
theorem m_517 : lw_tbl[517]? = some (Cond.declares ({ cls := "java/lang/RuntimeException", name := "<init>", desc := "(Ljava/lang/String;)V" } : MethodName)) := by decide +kernel
theorem m_518 : lw_tbl[518]? = some (Cond.declares ({ cls := "java/lang/Exception", name := "<init>", desc := "()V" } : MethodName)) := by decide +kernel
theorem m_519 : lw_tbl[519]? = some (Cond.declares ({ cls := "java/lang/Exception", name := "<init>", desc := "(Ljava/lang/String;)V" } : MethodName)) := by decide +kernel
theorem m_520 : lw_tbl[520]? = some (Cond.declares ({ cls := "java/lang/Throwable", name := "<init>", desc := "()V" } : MethodName)) := by decide +kernel
theorem m_521 : lw_tbl[521]? = some (Cond.declares ({ cls := "java/lang/Throwable", name := "<init>", desc := "(Ljava/lang/String;)V" } : MethodName)) := by decide +kernel
theorem m_540 : lw_tbl[540]? = some (Cond.laysStatic "java/lang/Throwable" "UNASSIGNED_STACK" "[Ljava/lang/StackTraceElement;") := by decide +kernel
theorem m_542 : lw_tbl[542]? = some (Cond.laysStatic "java/lang/Throwable" "SUPPRESSED_SENTINEL" "Ljava/util/List;") := by decide +kernel
theorem m_554 : lw_tbl[554]? = some (Cond.stringRef "ScrimshawKernel" (61 : Nat) "x or y is not -24 to 24") := by decide +kernel
theorem m_605 : lw_tbl[605]? = some (Cond.stringRef "ScrimshawKernel" (292 : Nat) "the pen would not be at -24 to 24") := by decide +kernel
theorem m_610 : Cond.classLink "ScrimshawKernel" (297 : Nat) "java/lang/IllegalStateException" ∈ zWS := zws_m 610 (by decide +kernel) rfl
theorem m_612 : lw_tbl[612]? = some (Cond.castable "java/lang/IllegalStateException" "java/lang/IllegalStateException") := by decide +kernel
theorem m_619 : lw_tbl[619]? = some (Cond.stringRef "ScrimshawKernel" (299 : Nat) "the path has 60 points") := by decide +kernel
theorem m_650 : Cond.classLink "ScrimshawKernel" (238 : Nat) "java/lang/IndexOutOfBoundsException" ∈ zWS := zws_m 650 (by decide +kernel) rfl
theorem m_652 : lw_tbl[652]? = some (Cond.castable "java/lang/IndexOutOfBoundsException" "java/lang/IndexOutOfBoundsException") := by decide +kernel
theorem m_659 : lw_tbl[659]? = some (Cond.stringRef "ScrimshawKernel" (290 : Nat) "no such region") := by decide +kernel
theorem m_669 : lw_tbl[669]? = some (Cond.stringRef "ScrimshawKernel" (95 : Nat) "rule is not 0 or 1") := by decide +kernel
theorem m_707 : lw_tbl[707]? = some (Cond.stringRef "ScrimshawKernel" (111 : Nat) "width or height is not 1 to 64") := by decide +kernel
theorem m_712 : lw_tbl[712]? = some (Cond.stringRef "ScrimshawKernel" (306 : Nat) "a field would have an x or y that is not -32 to 31") := by decide +kernel
theorem m_723 : lw_tbl[723]? = some (Cond.stringRef "ScrimshawKernel" (126 : Nat) "operation is not 0 to 3") := by decide +kernel
theorem m_734 : lw_tbl[734]? = some (Cond.stringRef "ScrimshawKernel" (132 : Nat) "byX or byY is not -64 to 64") := by decide +kernel
theorem m_753 : lw_tbl[753]? = some (Cond.stringRef "ScrimshawKernel" (153 : Nat) "quarters is not 0 to 3") := by decide +kernel
theorem m_780 : lw_tbl[780]? = some (Cond.stringRef "ScrimshawKernel" (308 : Nat) "by is not 0 to 8, or kind is not 0 or 1") := by decide +kernel
theorem m_874 : lw_tbl[874]? = some (Cond.stringRef "ScrimshawKernel" (206 : Nat) "side is not 0 to 3") := by decide +kernel
theorem m_897 : lw_tbl[897]? = some (Cond.stringRef "ScrimshawKernel" (315 : Nat) "no such contour") := by decide +kernel
theorem m_898 : lw_tbl[898]? = some (Cond.stringRef "ScrimshawKernel" (317 : Nat) "no such corner") := by decide +kernel
theorem m_938 : lw_tbl[938]? = some (Cond.stringRef "ScrimshawKernel" (240 : Nat) "no such strip") := by decide +kernel
theorem m_939 : lw_tbl[939]? = some (Cond.stringRef "ScrimshawKernel" (243 : Nat) "what is not 0 to 3") := by decide +kernel
theorem m_950 : lw_tbl[950]? = some (Cond.stringRef "ScrimshawKernel" (310 : Nat) "kind is not 0 to 3, every not 1 to 20, or first not -100 to 100") := by decide +kernel
theorem m_1001 : Cond.classLink "ScrimshawKernelLaw" (120 : Nat) "ScrimshawKernelModel" ∈ zWS := zws_m 1001 (by decide +kernel) rfl
theorem m_1002 : Cond.instantiable "ScrimshawKernelModel" (8 : Nat) ∈ zWS := zws_m 1002 (by decide +kernel) rfl
theorem m_1003 : Cond.methodLink "ScrimshawKernelLaw" (122 : Nat) ({ cls := "ScrimshawKernelModel", name := "<init>", desc := "()V" } : MethodName) ∈ zWS := zws_m 1003 (by decide +kernel) rfl
theorem m_1004 : Cond.instanceMethod ({ cls := "ScrimshawKernelModel", name := "<init>", desc := "()V" } : MethodName) ∈ zWS := zws_m 1004 (by decide +kernel) rfl
theorem m_1005 : Cond.code ({ cls := "ScrimshawKernelModel", name := "<init>", desc := "()V" } : MethodName) prog_9_method_1_code (1 : Nat) (Option.none : Option FieldType) ∈ zWS := zws_m 1005 (by decide +kernel) rfl
theorem m_1006 : Cond.methodLink "ScrimshawKernelModel" (3 : Nat) ({ cls := "java/lang/Object", name := "<init>", desc := "()V" } : MethodName) ∈ zWS := zws_m 1006 (by decide +kernel) rfl
theorem m_1007 : Cond.classLink "ScrimshawKernelModel" (9 : Nat) "[[Z" ∈ zWS := zws_m 1007 (by decide +kernel) rfl
theorem m_1008 : lw_tbl[1008]? = some (Cond.arrayOver (FieldType.array FieldType.boolean)) := by decide +kernel
theorem m_1009 : Cond.classLink "ScrimshawKernelModel" (28 : Nat) "[Z" ∈ zWS := zws_m 1009 (by decide +kernel) rfl
theorem m_1010 : Cond.fieldLink "ScrimshawKernelModel" (33 : Nat) "ScrimshawKernelModel" "thrown" "I" ∈ zWS := zws_m 1010 (by decide +kernel) rfl
theorem m_1011 : Cond.fieldLink "ScrimshawKernelModel" (11 : Nat) "ScrimshawKernelModel" "fields" "[[Z" ∈ zWS := zws_m 1011 (by decide +kernel) rfl
theorem m_1012 : Cond.fieldLink "ScrimshawKernelModel" (14 : Nat) "ScrimshawKernelModel" "pathX" "[I" ∈ zWS := zws_m 1012 (by decide +kernel) rfl
theorem m_1013 : Cond.fieldLink "ScrimshawKernelModel" (18 : Nat) "ScrimshawKernelModel" "pathY" "[I" ∈ zWS := zws_m 1013 (by decide +kernel) rfl
theorem m_1014 : Cond.fieldLink "ScrimshawKernelModel" (21 : Nat) "ScrimshawKernelModel" "points" "I" ∈ zWS := zws_m 1014 (by decide +kernel) rfl
theorem m_1015 : Cond.fieldLink "ScrimshawKernelModel" (54 : Nat) "ScrimshawKernelModel" "kept" "I" ∈ zWS := zws_m 1015 (by decide +kernel) rfl
theorem m_1016 : Cond.fieldLink "ScrimshawKernelModel" (25 : Nat) "ScrimshawKernelModel" "keptRegion" "[I" ∈ zWS := zws_m 1016 (by decide +kernel) rfl
theorem m_1017 : Cond.fieldLink "ScrimshawKernelModel" (30 : Nat) "ScrimshawKernelModel" "keptFields" "[[Z" ∈ zWS := zws_m 1017 (by decide +kernel) rfl
theorem m_1018 : Cond.lays "ScrimshawKernelModel" "ScrimshawKernelModel" "thrown" "I" ∈ zWS := zws_m 1018 (by decide +kernel) rfl
theorem m_1020 : Cond.laysFinal "ScrimshawKernelModel" "ScrimshawKernelModel" "fields" "[[Z" ∈ zWS := zws_m 1020 (by decide +kernel) rfl
theorem m_1022 : Cond.laysFinal "ScrimshawKernelModel" "ScrimshawKernelModel" "pathX" "[I" ∈ zWS := zws_m 1022 (by decide +kernel) rfl
theorem m_1024 : Cond.laysFinal "ScrimshawKernelModel" "ScrimshawKernelModel" "pathY" "[I" ∈ zWS := zws_m 1024 (by decide +kernel) rfl
theorem m_1026 : Cond.lays "ScrimshawKernelModel" "ScrimshawKernelModel" "points" "I" ∈ zWS := zws_m 1026 (by decide +kernel) rfl
theorem m_1028 : Cond.lays "ScrimshawKernelModel" "ScrimshawKernelModel" "kept" "I" ∈ zWS := zws_m 1028 (by decide +kernel) rfl
theorem m_1030 : Cond.laysFinal "ScrimshawKernelModel" "ScrimshawKernelModel" "keptRegion" "[I" ∈ zWS := zws_m 1030 (by decide +kernel) rfl
theorem m_1032 : Cond.laysFinal "ScrimshawKernelModel" "ScrimshawKernelModel" "keptFields" "[[Z" ∈ zWS := zws_m 1032 (by decide +kernel) rfl
theorem m_1035 : Cond.arrayClass FieldType.boolean ∈ zWS := zws_m 1035 (by decide +kernel) rfl
theorem m_1044 : Cond.methodLink "ScrimshawKernelModel" (36 : Nat) ({ cls := "ScrimshawKernelModel", name := "isIn", desc := "(III)Z" } : MethodName) ∈ zWS := zws_m 1044 (by decide +kernel) rfl
theorem m_1045 : Cond.static ({ cls := "ScrimshawKernelModel", name := "isIn", desc := "(III)Z" } : MethodName) ∈ zWS := zws_m 1045 (by decide +kernel) rfl
theorem m_1046 : Cond.code ({ cls := "ScrimshawKernelModel", name := "isIn", desc := "(III)Z" } : MethodName) prog_9_method_4_code (3 : Nat) (Option.some FieldType.boolean) ∈ zWS := zws_m 1046 (by decide +kernel) rfl
theorem m_1074 : Cond.methodLink "ScrimshawKernelModel" (73 : Nat) ({ cls := "java/lang/Math", name := "max", desc := "(II)I" } : MethodName) ∈ zWS := zws_m 1074 (by decide +kernel) rfl
theorem m_1075 : Cond.methodLink "ScrimshawKernelModel" (44 : Nat) ({ cls := "ScrimshawKernelModel", name := "at", desc := "(II)I" } : MethodName) ∈ zWS := zws_m 1075 (by decide +kernel) rfl
theorem m_1076 : Cond.static ({ cls := "ScrimshawKernelModel", name := "at", desc := "(II)I" } : MethodName) ∈ zWS := zws_m 1076 (by decide +kernel) rfl
theorem m_1077 : Cond.code ({ cls := "ScrimshawKernelModel", name := "at", desc := "(II)I" } : MethodName) prog_9_method_7_code (2 : Nat) (Option.some FieldType.int) ∈ zWS := zws_m 1077 (by decide +kernel) rfl
theorem m_1085 : Cond.methodLink "ScrimshawKernelModel" (57 : Nat) ({ cls := "ScrimshawKernelModel", name := "areaOf", desc := "([Z)I" } : MethodName) ∈ zWS := zws_m 1085 (by decide +kernel) rfl
theorem m_1086 : Cond.static ({ cls := "ScrimshawKernelModel", name := "areaOf", desc := "([Z)I" } : MethodName) ∈ zWS := zws_m 1086 (by decide +kernel) rfl
theorem m_1087 : Cond.code ({ cls := "ScrimshawKernelModel", name := "areaOf", desc := "([Z)I" } : MethodName) prog_9_method_9_code (6 : Nat) (Option.some FieldType.int) ∈ zWS := zws_m 1087 (by decide +kernel) rfl
theorem m_1104 : Cond.methodLink "ScrimshawKernelModel" (40 : Nat) ({ cls := "ScrimshawKernelModel", name := "isField", desc := "(II)Z" } : MethodName) ∈ zWS := zws_m 1104 (by decide +kernel) rfl
theorem m_1105 : Cond.static ({ cls := "ScrimshawKernelModel", name := "isField", desc := "(II)Z" } : MethodName) ∈ zWS := zws_m 1105 (by decide +kernel) rfl
theorem m_1106 : Cond.code ({ cls := "ScrimshawKernelModel", name := "isField", desc := "(II)Z" } : MethodName) prog_9_method_6_code (2 : Nat) (Option.some FieldType.boolean) ∈ zWS := zws_m 1106 (by decide +kernel) rfl
theorem m_1129 : Cond.methodLink "ScrimshawKernelModel" (95 : Nat) ({ cls := "ScrimshawKernelModel", name := "has", desc := "([ZII)Z" } : MethodName) ∈ zWS := zws_m 1129 (by decide +kernel) rfl
theorem m_1130 : Cond.static ({ cls := "ScrimshawKernelModel", name := "has", desc := "([ZII)Z" } : MethodName) ∈ zWS := zws_m 1130 (by decide +kernel) rfl
theorem m_1131 : Cond.code ({ cls := "ScrimshawKernelModel", name := "has", desc := "([ZII)Z" } : MethodName) prog_9_method_8_code (3 : Nat) (Option.some FieldType.boolean) ∈ zWS := zws_m 1131 (by decide +kernel) rfl
theorem m_1136 : Cond.methodLink "ScrimshawKernelModel" (99 : Nat) ({ cls := "ScrimshawKernelModel", name := "parts", desc := "([ZZ)[I" } : MethodName) ∈ zWS := zws_m 1136 (by decide +kernel) rfl
theorem m_1137 : Cond.static ({ cls := "ScrimshawKernelModel", name := "parts", desc := "([ZZ)[I" } : MethodName) ∈ zWS := zws_m 1137 (by decide +kernel) rfl
theorem m_1138 : Cond.code ({ cls := "ScrimshawKernelModel", name := "parts", desc := "([ZZ)[I" } : MethodName) prog_9_method_26_code (17 : Nat) (Option.some (FieldType.array FieldType.int)) ∈ zWS := zws_m 1138 (by decide +kernel) rfl
theorem m_1142 : Cond.methodLink "ScrimshawKernelModel" (103 : Nat) ({ cls := "ScrimshawKernelModel", name := "most", desc := "([I)I" } : MethodName) ∈ zWS := zws_m 1142 (by decide +kernel) rfl
theorem m_1143 : Cond.static ({ cls := "ScrimshawKernelModel", name := "most", desc := "([I)I" } : MethodName) ∈ zWS := zws_m 1143 (by decide +kernel) rfl
theorem m_1144 : Cond.code ({ cls := "ScrimshawKernelModel", name := "most", desc := "([I)I" } : MethodName) prog_9_method_27_code (6 : Nat) (Option.some FieldType.int) ∈ zWS := zws_m 1144 (by decide +kernel) rfl
theorem m_1165 : Cond.methodLink "ScrimshawKernelModel" (111 : Nat) ({ cls := "ScrimshawKernelModel", name := "edgesNow", desc := "(I)I" } : MethodName) ∈ zWS := zws_m 1165 (by decide +kernel) rfl
theorem m_1167 : Cond.instanceMethod ({ cls := "ScrimshawKernelModel", name := "edgesNow", desc := "(I)I" } : MethodName) ∈ zWS := zws_m 1167 (by decide +kernel) rfl
theorem m_1168 : Cond.code ({ cls := "ScrimshawKernelModel", name := "edgesNow", desc := "(I)I" } : MethodName) prog_9_method_35_code (5 : Nat) (Option.some FieldType.int) ∈ zWS := zws_m 1168 (by decide +kernel) rfl
theorem m_1177 : Cond.methodLink "ScrimshawKernelModel" (114 : Nat) ({ cls := "ScrimshawKernelModel", name := "holesNow", desc := "(I)I" } : MethodName) ∈ zWS := zws_m 1177 (by decide +kernel) rfl
theorem m_1179 : Cond.instanceMethod ({ cls := "ScrimshawKernelModel", name := "holesNow", desc := "(I)I" } : MethodName) ∈ zWS := zws_m 1179 (by decide +kernel) rfl
theorem m_1180 : Cond.code ({ cls := "ScrimshawKernelModel", name := "holesNow", desc := "(I)I" } : MethodName) prog_9_method_29_code (2 : Nat) (Option.some FieldType.int) ∈ zWS := zws_m 1180 (by decide +kernel) rfl
theorem m_1189 : Cond.methodLink "ScrimshawKernelModel" (117 : Nat) ({ cls := "ScrimshawKernelModel", name := "boundNow", desc := "(II)I" } : MethodName) ∈ zWS := zws_m 1189 (by decide +kernel) rfl
theorem m_1191 : Cond.instanceMethod ({ cls := "ScrimshawKernelModel", name := "boundNow", desc := "(II)I" } : MethodName) ∈ zWS := zws_m 1191 (by decide +kernel) rfl
theorem m_1192 : Cond.code ({ cls := "ScrimshawKernelModel", name := "boundNow", desc := "(II)I" } : MethodName) prog_9_method_40_code (8 : Nat) (Option.some FieldType.int) ∈ zWS := zws_m 1192 (by decide +kernel) rfl
theorem m_1197 : Cond.methodLink "ScrimshawKernelModel" (134 : Nat) ({ cls := "ScrimshawKernelModel", name := "contoursNow", desc := "(I)[I" } : MethodName) ∈ zWS := zws_m 1197 (by decide +kernel) rfl
theorem m_1199 : Cond.instanceMethod ({ cls := "ScrimshawKernelModel", name := "contoursNow", desc := "(I)[I" } : MethodName) ∈ zWS := zws_m 1199 (by decide +kernel) rfl
theorem m_1200 : Cond.code ({ cls := "ScrimshawKernelModel", name := "contoursNow", desc := "(I)[I" } : MethodName) prog_9_method_45_code (21 : Nat) (Option.some (FieldType.array FieldType.int)) ∈ zWS := zws_m 1200 (by decide +kernel) rfl
theorem m_1201 : Cond.methodLink "ScrimshawKernelModel" (120 : Nat) ({ cls := "ScrimshawKernelModel", name := "isEdge", desc := "([ZIII)Z" } : MethodName) ∈ zWS := zws_m 1201 (by decide +kernel) rfl
theorem m_1202 : Cond.static ({ cls := "ScrimshawKernelModel", name := "isEdge", desc := "([ZIII)Z" } : MethodName) ∈ zWS := zws_m 1202 (by decide +kernel) rfl
theorem m_1203 : Cond.code ({ cls := "ScrimshawKernelModel", name := "isEdge", desc := "([ZIII)Z" } : MethodName) prog_9_method_42_code (4 : Nat) (Option.some FieldType.boolean) ∈ zWS := zws_m 1203 (by decide +kernel) rfl
theorem m_1245 : Cond.methodLink "ScrimshawKernelModel" (155 : Nat) ({ cls := "ScrimshawKernelModel", name := "stripsNow", desc := "(I)[I" } : MethodName) ∈ zWS := zws_m 1245 (by decide +kernel) rfl
theorem m_1247 : Cond.instanceMethod ({ cls := "ScrimshawKernelModel", name := "stripsNow", desc := "(I)[I" } : MethodName) ∈ zWS := zws_m 1247 (by decide +kernel) rfl
theorem m_1248 : Cond.code ({ cls := "ScrimshawKernelModel", name := "stripsNow", desc := "(I)[I" } : MethodName) prog_9_method_56_code (9 : Nat) (Option.some (FieldType.array FieldType.int)) ∈ zWS := zws_m 1248 (by decide +kernel) rfl
theorem m_1283 : Cond.methodLink "ScrimshawKernelLaw" (243 : Nat) ({ cls := "ScrimshawKernelModel", name := "digest", desc := "()J" } : MethodName) ∈ zWS := zws_m 1283 (by decide +kernel) rfl
theorem m_1284 : Cond.instanceMethod ({ cls := "ScrimshawKernelModel", name := "digest", desc := "()J" } : MethodName) ∈ zWS := zws_m 1284 (by decide +kernel) rfl
theorem m_1285 : Cond.selects "ScrimshawKernelModel" ({ cls := "ScrimshawKernelModel", name := "digest", desc := "()J" } : MethodName) ({ cls := "ScrimshawKernelModel", name := "digest", desc := "()J" } : MethodName) ∈ zWS := zws_m 1285 (by decide +kernel) rfl
theorem m_1286 : Cond.code ({ cls := "ScrimshawKernelModel", name := "digest", desc := "()J" } : MethodName) prog_9_method_66_code (7 : Nat) (Option.some FieldType.long) ∈ zWS := zws_m 1286 (by decide +kernel) rfl
theorem m_1287 : Cond.constantLong "ScrimshawKernelModel" (166 : Nat) (78833 : Int64) ∈ zWS := zws_m 1287 (by decide +kernel) rfl
theorem m_1288 : Cond.constantLong "ScrimshawKernelModel" (168 : Nat) (31 : Int64) ∈ zWS := zws_m 1288 (by decide +kernel) rfl
theorem m_1289 : Cond.arrayClass FieldType.double ∈ zWS := zws_m 1289 (by decide +kernel) rfl
theorem inz0 : ∀ w ∈ u_ws RX0 TX0 1, w ∈ zWS := by
  intro w hw
  obtain ⟨k, hk, rfl⟩ := List.mem_map.mp hw
  have hk2 := List.mem_range.mp hk
  match k, hk2 with
  | 0, _ => exact m_70
  | k + 1, h => exact absurd h (by omega)
theorem inz1 : ∀ w ∈ u_ws RX1 TX1 4, w ∈ zWS := by
  intro w hw
  obtain ⟨k, hk, rfl⟩ := List.mem_map.mp hw
  have hk2 := List.mem_range.mp hk
  match k, hk2 with
  | 0, _ => exact m_139
  | 1, _ => exact m_141
  | 2, _ => exact m_143
  | 3, _ => exact m_145
  | k + 4, h => exact absurd h (by omega)
theorem inz2 : ∀ w ∈ u_ws RX2 TX2 4, w ∈ zWS := by
  intro w hw
  obtain ⟨k, hk, rfl⟩ := List.mem_map.mp hw
  have hk2 := List.mem_range.mp hk
  match k, hk2 with
  | 0, _ => exact m_118
  | 1, _ => exact m_120
  | 2, _ => exact m_122
  | 3, _ => exact m_124
  | k + 4, h => exact absurd h (by omega)
theorem inz3 : ∀ w ∈ u_ws RX3 TX3 12, w ∈ zWS := by
  intro w hw
  obtain ⟨k, hk, rfl⟩ := List.mem_map.mp hw
  have hk2 := List.mem_range.mp hk
  match k, hk2 with
  | 0, _ => exact m_168
  | 1, _ => exact m_170
  | 2, _ => exact m_172
  | 3, _ => exact m_174
  | 4, _ => exact m_176
  | 5, _ => exact m_178
  | 6, _ => exact m_180
  | 7, _ => exact m_182
  | 8, _ => exact m_184
  | 9, _ => exact m_186
  | 10, _ => exact m_188
  | 11, _ => exact m_190
  | k + 12, h => exact absurd h (by omega)
theorem inz4 : ∀ w ∈ u_ws RX4 TX4 8, w ∈ zWS := by
  intro w hw
  obtain ⟨k, hk, rfl⟩ := List.mem_map.mp hw
  have hk2 := List.mem_range.mp hk
  match k, hk2 with
  | 0, _ => exact m_88
  | 1, _ => exact m_90
  | 2, _ => exact m_92
  | 3, _ => exact m_94
  | 4, _ => exact m_96
  | 5, _ => exact m_98
  | 6, _ => exact m_100
  | 7, _ => exact m_102
  | k + 8, h => exact absurd h (by omega)
theorem inz5 : ∀ w ∈ u_ws RX5 TX5 7, w ∈ zWS := by
  intro w hw
  obtain ⟨k, hk, rfl⟩ := List.mem_map.mp hw
  have hk2 := List.mem_range.mp hk
  match k, hk2 with
  | 0, _ => exact m_208
  | 1, _ => exact m_210
  | 2, _ => exact m_212
  | 3, _ => exact m_214
  | 4, _ => exact m_216
  | 5, _ => exact m_218
  | 6, _ => exact m_220
  | k + 7, h => exact absurd h (by omega)
theorem inz6 : ∀ w ∈ u_ws RX6 TX6 7, w ∈ zWS := by
  intro w hw
  obtain ⟨k, hk, rfl⟩ := List.mem_map.mp hw
  have hk2 := List.mem_range.mp hk
  match k, hk2 with
  | 0, _ => exact m_230
  | 1, _ => exact m_232
  | 2, _ => exact m_234
  | 3, _ => exact m_236
  | 4, _ => exact m_238
  | 5, _ => exact m_240
  | 6, _ => exact m_242
  | k + 7, h => exact absurd h (by omega)
theorem inz7 : ∀ w ∈ u_ws RX7 TX7 8, w ∈ zWS := by
  intro w hw
  obtain ⟨k, hk, rfl⟩ := List.mem_map.mp hw
  have hk2 := List.mem_range.mp hk
  match k, hk2 with
  | 0, _ => exact m_1018
  | 1, _ => exact m_1020
  | 2, _ => exact m_1022
  | 3, _ => exact m_1024
  | 4, _ => exact m_1026
  | 5, _ => exact m_1028
  | 6, _ => exact m_1030
  | 7, _ => exact m_1032
  | k + 8, h => exact absurd h (by omega)
/-- links between nest mates -/
def zNL : List (String × Nat × MethodName × String) := [("ScrimshawKernel", 15, ⟨"ScrimshawKernel$Fields", "<init>", "()V"⟩, "ScrimshawKernel"), ("ScrimshawKernel", 22, ⟨"ScrimshawKernel$Pen", "<init>", "()V"⟩, "ScrimshawKernel"), ("ScrimshawKernel$History", 21, ⟨"ScrimshawKernel$Fields", "<init>", "()V"⟩, "ScrimshawKernel"), ("ScrimshawKernel", 36, ⟨"ScrimshawKernel$Flood", "<init>", "()V"⟩, "ScrimshawKernel"), ("ScrimshawKernel$Flood", 11, ⟨"ScrimshawKernel$Fields", "<init>", "()V"⟩, "ScrimshawKernel"), ("ScrimshawKernel", 43, ⟨"ScrimshawKernel$Outline", "<init>", "()V"⟩, "ScrimshawKernel"), ("ScrimshawKernel$Outline", 11, ⟨"ScrimshawKernel$Fields", "<init>", "()V"⟩, "ScrimshawKernel"), ("ScrimshawKernel", 50, ⟨"ScrimshawKernel$StripWalk", "<init>", "()V"⟩, "ScrimshawKernel"), ("ScrimshawKernel$StripWalk", 11, ⟨"ScrimshawKernel$Fields", "<init>", "()V"⟩, "ScrimshawKernel"), ("ScrimshawKernel$Flood", 73, ⟨"ScrimshawKernel", "lowestBit", "(J)I"⟩, "ScrimshawKernel"), ("ScrimshawKernel$Flood", 48, ⟨"ScrimshawKernel", "bit", "(I)J"⟩, "ScrimshawKernel"), ("ScrimshawKernel$Fields", 45, ⟨"ScrimshawKernel", "lowestBit", "(J)I"⟩, "ScrimshawKernel"), ("ScrimshawKernel$Fields", 48, ⟨"ScrimshawKernel", "bit", "(I)J"⟩, "ScrimshawKernel"), ("ScrimshawKernel$Outline", 63, ⟨"ScrimshawKernel", "lowestBit", "(J)I"⟩, "ScrimshawKernel"), ("ScrimshawKernel$StripWalk", 67, ⟨"ScrimshawKernel", "lowestBit", "(J)I"⟩, "ScrimshawKernel")]
theorem nl_65 : (("ScrimshawKernel", 15, ⟨"ScrimshawKernel$Fields", "<init>", "()V"⟩, "ScrimshawKernel") : String × Nat × MethodName × String) ∈ zNL := List.mem_of_getElem? (i := 0) rfl
theorem nl_76 : (("ScrimshawKernel", 22, ⟨"ScrimshawKernel$Pen", "<init>", "()V"⟩, "ScrimshawKernel") : String × Nat × MethodName × String) ∈ zNL := List.mem_of_getElem? (i := 1) rfl
theorem nl_113 : (("ScrimshawKernel$History", 21, ⟨"ScrimshawKernel$Fields", "<init>", "()V"⟩, "ScrimshawKernel") : String × Nat × MethodName × String) ∈ zNL := List.mem_of_getElem? (i := 2) rfl
theorem nl_129 : (("ScrimshawKernel", 36, ⟨"ScrimshawKernel$Flood", "<init>", "()V"⟩, "ScrimshawKernel") : String × Nat × MethodName × String) ∈ zNL := List.mem_of_getElem? (i := 3) rfl
theorem nl_134 : (("ScrimshawKernel$Flood", 11, ⟨"ScrimshawKernel$Fields", "<init>", "()V"⟩, "ScrimshawKernel") : String × Nat × MethodName × String) ∈ zNL := List.mem_of_getElem? (i := 4) rfl
theorem nl_150 : (("ScrimshawKernel", 43, ⟨"ScrimshawKernel$Outline", "<init>", "()V"⟩, "ScrimshawKernel") : String × Nat × MethodName × String) ∈ zNL := List.mem_of_getElem? (i := 5) rfl
theorem nl_155 : (("ScrimshawKernel$Outline", 11, ⟨"ScrimshawKernel$Fields", "<init>", "()V"⟩, "ScrimshawKernel") : String × Nat × MethodName × String) ∈ zNL := List.mem_of_getElem? (i := 6) rfl
theorem nl_195 : (("ScrimshawKernel", 50, ⟨"ScrimshawKernel$StripWalk", "<init>", "()V"⟩, "ScrimshawKernel") : String × Nat × MethodName × String) ∈ zNL := List.mem_of_getElem? (i := 7) rfl
theorem nl_200 : (("ScrimshawKernel$StripWalk", 11, ⟨"ScrimshawKernel$Fields", "<init>", "()V"⟩, "ScrimshawKernel") : String × Nat × MethodName × String) ∈ zNL := List.mem_of_getElem? (i := 8) rfl
theorem nl_365 : (("ScrimshawKernel$Flood", 48, ⟨"ScrimshawKernel", "bit", "(I)J"⟩, "ScrimshawKernel") : String × Nat × MethodName × String) ∈ zNL := List.mem_of_getElem? (i := 10) rfl
theorem nl_388 : (("ScrimshawKernel$Fields", 48, ⟨"ScrimshawKernel", "bit", "(I)J"⟩, "ScrimshawKernel") : String × Nat × MethodName × String) ∈ zNL := List.mem_of_getElem? (i := 12) rfl
theorem zNL_tbl : ∀ q ∈ zNL, Cond.methodLinkNest q.1 q.2.1 q.2.2.1 q.2.2.2 ∈ lw_tbl := by
  intro q hq
  simp only [zNL, List.mem_cons, List.not_mem_nil, or_false] at hq
  rcases hq with rfl | rfl | rfl | rfl | rfl | rfl | rfl | rfl | rfl | rfl | rfl | rfl | rfl | rfl | rfl
  · exact List.mem_of_getElem? m_65
  · exact List.mem_of_getElem? m_76
  · exact List.mem_of_getElem? m_113
  · exact List.mem_of_getElem? m_129
  · exact List.mem_of_getElem? m_134
  · exact List.mem_of_getElem? m_150
  · exact List.mem_of_getElem? m_155
  · exact List.mem_of_getElem? m_195
  · exact List.mem_of_getElem? m_200
  · exact List.mem_of_getElem? m_315
  · exact List.mem_of_getElem? m_365
  · exact List.mem_of_getElem? m_379
  · exact List.mem_of_getElem? m_388
  · exact List.mem_of_getElem? m_409
  · exact List.mem_of_getElem? m_484
/-- the texts of the exceptions: places of the pool of the class -/
def zST : List (Nat × String) := [(61, "x or y is not -24 to 24"), (292, "the pen would not be at -24 to 24"), (299, "the path has 60 points"), (290, "no such region"), (95, "rule is not 0 or 1"), (111, "width or height is not 1 to 64"), (306, "a field would have an x or y that is not -32 to 31"), (126, "operation is not 0 to 3"), (132, "byX or byY is not -64 to 64"), (153, "quarters is not 0 to 3"), (308, "by is not 0 to 8, or kind is not 0 or 1"), (206, "side is not 0 to 3"), (315, "no such contour"), (317, "no such corner"), (240, "no such strip"), (243, "what is not 0 to 3"), (310, "kind is not 0 to 3, every not 1 to 20, or first not -100 to 100")]
end
section
/-! MY OWN LAYER over the kit's walk: memory as a function of the address, ints as whole numbers, the surroundings bundled. -/
abbrev zM : Type := Nat → Option va_E
abbrev zX : Type := Program × Launch × Env × Room × State × MethodId × Array Value × List Frame × Method × Code × va_G × Nat × (State → Prop)
def zi (z : Int) : Value := .int (Int32.ofInt z)
/-- memory with one cell written -/
def zu (μ : zM) (a : Nat) (e : va_E) : zM := fun q => if q = a then some e else μ q
theorem zu_s {μ : zM} {a : Nat} {e : va_E} : zu μ a e a = some e := if_pos rfl
theorem zu_n {μ : zM} {a q : Nat} {e : va_E} (h : q ≠ a) : zu μ a e q = μ q := if_neg h
theorem zu_k {μ : zM} {a q : Nat} {e : va_E} {x : Option va_E} (hq : μ q = x) (h : q ≠ a) : zu μ a e q = x := (if_neg h).trans hq
theorem zu_u (μ : zM) (a : Nat) (e f : va_E) : zu (zu μ a e) a f = zu μ a f := by
  funext q
  unfold zu
  by_cases h : q = a <;> simp [h]
theorem zu_c (μ : zM) {a b : Nat} (e f : va_E) (h : a ≠ b) : zu (zu μ a e) b f = zu (zu μ b f) a e := by
  funext q
  unfold zu
  by_cases h1 : q = a <;> by_cases h2 : q = b <;> simp_all
theorem zu_i {μ : zM} {a : Nat} {e : va_E} (h : μ a = some e) : zu μ a e = μ := by
  funext q
  unfold zu
  by_cases h1 : q = a <;> simp_all
/-- the heap holds the memory, all of it from N0 on -/
def zH (D : va_G) (N0 : Nat) (μ : zM) (H : Heap) : Prop := ∀ (a : Nat) (e : va_E), μ a = some e → va_at D vwCl (a, e) H ∧ N0 ≤ a
/-- the array classes, by numbers of their own -/
def zTY (D : va_G) : List (ClassId × FieldType) := [(D.1 100, .int), (D.1 101, .long), (D.1 102, .boolean), (D.1 103, .double), (D.1 104, .object RX0), (D.1 105, .array .boolean)]
def zS (N0 : Nat) (s : State) (H : Heap) : Prop := vx_Zq Bundle.tN "UNASSIGNED_STACK" Bundle.steD (fun q => N0 ≤ q) s H ∧ vx_Zq Bundle.tN "SUPPRESSED_SENTINEL" Bundle.listD (fun q => N0 ≤ q) s H
/-- words that are not on the tables alone: what a throw asks for -/
def zNG : List Cond := [.castable "java/lang/IllegalArgumentException" "java/lang/IllegalArgumentException", .castable "java/lang/IllegalStateException" "java/lang/IllegalStateException", .castable "java/lang/IndexOutOfBoundsException" "java/lang/IndexOutOfBoundsException",
  .declares ⟨"java/lang/RuntimeException", "<init>", "()V"⟩, .declares ⟨"java/lang/RuntimeException", "<init>", "(Ljava/lang/String;)V"⟩, .declares ⟨"java/lang/Exception", "<init>", "()V"⟩, .declares ⟨"java/lang/Exception", "<init>", "(Ljava/lang/String;)V"⟩, .declares ⟨"java/lang/Throwable", "<init>", "()V"⟩, .declares ⟨"java/lang/Throwable", "<init>", "(Ljava/lang/String;)V"⟩]
theorem zNG_moved {s U : State} (hW : s.WarmedH U.vm) (h : ∀ w ∈ zNG, va_Nw w s) : ∀ w ∈ zNG, va_Nw w U := by
  intro w hw
  have h1 := h w hw
  simp only [zNG, List.mem_cons, List.not_mem_nil, or_false] at hw
  rcases hw with rfl | rfl | rfl | rfl | rfl | rfl | rfl | rfl | rfl
  · exact va_Nw.warmC hW h1
  · exact va_Nw.warmC hW h1
  · exact va_Nw.warmC hW h1
  · exact va_Nw.warmD hW h1
  · exact va_Nw.warmD hW h1
  · exact va_Nw.warmD hW h1
  · exact va_Nw.warmD hW h1
  · exact va_Nw.warmD hW h1
  · exact va_Nw.warmD hW h1
theorem va_AOA.moved {ty : FieldType} {u U : State} (hvm : u.vm.Alike U.vm) (h : va_AOA ty u) : va_AOA ty U := arrayOver_alikeB hvm h
/-- which exceptions are none of another class -/
def zNC : List (String × String) := [("java/lang/IllegalArgumentException", "java/lang/IndexOutOfBoundsException"), ("java/lang/IllegalStateException", "java/lang/IndexOutOfBoundsException"), ("java/lang/IllegalStateException", "java/lang/IllegalArgumentException"), ("java/lang/IllegalArgumentException", "java/lang/IllegalStateException"), ("java/lang/IndexOutOfBoundsException", "java/lang/IllegalStateException"), ("java/lang/IndexOutOfBoundsException", "java/lang/IllegalArgumentException")]
/-- what is asked of every state that a method starts at -/
def zB (D : va_G) (N0 : Nat) (U : State) : Prop := va_K D vwCl (zTY D) U ∧ zS N0 U U.heap ∧ N0 ≤ U.heap.size ∧ (∀ w ∈ zWS, ∀ a, w.before a U = true) ∧ (∀ q ∈ zNL, va_Nw (.methodLinkNest q.1 q.2.1 q.2.2.1 q.2.2.2) U) ∧ (∀ w ∈ zNG, va_Nw w U) ∧ (∀ q ∈ zST, ∃ sa, vk_R RX6 q.1 q.2 sa U) ∧ va_AO RX0 U ∧ va_AOA .boolean U ∧ (∀ q ∈ zNC, va_Nc q.1 q.2 U)
theorem zB.moved {D : va_G} {N0 : Nat} {s U : State} {locs : List Loc} (h : zB D N0 s) (hW : s.WarmedH U.vm) (hS : va_S (fun q => N0 ≤ q) s.heap U.heap locs) : zB D N0 U := by
  obtain ⟨h1, h2, h3, h4, h5, h6, h7, h8, h9, h10⟩ := h
  exact ⟨va_K.moved hW.alike h1, ⟨(h2.1.moved hW.alike).kept hS.2.1, (h2.2.moved hW.alike).kept hS.2.1⟩, Nat.le_trans h3 hS.1, fun w hw a => word_at hW (good_of_word (List.mem_filter.mp hw).2) (h4 w hw #[]), fun q hq => (h5 q hq).warmM hW, zNG_moved hW h6, fun q hq => (h7 q hq).imp (fun sa h => vk_R.warm hW h), h8.moved hW.alike, h9.moved hW.alike, fun q hq => (h10 q hq).moved hW.alike⟩
/-- the locals, by their places -/
def zL (ls : Array Slot) (L : List (Option Value)) : Prop := ls.size = L.length ∧ lv_wf ls ∧ ∀ (i : Nat) (v : Value), L[i]? = some (some v) → ls[i]? = some (.val v)
def zal (L : List (Option Value)) : List (Nat × Value) := (List.range L.length).filterMap (fun i => (L[i]?.join).map (fun v => (i, v)))
theorem zal_mem {L : List (Option Value)} {i : Nat} {v : Value} : (i, v) ∈ zal L ↔ L[i]? = some (some v) := by
  unfold zal
  rw [List.mem_filterMap]
  constructor
  · rintro ⟨j, -, h⟩
    cases hj : L[j]? with
    | none => rw [hj] at h; simp at h
    | some o =>
      rw [hj] at h
      cases o with
      | none => simp at h
      | some w =>
        simp at h
        obtain ⟨rfl, rfl⟩ := h
        exact hj
  · intro h
    refine ⟨i, List.mem_range.mpr (List.getElem?_eq_some_iff.mp h).1, ?_⟩
    rw [h]
    rfl
theorem zL.has {ls : Array Slot} {L : List (Option Value)} (h : zL ls L) : lv_has ls L.length (zal L) := ⟨h.1, h.2.1, fun q hq => h.2.2 q.1 q.2 (zal_mem.mp hq)⟩
theorem zL.of {ls : Array Slot} {n : Nat} {l : List (Nat × Value)} (h : lv_has ls n l) {L : List (Option Value)} (hn : n = L.length) (hl : ∀ (i : Nat) (v : Value), L[i]? = some (some v) → (i, v) ∈ l) : zL ls L := ⟨h.1.trans hn, h.2.1, fun i v hv => h.2.2 (i, v) (hl i v hv)⟩
theorem zL.less {ls : Array Slot} {L L' : List (Option Value)} (h : zL ls L) (hn : L'.length = L.length) (hl : ∀ (i : Nat) (v : Value), L'[i]? = some (some v) → L[i]? = some (some v)) : zL ls L' := ⟨h.1.trans hn.symm, h.2.1, fun i v hv => h.2.2 i v (hl i v hv)⟩
/-- no long or double stands just ahead -/
def zok (L : List (Option Value)) (i : Nat) : Bool := match i with
  | 0 => true
  | j + 1 => match L[j]? with
    | some (some v) => v.category == 1
    | _ => true
theorem zok_use {L : List (Option Value)} {i j : Nat} {v : Value} (h : zok L i = true) (e : j + 1 = i) (hv : L[j]? = some (some v)) : v.category = 1 := by
  subst e
  simp only [zok, hv] at h
  simpa using h
theorem zL.set1 {ls : Array Slot} {L : List (Option Value)} {i : Nat} {v : Value} (hok : zok L i = true) (h : lv_has ls L.length ((i, v) :: (zal L).filter (fun q => !(q.1 == i) && !(q.1 + 1 == i && q.2.category == 2)))) : zL ls (L.set i (some v)) := by
  refine zL.of h (by simp) (fun j w hj => ?_)
  by_cases e : i = j
  · subst e
    have hl : i < L.length := by
      have := (List.getElem?_eq_some_iff.mp hj).1
      simpa using this
    rw [List.getElem?_set_self hl] at hj
    cases hj
    exact List.mem_cons_self
  · rw [List.getElem?_set_ne e] at hj
    refine List.mem_cons_of_mem _ (List.mem_filter.mpr ⟨zal_mem.mpr hj, ?_⟩)
    have e1 : (j == i) = false := by simpa using fun q : j = i => e q.symm
    have e2 : (j + 1 == i && w.category == 2) = false := by
      by_cases q : j + 1 = i
      · have := zok_use hok q hj
        simp [this]
      · simp [q]
    simp only [e1, e2]
    rfl
theorem zL.set2 {ls : Array Slot} {L : List (Option Value)} {i : Nat} {v : Value} (hok : zok L i = true) (h : lv_has ls L.length ((i, v) :: (zal L).filter (fun q => !(q.1 == i) && (!(q.1 == i + 1) && !(q.1 + 1 == i && q.2.category == 2))))) : zL ls ((L.set i (some v)).set (i + 1) none) := by
  refine zL.of h (by simp) (fun j w hj => ?_)
  by_cases e0 : i + 1 = j
  · subst e0
    have hl : i + 1 < L.length := by
      have := (List.getElem?_eq_some_iff.mp hj).1
      simpa using this
    rw [List.getElem?_set_self (by simpa using hl)] at hj
    cases hj
  · rw [List.getElem?_set_ne e0] at hj
    by_cases e : i = j
    · subst e
      have hl : i < L.length := by
        have := (List.getElem?_eq_some_iff.mp hj).1
        simpa using this
      rw [List.getElem?_set_self hl] at hj
      cases hj
      exact List.mem_cons_self
    · rw [List.getElem?_set_ne e] at hj
      refine List.mem_cons_of_mem _ (List.mem_filter.mpr ⟨zal_mem.mpr hj, ?_⟩)
      have e1 : (j == i) = false := by simpa using fun q : j = i => e q.symm
      have e3 : (j == i + 1) = false := by simpa using fun q : j = i + 1 => e0 q.symm
      have e2 : (j + 1 == i && w.category == 2) = false := by
        by_cases q : j + 1 = i
        · have := zok_use hok q hj
          simp [this]
        · simp [q]
      simp only [e1, e2, e3]
      rfl
/-- the machine at a place of the code, with a memory, with locals and a stack: it comes to Q; at most k cells of n slots are made so far -/
def Z (X : zX) (μ : zM) (k n pc : Nat) (L : List (Option Value)) (st : List Value) : Prop :=
  match X with
  | (p, l, e, R, s, m, args, below, meth, c, D, N0, Q) => ∀ (H : Heap) (locs : List Loc) (cells slots : Nat) (ls : Array Slot), zH D N0 μ H → va_S (fun q => N0 ≤ q) s.heap H locs → cells ≤ k → slots ≤ n → zL ls L → W p l e R s m args below meth c H locs cells slots Q (F0 m pc ls st)
/-- what stands fast in one method -/
def zC (X : zX) (l0 : Launch) (D0 : va_G) (n0 : Nat) (cc : ByteArray) (nL : Nat) (own : String) (Ts : List Cond) : Prop :=
  match X with
  | (p, l, e, R, s, m, args, below, meth, c, D, N0, Q) => l = l0 ∧ D = D0 ∧ N0 = n0 ∧ p.tables.exec = Jvm.exec ∧ c.code = cc ∧ c.maxLocals = nL ∧ s.vm.findClass own = some m.cls ∧ (∀ w ∈ Ts, w.before args s = true) ∧ meth.locks = false ∧ zB D N0 s
/-- the room left -/
def zR (X : zX) (k n f w : Nat) : Prop :=
  match X with
  | (p, l, e, R, s, m, args, below, meth, c, D, N0, Q) => k ≤ R.cells ∧ n ≤ R.slots ∧ f ≤ R.frames ∧ w ≤ R.locals
/-- the method is a constructor -/
def zInit (X : zX) : Prop :=
  match X with
  | (p, l, e, R, s, m, args, below, meth, c, D, N0, Q) => meth.name = "<init>"
theorem zH.seta {D : va_G} {N0 : Nat} {μ : zM} {H H1 : Heap} (h : zH D N0 μ H) {a : Nat} {e : va_E} (hP : va_at D vwCl (a, e) H1) (hN : N0 ≤ a) (hq : ∀ q : Nat, q ≠ a → H1[q]? = H[q]?) : zH D N0 (zu μ a e) H1 := by
  intro b f hb
  by_cases hba : b = a
  · subst hba
    rw [zu_s] at hb
    cases hb
    exact ⟨hP, hN⟩
  · rw [zu_n hba] at hb
    exact ⟨(h b f hb).1.kept (hq b hba), (h b f hb).2⟩
abbrev zX.D (X : zX) : va_G := X.2.2.2.2.2.2.2.2.2.2.1
abbrev zX.N (X : zX) : Nat := X.2.2.2.2.2.2.2.2.2.2.2.1
theorem zH.lt {D : va_G} {N0 : Nat} {μ : zM} {H : Heap} (h : zH D N0 μ H) {a : Nat} {e : va_E} (ha : μ a = some e) : a < H.size := (h a e ha).1.lt
theorem zH.one {D : va_G} {N0 : Nat} {μ : zM} {H : Heap} (h : zH D N0 μ H) {a : Nat} {e : va_E} (ha : μ a = some e) : va_P D vwCl [(a, e)] H := by
  intro k q hk
  have hz : k < 1 := (List.getElem?_eq_some_iff.mp hk).1
  rw [show k = 0 by omega] at hk
  cases hk
  exact (h a e ha).1
theorem zH.oneD {D : va_G} {N0 : Nat} {μ : zM} {H : Heap} (h : zH D N0 μ H) {a : Nat} {e : va_E} (ha : μ a = some e) : va_D (fun q => N0 ≤ q) [(a, e)] := by
  refine ⟨fun i j p q hi hj _ => ?_, fun k q hk => ?_⟩
  · have h1 : i < 1 := (List.getElem?_eq_some_iff.mp hi).1
    have h2 : j < 1 := (List.getElem?_eq_some_iff.mp hj).1
    omega
  · have hz : k < 1 := (List.getElem?_eq_some_iff.mp hk).1
    rw [show k = 0 by omega] at hk
    cases hk
    exact (h a e ha).2
theorem zH.kept {D : va_G} {N0 : Nat} {μ : zM} {H H1 : Heap} (h : zH D N0 μ H) (hq : ∀ (a : Nat) (e : va_E), μ a = some e → H1[a]? = H[a]?) : zH D N0 μ H1 := fun a e ha => ⟨(h a e ha).1.kept (hq a e ha), (h a e ha).2⟩
theorem zH.set {D : va_G} {N0 : Nat} {μ : zM} {H H1 : Heap} (h : zH D N0 μ H) {a : Nat} {e : va_E} (hP : va_P D vwCl [(a, e)] H1) (hN : N0 ≤ a) (hq : ∀ q : Nat, q ≠ a → H1[q]? = H[q]?) : zH D N0 (zu μ a e) H1 := by
  intro b f hb
  by_cases hba : b = a
  · subst hba
    rw [zu_s] at hb
    cases hb
    exact ⟨hP 0 _ rfl, hN⟩
  · rw [zu_n hba] at hb
    exact ⟨(h b f hb).1.kept (hq b hba), (h b f hb).2⟩


theorem zI {a : Int} (h : -2147483648 ≤ a ∧ a < 2147483648) : (Int32.ofInt a).toInt = a := Int32.toInt_ofInt_of_le (by omega) (by omega)
theorem zI_le {a b : Int} (ha : -2147483648 ≤ a ∧ a < 2147483648) (hb : -2147483648 ≤ b ∧ b < 2147483648) : Int32.ofInt a ≤ Int32.ofInt b ↔ a ≤ b := by rw [Int32.le_iff_toInt_le, zI ha, zI hb]
theorem zI_lt {a b : Int} (ha : -2147483648 ≤ a ∧ a < 2147483648) (hb : -2147483648 ≤ b ∧ b < 2147483648) : Int32.ofInt a < Int32.ofInt b ↔ a < b := by rw [Int32.lt_iff_toInt_lt, zI ha, zI hb]
theorem zI_eq {a b : Int} (ha : -2147483648 ≤ a ∧ a < 2147483648) (hb : -2147483648 ≤ b ∧ b < 2147483648) : Int32.ofInt a = Int32.ofInt b ↔ a = b := by
  constructor
  · intro h
    have := congrArg Int32.toInt h
    rwa [zI ha, zI hb] at this
  · intro h
    rw [h]
theorem zI_0 : (0 : Int32) = Int32.ofInt 0 := rfl
theorem zI_rng (x : Int32) : -2147483648 ≤ x.toInt ∧ x.toInt < 2147483648 := by
  have h1 := x.le_toInt
  have h2 := x.toInt_lt
  omega
theorem zI_as (x : Int32) : Int32.ofInt x.toInt = x := by simp
theorem zi_as (x : Int32) : zi x.toInt = .int x := by unfold zi; rw [zI_as]
theorem zI_add (a b : Int) : Int32.ofInt a + Int32.ofInt b = Int32.ofInt (a + b) := (Int32.ofInt_add _ _).symm
theorem zI_sub (a b : Int) : Int32.ofInt a - Int32.ofInt b = Int32.ofInt (a - b) := (Int32.ofInt_sub _ _).symm
theorem zI_mul (a b : Int) : Int32.ofInt a * Int32.ofInt b = Int32.ofInt (a * b) := (Int32.ofInt_mul _ _).symm
theorem zI_neg (a : Int) : -Int32.ofInt a = Int32.ofInt (-a) := (Int32.ofInt_neg _).symm
theorem zI_nc {a : Int} (h : 0 ≤ a ∧ a < 2147483648) : (Int32.ofInt a).toNatClampNeg = a.toNat := by
  show (Int32.ofInt a).toInt.toNat = a.toNat
  rw [zI (by omega)]
theorem zI_in {a : Int} {n : Nat} (h : 0 ≤ a ∧ a < n) (hn : n < 2147483648) : vp_in (Int32.ofInt a) n := by
  unfold vp_in
  rw [zI_0, zI_lt (by omega) (by omega), zI_nc (by omega)]
  omega
/-- two contents of an array that agree on its places are one cell -/
theorem vp_cell_cong_i {cA : ClassId} {n : Nat} {f g : Nat → Int32} (h : ∀ j, j < n → f j = g j) : vp_cell cA (n, .inl f) = vp_cell cA (n, .inl g) := by
  rw [vp_cell_i, vp_cell_i]
  unfold arrV
  congr 2
  funext j
  exact congrArg Value.int (h j.val j.isLt)
theorem vp_cell_cong_l {cA : ClassId} {n : Nat} {f g : Nat → Int64} (h : ∀ j, j < n → f j = g j) : vp_cell cA (n, .inr (.inl f)) = vp_cell cA (n, .inr (.inl g)) := by
  rw [vp_cell_l, vp_cell_l]
  unfold arrV
  congr 2
  funext j
  exact congrArg Value.long (h j.val j.isLt)
theorem vp_cell_cong_q {cA : ClassId} {n : Nat} {f g : Nat → Option Nat} (h : ∀ j, j < n → f j = g j) : vp_cell cA (n, .inr (.inr (.inr (.inr f)))) = vp_cell cA (n, .inr (.inr (.inr (.inr g)))) := by
  rw [vp_cell_q, vp_cell_q]
  unfold arrV
  congr 2
  funext j
  exact congrArg va_rf (h j.val j.isLt)
/-- arrays: of ints, of booleans (0, 1), of longs, of references -/
def zAI (D : va_G) (n : Nat) (g : Nat → Int) : va_E := .inl (D.1 100, n, .inl (fun j => Int32.ofInt (g j)))
def zAZ (D : va_G) (n : Nat) (g : Nat → Int) : va_E := .inl (D.1 102, n, .inl (fun j => Int32.ofInt (g j)))
def zAL (D : va_G) (n : Nat) (f : Nat → Int64) : va_E := .inl (D.1 101, n, .inr (.inl f))
def zAD (D : va_G) (n : Nat) (f : Nat → UInt64) : va_E := .inl (D.1 103, n, .inr (.inr (.inr (.inl f))))
def zAF (D : va_G) (n : Nat) (f : Nat → Option Nat) : va_E := .inl (D.1 104, n, .inr (.inr (.inr (.inr f))))
def zAB (D : va_G) (n : Nat) (f : Nat → Option Nat) : va_E := .inl (D.1 105, n, .inr (.inr (.inr (.inr f))))
def zw {α : Type} (g : Nat → α) (k : Nat) (x : α) : Nat → α := fun j => if j = k then x else g j
theorem zw_s {α : Type} {g : Nat → α} {k : Nat} {x : α} : zw g k x k = x := if_pos rfl
theorem zw_n {α : Type} {g : Nat → α} {k j : Nat} {x : α} (h : j ≠ k) : zw g k x j = g j := if_neg h
theorem zAI_eq {D : va_G} {N0 : Nat} {μ : zM} {H : Heap} {a n : Nat} {f g : Nat → Int} (h : ∀ j, j < n → f j = g j) (hH : zH D N0 (zu μ a (zAI D n f)) H) : zH D N0 (zu μ a (zAI D n g)) H := by
  intro b e hb
  by_cases q : b = a
  · subst q
    rw [zu_s] at hb
    cases hb
    refine ⟨?_, (hH b _ zu_s).2⟩
    have := (hH b _ zu_s).1
    show H[b]? = some (vp_cell _ _)
    rw [← vp_cell_cong_i (f := fun j => Int32.ofInt (f j)) (fun j hj => by rw [h j hj])]
    exact this
  · rw [zu_n q] at hb
    exact hH b e (by rw [zu_n q]; exact hb)
theorem zAZ_eq {D : va_G} {N0 : Nat} {μ : zM} {H : Heap} {a n : Nat} {f g : Nat → Int} (h : ∀ j, j < n → f j = g j) (hH : zH D N0 (zu μ a (zAZ D n f)) H) : zH D N0 (zu μ a (zAZ D n g)) H := by
  intro b e hb
  by_cases q : b = a
  · subst q
    rw [zu_s] at hb
    cases hb
    refine ⟨?_, (hH b _ zu_s).2⟩
    have := (hH b _ zu_s).1
    show H[b]? = some (vp_cell _ _)
    rw [← vp_cell_cong_i (f := fun j => Int32.ofInt (f j)) (fun j hj => by rw [h j hj])]
    exact this
  · rw [zu_n q] at hb
    exact hH b e (by rw [zu_n q]; exact hb)
theorem zAL_eq {D : va_G} {N0 : Nat} {μ : zM} {H : Heap} {a n : Nat} {f g : Nat → Int64} (h : ∀ j, j < n → f j = g j) (hH : zH D N0 (zu μ a (zAL D n f)) H) : zH D N0 (zu μ a (zAL D n g)) H := by
  intro b e hb
  by_cases q : b = a
  · subst q
    rw [zu_s] at hb
    cases hb
    refine ⟨?_, (hH b _ zu_s).2⟩
    have := (hH b _ zu_s).1
    show H[b]? = some (vp_cell _ _)
    rw [← vp_cell_cong_l (f := f) (fun j hj => h j hj)]
    exact this
  · rw [zu_n q] at hb
    exact hH b e (by rw [zu_n q]; exact hb)
section ZROWS
variable {X : zX} {l : Launch} {D : va_G} {N0 : Nat} {cc : ByteArray} {nL : Nat} {own : String} {Ts : List Cond} {μ : zM} {kc kn pc : Nat} {L L' : List (Option Value)} {st : List Value}

theorem z_iconst (C : zC X l D N0 cc nL own Ts) {n : Int} (d : decode cc pc = .ok (.iconst n, 1)) (k : Z X μ kc kn (pc + 1) L (zi n :: st)) : Z X μ kc kn pc L (st) := by
  obtain ⟨p, l', e, R, s, m, args, below, meth, c, D', N', Q⟩ := X
  obtain ⟨rfl, rfl, rfl, hx, hb, hml, hown, hts, hlk, hB⟩ := C
  intro H locs cells slots ls hH hS hc1 hs1 hl
  exact lv_iconst hx hb d rfl (k H locs cells slots ls hH hS hc1 hs1 hl)
theorem z_bipush (C : zC X l D N0 cc nL own Ts) {n : Int} (d : decode cc pc = .ok (.bipush n, 2)) (k : Z X μ kc kn (pc + 2) L (zi n :: st)) (hv : (Int8.ofInt n).toInt32 = Int32.ofInt n := by decide) : Z X μ kc kn pc L st := by
  obtain ⟨p, l', e, R, s, m, args, below, meth, c, D', N', Q⟩ := X
  obtain ⟨rfl, rfl, rfl, hx, hb, hml, hown, hts, hlk, hB⟩ := C
  intro H locs cells slots ls hH hS hc1 hs1 hl
  exact lv_bipush hx hb d hv (k H locs cells slots ls hH hS hc1 hs1 hl)
theorem z_sipush (C : zC X l D N0 cc nL own Ts) {n : Int} (d : decode cc pc = .ok (.sipush n, 3)) (k : Z X μ kc kn (pc + 3) L (zi n :: st)) (hv : (Int16.ofInt n).toInt32 = Int32.ofInt n := by decide) : Z X μ kc kn pc L st := by
  obtain ⟨p, l', e, R, s, m, args, below, meth, c, D', N', Q⟩ := X
  obtain ⟨rfl, rfl, rfl, hx, hb, hml, hown, hts, hlk, hB⟩ := C
  intro H locs cells slots ls hH hS hc1 hs1 hl
  exact lv_sipush hx hb d hv (k H locs cells slots ls hH hS hc1 hs1 hl)
theorem z_lconst_0 (C : zC X l D N0 cc nL own Ts) (d : decode cc pc = .ok (.lconst 0, 1)) (k : Z X μ kc kn (pc + 1) L (.long 0 :: st)) : Z X μ kc kn pc L (st) := by
  obtain ⟨p, l', e, R, s, m, args, below, meth, c, D', N', Q⟩ := X
  obtain ⟨rfl, rfl, rfl, hx, hb, hml, hown, hts, hlk, hB⟩ := C
  intro H locs cells slots ls hH hS hc1 hs1 hl
  exact lv_lconst hx hb d (v := 0) rfl (k H locs cells slots ls hH hS hc1 hs1 hl)
theorem z_lconst_1 (C : zC X l D N0 cc nL own Ts) (d : decode cc pc = .ok (.lconst 1, 1)) (k : Z X μ kc kn (pc + 1) L (.long 1 :: st)) : Z X μ kc kn pc L (st) := by
  obtain ⟨p, l', e, R, s, m, args, below, meth, c, D', N', Q⟩ := X
  obtain ⟨rfl, rfl, rfl, hx, hb, hml, hown, hts, hlk, hB⟩ := C
  intro H locs cells slots ls hH hS hc1 hs1 hl
  exact lv_lconst hx hb d (v := 1) rfl (k H locs cells slots ls hH hS hc1 hs1 hl)
theorem z_dconst0 (C : zC X l D N0 cc nL own Ts) (d : decode cc pc = .ok (.dconst 0, 1)) (k : Z X μ kc kn (pc + 1) L (.double FP.dconst0 :: st)) : Z X μ kc kn pc L (st) := by
  obtain ⟨p, l', e, R, s, m, args, below, meth, c, D', N', Q⟩ := X
  obtain ⟨rfl, rfl, rfl, hx, hb, hml, hown, hts, hlk, hB⟩ := C
  intro H locs cells slots ls hH hS hc1 hs1 hl
  exact lv_dconst0 hx hb d (k H locs cells slots ls hH hS hc1 hs1 hl)
theorem z_ldc2 (C : zC X l D N0 cc nL own Ts) {i : Nat} {v : Int64} (hc : Cond.constantLong own i v ∈ Ts) (d : decode cc pc = .ok (.ldc2_w i, 3)) (k : Z X μ kc kn (pc + 3) L (.long v :: st)) : Z X μ kc kn pc L (st) := by
  obtain ⟨p, l', e, R, s, m, args, below, meth, c, D', N', Q⟩ := X
  obtain ⟨rfl, rfl, rfl, hx, hb, hml, hown, hts, hlk, hB⟩ := C
  intro H locs cells slots ls hH hS hc1 hs1 hl
  exact lv_ldc2 hx hb hown (hts _ hc) d (k H locs cells slots ls hH hS hc1 hs1 hl)
theorem z_iload_n (C : zC X l D N0 cc nL own Ts) {i : Fin 4} {x : Int} (d : decode cc pc = .ok (.iload_n i, 1)) (h : L[i.val]? = some (some (zi x))) (k : Z X μ kc kn (pc + 1) L (zi x :: st)) : Z X μ kc kn pc L (st) := by
  obtain ⟨p, l', e, R, s, m, args, below, meth, c, D', N', Q⟩ := X
  obtain ⟨rfl, rfl, rfl, hx, hb, hml, hown, hts, hlk, hB⟩ := C
  intro H locs cells slots ls hH hS hc1 hs1 hl
  exact lv_iload_n hx hb d rfl (hl.2.2 _ _ h) (k H locs cells slots ls hH hS hc1 hs1 hl)
theorem z_iload (C : zC X l D N0 cc nL own Ts) {i : Nat} {x : Int} (d : decode cc pc = .ok (.iload i, 2)) (h : L[i]? = some (some (zi x))) (k : Z X μ kc kn (pc + 2) L (zi x :: st)) : Z X μ kc kn pc L (st) := by
  obtain ⟨p, l', e, R, s, m, args, below, meth, c, D', N', Q⟩ := X
  obtain ⟨rfl, rfl, rfl, hx, hb, hml, hown, hts, hlk, hB⟩ := C
  intro H locs cells slots ls hH hS hc1 hs1 hl
  exact lv_iload hx hb d (hl.2.2 _ _ h) (k H locs cells slots ls hH hS hc1 hs1 hl)
theorem z_lload_n (C : zC X l D N0 cc nL own Ts) {i : Fin 4} {x : Int64} (d : decode cc pc = .ok (.lload_n i, 1)) (h : L[i.val]? = some (some (.long x))) (k : Z X μ kc kn (pc + 1) L (.long x :: st)) : Z X μ kc kn pc L (st) := by
  obtain ⟨p, l', e, R, s, m, args, below, meth, c, D', N', Q⟩ := X
  obtain ⟨rfl, rfl, rfl, hx, hb, hml, hown, hts, hlk, hB⟩ := C
  intro H locs cells slots ls hH hS hc1 hs1 hl
  exact lv_lload_n hx hb d rfl (hl.2.2 _ _ h) (k H locs cells slots ls hH hS hc1 hs1 hl)
theorem z_lload (C : zC X l D N0 cc nL own Ts) {i : Nat} {x : Int64} (d : decode cc pc = .ok (.lload i, 2)) (h : L[i]? = some (some (.long x))) (k : Z X μ kc kn (pc + 2) L (.long x :: st)) : Z X μ kc kn pc L (st) := by
  obtain ⟨p, l', e, R, s, m, args, below, meth, c, D', N', Q⟩ := X
  obtain ⟨rfl, rfl, rfl, hx, hb, hml, hown, hts, hlk, hB⟩ := C
  intro H locs cells slots ls hH hS hc1 hs1 hl
  exact lv_lload hx hb d (hl.2.2 _ _ h) (k H locs cells slots ls hH hS hc1 hs1 hl)
theorem z_aload_n (C : zC X l D N0 cc nL own Ts) {i : Fin 4} {x : Nat} (d : decode cc pc = .ok (.aload_n i, 1)) (h : L[i.val]? = some (some (.ref x))) (k : Z X μ kc kn (pc + 1) L (.ref x :: st)) : Z X μ kc kn pc L (st) := by
  obtain ⟨p, l', e, R, s, m, args, below, meth, c, D', N', Q⟩ := X
  obtain ⟨rfl, rfl, rfl, hx, hb, hml, hown, hts, hlk, hB⟩ := C
  intro H locs cells slots ls hH hS hc1 hs1 hl
  exact lv_aload_n hx hb d rfl (hl.2.2 _ _ h) (k H locs cells slots ls hH hS hc1 hs1 hl)
theorem z_aload (C : zC X l D N0 cc nL own Ts) {i : Nat} {x : Nat} (d : decode cc pc = .ok (.aload i, 2)) (h : L[i]? = some (some (.ref x))) (k : Z X μ kc kn (pc + 2) L (.ref x :: st)) : Z X μ kc kn pc L (st) := by
  obtain ⟨p, l', e, R, s, m, args, below, meth, c, D', N', Q⟩ := X
  obtain ⟨rfl, rfl, rfl, hx, hb, hml, hown, hts, hlk, hB⟩ := C
  intro H locs cells slots ls hH hS hc1 hs1 hl
  exact lv_aload hx hb d (hl.2.2 _ _ h) (k H locs cells slots ls hH hS hc1 hs1 hl)
theorem z_dload_n (C : zC X l D N0 cc nL own Ts) {i : Fin 4} {x : UInt64} (d : decode cc pc = .ok (.dload_n i, 1)) (h : L[i.val]? = some (some (.double x))) (k : Z X μ kc kn (pc + 1) L (.double x :: st)) : Z X μ kc kn pc L (st) := by
  obtain ⟨p, l', e, R, s, m, args, below, meth, c, D', N', Q⟩ := X
  obtain ⟨rfl, rfl, rfl, hx, hb, hml, hown, hts, hlk, hB⟩ := C
  intro H locs cells slots ls hH hS hc1 hs1 hl
  exact lv_dload_n hx hb d rfl (hl.2.2 _ _ h) (k H locs cells slots ls hH hS hc1 hs1 hl)
theorem z_dload (C : zC X l D N0 cc nL own Ts) {i : Nat} {x : UInt64} (d : decode cc pc = .ok (.dload i, 2)) (h : L[i]? = some (some (.double x))) (k : Z X μ kc kn (pc + 2) L (.double x :: st)) : Z X μ kc kn pc L (st) := by
  obtain ⟨p, l', e, R, s, m, args, below, meth, c, D', N', Q⟩ := X
  obtain ⟨rfl, rfl, rfl, hx, hb, hml, hown, hts, hlk, hB⟩ := C
  intro H locs cells slots ls hH hS hc1 hs1 hl
  exact lv_dload hx hb d (hl.2.2 _ _ h) (k H locs cells slots ls hH hS hc1 hs1 hl)
theorem z_istore_n (C : zC X l D N0 cc nL own Ts) {i : Fin 4} {x : Int} (d : decode cc pc = .ok (.istore_n i, 1)) (h : L.set i.val (some (zi x)) = L') (k : Z X μ kc kn (pc + 1) L' st) (hi : i.val < L.length := by exact Nat.le_of_ble_eq_true rfl) (hok : zok L i.val = true := by rfl) : Z X μ kc kn pc L (zi x :: st) := by
  obtain ⟨p, l', e, R, s, m, args, below, meth, c, D', N', Q⟩ := X
  obtain ⟨rfl, rfl, rfl, hx, hb, hml, hown, hts, hlk, hB⟩ := C
  intro H locs cells slots ls hH hS hc1 hs1 hl
  subst h
  exact lv_istore_n hx hb d rfl hl.has hi rfl (fun ls1 h1 => k H locs cells slots ls1 hH hS hc1 hs1 (zL.set1 hok h1))
theorem z_istore (C : zC X l D N0 cc nL own Ts) {i : Nat} {x : Int} (d : decode cc pc = .ok (.istore i, 2)) (h : L.set i (some (zi x)) = L') (k : Z X μ kc kn (pc + 2) L' st) (hi : i < L.length := by exact Nat.le_of_ble_eq_true rfl) (hok : zok L i = true := by rfl) : Z X μ kc kn pc L (zi x :: st) := by
  obtain ⟨p, l', e, R, s, m, args, below, meth, c, D', N', Q⟩ := X
  obtain ⟨rfl, rfl, rfl, hx, hb, hml, hown, hts, hlk, hB⟩ := C
  intro H locs cells slots ls hH hS hc1 hs1 hl
  subst h
  exact lv_istore hx hb d hl.has hi rfl (fun ls1 h1 => k H locs cells slots ls1 hH hS hc1 hs1 (zL.set1 hok h1))
theorem z_lstore_n (C : zC X l D N0 cc nL own Ts) {i : Fin 4} {x : Int64} (d : decode cc pc = .ok (.lstore_n i, 1)) (h : (L.set i.val (some (.long x))).set (i.val + 1) none = L') (k : Z X μ kc kn (pc + 1) L' st) (hi : i.val + 1 < L.length := by exact Nat.le_of_ble_eq_true rfl) (hok : zok L i.val = true := by rfl) : Z X μ kc kn pc L (.long x :: st) := by
  obtain ⟨p, l', e, R, s, m, args, below, meth, c, D', N', Q⟩ := X
  obtain ⟨rfl, rfl, rfl, hx, hb, hml, hown, hts, hlk, hB⟩ := C
  intro H locs cells slots ls hH hS hc1 hs1 hl
  subst h
  exact lv_lstore_n hx hb d rfl hl.has hi rfl (fun ls1 h1 => k H locs cells slots ls1 hH hS hc1 hs1 (zL.set2 hok h1))
theorem z_lstore (C : zC X l D N0 cc nL own Ts) {i : Nat} {x : Int64} (d : decode cc pc = .ok (.lstore i, 2)) (h : (L.set i (some (.long x))).set (i + 1) none = L') (k : Z X μ kc kn (pc + 2) L' st) (hi : i + 1 < L.length := by exact Nat.le_of_ble_eq_true rfl) (hok : zok L i = true := by rfl) : Z X μ kc kn pc L (.long x :: st) := by
  obtain ⟨p, l', e, R, s, m, args, below, meth, c, D', N', Q⟩ := X
  obtain ⟨rfl, rfl, rfl, hx, hb, hml, hown, hts, hlk, hB⟩ := C
  intro H locs cells slots ls hH hS hc1 hs1 hl
  subst h
  exact lv_lstore hx hb d hl.has hi rfl (fun ls1 h1 => k H locs cells slots ls1 hH hS hc1 hs1 (zL.set2 hok h1))
theorem z_astore_n (C : zC X l D N0 cc nL own Ts) {i : Fin 4} {x : Nat} (d : decode cc pc = .ok (.astore_n i, 1)) (h : L.set i.val (some (.ref x)) = L') (k : Z X μ kc kn (pc + 1) L' st) (hi : i.val < L.length := by exact Nat.le_of_ble_eq_true rfl) (hok : zok L i.val = true := by rfl) : Z X μ kc kn pc L (.ref x :: st) := by
  obtain ⟨p, l', e, R, s, m, args, below, meth, c, D', N', Q⟩ := X
  obtain ⟨rfl, rfl, rfl, hx, hb, hml, hown, hts, hlk, hB⟩ := C
  intro H locs cells slots ls hH hS hc1 hs1 hl
  subst h
  exact lv_astore_n hx hb d rfl hl.has hi rfl (fun ls1 h1 => k H locs cells slots ls1 hH hS hc1 hs1 (zL.set1 hok h1))
theorem z_astore (C : zC X l D N0 cc nL own Ts) {i : Nat} {x : Nat} (d : decode cc pc = .ok (.astore i, 2)) (h : L.set i (some (.ref x)) = L') (k : Z X μ kc kn (pc + 2) L' st) (hi : i < L.length := by exact Nat.le_of_ble_eq_true rfl) (hok : zok L i = true := by rfl) : Z X μ kc kn pc L (.ref x :: st) := by
  obtain ⟨p, l', e, R, s, m, args, below, meth, c, D', N', Q⟩ := X
  obtain ⟨rfl, rfl, rfl, hx, hb, hml, hown, hts, hlk, hB⟩ := C
  intro H locs cells slots ls hH hS hc1 hs1 hl
  subst h
  exact lv_astore hx hb d hl.has hi rfl (fun ls1 h1 => k H locs cells slots ls1 hH hS hc1 hs1 (zL.set1 hok h1))
theorem z_iinc (C : zC X l D N0 cc nL own Ts) {i : Nat} {n x : Int} (d : decode cc pc = .ok (.iinc i n, 3)) (h : L[i]? = some (some (zi x))) (h2 : L.set i (some (zi (x + n))) = L') (k : Z X μ kc kn (pc + 3) L' st) (hok : zok L i = true := by rfl) : Z X μ kc kn pc L st := by
  obtain ⟨p, l', e, R, s, m, args, below, meth, c, D', N', Q⟩ := X
  obtain ⟨rfl, rfl, rfl, hx, hb, hml, hown, hts, hlk, hB⟩ := C
  intro H locs cells slots ls hH hS hc1 hs1 hl
  subst h2
  obtain ⟨k0, hk0⟩ := List.getElem?_of_mem (zal_mem.mpr h)
  exact lv_iinc hx hb d hl.has hk0 (zI_add x n) (List.getElem?_eq_some_iff.mp h).1 rfl (fun ls1 h1 => k H locs cells slots ls1 hH hS hc1 hs1 (zL.set1 hok h1))
theorem z_less (hn : L'.length = L.length) (hl : ∀ (i : Nat) (v : Value), L'[i]? = some (some v) → L[i]? = some (some v)) (k : Z X μ kc kn pc L' st) : Z X μ kc kn pc L st := by
  obtain ⟨p, l', e, R, s, m, args, below, meth, c, D', N', Q⟩ := X
  intro H locs cells slots ls hH hS hc1 hs1 hls
  exact k H locs cells slots ls hH hS hc1 hs1 (hls.less hn hl)
def zle : List (Option Value) → List (Option Value) → Prop
  | [], [] => True
  | a :: s, b :: t => (a = none ∨ a = b) ∧ zle s t
  | _, _ => False
theorem zle_use : ∀ {L' L : List (Option Value)}, zle L' L → L'.length = L.length ∧ ∀ (i : Nat) (v : Value), L'[i]? = some (some v) → L[i]? = some (some v)
  | [], [], _ => ⟨rfl, fun i v h => by simp at h⟩
  | a :: s, b :: t, h => by
    obtain ⟨h1, h2⟩ := zle_use h.2
    refine ⟨by simp [h1], fun i v hv => ?_⟩
    cases i with
    | zero =>
      rcases h.1 with q | q
      · subst q; simp at hv
      · subst q; exact hv
    | succ i => exact h2 i v hv
  | [], b :: t, h => h.elim
  | a :: s, [], h => h.elim
theorem z_fewer (h : zle L' L) (k : Z X μ kc kn pc L' st) : Z X μ kc kn pc L st := z_less (zle_use h).1 (zle_use h).2 k
theorem z_more {k1 n1 : Nat} (h1 : kc ≤ k1) (h2 : kn ≤ n1) (k : Z X μ k1 n1 pc L st) : Z X μ kc kn pc L st := by
  obtain ⟨p, l', e, R, s, m, args, below, meth, c, D', N', Q⟩ := X
  intro H locs cells slots ls hH hS hc1 hs1 hls
  exact k H locs cells slots ls hH hS (Nat.le_trans hc1 h1) (Nat.le_trans hs1 h2) hls
/-- less need be known of the memory -/
theorem z_mem {μ' : zM} (h : ∀ (a : Nat) (e : va_E), μ' a = some e → μ a = some e) (k : Z X μ' kc kn pc L st) : Z X μ kc kn pc L st := by
  obtain ⟨p, l', e, R, s, m, args, below, meth, c, D', N', Q⟩ := X
  intro H locs cells slots ls hH hS hc1 hs1 hls
  exact k H locs cells slots ls (fun a e ha => hH a e (h a e ha)) hS hc1 hs1 hls
theorem z_eqI (C : zC X l D N0 cc nL own Ts) {a n : Nat} {f g : Nat → Int} (h : ∀ j, j < n → f j = g j) (k : Z X (zu μ a (zAI D n g)) kc kn pc L st) : Z X (zu μ a (zAI D n f)) kc kn pc L st := by
  obtain ⟨p, l', e, R, s, m, args, below, meth, c, D', N', Q⟩ := X
  obtain ⟨rfl, rfl, rfl, hx, hb, hml, hown, hts, hlk, hB⟩ := C
  intro H locs cells slots ls hH hS hc1 hs1 hl
  exact k H locs cells slots ls (zAI_eq h hH) hS hc1 hs1 hl
theorem z_eqZ (C : zC X l D N0 cc nL own Ts) {a n : Nat} {f g : Nat → Int} (h : ∀ j, j < n → f j = g j) (k : Z X (zu μ a (zAZ D n g)) kc kn pc L st) : Z X (zu μ a (zAZ D n f)) kc kn pc L st := by
  obtain ⟨p, l', e, R, s, m, args, below, meth, c, D', N', Q⟩ := X
  obtain ⟨rfl, rfl, rfl, hx, hb, hml, hown, hts, hlk, hB⟩ := C
  intro H locs cells slots ls hH hS hc1 hs1 hl
  exact k H locs cells slots ls (zAZ_eq h hH) hS hc1 hs1 hl
theorem z_eqL (C : zC X l D N0 cc nL own Ts) {a n : Nat} {f g : Nat → Int64} (h : ∀ j, j < n → f j = g j) (k : Z X (zu μ a (zAL D n g)) kc kn pc L st) : Z X (zu μ a (zAL D n f)) kc kn pc L st := by
  obtain ⟨p, l', e, R, s, m, args, below, meth, c, D', N', Q⟩ := X
  obtain ⟨rfl, rfl, rfl, hx, hb, hml, hown, hts, hlk, hB⟩ := C
  intro H locs cells slots ls hH hS hc1 hs1 hl
  exact k H locs cells slots ls (zAL_eq h hH) hS hc1 hs1 hl
theorem z_iadd (C : zC X l D N0 cc nL own Ts) {x y : Int} (d : decode cc pc = .ok (.iadd, 1)) (k : Z X μ kc kn (pc + 1) L (zi (x + y) :: st)) : Z X μ kc kn pc L (zi y :: zi x :: st) := by
  obtain ⟨p, l', e, R, s, m, args, below, meth, c, D', N', Q⟩ := X
  obtain ⟨rfl, rfl, rfl, hx, hb, hml, hown, hts, hlk, hB⟩ := C
  intro H locs cells slots ls hH hS hc1 hs1 hl
  have k2 := k H locs cells slots ls hH hS hc1 hs1 hl
  unfold zi at k2 ⊢
  rw [← zI_add] at k2
  exact lv_iadd hx hb d k2
theorem z_isub (C : zC X l D N0 cc nL own Ts) {x y : Int} (d : decode cc pc = .ok (.isub, 1)) (k : Z X μ kc kn (pc + 1) L (zi (x - y) :: st)) : Z X μ kc kn pc L (zi y :: zi x :: st) := by
  obtain ⟨p, l', e, R, s, m, args, below, meth, c, D', N', Q⟩ := X
  obtain ⟨rfl, rfl, rfl, hx, hb, hml, hown, hts, hlk, hB⟩ := C
  intro H locs cells slots ls hH hS hc1 hs1 hl
  have k2 := k H locs cells slots ls hH hS hc1 hs1 hl
  unfold zi at k2 ⊢
  rw [← zI_sub] at k2
  exact lv_isub hx hb d k2
theorem z_imul (C : zC X l D N0 cc nL own Ts) {x y : Int} (d : decode cc pc = .ok (.imul, 1)) (k : Z X μ kc kn (pc + 1) L (zi (x * y) :: st)) : Z X μ kc kn pc L (zi y :: zi x :: st) := by
  obtain ⟨p, l', e, R, s, m, args, below, meth, c, D', N', Q⟩ := X
  obtain ⟨rfl, rfl, rfl, hx, hb, hml, hown, hts, hlk, hB⟩ := C
  intro H locs cells slots ls hH hS hc1 hs1 hl
  have k2 := k H locs cells slots ls hH hS hc1 hs1 hl
  unfold zi at k2 ⊢
  rw [← zI_mul] at k2
  exact lv_imul hx hb d k2
theorem z_ineg (C : zC X l D N0 cc nL own Ts) {x : Int} (d : decode cc pc = .ok (.ineg, 1)) (k : Z X μ kc kn (pc + 1) L (zi (-x) :: st)) : Z X μ kc kn pc L (zi x :: st) := by
  obtain ⟨p, l', e, R, s, m, args, below, meth, c, D', N', Q⟩ := X
  obtain ⟨rfl, rfl, rfl, hx, hb, hml, hown, hts, hlk, hB⟩ := C
  intro H locs cells slots ls hH hS hc1 hs1 hl
  have k2 := k H locs cells slots ls hH hS hc1 hs1 hl
  unfold zi at k2 ⊢
  rw [← zI_neg] at k2
  exact lv_ineg hx hb d k2
theorem z_iand (C : zC X l D N0 cc nL own Ts) {x y v : Int} (d : decode cc pc = .ok (.iand, 1)) (hv : Int32.ofInt x &&& Int32.ofInt y = Int32.ofInt v) (k : Z X μ kc kn (pc + 1) L (zi v :: st)) : Z X μ kc kn pc L (zi y :: zi x :: st) := by
  obtain ⟨p, l', e, R, s, m, args, below, meth, c, D', N', Q⟩ := X
  obtain ⟨rfl, rfl, rfl, hx, hb, hml, hown, hts, hlk, hB⟩ := C
  intro H locs cells slots ls hH hS hc1 hs1 hl
  have k2 := k H locs cells slots ls hH hS hc1 hs1 hl
  unfold zi at k2 ⊢
  rw [← hv] at k2
  exact lv_iand hx hb d k2
theorem z_ior (C : zC X l D N0 cc nL own Ts) {x y v : Int} (d : decode cc pc = .ok (.ior, 1)) (hv : Int32.ofInt x ||| Int32.ofInt y = Int32.ofInt v) (k : Z X μ kc kn (pc + 1) L (zi v :: st)) : Z X μ kc kn pc L (zi y :: zi x :: st) := by
  obtain ⟨p, l', e, R, s, m, args, below, meth, c, D', N', Q⟩ := X
  obtain ⟨rfl, rfl, rfl, hx, hb, hml, hown, hts, hlk, hB⟩ := C
  intro H locs cells slots ls hH hS hc1 hs1 hl
  have k2 := k H locs cells slots ls hH hS hc1 hs1 hl
  unfold zi at k2 ⊢
  rw [← hv] at k2
  exact lv_ior hx hb d k2
theorem z_ixor (C : zC X l D N0 cc nL own Ts) {x y v : Int} (d : decode cc pc = .ok (.ixor, 1)) (hv : Int32.ofInt x ^^^ Int32.ofInt y = Int32.ofInt v) (k : Z X μ kc kn (pc + 1) L (zi v :: st)) : Z X μ kc kn pc L (zi y :: zi x :: st) := by
  obtain ⟨p, l', e, R, s, m, args, below, meth, c, D', N', Q⟩ := X
  obtain ⟨rfl, rfl, rfl, hx, hb, hml, hown, hts, hlk, hB⟩ := C
  intro H locs cells slots ls hH hS hc1 hs1 hl
  have k2 := k H locs cells slots ls hH hS hc1 hs1 hl
  unfold zi at k2 ⊢
  rw [← hv] at k2
  exact lv_ixor hx hb d k2
theorem z_idiv (C : zC X l D N0 cc nL own Ts) {x y v : Int} (d : decode cc pc = .ok (.idiv, 1)) (hne : ¬ Int32.ofInt y = 0) (hv : Int32.ofInt x / Int32.ofInt y = Int32.ofInt v) (k : Z X μ kc kn (pc + 1) L (zi v :: st)) : Z X μ kc kn pc L (zi y :: zi x :: st) := by
  obtain ⟨p, l', e, R, s, m, args, below, meth, c, D', N', Q⟩ := X
  obtain ⟨rfl, rfl, rfl, hx, hb, hml, hown, hts, hlk, hB⟩ := C
  intro H locs cells slots ls hH hS hc1 hs1 hl
  have k2 := k H locs cells slots ls hH hS hc1 hs1 hl
  unfold zi at k2 ⊢
  rw [← hv] at k2
  exact lv_idiv hx hb d hne k2
theorem z_irem (C : zC X l D N0 cc nL own Ts) {x y v : Int} (d : decode cc pc = .ok (.irem, 1)) (hne : ¬ Int32.ofInt y = 0) (hv : Int32.ofInt x - Int32.ofInt x / Int32.ofInt y * Int32.ofInt y = Int32.ofInt v) (k : Z X μ kc kn (pc + 1) L (zi v :: st)) : Z X μ kc kn pc L (zi y :: zi x :: st) := by
  obtain ⟨p, l', e, R, s, m, args, below, meth, c, D', N', Q⟩ := X
  obtain ⟨rfl, rfl, rfl, hx, hb, hml, hown, hts, hlk, hB⟩ := C
  intro H locs cells slots ls hH hS hc1 hs1 hl
  have k2 := k H locs cells slots ls hH hS hc1 hs1 hl
  unfold zi at k2 ⊢
  rw [← hv] at k2
  exact lv_irem hx hb d hne k2
theorem zI_div {a b : Int} (ha : 0 ≤ a ∧ a < 2147483648) (hb : 0 < b ∧ b < 2147483648) : Int32.ofInt a / Int32.ofInt b = Int32.ofInt (a / b) := by
  have h0 : 0 ≤ a / b := Int.ediv_nonneg ha.1 (by omega)
  have h1 : a / b ≤ a := Int.ediv_le_self _ ha.1
  apply Int32.toInt_inj.mp
  rw [Int32.toInt_div, zI (by omega), zI (by omega), zI (by omega), Int.tdiv_eq_ediv_of_nonneg ha.1]
  exact Int.bmod_eq_of_le (by omega) (by omega)
theorem zI_rem {a b : Int} (ha : 0 ≤ a ∧ a < 2147483648) (hb : 0 < b ∧ b < 2147483648) : Int32.ofInt a - Int32.ofInt a / Int32.ofInt b * Int32.ofInt b = Int32.ofInt (a % b) := by
  rw [zI_div ha hb, zI_mul, zI_sub]
  congr 1
  have := Int.emod_add_mul_ediv a b
  rw [Int.mul_comm] at this
  omega
theorem zI_ne0 {b : Int} (hb : -2147483648 ≤ b ∧ b < 2147483648) (h0 : b ≠ 0) : ¬ Int32.ofInt b = 0 := by
  rw [zI_0, zI_eq hb (by omega)]
  exact h0
theorem z_idivP (C : zC X l D N0 cc nL own Ts) {x y : Int} (d : decode cc pc = .ok (.idiv, 1)) (k : Z X μ kc kn (pc + 1) L (zi (x / y) :: st)) (hx0 : 0 ≤ x ∧ x < 2147483648 := by omega) (hy0 : 0 < y ∧ y < 2147483648 := by omega) : Z X μ kc kn pc L (zi y :: zi x :: st) := z_idiv C d (zI_ne0 (by omega) (by omega)) (zI_div hx0 hy0) k
theorem z_iremP (C : zC X l D N0 cc nL own Ts) {x y : Int} (d : decode cc pc = .ok (.irem, 1)) (k : Z X μ kc kn (pc + 1) L (zi (x % y) :: st)) (hx0 : 0 ≤ x ∧ x < 2147483648 := by omega) (hy0 : 0 < y ∧ y < 2147483648 := by omega) : Z X μ kc kn pc L (zi y :: zi x :: st) := z_irem C d (zI_ne0 (by omega) (by omega)) (zI_rem hx0 hy0) k
/-- a remainder of which nothing is said -/
theorem z_iremA (C : zC X l D N0 cc nL own Ts) {x y : Int} (d : decode cc pc = .ok (.irem, 1)) (hy : -2147483648 ≤ y ∧ y < 2147483648) (h0 : y ≠ 0) (k : ∀ v : Int, -2147483648 ≤ v ∧ v < 2147483648 → Z X μ kc kn (pc + 1) L (zi v :: st)) : Z X μ kc kn pc L (zi y :: zi x :: st) := z_irem C d (zI_ne0 hy h0) (zI_as _).symm (k _ (zI_rng _))
theorem z_ladd (C : zC X l D N0 cc nL own Ts) {x y : Int64} (d : decode cc pc = .ok (.ladd, 1)) (k : Z X μ kc kn (pc + 1) L (.long (x + y) :: st)) : Z X μ kc kn pc L (.long y :: .long x :: st) := by
  obtain ⟨p, l', e, R, s, m, args, below, meth, c, D', N', Q⟩ := X
  obtain ⟨rfl, rfl, rfl, hx, hb, hml, hown, hts, hlk, hB⟩ := C
  intro H locs cells slots ls hH hS hc1 hs1 hl
  exact lv_ladd hx hb d (k H locs cells slots ls hH hS hc1 hs1 hl)
theorem z_lsub (C : zC X l D N0 cc nL own Ts) {x y : Int64} (d : decode cc pc = .ok (.lsub, 1)) (k : Z X μ kc kn (pc + 1) L (.long (x - y) :: st)) : Z X μ kc kn pc L (.long y :: .long x :: st) := by
  obtain ⟨p, l', e, R, s, m, args, below, meth, c, D', N', Q⟩ := X
  obtain ⟨rfl, rfl, rfl, hx, hb, hml, hown, hts, hlk, hB⟩ := C
  intro H locs cells slots ls hH hS hc1 hs1 hl
  exact lv_lsub hx hb d (k H locs cells slots ls hH hS hc1 hs1 hl)
theorem z_lmul (C : zC X l D N0 cc nL own Ts) {x y : Int64} (d : decode cc pc = .ok (.lmul, 1)) (k : Z X μ kc kn (pc + 1) L (.long (x * y) :: st)) : Z X μ kc kn pc L (.long y :: .long x :: st) := by
  obtain ⟨p, l', e, R, s, m, args, below, meth, c, D', N', Q⟩ := X
  obtain ⟨rfl, rfl, rfl, hx, hb, hml, hown, hts, hlk, hB⟩ := C
  intro H locs cells slots ls hH hS hc1 hs1 hl
  exact lv_lmul hx hb d (k H locs cells slots ls hH hS hc1 hs1 hl)
theorem z_land (C : zC X l D N0 cc nL own Ts) {x y : Int64} (d : decode cc pc = .ok (.land, 1)) (k : Z X μ kc kn (pc + 1) L (.long (x &&& y) :: st)) : Z X μ kc kn pc L (.long y :: .long x :: st) := by
  obtain ⟨p, l', e, R, s, m, args, below, meth, c, D', N', Q⟩ := X
  obtain ⟨rfl, rfl, rfl, hx, hb, hml, hown, hts, hlk, hB⟩ := C
  intro H locs cells slots ls hH hS hc1 hs1 hl
  exact lv_land hx hb d (k H locs cells slots ls hH hS hc1 hs1 hl)
theorem z_lor (C : zC X l D N0 cc nL own Ts) {x y : Int64} (d : decode cc pc = .ok (.lor, 1)) (k : Z X μ kc kn (pc + 1) L (.long (x ||| y) :: st)) : Z X μ kc kn pc L (.long y :: .long x :: st) := by
  obtain ⟨p, l', e, R, s, m, args, below, meth, c, D', N', Q⟩ := X
  obtain ⟨rfl, rfl, rfl, hx, hb, hml, hown, hts, hlk, hB⟩ := C
  intro H locs cells slots ls hH hS hc1 hs1 hl
  exact lv_lor hx hb d (k H locs cells slots ls hH hS hc1 hs1 hl)
theorem z_lxor (C : zC X l D N0 cc nL own Ts) {x y : Int64} (d : decode cc pc = .ok (.lxor, 1)) (k : Z X μ kc kn (pc + 1) L (.long (x ^^^ y) :: st)) : Z X μ kc kn pc L (.long y :: .long x :: st) := by
  obtain ⟨p, l', e, R, s, m, args, below, meth, c, D', N', Q⟩ := X
  obtain ⟨rfl, rfl, rfl, hx, hb, hml, hown, hts, hlk, hB⟩ := C
  intro H locs cells slots ls hH hS hc1 hs1 hl
  exact lv_lxor hx hb d (k H locs cells slots ls hH hS hc1 hs1 hl)
theorem z_lneg (C : zC X l D N0 cc nL own Ts) {x : Int64} (d : decode cc pc = .ok (.lneg, 1)) (k : Z X μ kc kn (pc + 1) L (.long (-x) :: st)) : Z X μ kc kn pc L (.long x :: st) := by
  obtain ⟨p, l', e, R, s, m, args, below, meth, c, D', N', Q⟩ := X
  obtain ⟨rfl, rfl, rfl, hx, hb, hml, hown, hts, hlk, hB⟩ := C
  intro H locs cells slots ls hH hS hc1 hs1 hl
  exact lv_lneg hx hb d (k H locs cells slots ls hH hS hc1 hs1 hl)
theorem z_i2l (C : zC X l D N0 cc nL own Ts) {x : Int} (d : decode cc pc = .ok (.i2l, 1)) (k : Z X μ kc kn (pc + 1) L (.long (Int32.ofInt x).toInt64 :: st)) : Z X μ kc kn pc L (zi x :: st) := by
  obtain ⟨p, l', e, R, s, m, args, below, meth, c, D', N', Q⟩ := X
  obtain ⟨rfl, rfl, rfl, hx, hb, hml, hown, hts, hlk, hB⟩ := C
  intro H locs cells slots ls hH hS hc1 hs1 hl
  exact lv_i2l hx hb d rfl (k H locs cells slots ls hH hS hc1 hs1 hl)
theorem z_l2i (C : zC X l D N0 cc nL own Ts) {x : Int64} (d : decode cc pc = .ok (.l2i, 1)) (k : Z X μ kc kn (pc + 1) L (zi x.toInt32.toInt :: st)) : Z X μ kc kn pc L (.long x :: st) := by
  obtain ⟨p, l', e, R, s, m, args, below, meth, c, D', N', Q⟩ := X
  obtain ⟨rfl, rfl, rfl, hx, hb, hml, hown, hts, hlk, hB⟩ := C
  intro H locs cells slots ls hH hS hc1 hs1 hl
  exact lv_l2i hx hb d (zI_as _).symm (k H locs cells slots ls hH hS hc1 hs1 hl)
/-- the shifts of longs by an int: by its six lowest bits -/
def zshl (x : Int64) (y : Int) : Int64 := x <<< ((Int32.ofInt y).toInt64 &&& 63)
def zushr (x : Int64) (y : Int) : Int64 := (x.toUInt64 >>> ((Int32.ofInt y).toInt64.toUInt64 &&& Int64.toUInt64 63)).toInt64
theorem z_lshl (C : zC X l D N0 cc nL own Ts) {x : Int64} {y : Int} (d : decode cc pc = .ok (.lshl, 1)) (k : Z X μ kc kn (pc + 1) L (.long (zshl x y) :: st)) : Z X μ kc kn pc L (zi y :: .long x :: st) := by
  obtain ⟨p, l', e, R, s, m, args, below, meth, c, D', N', Q⟩ := X
  obtain ⟨rfl, rfl, rfl, hx, hb, hml, hown, hts, hlk, hB⟩ := C
  intro H locs cells slots ls hH hS hc1 hs1 hl
  exact lv_lshl hx hb d rfl (k H locs cells slots ls hH hS hc1 hs1 hl)
theorem z_lushr (C : zC X l D N0 cc nL own Ts) {x : Int64} {y : Int} (d : decode cc pc = .ok (.lushr, 1)) (k : Z X μ kc kn (pc + 1) L (.long (zushr x y) :: st)) : Z X μ kc kn pc L (zi y :: .long x :: st) := by
  obtain ⟨p, l', e, R, s, m, args, below, meth, c, D', N', Q⟩ := X
  obtain ⟨rfl, rfl, rfl, hx, hb, hml, hown, hts, hlk, hB⟩ := C
  intro H locs cells slots ls hH hS hc1 hs1 hl
  exact lv_lushr hx hb d rfl (k H locs cells slots ls hH hS hc1 hs1 hl)
def zcmp (x y : Int64) : Int := if x > y then 1 else if x = y then 0 else -1
theorem zcmp_eq (x y : Int64) : lg_cmp x y = Int32.ofInt (zcmp x y) := by
  unfold lg_cmp zcmp
  by_cases h : x > y
  · rw [if_pos h, if_pos h]; rfl
  · rw [if_neg h, if_neg h]
    by_cases h2 : x = y
    · rw [if_pos h2, if_pos h2]; rfl
    · rw [if_neg h2, if_neg h2]; rfl
theorem zcmp_rng (x y : Int64) : -1 ≤ zcmp x y ∧ zcmp x y ≤ 1 := by
  unfold zcmp
  by_cases h : x > y
  · rw [if_pos h]; omega
  · rw [if_neg h]
    by_cases h2 : x = y
    · rw [if_pos h2]; omega
    · rw [if_neg h2]; omega
theorem zcmp_0 (x y : Int64) : zcmp x y = 0 ↔ x = y := by
  unfold zcmp
  by_cases h : x > y
  · rw [if_pos h]
    constructor
    · intro q; omega
    · intro q; subst q; exact absurd h (Int64.lt_irrefl)
  · rw [if_neg h]
    by_cases h2 : x = y
    · rw [if_pos h2]; simp [h2]
    · rw [if_neg h2]; simp [h2]
theorem zcmp_lt (x y : Int64) : zcmp x y < 0 ↔ x < y := by
  unfold zcmp
  by_cases h : x > y
  · rw [if_pos h]
    constructor
    · intro q; omega
    · intro q; exact absurd (Int64.lt_trans q h) (Int64.lt_irrefl)
  · rw [if_neg h]
    by_cases h2 : x = y
    · rw [if_pos h2]
      constructor
      · intro q; omega
      · intro q; rw [h2] at q; exact absurd q (Int64.lt_irrefl)
    · rw [if_neg h2]
      constructor
      · intro _
        rcases Int64.lt_or_eq_of_le (Int64.not_lt.mp h) with q | q
        · exact q
        · exact absurd q h2
      · intro _; omega
theorem zcmp_gt (x y : Int64) : 0 < zcmp x y ↔ y < x := by
  unfold zcmp
  by_cases h : x > y
  · rw [if_pos h]
    constructor
    · intro _; exact h
    · intro _; omega
  · rw [if_neg h]
    by_cases h2 : x = y
    · rw [if_pos h2]
      constructor
      · intro q; omega
      · intro q; exact absurd q h
    · rw [if_neg h2]
      constructor
      · intro q; omega
      · intro q; exact absurd q h
theorem z_lcmp (C : zC X l D N0 cc nL own Ts) {x y : Int64} (d : decode cc pc = .ok (.lcmp, 1)) (k : Z X μ kc kn (pc + 1) L (zi (zcmp x y) :: st)) : Z X μ kc kn pc L (.long y :: .long x :: st) := by
  obtain ⟨p, l', e, R, s, m, args, below, meth, c, D', N', Q⟩ := X
  obtain ⟨rfl, rfl, rfl, hx, hb, hml, hown, hts, hlk, hB⟩ := C
  intro H locs cells slots ls hH hS hc1 hs1 hl
  have k2 := k H locs cells slots ls hH hS hc1 hs1 hl
  unfold zi at k2
  rw [← zcmp_eq] at k2
  exact W.lcmp hx hb d k2
theorem z_dcmp (C : zC X l D N0 cc nL own Ts) {x y : UInt64} {op : CmpOp} (d : decode cc pc = .ok (.dcmp op, 1)) (k : Z X μ kc kn (pc + 1) L (.int (Op.cmpValue (FP.dcmp x y) op) :: st)) : Z X μ kc kn pc L (.double y :: .double x :: st) := by
  obtain ⟨p, l', e, R, s, m, args, below, meth, c, D', N', Q⟩ := X
  obtain ⟨rfl, rfl, rfl, hx, hb, hml, hown, hts, hlk, hB⟩ := C
  intro H locs cells slots ls hH hS hc1 hs1 hl
  exact lv_dcmp hx hb d (k H locs cells slots ls hH hS hc1 hs1 hl)
theorem z_dup (C : zC X l D N0 cc nL own Ts) {v : Value} (d : decode cc pc = .ok (.dup, 1)) (hv : v.category = 1) (k : Z X μ kc kn (pc + 1) L (v :: v :: st)) : Z X μ kc kn pc L (v :: st) := by
  obtain ⟨p, l', e, R, s, m, args, below, meth, c, D', N', Q⟩ := X
  obtain ⟨rfl, rfl, rfl, hx, hb, hml, hown, hts, hlk, hB⟩ := C
  intro H locs cells slots ls hH hS hc1 hs1 hl
  exact lv_dup hx hb d hv (k H locs cells slots ls hH hS hc1 hs1 hl)
theorem z_pop (C : zC X l D N0 cc nL own Ts) {v : Value} (d : decode cc pc = .ok (.pop, 1)) (hv : v.category = 1) (k : Z X μ kc kn (pc + 1) L (st)) : Z X μ kc kn pc L (v :: st) := by
  obtain ⟨p, l', e, R, s, m, args, below, meth, c, D', N', Q⟩ := X
  obtain ⟨rfl, rfl, rfl, hx, hb, hml, hown, hts, hlk, hB⟩ := C
  intro H locs cells slots ls hH hS hc1 hs1 hl
  exact lv_pop hx hb d hv (k H locs cells slots ls hH hS hc1 hs1 hl)
theorem z_dup_x1 (C : zC X l D N0 cc nL own Ts) {v w : Value} (d : decode cc pc = .ok (.dup_x1, 1)) (hv : v.category = 1) (hw : w.category = 1) (k : Z X μ kc kn (pc + 1) L (v :: w :: v :: st)) : Z X μ kc kn pc L (v :: w :: st) := by
  obtain ⟨p, l', e, R, s, m, args, below, meth, c, D', N', Q⟩ := X
  obtain ⟨rfl, rfl, rfl, hx, hb, hml, hown, hts, hlk, hB⟩ := C
  intro H locs cells slots ls hH hS hc1 hs1 hl
  exact lv_dup_x1 hx hb d hv hw (k H locs cells slots ls hH hS hc1 hs1 hl)
theorem z_dup2 (C : zC X l D N0 cc nL own Ts) {v w : Value} (d : decode cc pc = .ok (.dup2, 1)) (hv : v.category = 1) (hw : w.category = 1) (k : Z X μ kc kn (pc + 1) L (v :: w :: v :: w :: st)) : Z X μ kc kn pc L (v :: w :: st) := by
  obtain ⟨p, l', e, R, s, m, args, below, meth, c, D', N', Q⟩ := X
  obtain ⟨rfl, rfl, rfl, hx, hb, hml, hown, hts, hlk, hB⟩ := C
  intro H locs cells slots ls hH hS hc1 hs1 hl
  exact lv_dup2_11 hx hb d hv hw (k H locs cells slots ls hH hS hc1 hs1 hl)
theorem z_icmp_eq (C : zC X l D N0 cc nL own Ts) {x y : Int} {off : Int} {tgt : Nat} (d : decode cc pc = .ok (.if_icmp .eq off, 3)) (ht : (pc : Int) + off = (tgt : Int)) (kt : x = y → Z X μ kc kn tgt L st) (kf : ¬ x = y → Z X μ kc kn (pc + 3) L st) (hxr : -2147483648 ≤ x ∧ x < 2147483648 := by omega) (hyr : -2147483648 ≤ y ∧ y < 2147483648 := by omega) : Z X μ kc kn pc L (zi y :: zi x :: st) := by
  obtain ⟨p, l', e, R, s, m, args, below, meth, c, D', N', Q⟩ := X
  obtain ⟨rfl, rfl, rfl, hx, hb, hml, hown, hts, hlk, hB⟩ := C
  intro H locs cells slots ls hH hS hc1 hs1 hl
  exact lv_icmp_eq hx hb d ht (fun q => kt ((zI_eq hxr hyr).mp q) H locs cells slots ls hH hS hc1 hs1 hl) (fun q => kf (fun h => q ((zI_eq hxr hyr).mpr h)) H locs cells slots ls hH hS hc1 hs1 hl)
theorem z_if_eq (C : zC X l D N0 cc nL own Ts) {x : Int} {off : Int} {tgt : Nat} (d : decode cc pc = .ok (.ifCond .eq off, 3)) (ht : (pc : Int) + off = (tgt : Int)) (kt : x = 0 → Z X μ kc kn tgt L st) (kf : ¬ x = 0 → Z X μ kc kn (pc + 3) L st) (hxr : -2147483648 ≤ x ∧ x < 2147483648 := by omega) : Z X μ kc kn pc L (zi x :: st) := by
  obtain ⟨p, l', e, R, s, m, args, below, meth, c, D', N', Q⟩ := X
  obtain ⟨rfl, rfl, rfl, hx, hb, hml, hown, hts, hlk, hB⟩ := C
  intro H locs cells slots ls hH hS hc1 hs1 hl
  have hyr : -2147483648 ≤ (0 : Int) ∧ (0 : Int) < 2147483648 := by omega
  exact lv_if_eq hx hb d ht (fun q => kt ((zI_eq hxr hyr).mp q) H locs cells slots ls hH hS hc1 hs1 hl) (fun q => kf (fun h => q ((zI_eq hxr hyr).mpr h)) H locs cells slots ls hH hS hc1 hs1 hl)
theorem z_icmp_ne (C : zC X l D N0 cc nL own Ts) {x y : Int} {off : Int} {tgt : Nat} (d : decode cc pc = .ok (.if_icmp .ne off, 3)) (ht : (pc : Int) + off = (tgt : Int)) (kt : ¬ x = y → Z X μ kc kn tgt L st) (kf : x = y → Z X μ kc kn (pc + 3) L st) (hxr : -2147483648 ≤ x ∧ x < 2147483648 := by omega) (hyr : -2147483648 ≤ y ∧ y < 2147483648 := by omega) : Z X μ kc kn pc L (zi y :: zi x :: st) := by
  obtain ⟨p, l', e, R, s, m, args, below, meth, c, D', N', Q⟩ := X
  obtain ⟨rfl, rfl, rfl, hx, hb, hml, hown, hts, hlk, hB⟩ := C
  intro H locs cells slots ls hH hS hc1 hs1 hl
  exact lv_icmp_ne hx hb d ht (fun q => kt (fun h => q ((zI_eq hxr hyr).mpr h)) H locs cells slots ls hH hS hc1 hs1 hl) (fun q => kf ((zI_eq hxr hyr).mp q) H locs cells slots ls hH hS hc1 hs1 hl)
theorem z_if_ne (C : zC X l D N0 cc nL own Ts) {x : Int} {off : Int} {tgt : Nat} (d : decode cc pc = .ok (.ifCond .ne off, 3)) (ht : (pc : Int) + off = (tgt : Int)) (kt : ¬ x = 0 → Z X μ kc kn tgt L st) (kf : x = 0 → Z X μ kc kn (pc + 3) L st) (hxr : -2147483648 ≤ x ∧ x < 2147483648 := by omega) : Z X μ kc kn pc L (zi x :: st) := by
  obtain ⟨p, l', e, R, s, m, args, below, meth, c, D', N', Q⟩ := X
  obtain ⟨rfl, rfl, rfl, hx, hb, hml, hown, hts, hlk, hB⟩ := C
  intro H locs cells slots ls hH hS hc1 hs1 hl
  have hyr : -2147483648 ≤ (0 : Int) ∧ (0 : Int) < 2147483648 := by omega
  exact lv_if_ne hx hb d ht (fun q => kt (fun h => q ((zI_eq hxr hyr).mpr h)) H locs cells slots ls hH hS hc1 hs1 hl) (fun q => kf ((zI_eq hxr hyr).mp q) H locs cells slots ls hH hS hc1 hs1 hl)
theorem z_icmp_lt (C : zC X l D N0 cc nL own Ts) {x y : Int} {off : Int} {tgt : Nat} (d : decode cc pc = .ok (.if_icmp .lt off, 3)) (ht : (pc : Int) + off = (tgt : Int)) (kt : x < y → Z X μ kc kn tgt L st) (kf : y ≤ x → Z X μ kc kn (pc + 3) L st) (hxr : -2147483648 ≤ x ∧ x < 2147483648 := by omega) (hyr : -2147483648 ≤ y ∧ y < 2147483648 := by omega) : Z X μ kc kn pc L (zi y :: zi x :: st) := by
  obtain ⟨p, l', e, R, s, m, args, below, meth, c, D', N', Q⟩ := X
  obtain ⟨rfl, rfl, rfl, hx, hb, hml, hown, hts, hlk, hB⟩ := C
  intro H locs cells slots ls hH hS hc1 hs1 hl
  exact lv_icmp_lt hx hb d ht (fun q => kt ((zI_lt hxr hyr).mp q) H locs cells slots ls hH hS hc1 hs1 hl) (fun q => kf (Int.not_lt.mp (fun h => q ((zI_lt hxr hyr).mpr h))) H locs cells slots ls hH hS hc1 hs1 hl)
theorem z_if_lt (C : zC X l D N0 cc nL own Ts) {x : Int} {off : Int} {tgt : Nat} (d : decode cc pc = .ok (.ifCond .lt off, 3)) (ht : (pc : Int) + off = (tgt : Int)) (kt : x < 0 → Z X μ kc kn tgt L st) (kf : 0 ≤ x → Z X μ kc kn (pc + 3) L st) (hxr : -2147483648 ≤ x ∧ x < 2147483648 := by omega) : Z X μ kc kn pc L (zi x :: st) := by
  obtain ⟨p, l', e, R, s, m, args, below, meth, c, D', N', Q⟩ := X
  obtain ⟨rfl, rfl, rfl, hx, hb, hml, hown, hts, hlk, hB⟩ := C
  intro H locs cells slots ls hH hS hc1 hs1 hl
  have hyr : -2147483648 ≤ (0 : Int) ∧ (0 : Int) < 2147483648 := by omega
  exact lv_if_lt hx hb d ht (fun q => kt ((zI_lt hxr hyr).mp q) H locs cells slots ls hH hS hc1 hs1 hl) (fun q => kf (Int.not_lt.mp (fun h => q ((zI_lt hxr hyr).mpr h))) H locs cells slots ls hH hS hc1 hs1 hl)
theorem z_icmp_ge (C : zC X l D N0 cc nL own Ts) {x y : Int} {off : Int} {tgt : Nat} (d : decode cc pc = .ok (.if_icmp .ge off, 3)) (ht : (pc : Int) + off = (tgt : Int)) (kt : y ≤ x → Z X μ kc kn tgt L st) (kf : x < y → Z X μ kc kn (pc + 3) L st) (hxr : -2147483648 ≤ x ∧ x < 2147483648 := by omega) (hyr : -2147483648 ≤ y ∧ y < 2147483648 := by omega) : Z X μ kc kn pc L (zi y :: zi x :: st) := by
  obtain ⟨p, l', e, R, s, m, args, below, meth, c, D', N', Q⟩ := X
  obtain ⟨rfl, rfl, rfl, hx, hb, hml, hown, hts, hlk, hB⟩ := C
  intro H locs cells slots ls hH hS hc1 hs1 hl
  exact lv_icmp_ge hx hb d ht (fun q => kt ((zI_le hyr hxr).mp q) H locs cells slots ls hH hS hc1 hs1 hl) (fun q => kf (Int.not_le.mp (fun h => q ((zI_le hyr hxr).mpr h))) H locs cells slots ls hH hS hc1 hs1 hl)
theorem z_if_ge (C : zC X l D N0 cc nL own Ts) {x : Int} {off : Int} {tgt : Nat} (d : decode cc pc = .ok (.ifCond .ge off, 3)) (ht : (pc : Int) + off = (tgt : Int)) (kt : 0 ≤ x → Z X μ kc kn tgt L st) (kf : x < 0 → Z X μ kc kn (pc + 3) L st) (hxr : -2147483648 ≤ x ∧ x < 2147483648 := by omega) : Z X μ kc kn pc L (zi x :: st) := by
  obtain ⟨p, l', e, R, s, m, args, below, meth, c, D', N', Q⟩ := X
  obtain ⟨rfl, rfl, rfl, hx, hb, hml, hown, hts, hlk, hB⟩ := C
  intro H locs cells slots ls hH hS hc1 hs1 hl
  have hyr : -2147483648 ≤ (0 : Int) ∧ (0 : Int) < 2147483648 := by omega
  exact lv_if_ge hx hb d ht (fun q => kt ((zI_le hyr hxr).mp q) H locs cells slots ls hH hS hc1 hs1 hl) (fun q => kf (Int.not_le.mp (fun h => q ((zI_le hyr hxr).mpr h))) H locs cells slots ls hH hS hc1 hs1 hl)
theorem z_icmp_gt (C : zC X l D N0 cc nL own Ts) {x y : Int} {off : Int} {tgt : Nat} (d : decode cc pc = .ok (.if_icmp .gt off, 3)) (ht : (pc : Int) + off = (tgt : Int)) (kt : y < x → Z X μ kc kn tgt L st) (kf : x ≤ y → Z X μ kc kn (pc + 3) L st) (hxr : -2147483648 ≤ x ∧ x < 2147483648 := by omega) (hyr : -2147483648 ≤ y ∧ y < 2147483648 := by omega) : Z X μ kc kn pc L (zi y :: zi x :: st) := by
  obtain ⟨p, l', e, R, s, m, args, below, meth, c, D', N', Q⟩ := X
  obtain ⟨rfl, rfl, rfl, hx, hb, hml, hown, hts, hlk, hB⟩ := C
  intro H locs cells slots ls hH hS hc1 hs1 hl
  exact lv_icmp_gt hx hb d ht (fun q => kt ((zI_lt hyr hxr).mp q) H locs cells slots ls hH hS hc1 hs1 hl) (fun q => kf (Int.not_lt.mp (fun h => q ((zI_lt hyr hxr).mpr h))) H locs cells slots ls hH hS hc1 hs1 hl)
theorem z_if_gt (C : zC X l D N0 cc nL own Ts) {x : Int} {off : Int} {tgt : Nat} (d : decode cc pc = .ok (.ifCond .gt off, 3)) (ht : (pc : Int) + off = (tgt : Int)) (kt : 0 < x → Z X μ kc kn tgt L st) (kf : x ≤ 0 → Z X μ kc kn (pc + 3) L st) (hxr : -2147483648 ≤ x ∧ x < 2147483648 := by omega) : Z X μ kc kn pc L (zi x :: st) := by
  obtain ⟨p, l', e, R, s, m, args, below, meth, c, D', N', Q⟩ := X
  obtain ⟨rfl, rfl, rfl, hx, hb, hml, hown, hts, hlk, hB⟩ := C
  intro H locs cells slots ls hH hS hc1 hs1 hl
  have hyr : -2147483648 ≤ (0 : Int) ∧ (0 : Int) < 2147483648 := by omega
  exact lv_if_gt hx hb d ht (fun q => kt ((zI_lt hyr hxr).mp q) H locs cells slots ls hH hS hc1 hs1 hl) (fun q => kf (Int.not_lt.mp (fun h => q ((zI_lt hyr hxr).mpr h))) H locs cells slots ls hH hS hc1 hs1 hl)
theorem z_icmp_le (C : zC X l D N0 cc nL own Ts) {x y : Int} {off : Int} {tgt : Nat} (d : decode cc pc = .ok (.if_icmp .le off, 3)) (ht : (pc : Int) + off = (tgt : Int)) (kt : x ≤ y → Z X μ kc kn tgt L st) (kf : y < x → Z X μ kc kn (pc + 3) L st) (hxr : -2147483648 ≤ x ∧ x < 2147483648 := by omega) (hyr : -2147483648 ≤ y ∧ y < 2147483648 := by omega) : Z X μ kc kn pc L (zi y :: zi x :: st) := by
  obtain ⟨p, l', e, R, s, m, args, below, meth, c, D', N', Q⟩ := X
  obtain ⟨rfl, rfl, rfl, hx, hb, hml, hown, hts, hlk, hB⟩ := C
  intro H locs cells slots ls hH hS hc1 hs1 hl
  exact lv_icmp_le hx hb d ht (fun q => kt ((zI_le hxr hyr).mp q) H locs cells slots ls hH hS hc1 hs1 hl) (fun q => kf (Int.not_le.mp (fun h => q ((zI_le hxr hyr).mpr h))) H locs cells slots ls hH hS hc1 hs1 hl)
theorem z_if_le (C : zC X l D N0 cc nL own Ts) {x : Int} {off : Int} {tgt : Nat} (d : decode cc pc = .ok (.ifCond .le off, 3)) (ht : (pc : Int) + off = (tgt : Int)) (kt : x ≤ 0 → Z X μ kc kn tgt L st) (kf : 0 < x → Z X μ kc kn (pc + 3) L st) (hxr : -2147483648 ≤ x ∧ x < 2147483648 := by omega) : Z X μ kc kn pc L (zi x :: st) := by
  obtain ⟨p, l', e, R, s, m, args, below, meth, c, D', N', Q⟩ := X
  obtain ⟨rfl, rfl, rfl, hx, hb, hml, hown, hts, hlk, hB⟩ := C
  intro H locs cells slots ls hH hS hc1 hs1 hl
  have hyr : -2147483648 ≤ (0 : Int) ∧ (0 : Int) < 2147483648 := by omega
  exact lv_if_le hx hb d ht (fun q => kt ((zI_le hxr hyr).mp q) H locs cells slots ls hH hS hc1 hs1 hl) (fun q => kf (Int.not_le.mp (fun h => q ((zI_le hxr hyr).mpr h))) H locs cells slots ls hH hS hc1 hs1 hl)
theorem z_goto (C : zC X l D N0 cc nL own Ts) {off : Int} {tgt : Nat} (d : decode cc pc = .ok (.goto off, 3)) (ht : (pc : Int) + off = (tgt : Int)) (k : Z X μ kc kn tgt L st) : Z X μ kc kn pc L st := by
  obtain ⟨p, l', e, R, s, m, args, below, meth, c, D', N', Q⟩ := X
  obtain ⟨rfl, rfl, rfl, hx, hb, hml, hown, hts, hlk, hB⟩ := C
  intro H locs cells slots ls hH hS hc1 hs1 hl
  exact lv_goto hx hb d ht (k H locs cells slots ls hH hS hc1 hs1 hl)
theorem z_tableOut (C : zC X l D N0 cc nL own Ts) {dflt lo hi : Int} {offs : Array Int} {len : Nat} {x : Int} {tgt : Nat} (d : decode cc pc = .ok (.tableswitch dflt lo hi offs, len)) (h : x < lo ∨ hi < x) (ht : (pc : Int) + dflt = (tgt : Int)) (k : Z X μ kc kn tgt L st) (hxr : -2147483648 ≤ x ∧ x < 2147483648 := by omega) : Z X μ kc kn pc L (zi x :: st) := by
  obtain ⟨p, l', e, R, s, m, args, below, meth, c, D', N', Q⟩ := X
  obtain ⟨rfl, rfl, rfl, hx, hb, hml, hown, hts, hlk, hB⟩ := C
  intro H locs cells slots ls hH hS hc1 hs1 hl
  exact lv_tableOut hx hb d (by rw [zI hxr]; exact h) ht (k H locs cells slots ls hH hS hc1 hs1 hl)
theorem z_tableIn (C : zC X l D N0 cc nL own Ts) {dflt lo hi : Int} {offs : Array Int} {len : Nat} {x off : Int} {tgt : Nat} (d : decode cc pc = .ok (.tableswitch dflt lo hi offs, len)) (h1 : ¬ x < lo) (h2 : ¬ hi < x) (ho : offs[(x - lo).toNat]? = some off) (ht : (pc : Int) + off = (tgt : Int)) (k : Z X μ kc kn tgt L st) (hxr : -2147483648 ≤ x ∧ x < 2147483648 := by omega) : Z X μ kc kn pc L (zi x :: st) := by
  obtain ⟨p, l', e, R, s, m, args, below, meth, c, D', N', Q⟩ := X
  obtain ⟨rfl, rfl, rfl, hx, hb, hml, hown, hts, hlk, hB⟩ := C
  intro H locs cells slots ls hH hS hc1 hs1 hl
  have e0 := zI hxr
  exact lv_tableIn hx hb d (by rw [e0]; exact h1) (by rw [e0]; exact h2) (by rw [e0]; exact ho) ht (k H locs cells slots ls hH hS hc1 hs1 hl)
theorem z_get (C : zC X l D N0 cc nL own Ts) {a ci index : Nat} {fs : List Value} {CN : String} {T : u_T} {N : Nat} {v : Value} (hm : μ a = some (.inr (ci, fs))) (hc : vwCl[ci]? = some (CN, T, N)) (k : Nat) (hk : k < N) (hlink : Cond.fieldLink own index CN (T k).2.1 (T k).2.2.1 ∈ Ts) (hin : ∀ w ∈ u_ws CN T N, w ∈ Ts) (href : (T k).1 = CN) (hv : fs[k]? = some v) (d : decode cc pc = .ok (.getfield index, 3)) (kk : Z X μ kc kn (pc + 3) L (v :: st)) : Z X μ kc kn pc L (.ref a :: st) := by
  obtain ⟨p, l', e, R, s, m, args, below, meth, c, D', N', Q⟩ := X
  obtain ⟨rfl, rfl, rfl, hx, hb, hml, hown, hts, hlk, hB⟩ := C
  intro H locs cells slots ls hH hS hc1 hs1 hl
  exact va_get hx hb hts hin hown hB.1 (hH.one hm) 0 rfl hc k hk (hts _ hlink) (fun x q => by rw [← href]; exact q) hv d (kk H locs cells slots ls hH hS hc1 hs1 hl)
theorem z_put (C : zC X l D N0 cc nL own Ts) {a ci index : Nat} {fs : List Value} {CN : String} {T : u_T} {N : Nat} {v : Value} (hm : μ a = some (.inr (ci, fs))) (hc : vwCl[ci]? = some (CN, T, N)) (ty0 : Nat → FieldType) (hty : ∀ k, k < N → parseFieldDescriptor (T k).2.2.1 = some (ty0 k)) (hnm : ∀ a, a < N → ∀ b, b < N → a ≠ b → (T a).2.1 ≠ (T b).2.1) (k : Nat) (hk : k < N) (hlink : Cond.fieldLink own index CN (T k).2.1 (T k).2.2.1 ∈ Ts) (hin : ∀ w ∈ u_ws CN T N, w ∈ Ts) (href : (T k).1 = CN) (hfin : (T k).2.2.2 = false) (hn : narrow (ty0 k) v = v) (hfit : fits (ty0 k) v = true) (hlen : k < fs.length) (d : decode cc pc = .ok (.putfield index, 3)) (kk : Z X (zu μ a (.inr (ci, fs.set k v))) kc kn (pc + 3) L st) : Z X μ kc kn pc L (v :: .ref a :: st) := by
  obtain ⟨p, l', e, R, s, m, args, below, meth, c, D', N', Q⟩ := X
  obtain ⟨rfl, rfl, rfl, hx, hb, hml, hown, hts, hlk, hB⟩ := C
  intro H locs cells slots ls hH hS hc1 hs1 hl
  have hap := va_apart (own := own) hts hin ty0 hty hnm hB.1 hc
  obtain ⟨r, h1, cell, q1, q2, q3, q4⟩ := (hH a _ hm).1
  have hr : r = (CN, T, N) := Option.some.inj (h1.symm.trans hc)
  subst hr
  obtain ⟨hSl, hfc, kC, hkC, hkind⟩ := hB.1.1 ci _ hc
  obtain ⟨cf, kf, fi, f, hi, hsl⟩ := hSl k hk
  have hlay := hts _ (hin _ (u_in_lay hk))
  unfold u_lay at hlay
  rw [if_neg (by rw [hfin]; decide)] at hlay
  have hst := (u_facts hfc hkC (u_lays hts hin hk) hi).1
  have h6 := u_store hfc hkC hkind hlay hi (hty k hk) hn hfit
  refine W.putK hx hb (f := f) ⟨hown, hts _ hlink, ⟨_, _, _, by rw [← href]; exact hi⟩, hst⟩ (by rw [q2]; exact h6) q1 q3 (by rw [hsl]; exact k2_hasslot (q4 k hk)) rfl rfl d fun H' e1 e2 e3 => ?_
  rw [hsl] at e1 ⊢
  have hv9 : va_at D' vwCl (a, .inr (ci, fs.set k v)) H' := ⟨_, hc, t_OB.to (V := updV (vp_V fs) k v) ⟨_, e1, q2, q3, t_set q4 hap hk v⟩ (fun j _ => vp_updV_set hlen v j)⟩
  exact kk H' _ cells slots ls (hH.seta hv9 (hH a _ hm).2 e3) (hS.put e2 e3 (hH a _ hm).2) hc1 hs1 hl
theorem z_putF (C : zC X l D N0 cc nL own Ts) {a ci index : Nat} {fs : List Value} {CN : String} {T : u_T} {N : Nat} {v : Value} (hm : μ a = some (.inr (ci, fs))) (hc : vwCl[ci]? = some (CN, T, N)) (ty0 : Nat → FieldType) (hty : ∀ k, k < N → parseFieldDescriptor (T k).2.2.1 = some (ty0 k)) (hnm : ∀ a, a < N → ∀ b, b < N → a ≠ b → (T a).2.1 ≠ (T b).2.1) (k : Nat) (hk : k < N) (hlink : Cond.fieldLink own index CN (T k).2.1 (T k).2.2.1 ∈ Ts) (hin : ∀ w ∈ u_ws CN T N, w ∈ Ts) (href : (T k).1 = CN) (hfin : (T k).2.2.2 = true) (hin2 : zInit X) (hdecl : CN = own) (hn : narrow (ty0 k) v = v) (hfit : fits (ty0 k) v = true) (hlen : k < fs.length) (d : decode cc pc = .ok (.putfield index, 3)) (kk : Z X (zu μ a (.inr (ci, fs.set k v))) kc kn (pc + 3) L st) : Z X μ kc kn pc L (v :: .ref a :: st) := by
  obtain ⟨p, l', e, R, s, m, args, below, meth, c, D', N', Q⟩ := X
  obtain ⟨rfl, rfl, rfl, hx, hb, hml, hown, hts, hlk, hB⟩ := C
  intro H locs cells slots ls hH hS hc1 hs1 hl
  have hap := va_apart (own := own) hts hin ty0 hty hnm hB.1 hc
  obtain ⟨r, h1, cell, q1, q2, q3, q4⟩ := (hH a _ hm).1
  have hr : r = (CN, T, N) := Option.some.inj (h1.symm.trans hc)
  subst hr
  obtain ⟨hSl, hfc, kC, hkC, hkind⟩ := hB.1.1 ci _ hc
  obtain ⟨cf, kf, fi, f, hi, hsl⟩ := hSl k hk
  have hlay := hts _ (hin _ (u_in_lay hk))
  unfold u_lay at hlay
  rw [if_pos hfin] at hlay
  have hst := (u_facts hfc hkC (u_lays hts hin hk) hi).1
  have hcf : m.cls = cf := by
    obtain ⟨_, _, c', _, _, _, -, -, hf', -, -, -, hown2, -⟩ := Cond.laysFinal_spec hlay
    have e1 : c' = cf := by have := hi.symm.trans hf'; simp at this; exact this.1.symm
    rw [href, hdecl] at hown2
    rw [← e1]; exact Option.some.inj (hown.symm.trans hown2)
  have h6 := u_fits hfc hkC hkind (Or.inr hlay) hi (hty k hk) hn hfit
  refine W.putFinK hx hb hown (hts _ hlink) (by rw [← href]; exact hi) hst hcf hin2 (by rw [q2]; exact h6) q1 q3 (by rw [hsl]; exact k2_hasslot (q4 k hk)) rfl rfl d fun H' e1 e2 e3 => ?_
  rw [hsl] at e1 ⊢
  have hv9 : va_at D' vwCl (a, .inr (ci, fs.set k v)) H' := ⟨_, hc, t_OB.to (V := updV (vp_V fs) k v) ⟨_, e1, q2, q3, t_set q4 hap hk v⟩ (fun j _ => vp_updV_set hlen v j)⟩
  exact kk H' _ cells slots ls (hH.seta hv9 (hH a _ hm).2 e3) (hS.put e2 e3 (hH a _ hm).2) hc1 hs1 hl
theorem z_iald (C : zC X l D N0 cc nL own Ts) {a n : Nat} {g : Nat → Int} {i : Int} (hm : μ a = some (zAI D n g)) (hn : n < 2147483648) (d : decode cc pc = .ok (.iaload, 1)) (k : Z X μ kc kn (pc + 1) L (zi (g i.toNat) :: st)) (hi : 0 ≤ i ∧ i < n := by omega) : Z X μ kc kn pc L (zi i :: .ref a :: st) := by
  obtain ⟨p, l', e, R, s, m, args, below, meth, c, D', N', Q⟩ := X
  obtain ⟨rfl, rfl, rfl, hx, hb, hml, hown, hts, hlk, hB⟩ := C
  intro H locs cells slots ls hH hS hc1 hs1 hl
  have k2 := k H locs cells slots ls hH hS hc1 hs1 hl
  rw [← zI_nc (a := i) (by omega)] at k2
  exact va_iald hx hb hB.1 (hH.one hm) 0 0 rfl rfl (zI_in hi hn) d k2
theorem z_zald (C : zC X l D N0 cc nL own Ts) {a n : Nat} {g : Nat → Int} {i : Int} (hm : μ a = some (zAZ D n g)) (hn : n < 2147483648) (d : decode cc pc = .ok (.baload, 1)) (k : Z X μ kc kn (pc + 1) L (zi (g i.toNat) :: st)) (hi : 0 ≤ i ∧ i < n := by omega) : Z X μ kc kn pc L (zi i :: .ref a :: st) := by
  obtain ⟨p, l', e, R, s, m, args, below, meth, c, D', N', Q⟩ := X
  obtain ⟨rfl, rfl, rfl, hx, hb, hml, hown, hts, hlk, hB⟩ := C
  intro H locs cells slots ls hH hS hc1 hs1 hl
  have k2 := k H locs cells slots ls hH hS hc1 hs1 hl
  rw [← zI_nc (a := i) (by omega)] at k2
  exact va_zald hx hb hB.1 (hH.one hm) 0 2 rfl rfl (zI_in hi hn) d k2
theorem z_lald (C : zC X l D N0 cc nL own Ts) {a n : Nat} {f : Nat → Int64} {i : Int} (hm : μ a = some (zAL D n f)) (hn : n < 2147483648) (d : decode cc pc = .ok (.laload, 1)) (k : Z X μ kc kn (pc + 1) L (.long (f i.toNat) :: st)) (hi : 0 ≤ i ∧ i < n := by omega) : Z X μ kc kn pc L (zi i :: .ref a :: st) := by
  obtain ⟨p, l', e, R, s, m, args, below, meth, c, D', N', Q⟩ := X
  obtain ⟨rfl, rfl, rfl, hx, hb, hml, hown, hts, hlk, hB⟩ := C
  intro H locs cells slots ls hH hS hc1 hs1 hl
  have k2 := k H locs cells slots ls hH hS hc1 hs1 hl
  rw [← zI_nc (a := i) (by omega)] at k2
  exact va_lald hx hb hB.1 (hH.one hm) 0 1 rfl rfl (zI_in hi hn) d k2
theorem z_fald (C : zC X l D N0 cc nL own Ts) {a n : Nat} {f : Nat → Option Nat} {i : Int} {b : Nat} (hm : μ a = some (zAF D n f)) (hn : n < 2147483648) (hf : f i.toNat = some b) (d : decode cc pc = .ok (.aaload, 1)) (k : Z X μ kc kn (pc + 1) L (.ref b :: st)) (hi : 0 ≤ i ∧ i < n := by omega) : Z X μ kc kn pc L (zi i :: .ref a :: st) := by
  obtain ⟨p, l', e, R, s, m, args, below, meth, c, D', N', Q⟩ := X
  obtain ⟨rfl, rfl, rfl, hx, hb, hml, hown, hts, hlk, hB⟩ := C
  intro H locs cells slots ls hH hS hc1 hs1 hl
  have k2 := k H locs cells slots ls hH hS hc1 hs1 hl
  refine va_aldq hx hb hB.1 (hH.one hm) 0 4 rfl rfl (zI_in hi hn) d ?_
  rw [zI_nc (a := i) (by omega), hf]
  exact k2
theorem z_bald (C : zC X l D N0 cc nL own Ts) {a n : Nat} {f : Nat → Option Nat} {i : Int} {b : Nat} (hm : μ a = some (zAB D n f)) (hn : n < 2147483648) (hf : f i.toNat = some b) (d : decode cc pc = .ok (.aaload, 1)) (k : Z X μ kc kn (pc + 1) L (.ref b :: st)) (hi : 0 ≤ i ∧ i < n := by omega) : Z X μ kc kn pc L (zi i :: .ref a :: st) := by
  obtain ⟨p, l', e, R, s, m, args, below, meth, c, D', N', Q⟩ := X
  obtain ⟨rfl, rfl, rfl, hx, hb, hml, hown, hts, hlk, hB⟩ := C
  intro H locs cells slots ls hH hS hc1 hs1 hl
  have k2 := k H locs cells slots ls hH hS hc1 hs1 hl
  have hlt : (Int32.ofInt i).toNatClampNeg < n := by rw [zI_nc (by omega)]; omega
  refine W.aald (v := va_rf (f (Int32.ofInt i).toNatClampNeg)) (ty := .array .boolean) hx hb (hH a _ hm).1 ((hB.1.2 5 _ rfl).1 n (fun j => va_rf (f j))) rfl (fun q => by cases q) (by show ¬ (_ < 0 ∨ (arrV _ _ _).slots.size ≤ _); rw [arrV_size]; exact zI_in hi hn) (by show (arrV _ _ _).slots[_]? = _; rw [arrV_read _ _ hlt]) rfl rfl d ?_
  rw [zI_nc (a := i) (by omega), hf]
  exact k2
theorem z_alen (C : zC X l D N0 cc nL own Ts) {a n : Nat} {cA : ClassId} {x} (hm : μ a = some (.inl (cA, n, x))) (t0 : Nat) {ty : FieldType} (ht : (zTY D)[t0]? = some (cA, ty)) (d : decode cc pc = .ok (.arraylength, 1)) (k : Z X μ kc kn (pc + 1) L (zi (n : Int) :: st)) : Z X μ kc kn pc L (.ref a :: st) := by
  obtain ⟨p, l', e, R, s, m, args, below, meth, c, D', N', Q⟩ := X
  obtain ⟨rfl, rfl, rfl, hx, hb, hml, hown, hts, hlk, hB⟩ := C
  intro H locs cells slots ls hH hS hc1 hs1 hl
  exact va_alen hx hb hB.1 (hH.one hm) 0 t0 rfl ht rfl d (k H locs cells slots ls hH hS hc1 hs1 hl)
theorem z_iast (C : zC X l D N0 cc nL own Ts) {a n : Nat} {g : Nat → Int} {i x : Int} (hm : μ a = some (zAI D n g)) (hn : n < 2147483648) (d : decode cc pc = .ok (.iastore, 1)) (k : Z X (zu μ a (zAI D n (zw g i.toNat x))) kc kn (pc + 1) L st) (hi : 0 ≤ i ∧ i < n := by omega) : Z X μ kc kn pc L (zi x :: zi i :: .ref a :: st) := by
  obtain ⟨p, l', e, R, s, m, args, below, meth, c, D', N', Q⟩ := X
  obtain ⟨rfl, rfl, rfl, hx, hb, hml, hown, hts, hlk, hB⟩ := C
  intro H locs cells slots ls hH hS hc1 hs1 hl
  refine W.iast hx hb (hH a _ hm).1 ((hB.1.2 0 _ rfl).1 n (fun j => .int (Int32.ofInt (g j)))) (fun q => by cases q) (by show ¬ (_ < 0 ∨ (arrV _ _ _).slots.size ≤ _); rw [arrV_size]; exact zI_in hi hn) rfl rfl d fun H1 e z oq => ?_
  refine k H1 _ cells slots ls (hH.seta ?_ (hH a _ hm).2 oq) (hS.put z oq (hH a _ hm).2) hc1 hs1 hl
  show H1[a]? = some (vp_cell _ _)
  rw [e, vp_cell_i, vp_cell_i, arrV_store, zI_nc (by omega)]
  congr 2
  funext q
  by_cases hq : q = i.toNat
  · subst hq
    simp [updV, zw]
  · simp [updV, zw, hq]
theorem z_zast (C : zC X l D N0 cc nL own Ts) {a n : Nat} {g : Nat → Int} {i x : Int} (hm : μ a = some (zAZ D n g)) (hn : n < 2147483648) (hx01 : x = 0 ∨ x = 1) (d : decode cc pc = .ok (.bastore, 1)) (k : Z X (zu μ a (zAZ D n (zw g i.toNat x))) kc kn (pc + 1) L st) (hi : 0 ≤ i ∧ i < n := by omega) : Z X μ kc kn pc L (zi x :: zi i :: .ref a :: st) := by
  obtain ⟨p, l', e, R, s, m, args, below, meth, c, D', N', Q⟩ := X
  obtain ⟨rfl, rfl, rfl, hx, hb, hml, hown, hts, hlk, hB⟩ := C
  intro H locs cells slots ls hH hS hc1 hs1 hl
  refine W.zast hx hb (hH a _ hm).1 ((hB.1.2 2 _ rfl).1 n (fun j => .int (Int32.ofInt (g j)))) (fun q => by cases q) (by show ¬ (_ < 0 ∨ (arrV _ _ _).slots.size ≤ _); rw [arrV_size]; exact zI_in hi hn) rfl rfl d fun H1 e z oq => ?_
  refine k H1 _ cells slots ls (hH.seta ?_ (hH a _ hm).2 oq) (hS.put z oq (hH a _ hm).2) hc1 hs1 hl
  show H1[a]? = some (vp_cell _ _)
  have e9 : narrow .boolean (.int (Int32.ofInt x)) = .int (Int32.ofInt x) := by rcases hx01 with q | q <;> subst q <;> rfl
  rw [e, vp_cell_i, vp_cell_i, arrV_store, zI_nc (by omega), e9]
  congr 2
  funext q
  by_cases hq : q = i.toNat
  · subst hq
    simp [updV, zw]
  · simp [updV, zw, hq]
theorem z_last (C : zC X l D N0 cc nL own Ts) {a n : Nat} {f : Nat → Int64} {i : Int} {x : Int64} (hm : μ a = some (zAL D n f)) (hn : n < 2147483648) (d : decode cc pc = .ok (.lastore, 1)) (k : Z X (zu μ a (zAL D n (zw f i.toNat x))) kc kn (pc + 1) L st) (hi : 0 ≤ i ∧ i < n := by omega) : Z X μ kc kn pc L (.long x :: zi i :: .ref a :: st) := by
  obtain ⟨p, l', e, R, s, m, args, below, meth, c, D', N', Q⟩ := X
  obtain ⟨rfl, rfl, rfl, hx, hb, hml, hown, hts, hlk, hB⟩ := C
  intro H locs cells slots ls hH hS hc1 hs1 hl
  refine W.last hx hb (hH a _ hm).1 ((hB.1.2 1 _ rfl).1 n (fun j => .long (f j))) (fun q => by cases q) (by show ¬ (_ < 0 ∨ (arrV _ _ _).slots.size ≤ _); rw [arrV_size]; exact zI_in hi hn) rfl rfl d fun H1 e z oq => ?_
  refine k H1 _ cells slots ls (hH.seta ?_ (hH a _ hm).2 oq) (hS.put z oq (hH a _ hm).2) hc1 hs1 hl
  show H1[a]? = some (vp_cell _ _)
  rw [e, vp_cell_l, vp_cell_l, arrV_store, zI_nc (by omega)]
  congr 2
  funext q
  by_cases hq : q = i.toNat
  · subst hq
    simp [updV, zw]
  · simp [updV, zw, hq]
end ZROWS
end
section
/-! contracts over the whole memory, their entries, ends and calls -/
def zPre (D : va_G) (N0 : Nat) (av : List Value) (μ : zM) : Array Value → State → Prop := fun v U => v = av.toArray ∧ zH D N0 μ U.heap ∧ zB D N0 U
theorem zPre_blind {D : va_G} {N0 : Nat} {av : List Value} {μ : zM} : FrameBlind (zPre D N0 av μ) := fun a U g mk h => ⟨h.1, h.2.1, h.2.2.moved (U := U.calling g mk a) (State.WarmedH.refl U) va_S.rf⟩
abbrev zQI (D : va_G) (N0 : Nat) (post : Int → zM → Prop) : Array Value → State → Outcome → State → Prop := va_Qi (S := zM) (fun r u => ∃ z, r = Int32.ofInt z ∧ post z u) (fun u t => zH D N0 u t.heap) (fun q => N0 ≤ q)
abbrev zQL (D : va_G) (N0 : Nat) (post : Int64 → zM → Prop) : Array Value → State → Outcome → State → Prop := va_Ql (S := zM) post (fun u t => zH D N0 u t.heap) (fun q => N0 ≤ q)
abbrev zQD (D : va_G) (N0 : Nat) (post : UInt64 → zM → Prop) : Array Value → State → Outcome → State → Prop := va_Qd (S := zM) post (fun u t => zH D N0 u t.heap) (fun q => N0 ≤ q)
abbrev zQV (D : va_G) (N0 : Nat) (post : zM → Prop) : Array Value → State → Outcome → State → Prop := va_Qv (S := zM) post (fun u t => zH D N0 u t.heap) (fun q => N0 ≤ q)
abbrev zQR (D : va_G) (N0 : Nat) (post : Nat → zM → Prop) : Array Value → State → Outcome → State → Prop := va_Qr (S := Nat × zM) (fun u => post u.1 u.2) (fun u a t => u.1 = a ∧ zH D N0 u.2 t.heap) (fun q => N0 ≤ q)
/-- the contract of a method: y with its code, its room, its arguments, the memory ahead, what it answers -/
abbrev zMet (l : Launch) (y : MethodName) (cc : ByteArray) (maxL : Nat) (ret : Option FieldType) (rm : Room) (D : va_G) (N0 : Nat) (av : List Value) (μ : zM) (Qc : Array Value → State → Outcome → State → Prop) : Prop := Met l y [Cond.code y cc maxL ret] rm (zPre D N0 av μ) Qc rm.cells rm.slots (fun q => N0 ≤ q)
def zarg : List Value → List (Option Value)
  | [] => []
  | v :: vs => if v.category = 2 then some v :: none :: zarg vs else some v :: zarg vs
def zent (av : List Value) (n : Nat) : List (Option Value) := zarg av ++ List.replicate (n - (zarg av).length) none
theorem zarg_len : ∀ (vs : List Value), (zarg vs).length = (lg_sl vs).length
  | [] => rfl
  | v :: vs => by
    unfold zarg lg_sl
    rw [List.flatMap_cons]
    by_cases h : v.category = 2
    · rw [if_pos h, if_pos h]
      have := zarg_len vs
      unfold lg_sl at this
      simp [this]
    · rw [if_neg h, if_neg h]
      have := zarg_len vs
      unfold lg_sl at this
      simp [this]
theorem zarg_in : ∀ (vs : List Value) (i j : Nat) (v : Value), (zarg vs)[j]? = some (some v) → (i + j, v) ∈ lv_args i vs
  | [], i, j, v, h => by simp [zarg] at h
  | w :: vs, i, j, v, h => by
    unfold zarg at h
    unfold lv_args
    by_cases hc : w.category = 2
    · rw [if_pos hc] at h
      rw [if_pos hc]
      match j, h with
      | 0, h =>
        simp at h
        subst h
        exact List.mem_cons_self
      | 1, h => simp at h
      | j + 2, h =>
        have := zarg_in vs (i + 2) j v (by simpa using h)
        rw [show i + (j + 2) = i + 2 + j by omega]
        exact List.mem_cons_of_mem _ this
    · rw [if_neg hc] at h
      rw [if_neg hc]
      match j, h with
      | 0, h =>
        simp at h
        subst h
        exact List.mem_cons_self
      | j + 1, h =>
        have := zarg_in vs (i + 1) j v (by simpa using h)
        rw [show i + (j + 1) = i + 1 + j by omega]
        exact List.mem_cons_of_mem _ this
def zEnd (X : zX) (ret : Option FieldType) (k0 n0 : Nat) (Qc : Array Value → State → Outcome → State → Prop) : Prop :=
  match X with
  | (p, l, e, R, s, m, args, below, meth, c, D, N0, Q) => meth.sig.returnType = ret ∧ Q = MQ below Qc args s k0 n0 (fun q => N0 ≤ q)
def zName (X : zX) (y : MethodName) : Prop :=
  match X with
  | (p, l, e, R, s, m, args, below, meth, c, D, N0, Q) => meth.name = y.name
/-- a method's proof: from its first instruction to its end -/
theorem zMet_of {l : Launch} {y : MethodName} {cc : ByteArray} {maxL : Nat} {ret : Option FieldType} {rm : Room} {D : va_G} {N0 : Nat} {av : List Value} {μ : zM} {Qc : Array Value → State → Outcome → State → Prop} (hy : plainName y.cls = true) (hfit : (zarg av).length ≤ maxL)
    (body : ∀ X : zX, zC X l D N0 cc maxL y.cls zWS → zR X rm.cells rm.slots rm.frames rm.locals → zName X y → zEnd X ret rm.cells rm.slots Qc → Z X μ 0 0 0 (zent av maxL) []) : zMet l y cc maxL ret rm D N0 av μ Qc := by
  refine Met.ofW (cc := cc) (maxL := maxL) (ret := ret) hy rfl ?_
  intro p e s m args below meth c s₁ B hml hv
  obtain ⟨rfl, hH, hB⟩ := hv
  have hown : s.vm.findClass y.cls = some m.cls := findClass_of_methodNamed B.named
  have hin : meth.name = y.name := (name_of_methodNamed B.named B.method).1
  have h := body (p, l, e, (headSpec [Cond.code y cc maxL ret] rm).room, s, m, av.toArray, below, meth, c, D, N0, MQ below Qc av.toArray s rm.cells rm.slots (fun q => N0 ≤ q)) ⟨rfl, rfl, rfl, B.exec, B.bytes, hml, hown, fun w hw => hB.2.2.2.1 w hw _, B.notSynchronized, hB⟩ ⟨Nat.le_refl _, Nat.le_refl _, Nat.le_refl _, Nat.le_refl _⟩ hin ⟨B.returns, rfl⟩
  have hle := lv_entry av (n := maxL) (by rw [← zarg_len]; exact hfit)
  rw [lg_entry_eq]
  refine h s.heap [] 0 0 _ hH va_S.rf (Nat.le_refl _) (Nat.le_refl _) (zL.of hle ?_ ?_)
  · unfold zent
    simp
    omega
  · intro i v hv
    unfold zent at hv
    have h1 : i < (zarg av).length := by
      rcases Nat.lt_or_ge i (zarg av).length with q | q
      · exact q
      · rw [List.getElem?_append_right q] at hv
        rw [List.getElem?_replicate] at hv
        split at hv <;> simp at hv
    rw [List.getElem?_append_left h1] at hv
    have := zarg_in av 0 i v hv
    rwa [Nat.zero_add] at this
section ZENDS
variable {X : zX} {l : Launch} {D : va_G} {N0 : Nat} {cc : ByteArray} {nL : Nat} {own : String} {Ts : List Cond} {μ : zM} {kc kn pc : Nat} {L L' : List (Option Value)} {st : List Value}
theorem z_iret (C : zC X l D N0 cc nL own Ts) {k0 n0 : Nat} {post : Int → zM → Prop} {z : Int} (E : zEnd X (some .int) k0 n0 (zQI D N0 post)) (d : decode cc pc = .ok (.ireturn, 1)) (hk : kc ≤ k0) (hn : kn ≤ n0) (hp : post z μ) : Z X μ kc kn pc L [zi z] := by
  obtain ⟨p, l', e, R, s, m, args, below, meth, c, D', N', Q⟩ := X
  obtain ⟨rfl, rfl, rfl, hx, hb, hml, hown, hts, hlk, hB⟩ := C
  obtain ⟨hr, rfl⟩ := E
  intro H locs cells slots ls hH hS hc1 hs1 hl
  refine W.widen (Nat.le_trans hc1 hk) (Nat.le_trans hs1 hn) ?_
  exact W.iret hx hb hr (fun t ht hW => ⟨⟨_, μ, rfl, ⟨z, rfl, hp⟩, by show zH _ _ μ t.heap; rw [ht]; exact hH⟩, hS.F ht⟩) hS.2.2 d hlk
theorem z_zret (C : zC X l D N0 cc nL own Ts) {k0 n0 : Nat} {post : Int → zM → Prop} {z : Int} (E : zEnd X (some .boolean) k0 n0 (zQI D N0 post)) (hz : z = 0 ∨ z = 1) (d : decode cc pc = .ok (.ireturn, 1)) (hk : kc ≤ k0) (hn : kn ≤ n0) (hp : post z μ) : Z X μ kc kn pc L [zi z] := by
  obtain ⟨p, l', e, R, s, m, args, below, meth, c, D', N', Q⟩ := X
  obtain ⟨rfl, rfl, rfl, hx, hb, hml, hown, hts, hlk, hB⟩ := C
  obtain ⟨hr, rfl⟩ := E
  intro H locs cells slots ls hH hS hc1 hs1 hl
  refine W.widen (Nat.le_trans hc1 hk) (Nat.le_trans hs1 hn) ?_
  exact W.zret hx hb hr (by rcases hz with q | q <;> subst q <;> rfl) (fun t ht hW => ⟨⟨_, μ, rfl, ⟨z, rfl, hp⟩, by show zH _ _ μ t.heap; rw [ht]; exact hH⟩, hS.F ht⟩) hS.2.2 d hlk
theorem z_lret (C : zC X l D N0 cc nL own Ts) {k0 n0 : Nat} {post : Int64 → zM → Prop} {z : Int64} (E : zEnd X (some .long) k0 n0 (zQL D N0 post)) (d : decode cc pc = .ok (.lreturn, 1)) (hk : kc ≤ k0) (hn : kn ≤ n0) (hp : post z μ) : Z X μ kc kn pc L [.long z] := by
  obtain ⟨p, l', e, R, s, m, args, below, meth, c, D', N', Q⟩ := X
  obtain ⟨rfl, rfl, rfl, hx, hb, hml, hown, hts, hlk, hB⟩ := C
  obtain ⟨hr, rfl⟩ := E
  intro H locs cells slots ls hH hS hc1 hs1 hl
  refine W.widen (Nat.le_trans hc1 hk) (Nat.le_trans hs1 hn) ?_
  exact W.lret hx hb hr (fun t ht hW => ⟨⟨_, μ, rfl, hp, by show zH _ _ μ t.heap; rw [ht]; exact hH⟩, hS.F ht⟩) hS.2.2 d hlk
theorem z_dret (C : zC X l D N0 cc nL own Ts) {k0 n0 : Nat} {post : UInt64 → zM → Prop} {z : UInt64} (E : zEnd X (some .double) k0 n0 (zQD D N0 post)) (d : decode cc pc = .ok (.dreturn, 1)) (hk : kc ≤ k0) (hn : kn ≤ n0) (hp : post z μ) : Z X μ kc kn pc L [.double z] := by
  obtain ⟨p, l', e, R, s, m, args, below, meth, c, D', N', Q⟩ := X
  obtain ⟨rfl, rfl, rfl, hx, hb, hml, hown, hts, hlk, hB⟩ := C
  obtain ⟨hr, rfl⟩ := E
  intro H locs cells slots ls hH hS hc1 hs1 hl
  refine W.widen (Nat.le_trans hc1 hk) (Nat.le_trans hs1 hn) ?_
  exact W.dret hx hb hr (fun t ht hW => ⟨⟨_, μ, rfl, hp, by show zH _ _ μ t.heap; rw [ht]; exact hH⟩, hS.F ht⟩) hS.2.2 d hlk
theorem z_vret (C : zC X l D N0 cc nL own Ts) {k0 n0 : Nat} {post : zM → Prop} (E : zEnd X none k0 n0 (zQV D N0 post)) (d : decode cc pc = .ok (.return_, 1)) (hk : kc ≤ k0) (hn : kn ≤ n0) (hp : post μ) : Z X μ kc kn pc L [] := by
  obtain ⟨p, l', e, R, s, m, args, below, meth, c, D', N', Q⟩ := X
  obtain ⟨rfl, rfl, rfl, hx, hb, hml, hown, hts, hlk, hB⟩ := C
  obtain ⟨hr, rfl⟩ := E
  intro H locs cells slots ls hH hS hc1 hs1 hl
  refine W.widen (Nat.le_trans hc1 hk) (Nat.le_trans hs1 hn) ?_
  exact W.vret hx hb hr (fun t ht hW => ⟨⟨μ, rfl, hp, by show zH _ _ μ t.heap; rw [ht]; exact hH⟩, hS.F ht⟩) hS.2.2 d hlk
theorem z_aret (C : zC X l D N0 cc nL own Ts) {k0 n0 : Nat} {rt : FieldType} {post : Nat → zM → Prop} {a : Nat} (E : zEnd X (some rt) k0 n0 (zQR D N0 post)) (hrt : (∃ n, rt = .object n) ∨ ∃ t, rt = .array t) (d : decode cc pc = .ok (.areturn, 1)) (hk : kc ≤ k0) (hn : kn ≤ n0) (hp : post a μ) : Z X μ kc kn pc L [.ref a] := by
  obtain ⟨p, l', e, R, s, m, args, below, meth, c, D', N', Q⟩ := X
  obtain ⟨rfl, rfl, rfl, hx, hb, hml, hown, hts, hlk, hB⟩ := C
  obtain ⟨hr, rfl⟩ := E
  intro H locs cells slots ls hH hS hc1 hs1 hl
  refine W.widen (Nat.le_trans hc1 hk) (Nat.le_trans hs1 hn) ?_
  exact W.aret hx hb hr hrt (Or.inr ⟨a, rfl⟩) (fun t ht hW => ⟨⟨(a, μ), a, rfl, hp, rfl, by show zH _ _ μ t.heap; rw [ht]; exact hH⟩, hS.F ht⟩) hS.2.2 d hlk
end ZENDS
/-- what the tables say of a method: by kind of call -/
def zCalV (CN : String) (y : MethodName) (bytes : ByteArray) (maxL : Nat) (ret : Option FieldType) (n : Nat) : Prop := Cond.instanceMethod y ∈ zWS ∧ Cond.selects CN y y ∈ zWS ∧ Cond.initialized y.cls ∈ zWS ∧ Cond.code y bytes maxL ret ∈ zWS ∧ (y.cls ≠ "java/lang/invoke/MethodHandle" ∧ y.cls ≠ "java/lang/invoke/VarHandle" ∧ (parseMethodDescriptor y.desc).map (fun d => d.parameters.length) = some n)
def zCalS (y : MethodName) (bytes : ByteArray) (maxL : Nat) (ret : Option FieldType) (n : Nat) : Prop := Cond.static y ∈ zWS ∧ Cond.initialized y.cls ∈ zWS ∧ Cond.code y bytes maxL ret ∈ zWS ∧ (y.cls ≠ "java/lang/invoke/MethodHandle" ∧ y.cls ≠ "java/lang/invoke/VarHandle" ∧ (parseMethodDescriptor y.desc).map (fun d => d.parameters.length) = some n)
def zCalI (y : MethodName) (bytes : ByteArray) (maxL : Nat) (n : Nat) : Prop := Cond.instanceMethod y ∈ zWS ∧ Cond.initialized y.cls ∈ zWS ∧ Cond.code y bytes maxL none ∈ zWS ∧ y.name = "<init>" ∧ (y.cls ≠ "java/lang/invoke/MethodHandle" ∧ y.cls ≠ "java/lang/invoke/VarHandle" ∧ (parseMethodDescriptor y.desc).map (fun d => d.parameters.length) = some n)
def zRun (X : zX) (μ : zM) (kc kn mc ms pc : Nat) (L : List (Option Value)) (st rest : List Value) (Qa : State → Outcome → State → Prop) : Prop :=
  match X with
  | (p, l, e, R, s, m, args, below, meth, c, D, N0, Q) => ∀ (H : Heap) (locs : List Loc) (cells slots : Nat) (ls : Array Slot), zH D N0 μ H → va_S (fun q => N0 ≤ q) s.heap H locs → cells ≤ kc → slots ≤ kn → zL ls L → va_Run p l e R s m args below meth c H locs cells slots mc ms (F0 m pc ls st) rest Qa (fun q => N0 ≤ q)
section ZCALLS
variable {X : zX} {l : Launch} {D : va_G} {N0 : Nat} {cc : ByteArray} {nL : Nat} {own : String} {μ : zM} {kc kn pc : Nat} {L L' : List (Option Value)} {st : List Value}
variable {rk rn rf rw : Nat} {y : MethodName} {bytes : ByteArray} {maxL n index : Nat} {ret : Option FieldType} {rm : Room} {Qc : Array Value → State → Outcome → State → Prop} {b ci : Nat} {fs As rest : List Value} {CN : String} {T : u_T} {N : Nat}
theorem zpay {s : State} {D : va_G} {N0 : Nat} (hB : zB D N0 s) {y : MethodName} {bytes : ByteArray} {maxL : Nat} {ret : Option FieldType} (hw : Cond.code y bytes maxL ret ∈ zWS) : ∀ w ∈ [Cond.code y bytes maxL ret], ∀ (a' : Array Value) (U : State), s.WarmedH U.vm → w.before a' U = true := by
  intro w h a' U hW
  rw [List.mem_singleton] at h
  subst h
  exact word_at hW (good_of_word (List.mem_filter.mp hw).2) (hB.2.2.2.1 _ hw #[])
theorem zn {y : MethodName} {n : Nat} (h : (parseMethodDescriptor y.desc).map (fun d => d.parameters.length) = some n) : ∀ sig, parseMethodDescriptor y.desc = some sig → n = sig.parameters.length := by
  intro sig hs
  rw [hs] at h
  exact (Option.some.inj h).symm
theorem z_rV (C : zC X l D N0 cc nL own zWS) (Rm : zR X rk rn rf rw) (q : zCalV CN y bytes maxL ret n) (w1 : Cond.methodLink own index y ∈ zWS) (hM : zMet l y bytes maxL ret rm D N0 (.ref b :: As) μ Qc) (hob : μ b = some (.inr (ci, fs))) (hcl : vwCl[ci]? = some (CN, T, N)) (d : decode cc pc = .ok (.invokevirtual index, 3)) (hst : st = As.reverse ++ .ref b :: rest) (hn : As.length = n) (hcat : (rest.map fun v => v.category).sum ≤ 8) (hLn : L.length = nL) (hroom : rm.frames + 1 ≤ rf ∧ 8 + (maxL + 11) + rm.locals ≤ rw ∧ kc + rm.cells ≤ rk ∧ kn + rm.slots ≤ rn) : zRun X μ kc kn rm.cells rm.slots pc L st rest (Qc (Value.ref b :: As).toArray) := by
  obtain ⟨p, l', e, R, s, m, args, below, meth, c, D', N', Q⟩ := X
  obtain ⟨rfl, rfl, rfl, hx, hb, hml, hown, hts, hlk, hB⟩ := C
  obtain ⟨r1, r2, r3, r4⟩ := Rm
  obtain ⟨g1, g2, g3, g4⟩ := hroom
  obtain ⟨q1, q2, q3, q4, q5, q6, q7⟩ := q
  intro H locs cells slots ls hH hS hc1 hs1 hl
  exact va_runV (C := CN) (As := As) (rest := rest) ⟨hx, hb, hml, hown, hts⟩ hM ⟨⟨rfl, rfl, Nat.le_trans g1 r3, Nat.le_trans g2 r4, zpay hB q4, List.mem_singleton.mpr rfl, hts _ q4, hts _ q3, ⟨q5, q6⟩, zn q7, hts _ w1⟩, hts _ q1, hts _ q2⟩ ⟨zPre_blind, va_recv hB.1 (hH.one hob) (ci := ci) (q0 := 0) hcl rfl, fun U hU hW => ⟨rfl, by rw [hU]; exact hH, hB.moved hW (by rw [hU]; exact hS)⟩⟩ rfl hn (hl.1.trans hLn) hst (lv_room hcat) d ⟨Nat.le_trans (Nat.le_trans (Nat.add_le_add_right hc1 _) g3) r1, Nat.le_trans (Nat.le_trans (Nat.add_le_add_right hs1 _) g4) r2⟩
theorem z_rS (C : zC X l D N0 cc nL own zWS) (Rm : zR X rk rn rf rw) (q : zCalS y bytes maxL ret n) (w1 : Cond.methodLink own index y ∈ zWS) (hM : zMet l y bytes maxL ret rm D N0 As μ Qc) (d : decode cc pc = .ok (.invokestatic index, 3)) (hst : st = As.reverse ++ rest) (hn : As.length = n) (hcat : (rest.map fun v => v.category).sum ≤ 8) (hLn : L.length = nL) (hroom : rm.frames + 1 ≤ rf ∧ 8 + (maxL + 11) + rm.locals ≤ rw ∧ kc + rm.cells ≤ rk ∧ kn + rm.slots ≤ rn) : zRun X μ kc kn rm.cells rm.slots pc L st rest (Qc As.toArray) := by
  obtain ⟨p, l', e, R, s, m, args, below, meth, c, D', N', Q⟩ := X
  obtain ⟨rfl, rfl, rfl, hx, hb, hml, hown, hts, hlk, hB⟩ := C
  obtain ⟨r1, r2, r3, r4⟩ := Rm
  obtain ⟨g1, g2, g3, g4⟩ := hroom
  obtain ⟨q1, q3, q4, q5, q6, q7⟩ := q
  intro H locs cells slots ls hH hS hc1 hs1 hl
  exact va_runS (As := As) (rest := rest) ⟨hx, hb, hml, hown, hts⟩ hM ⟨⟨rfl, rfl, Nat.le_trans g1 r3, Nat.le_trans g2 r4, zpay hB q4, List.mem_singleton.mpr rfl, hts _ q4, hts _ q3, ⟨q5, q6⟩, zn q7, hts _ w1⟩, hts _ q1⟩ ⟨zPre_blind, fun U hU hW => ⟨rfl, by rw [hU]; exact hH, hB.moved hW (by rw [hU]; exact hS)⟩⟩ rfl hn (hl.1.trans hLn) hst (lv_room hcat) d ⟨Nat.le_trans (Nat.le_trans (Nat.add_le_add_right hc1 _) g3) r1, Nat.le_trans (Nat.le_trans (Nat.add_le_add_right hs1 _) g4) r2⟩
theorem z_rSN {host : String} (C : zC X l D N0 cc nL own zWS) (Rm : zR X rk rn rf rw) (q : zCalS y bytes maxL ret n) (w1 : (own, index, y, host) ∈ zNL) (hM : zMet l y bytes maxL ret rm D N0 As μ Qc) (d : decode cc pc = .ok (.invokestatic index, 3)) (hst : st = As.reverse ++ rest) (hn : As.length = n) (hcat : (rest.map fun v => v.category).sum ≤ 8) (hLn : L.length = nL) (hroom : rm.frames + 1 ≤ rf ∧ 8 + (maxL + 11) + rm.locals ≤ rw ∧ kc + rm.cells ≤ rk ∧ kn + rm.slots ≤ rn) : zRun X μ kc kn rm.cells rm.slots pc L st rest (Qc As.toArray) := by
  obtain ⟨p, l', e, R, s, m, args, below, meth, c, D', N', Q⟩ := X
  obtain ⟨rfl, rfl, rfl, hx, hb, hml, hown, hts, hlk, hB⟩ := C
  obtain ⟨r1, r2, r3, r4⟩ := Rm
  obtain ⟨g1, g2, g3, g4⟩ := hroom
  obtain ⟨q1, q3, q4, q5, q6, q7⟩ := q
  intro H locs cells slots ls hH hS hc1 hs1 hl
  exact va_runSN (host := host) (As := As) (rest := rest) ⟨hx, hb, hml, hown, hts⟩ hM ⟨⟨⟨rfl, rfl, Nat.le_trans g1 r3, Nat.le_trans g2 r4, zpay hB q4, List.mem_singleton.mpr rfl⟩, hts _ q4, hts _ q3, ⟨q5, q6⟩, zn q7, va_Nw.use rfl (hB.2.2.2.2.1 _ w1)⟩, hts _ q1, trivial⟩ ⟨zPre_blind, fun U hU hW => ⟨rfl, by rw [hU]; exact hH, hB.moved hW (by rw [hU]; exact hS)⟩⟩ rfl hn (hl.1.trans hLn) hst (lv_room hcat) d ⟨Nat.le_trans (Nat.le_trans (Nat.add_le_add_right hc1 _) g3) r1, Nat.le_trans (Nat.le_trans (Nat.add_le_add_right hs1 _) g4) r2⟩
theorem z_rI (C : zC X l D N0 cc nL own zWS) (Rm : zR X rk rn rf rw) (q : zCalI y bytes maxL n) (w1 : Cond.methodLink own index y ∈ zWS) (hM : zMet l y bytes maxL none rm D N0 (.ref b :: As) μ Qc) (d : decode cc pc = .ok (.invokespecial index, 3)) (hst : st = As.reverse ++ .ref b :: rest) (hn : As.length = n) (hcat : (rest.map fun v => v.category).sum ≤ 8) (hLn : L.length = nL) (hroom : rm.frames + 1 ≤ rf ∧ 8 + (maxL + 11) + rm.locals ≤ rw ∧ kc + rm.cells ≤ rk ∧ kn + rm.slots ≤ rn) : zRun X μ kc kn rm.cells rm.slots pc L st rest (Qc (Value.ref b :: As).toArray) := by
  obtain ⟨p, l', e, R, s, m, args, below, meth, c, D', N', Q⟩ := X
  obtain ⟨rfl, rfl, rfl, hx, hb, hml, hown, hts, hlk, hB⟩ := C
  obtain ⟨r1, r2, r3, r4⟩ := Rm
  obtain ⟨g1, g2, g3, g4⟩ := hroom
  obtain ⟨q1, q3, q4, q8, q5, q6, q7⟩ := q
  intro H locs cells slots ls hH hS hc1 hs1 hl
  exact va_runI (As := As) (rest := rest) ⟨hx, hb, hml, hown, hts⟩ hM ⟨⟨rfl, rfl, Nat.le_trans g1 r3, Nat.le_trans g2 r4, zpay hB q4, List.mem_singleton.mpr rfl, hts _ q4, hts _ q3, ⟨q5, q6⟩, zn q7, hts _ w1⟩, q8, hts _ q1⟩ ⟨zPre_blind, fun U hU hW => ⟨rfl, by rw [hU]; exact hH, hB.moved hW (by rw [hU]; exact hS)⟩⟩ rfl hn (hl.1.trans hLn) hst (lv_room hcat) d ⟨Nat.le_trans (Nat.le_trans (Nat.add_le_add_right hc1 _) g3) r1, Nat.le_trans (Nat.le_trans (Nat.add_le_add_right hs1 _) g4) r2⟩
theorem z_rIN {host : String} (C : zC X l D N0 cc nL own zWS) (Rm : zR X rk rn rf rw) (q : zCalI y bytes maxL n) (w1 : (own, index, y, host) ∈ zNL) (hM : zMet l y bytes maxL none rm D N0 (.ref b :: As) μ Qc) (d : decode cc pc = .ok (.invokespecial index, 3)) (hst : st = As.reverse ++ .ref b :: rest) (hn : As.length = n) (hcat : (rest.map fun v => v.category).sum ≤ 8) (hLn : L.length = nL) (hroom : rm.frames + 1 ≤ rf ∧ 8 + (maxL + 11) + rm.locals ≤ rw ∧ kc + rm.cells ≤ rk ∧ kn + rm.slots ≤ rn) : zRun X μ kc kn rm.cells rm.slots pc L st rest (Qc (Value.ref b :: As).toArray) := by
  obtain ⟨p, l', e, R, s, m, args, below, meth, c, D', N', Q⟩ := X
  obtain ⟨rfl, rfl, rfl, hx, hb, hml, hown, hts, hlk, hB⟩ := C
  obtain ⟨r1, r2, r3, r4⟩ := Rm
  obtain ⟨g1, g2, g3, g4⟩ := hroom
  obtain ⟨q1, q3, q4, q8, q5, q6, q7⟩ := q
  intro H locs cells slots ls hH hS hc1 hs1 hl
  exact va_runIN (host := host) (As := As) (rest := rest) ⟨hx, hb, hml, hown, hts⟩ hM ⟨⟨⟨rfl, rfl, Nat.le_trans g1 r3, Nat.le_trans g2 r4, zpay hB q4, List.mem_singleton.mpr rfl⟩, hts _ q4, hts _ q3, ⟨q5, q6⟩, zn q7, va_Nw.use rfl (hB.2.2.2.2.1 _ w1)⟩, q8, hts _ q1⟩ ⟨zPre_blind, fun U hU hW => ⟨rfl, by rw [hU]; exact hH, hB.moved hW (by rw [hU]; exact hS)⟩⟩ rfl hn (hl.1.trans hLn) hst (lv_room hcat) d ⟨Nat.le_trans (Nat.le_trans (Nat.add_le_add_right hc1 _) g3) r1, Nat.le_trans (Nat.le_trans (Nat.add_le_add_right hs1 _) g4) r2⟩
variable {mc ms : Nat} {Ts : List Cond}
theorem z_ci (C : zC X l D N0 cc nL own Ts) {post : Int → zM → Prop} {a : Array Value} (hr : zRun X μ kc kn mc ms pc L st rest (zQI D N0 post a)) (kk : ∀ (z : Int) (μ' : zM), post z μ' → Z X μ' (kc + mc) (kn + ms) (pc + 3) L (zi z :: rest)) : Z X μ kc kn pc L st := by
  obtain ⟨p, l', e, R, s, m, args, below, meth, c, D', N', Q⟩ := X
  obtain ⟨rfl, rfl, rfl, hx, hb, hml, hown, hts, hlk, hB⟩ := C
  intro H locs cells slots ls hH hS hc1 hs1 hl
  refine va_calli (hr H locs cells slots ls hH hS hc1 hs1 hl) hS (fun q _ h => h) (fun q h => h) (fun r u t H1 locs1 ht hvm hw hB1 hz1 hk1 hS1 => ?_)
  obtain ⟨z, rfl, hp⟩ := hw
  exact kk z u hp H1 locs1 _ _ ls (by rw [← ht]; exact hB1) hS1 (Nat.add_le_add_right hc1 _) (Nat.add_le_add_right hs1 _) hl
theorem z_cl (C : zC X l D N0 cc nL own Ts) {post : Int64 → zM → Prop} {a : Array Value} (hr : zRun X μ kc kn mc ms pc L st rest (zQL D N0 post a)) (kk : ∀ (z : Int64) (μ' : zM), post z μ' → Z X μ' (kc + mc) (kn + ms) (pc + 3) L (.long z :: rest)) : Z X μ kc kn pc L st := by
  obtain ⟨p, l', e, R, s, m, args, below, meth, c, D', N', Q⟩ := X
  obtain ⟨rfl, rfl, rfl, hx, hb, hml, hown, hts, hlk, hB⟩ := C
  intro H locs cells slots ls hH hS hc1 hs1 hl
  refine va_calll (hr H locs cells slots ls hH hS hc1 hs1 hl) hS (fun q _ h => h) (fun q h => h) (fun r u t H1 locs1 ht hvm hp hB1 hz1 hk1 hS1 => ?_)
  exact kk r u hp H1 locs1 _ _ ls (by rw [← ht]; exact hB1) hS1 (Nat.add_le_add_right hc1 _) (Nat.add_le_add_right hs1 _) hl
theorem z_cd (C : zC X l D N0 cc nL own Ts) {post : UInt64 → zM → Prop} {a : Array Value} (hr : zRun X μ kc kn mc ms pc L st rest (zQD D N0 post a)) (kk : ∀ (z : UInt64) (μ' : zM), post z μ' → Z X μ' (kc + mc) (kn + ms) (pc + 3) L (.double z :: rest)) : Z X μ kc kn pc L st := by
  obtain ⟨p, l', e, R, s, m, args, below, meth, c, D', N', Q⟩ := X
  obtain ⟨rfl, rfl, rfl, hx, hb, hml, hown, hts, hlk, hB⟩ := C
  intro H locs cells slots ls hH hS hc1 hs1 hl
  refine va_calld (hr H locs cells slots ls hH hS hc1 hs1 hl) hS (fun q _ h => h) (fun q h => h) (fun r u t H1 locs1 ht hvm hp hB1 hz1 hk1 hS1 => ?_)
  exact kk r u hp H1 locs1 _ _ ls (by rw [← ht]; exact hB1) hS1 (Nat.add_le_add_right hc1 _) (Nat.add_le_add_right hs1 _) hl
theorem z_cv (C : zC X l D N0 cc nL own Ts) {post : zM → Prop} {a : Array Value} (hr : zRun X μ kc kn mc ms pc L st rest (zQV D N0 post a)) (kk : ∀ (μ' : zM), post μ' → Z X μ' (kc + mc) (kn + ms) (pc + 3) L rest) : Z X μ kc kn pc L st := by
  obtain ⟨p, l', e, R, s, m, args, below, meth, c, D', N', Q⟩ := X
  obtain ⟨rfl, rfl, rfl, hx, hb, hml, hown, hts, hlk, hB⟩ := C
  intro H locs cells slots ls hH hS hc1 hs1 hl
  refine va_callv (hr H locs cells slots ls hH hS hc1 hs1 hl) hS (fun q _ h => h) (fun q h => h) (fun u t H1 locs1 ht hvm hp hB1 hz1 hk1 hS1 => ?_)
  exact kk u hp H1 locs1 _ _ ls (by rw [← ht]; exact hB1) hS1 (Nat.add_le_add_right hc1 _) (Nat.add_le_add_right hs1 _) hl
theorem z_cr (C : zC X l D N0 cc nL own Ts) {post : Nat → zM → Prop} {a : Array Value} (hr : zRun X μ kc kn mc ms pc L st rest (zQR D N0 post a)) (kk : ∀ (q : Nat) (μ' : zM), post q μ' → Z X μ' (kc + mc) (kn + ms) (pc + 3) L (.ref q :: rest)) : Z X μ kc kn pc L st := by
  obtain ⟨p, l', e, R, s, m, args, below, meth, c, D', N', Q⟩ := X
  obtain ⟨rfl, rfl, rfl, hx, hb, hml, hown, hts, hlk, hB⟩ := C
  intro H locs cells slots ls hH hS hc1 hs1 hl
  refine va_callr (hr H locs cells slots ls hH hS hc1 hs1 hl) hS (fun q _ h => h) (fun q h => h) (fun u ra t H1 locs1 ht hvm hp hB1 hz1 hk1 hS1 => ?_)
  obtain ⟨rfl, hB2⟩ := hB1
  exact kk u.1 u.2 hp H1 locs1 _ _ ls (by rw [← ht]; exact hB2) hS1 (Nat.add_le_add_right hc1 _) (Nat.add_le_add_right hs1 _) hl
end ZCALLS
end
section
/-! what the tables say of each method, by kind of call -/
theorem qs_J13_bitCount_95d88 : zCalS yJ13_bitCount_95d88 cJ13_bitCount_95d88 2 (some .int) 1 := ⟨m_295, m_52, m_296, by decide +kernel⟩
theorem qs_J7_fill_d0a16 : zCalS yJ7_fill_d0a16 cJ7_fill_d0a16 5 none 2 := ⟨m_328, m_51, m_329, by decide +kernel⟩
theorem qv_X0_columns : zCalV RX0 yX0_columns cX0_columns 4 (some .long) 0 := ⟨m_377, m_7, m_37, m_378, by decide +kernel⟩
theorem qv_X0_copy : zCalV RX0 yX0_copy cX0_copy 3 none 1 := ⟨m_270, m_271, m_37, m_272, by decide +kernel⟩
theorem qv_X0_count : zCalV RX0 yX0_count cX0_count 3 (some .int) 0 := ⟨m_291, m_292, m_37, m_293, by decide +kernel⟩
theorem qv_X0_countEdges : zCalV RX0 yX0_countEdges cX0_countEdges 5 (some .int) 0 := ⟨m_301, m_302, m_37, m_303, by decide +kernel⟩
theorem qv_X0_empty : zCalV RX0 yX0_empty cX0_empty 1 none 0 := ⟨m_324, m_325, m_37, m_326, by decide +kernel⟩
theorem qv_X0_greatestX : zCalV RX0 yX0_greatestX cX0_greatestX 4 (some .int) 0 := ⟨m_385, m_386, m_37, m_387, by decide +kernel⟩
theorem qv_X0_greatestY : zCalV RX0 yX0_greatestY cX0_greatestY 2 (some .int) 0 := ⟨m_390, m_391, m_37, m_392, by decide +kernel⟩
theorem qi_X0_init : zCalI yX0_init cX0_init 1 0 := ⟨m_66, m_37, m_67, rfl, by decide +kernel⟩
theorem qv_X0_leastX : zCalV RX0 yX0_leastX cX0_leastX 3 (some .int) 0 := ⟨m_372, m_373, m_37, m_374, by decide +kernel⟩
theorem qv_X0_leastY : zCalV RX0 yX0_leastY cX0_leastY 2 (some .int) 0 := ⟨m_381, m_382, m_37, m_383, by decide +kernel⟩
theorem qv_X0_putRow : zCalV RX0 yX0_putRow cX0_putRow 5 none 2 := ⟨m_278, m_279, m_37, m_280, by decide +kernel⟩
theorem qv_X0_row : zCalV RX0 yX0_row cX0_row 3 (some .long) 1 := ⟨m_274, m_275, m_37, m_276, by decide +kernel⟩
theorem qs_X1_along : zCalS yX1_along cX1_along 13 (some .long) 2 := ⟨m_343, m_40, m_344, by decide +kernel⟩
theorem qv_X1_countHoles : zCalV RX1 yX1_countHoles cX1_countHoles 2 (some .int) 1 := ⟨m_358, m_359, m_40, m_360, by decide +kernel⟩
theorem qv_X1_countParts : zCalV RX1 yX1_countParts cX1_countParts 5 (some .int) 1 := ⟨m_312, m_1, m_40, m_313, by decide +kernel⟩
theorem qv_X1_countPieces : zCalV RX1 yX1_countPieces cX1_countPieces 2 (some .int) 1 := ⟨m_306, m_307, m_40, m_308, by decide +kernel⟩
theorem qv_X1_findHoles : zCalV RX1 yX1_findHoles cX1_findHoles 6 none 1 := ⟨m_363, m_6, m_40, m_364, by decide +kernel⟩
theorem qi_X1_init : zCalI yX1_init cX1_init 1 0 := ⟨m_130, m_40, m_131, rfl, by decide +kernel⟩
theorem qv_X1_removeFound : zCalV RX1 yX1_removeFound cX1_removeFound 2 none 0 := ⟨m_354, m_5, m_40, m_355, by decide +kernel⟩
theorem qv_X1_spread : zCalV RX1 yX1_spread cX1_spread 5 none 1 := ⟨m_336, m_3, m_40, m_337, by decide +kernel⟩
theorem qv_X1_spreadInto : zCalV RX1 yX1_spreadInto cX1_spreadInto 11 (some .boolean) 2 := ⟨m_340, m_4, m_40, m_341, by decide +kernel⟩
theorem qv_X2_count : zCalV RX2 yX2_count cX2_count 1 (some .int) 0 := ⟨m_497, m_498, m_39, m_499, by decide +kernel⟩
theorem qi_X2_init : zCalI yX2_init cX2_init 2 0 := ⟨m_109, m_39, m_110, rfl, by decide +kernel⟩
theorem qv_X3_begin : zCalV RX3 yX3_begin cX3_begin 2 none 1 := ⟨m_398, m_399, m_41, m_400, by decide +kernel⟩
theorem qv_X3_countContours : zCalV RX3 yX3_countContours cX3_countContours 3 (some .int) 1 := ⟨m_394, m_395, m_41, m_396, by decide +kernel⟩
theorem qi_X3_init : zCalI yX3_init cX3_init 1 0 := ⟨m_151, m_41, m_152, rfl, by decide +kernel⟩
theorem qv_X3_next : zCalV RX3 yX3_next cX3_next 8 (some .boolean) 1 := ⟨m_404, m_405, m_41, m_406, by decide +kernel⟩
theorem qi_X4_init : zCalI yX4_init cX4_init 1 0 := ⟨m_77, m_38, m_78, rfl, by decide +kernel⟩
theorem qv_X4_length : zCalV RX4 yX4_length cX4_length 1 (some .int) 0 := ⟨m_250, m_251, m_38, m_252, by decide +kernel⟩
theorem qv_X5_begin : zCalV RX5 yX5_begin cX5_begin 2 none 1 := ⟨m_463, m_464, m_42, m_465, by decide +kernel⟩
theorem qv_X5_countStrips : zCalV RX5 yX5_countStrips cX5_countStrips 3 (some .int) 1 := ⟨m_459, m_460, m_42, m_461, by decide +kernel⟩
theorem qi_X5_init : zCalI yX5_init cX5_init 1 0 := ⟨m_196, m_42, m_197, rfl, by decide +kernel⟩
theorem qv_X5_next : zCalV RX5 yX5_next cX5_next 4 (some .boolean) 0 := ⟨m_469, m_470, m_42, m_471, by decide +kernel⟩
theorem qs_X6_bit : zCalS yX6_bit cX6_bit 1 (some .long) 1 := ⟨m_366, m_36, m_367, by decide +kernel⟩
theorem qs_X6_boundOf : zCalS yX6_boundOf cX6_boundOf 2 (some .int) 2 := ⟨m_369, m_36, m_370, by decide +kernel⟩
theorem qv_X6_digest : zCalV RX6 yX6_digest cX6_digest 6 (some .long) 0 := ⟨m_282, m_283, m_36, m_284, by decide +kernel⟩
theorem qv_X6_digestOfContours : zCalV RX6 yX6_digestOfContours cX6_digestOfContours 7 (some .long) 2 := ⟨m_438, m_13, m_36, m_439, by decide +kernel⟩
theorem qv_X6_digestOfStrips : zCalV RX6 yX6_digestOfStrips cX6_digestOfStrips 8 (some .long) 2 := ⟨m_488, m_16, m_36, m_489, by decide +kernel⟩
theorem qi_X6_init : zCalI yX6_init cX6_init 2 0 := ⟨m_57, m_36, m_58, rfl, by decide +kernel⟩
theorem qs_X6_mixed : zCalS yX6_mixed cX6_mixed 4 (some .long) 2 := ⟨m_287, m_36, m_288, by decide +kernel⟩
theorem qs_X7_areaOf : zCalS yX7_areaOf cX7_areaOf 6 (some .int) 1 := ⟨m_1086, m_43, m_1087, by decide +kernel⟩
theorem qs_X7_at : zCalS yX7_at cX7_at 2 (some .int) 2 := ⟨m_1076, m_43, m_1077, by decide +kernel⟩
theorem qv_X7_boundNow : zCalV RX7 yX7_boundNow cX7_boundNow 8 (some .int) 2 := ⟨m_1191, m_29, m_43, m_1192, by decide +kernel⟩
theorem qv_X7_contoursNow : zCalV RX7 yX7_contoursNow cX7_contoursNow 21 (some (.array .int)) 1 := ⟨m_1199, m_30, m_43, m_1200, by decide +kernel⟩
theorem qv_X7_digest : zCalV RX7 yX7_digest cX7_digest 7 (some .long) 0 := ⟨m_1284, m_1285, m_43, m_1286, by decide +kernel⟩
theorem qv_X7_edgesNow : zCalV RX7 yX7_edgesNow cX7_edgesNow 5 (some .int) 1 := ⟨m_1167, m_27, m_43, m_1168, by decide +kernel⟩
theorem qs_X7_has : zCalS yX7_has cX7_has 3 (some .boolean) 3 := ⟨m_1130, m_43, m_1131, by decide +kernel⟩
theorem qv_X7_holesNow : zCalV RX7 yX7_holesNow cX7_holesNow 2 (some .int) 1 := ⟨m_1179, m_28, m_43, m_1180, by decide +kernel⟩
theorem qi_X7_init : zCalI yX7_init cX7_init 1 0 := ⟨m_1004, m_43, m_1005, rfl, by decide +kernel⟩
theorem qs_X7_isEdge : zCalS yX7_isEdge cX7_isEdge 4 (some .boolean) 4 := ⟨m_1202, m_43, m_1203, by decide +kernel⟩
theorem qs_X7_isField : zCalS yX7_isField cX7_isField 2 (some .boolean) 2 := ⟨m_1105, m_43, m_1106, by decide +kernel⟩
theorem qs_X7_isIn : zCalS yX7_isIn cX7_isIn 3 (some .boolean) 3 := ⟨m_1045, m_43, m_1046, by decide +kernel⟩
theorem qs_X7_most : zCalS yX7_most cX7_most 6 (some .int) 1 := ⟨m_1143, m_43, m_1144, by decide +kernel⟩
theorem qs_X7_parts : zCalS yX7_parts cX7_parts 17 (some (.array .int)) 2 := ⟨m_1137, m_43, m_1138, by decide +kernel⟩
theorem qv_X7_stripsNow : zCalV RX7 yX7_stripsNow cX7_stripsNow 9 (some (.array .int)) 1 := ⟨m_1247, m_33, m_43, m_1248, by decide +kernel⟩
end
section
/-! rows of the layer that need the tables: Math, Object.<init>, new arrays -/
section ZMORE
variable {X : zX} {l : Launch} {D : va_G} {N0 : Nat} {cc : ByteArray} {nL : Nat} {own : String} {μ : zM} {kc kn pc : Nat} {L L' : List (Option Value)} {st : List Value} {rk rn rf rw : Nat} {index : Nat}
theorem z_mmin (C : zC X l D N0 cc nL own zWS) (Rm : zR X rk rn rf rw) (w1 : Cond.methodLink own index Lib.Math.min.name ∈ zWS) (w2 : Cond.static Lib.Math.min.name ∈ zWS) (w3 : Cond.initialized "java/lang/Math" ∈ zWS) (w4 : Cond.code Lib.Math.min.name Lib.Math.min.code 2 (some .int) ∈ zWS) {x y : Int} (d : decode cc pc = .ok (.invokestatic index, 3)) (hLn : L.length = nL) (hroom : 1 ≤ rf ∧ (st.map fun v => v.category).sum + 13 ≤ rw ∧ kc ≤ rk ∧ kn ≤ rn) (k : Z X μ kc kn (pc + 3) L (zi (min x y) :: st)) (hxr : -2147483648 ≤ x ∧ x < 2147483648 := by omega) (hyr : -2147483648 ≤ y ∧ y < 2147483648 := by omega) : Z X μ kc kn pc L (zi y :: zi x :: st) := by
  obtain ⟨p, l', e, R, s, m, args, below, meth, c, D', N', Q⟩ := X
  obtain ⟨rfl, rfl, rfl, hx, hb, hml, hown, hts, hlk, hB⟩ := C
  obtain ⟨r1, r2, r3, r4⟩ := Rm
  obtain ⟨g1, g2, g3, g4⟩ := hroom
  intro H locs cells slots ls hH hS hc1 hs1 hl
  refine va_mmin hx hb (hml.trans (hLn.symm.trans hl.1.symm)) hown (hts _ w1) (hts _ w2) (hts _ w3) (hts _ w4) (Nat.le_trans g1 r3) (Nat.le_trans g2 r4) (Nat.le_trans hc1 (Nat.le_trans g3 r1)) (Nat.le_trans hs1 (Nat.le_trans g4 r2)) d ?_
  have e1 : (if Int32.ofInt y < Int32.ofInt x then Int32.ofInt y else Int32.ofInt x) = Int32.ofInt (min x y) := by
    by_cases q : y < x
    · rw [if_pos ((zI_lt hyr hxr).mpr q), Int.min_eq_right (by omega)]
    · rw [if_neg (fun h => q ((zI_lt hyr hxr).mp h)), Int.min_eq_left (by omega)]
  rw [e1]
  exact k H locs cells slots ls hH hS hc1 hs1 hl
theorem z_mmax (C : zC X l D N0 cc nL own zWS) (Rm : zR X rk rn rf rw) (w1 : Cond.methodLink own index Lib.Math.max.name ∈ zWS) (w2 : Cond.static Lib.Math.max.name ∈ zWS) (w3 : Cond.initialized "java/lang/Math" ∈ zWS) (w4 : Cond.code Lib.Math.max.name Lib.Math.max.code 2 (some .int) ∈ zWS) {x y : Int} (d : decode cc pc = .ok (.invokestatic index, 3)) (hLn : L.length = nL) (hroom : 1 ≤ rf ∧ (st.map fun v => v.category).sum + 13 ≤ rw ∧ kc ≤ rk ∧ kn ≤ rn) (k : Z X μ kc kn (pc + 3) L (zi (max x y) :: st)) (hxr : -2147483648 ≤ x ∧ x < 2147483648 := by omega) (hyr : -2147483648 ≤ y ∧ y < 2147483648 := by omega) : Z X μ kc kn pc L (zi y :: zi x :: st) := by
  obtain ⟨p, l', e, R, s, m, args, below, meth, c, D', N', Q⟩ := X
  obtain ⟨rfl, rfl, rfl, hx, hb, hml, hown, hts, hlk, hB⟩ := C
  obtain ⟨r1, r2, r3, r4⟩ := Rm
  obtain ⟨g1, g2, g3, g4⟩ := hroom
  intro H locs cells slots ls hH hS hc1 hs1 hl
  refine va_mmax hx hb (hml.trans (hLn.symm.trans hl.1.symm)) hown (hts _ w1) (hts _ w2) (hts _ w3) (hts _ w4) (Nat.le_trans g1 r3) (Nat.le_trans g2 r4) (Nat.le_trans hc1 (Nat.le_trans g3 r1)) (Nat.le_trans hs1 (Nat.le_trans g4 r2)) d ?_
  have e1 : (if Int32.ofInt x < Int32.ofInt y then Int32.ofInt y else Int32.ofInt x) = Int32.ofInt (max x y) := by
    by_cases q : x < y
    · rw [if_pos ((zI_lt hxr hyr).mpr q), Int.max_eq_right (by omega)]
    · rw [if_neg (fun h => q ((zI_lt hxr hyr).mp h)), Int.max_eq_left (by omega)]
  rw [e1]
  exact k H locs cells slots ls hH hS hc1 hs1 hl
theorem zH.new {D : va_G} {N0 : Nat} {μ : zM} {H H1 : Heap} (h : zH D N0 μ H) {e : va_E} (hP : va_at D vwCl (H.size, e) H1) (hN : N0 ≤ H.size) (hq : ∀ q : Nat, q < H.size → H1[q]? = H[q]?) : zH D N0 (zu μ H.size e) H1 := by
  intro b f hb
  by_cases hba : b = H.size
  · subst hba
    rw [zu_s] at hb
    cases hb
    exact ⟨hP, hN⟩
  · rw [zu_n hba] at hb
    exact ⟨(h b f hb).1.kept (hq b (h.lt hb)), (h b f hb).2⟩
/-- a new array of ints, at a place that nothing known is at -/
theorem z_newI (C : zC X l D N0 cc nL own zWS) (Rm : zR X rk rn rf rw) {n : Int} (hn : 0 ≤ n ∧ n < 100000) (w : Cond.arrayClass .int ∈ zWS) (d : decode cc pc = .ok (.newarray .int, 2)) (hr : kc + 1 ≤ rk ∧ kn + n.toNat ≤ rn) (k : ∀ q : Nat, N0 ≤ q → (∀ (a : Nat) (e : va_E), μ a = some e → a < q) → Z X (zu μ q (zAI D n.toNat (fun _ => 0))) (kc + 1) (kn + n.toNat) (pc + 2) L (.ref q :: st)) : Z X μ kc kn pc L (zi n :: st) := by
  obtain ⟨p, l', e, R, s, m, args, below, meth, c, D', N', Q⟩ := X
  obtain ⟨rfl, rfl, rfl, hx, hb, hml, hown, hts, hlk, hB⟩ := C
  obtain ⟨r1, r2, r3, r4⟩ := Rm
  intro H locs cells slots ls hH hS hc1 hs1 hl
  have hN : N' ≤ H.size := Nat.le_trans hB.2.2.1 hS.1
  refine va_newaK (atype := .int) hx hb (hts _ w) rfl d rfl (by rw [zI_0, zI_lt (by omega) (by omega)]; omega) (zI_nc (by omega)) (by show n.toNat * 4 ≤ 536870912; omega) (Nat.le_trans (Nat.le_trans (Nat.add_le_add_right hc1 _) hr.1) r1) (Nat.le_trans (Nat.le_trans (Nat.add_le_add_right hs1 _) hr.2) r2) rfl fun H1 cA e1 z1 o1 hAr hNm => ?_
  have hcA : cA = D'.1 100 := Option.some.inj (hNm.symm.trans (hB.1.2 0 _ rfl).2)
  subst hcA
  refine k H.size hN (fun a e ha => hH.lt ha) H1 locs _ _ ls (hH.new ?_ hN o1) ⟨Nat.le_trans hS.1 (by omega), fun x h1 h2 => (o1 x (Nat.lt_of_lt_of_le h1 hS.1)).trans (hS.2.1 x h1 h2), hS.2.2⟩ (Nat.add_le_add_right hc1 _) (Nat.add_le_add_right hs1 _) hl
  show H1[H.size]? = some (vp_cell _ _)
  rw [e1, vp_cell_i]
  rfl
theorem z_newZ (C : zC X l D N0 cc nL own zWS) (Rm : zR X rk rn rf rw) {n : Int} (hn : 0 ≤ n ∧ n < 100000) (w : Cond.arrayClass .boolean ∈ zWS) (d : decode cc pc = .ok (.newarray .boolean, 2)) (hr : kc + 1 ≤ rk ∧ kn + n.toNat ≤ rn) (k : ∀ q : Nat, N0 ≤ q → (∀ (a : Nat) (e : va_E), μ a = some e → a < q) → Z X (zu μ q (zAZ D n.toNat (fun _ => 0))) (kc + 1) (kn + n.toNat) (pc + 2) L (.ref q :: st)) : Z X μ kc kn pc L (zi n :: st) := by
  obtain ⟨p, l', e, R, s, m, args, below, meth, c, D', N', Q⟩ := X
  obtain ⟨rfl, rfl, rfl, hx, hb, hml, hown, hts, hlk, hB⟩ := C
  obtain ⟨r1, r2, r3, r4⟩ := Rm
  intro H locs cells slots ls hH hS hc1 hs1 hl
  have hN : N' ≤ H.size := Nat.le_trans hB.2.2.1 hS.1
  refine va_newaK (atype := .boolean) hx hb (hts _ w) rfl d rfl (by rw [zI_0, zI_lt (by omega) (by omega)]; omega) (zI_nc (by omega)) (by show n.toNat * 1 ≤ 536870912; omega) (Nat.le_trans (Nat.le_trans (Nat.add_le_add_right hc1 _) hr.1) r1) (Nat.le_trans (Nat.le_trans (Nat.add_le_add_right hs1 _) hr.2) r2) rfl fun H1 cA e1 z1 o1 hAr hNm => ?_
  have hcA : cA = D'.1 102 := Option.some.inj (hNm.symm.trans (hB.1.2 2 _ rfl).2)
  subst hcA
  refine k H.size hN (fun a e ha => hH.lt ha) H1 locs _ _ ls (hH.new ?_ hN o1) ⟨Nat.le_trans hS.1 (by omega), fun x h1 h2 => (o1 x (Nat.lt_of_lt_of_le h1 hS.1)).trans (hS.2.1 x h1 h2), hS.2.2⟩ (Nat.add_le_add_right hc1 _) (Nat.add_le_add_right hs1 _) hl
  show H1[H.size]? = some (vp_cell _ _)
  rw [e1, vp_cell_i]
  rfl
end ZMORE
end
section
/-! methods that throw, and that catch -/
abbrev eIAE : String := "java/lang/IllegalArgumentException"
abbrev eISE : String := "java/lang/IllegalStateException"
abbrev eIOB : String := "java/lang/IndexOutOfBoundsException"
def zxN : List String := ["java/lang/RuntimeException", "java/lang/Exception"]
def zThr (cls : String) (ik ic : Nat) : Prop := Cond.classLink RX6 ik cls ∈ zWS ∧ Cond.initialized cls ∈ zWS ∧ Bundle.fit cls = true ∧ (∀ w ∈ vx_atS RX6 ic cls zxN, w ∈ zWS ∨ w ∈ zNG) ∧ (∀ w ∈ Cond.classLink RX6 ik cls :: Cond.initialized cls :: vx_atS RX6 ic cls zxN, vx_ot w = true)
theorem zat_of {ic : Nat} {cls : String} (h1 : ∀ w ∈ (vx_atS RX6 ic cls zxN).filter goodWord, w ∈ lw_tbl) (h2 : ∀ w ∈ (vx_atS RX6 ic cls zxN).filter (fun w => !goodWord w), w ∈ zNG) : ∀ w ∈ vx_atS RX6 ic cls zxN, w ∈ zWS ∨ w ∈ zNG := by
  intro w hw
  by_cases hg : goodWord w = true
  · exact Or.inl (List.mem_filter.mpr ⟨h1 w (List.mem_filter.mpr ⟨hw, hg⟩), hg⟩)
  · exact Or.inr (h2 w (List.mem_filter.mpr ⟨hw, by simpa using hg⟩))
set_option maxRecDepth 100000 in
theorem thr_A : zThr eIAE 59 63 := ⟨m_513, m_47, by decide +kernel, zat_of (by decide +kernel) (by decide +kernel), by decide +kernel⟩
set_option maxRecDepth 100000 in
theorem thr_S : zThr eISE 297 301 := ⟨m_610, m_48, by decide +kernel, zat_of (by decide +kernel) (by decide +kernel), by decide +kernel⟩
set_option maxRecDepth 100000 in
theorem thr_B : zThr eIOB 238 242 := ⟨m_650, m_49, by decide +kernel, zat_of (by decide +kernel) (by decide +kernel), by decide +kernel⟩
theorem zxN_fit : ∀ n ∈ zxN, Bundle.fit n = true := by decide +kernel
abbrev zXC (D : va_G) (N0 : Nat) (pX : String → zM → Prop) : String → State → State → Prop := vx_X (S := String × zM) (fun u => pX u.1 u.2) (fun E u t => u.1 = E ∧ zH D N0 u.2 t.heap) (fun q => N0 ≤ q)
abbrev zxMet (l : Launch) (y : MethodName) (cc : ByteArray) (maxL : Nat) (ret : Option FieldType) (rm : Room) (D : va_G) (N0 : Nat) (av : List Value) (μ : zM) (Qc : Array Value → State → Outcome → State → Prop) (pX : String → zM → Prop) : Prop := vx_Met l y [Cond.code y cc maxL ret] rm (zPre D N0 av μ) Qc (zXC D N0 pX) rm.cells rm.slots (fun q => N0 ≤ q)
abbrev zwMet (l : Launch) (y : MethodName) (cc : ByteArray) (maxL : Nat) (ret : Option FieldType) (hh : List (Nat × Nat × Nat × Nat)) (rm : Room) (D : va_G) (N0 : Nat) (av : List Value) (μ : zM) (Qc : Array Value → State → Outcome → State → Prop) : Prop := vx_Met l y [Cond.codeWith y cc maxL ret hh] rm (zPre D N0 av μ) Qc (zXC D N0 (fun _ _ => False)) rm.cells rm.slots (fun q => N0 ≤ q)
def zxEnd (X : zX) (ret : Option FieldType) (k0 n0 : Nat) (Qc : Array Value → State → Outcome → State → Prop) (pX : String → zM → Prop) : Prop :=
  match X with
  | (p, l, e, R, s, m, args, below, meth, c, D, N0, Q) => meth.sig.returnType = ret ∧ Q = vx_MQ below Qc (zXC D N0 pX) args s k0 n0 (fun q => N0 ≤ q)
def zTab (X : zX) (hh : List (Nat × Nat × Nat × Nat)) : Prop :=
  match X with
  | (p, l, e, R, s, m, args, below, meth, c, D, N0, Q) => c.exceptionTable.toList = tableOf hh
theorem zent_ok {ls : Array Slot} {av : List Value} {maxL : Nat} (hfit : (zarg av).length ≤ maxL) (hle : lv_has ls maxL (lv_args 0 av)) : zL ls (zent av maxL) := by
  refine zL.of hle ?_ ?_
  · unfold zent
    simp
    omega
  · intro i v hv
    unfold zent at hv
    have h1 : i < (zarg av).length := by
      rcases Nat.lt_or_ge i (zarg av).length with q | q
      · exact q
      · rw [List.getElem?_append_right q] at hv
        rw [List.getElem?_replicate] at hv
        split at hv <;> simp at hv
    rw [List.getElem?_append_left h1] at hv
    have := zarg_in av 0 i v hv
    rwa [Nat.zero_add] at this
theorem zxMet_of {l : Launch} {y : MethodName} {cc : ByteArray} {maxL : Nat} {ret : Option FieldType} {rm : Room} {D : va_G} {N0 : Nat} {av : List Value} {μ : zM} {Qc : Array Value → State → Outcome → State → Prop} {pX : String → zM → Prop} (hy : plainName y.cls = true) (hfit : (zarg av).length ≤ maxL)
    (body : ∀ X : zX, zC X l D N0 cc maxL y.cls zWS → zR X rm.cells rm.slots rm.frames rm.locals → zTab X [] → zxEnd X ret rm.cells rm.slots Qc pX → Z X μ 0 0 0 (zent av maxL) []) : zxMet l y cc maxL ret rm D N0 av μ Qc pX := by
  refine vx_ofW (cc := cc) (maxL := maxL) (ret := ret) hy rfl ?_
  intro p e s m args below meth c s₁ B hml htab hv
  obtain ⟨rfl, hH, hB⟩ := hv
  have hown : s.vm.findClass y.cls = some m.cls := findClass_of_methodNamed B.named
  have ht0 : c.exceptionTable.toList = [] := by
    cases h : c.exceptionTable.toList with
    | nil => rfl
    | cons a t => exact (htab a (by rw [h]; exact List.mem_cons_self)).elim
  have h := body (p, l, e, (headSpec [Cond.code y cc maxL ret] rm).room, s, m, av.toArray, below, meth, c, D, N0, vx_MQ below Qc (zXC D N0 pX) av.toArray s rm.cells rm.slots (fun q => N0 ≤ q)) ⟨rfl, rfl, rfl, B.exec, B.bytes, hml, hown, fun w hw => hB.2.2.2.1 w hw _, B.notSynchronized, hB⟩ ⟨Nat.le_refl _, Nat.le_refl _, Nat.le_refl _, Nat.le_refl _⟩ ht0 ⟨B.returns, rfl⟩
  have hle := lv_entry av (n := maxL) (by rw [← zarg_len]; exact hfit)
  rw [lg_entry_eq]
  exact h s.heap [] 0 0 _ hH va_S.rf (Nat.le_refl _) (Nat.le_refl _) (zent_ok hfit hle)
theorem zwMet_of {l : Launch} {y : MethodName} {cc : ByteArray} {maxL : Nat} {ret : Option FieldType} {hh : List (Nat × Nat × Nat × Nat)} {rm : Room} {D : va_G} {N0 : Nat} {av : List Value} {μ : zM} {Qc : Array Value → State → Outcome → State → Prop} (hy : plainName y.cls = true) (hfit : (zarg av).length ≤ maxL) (hw : Cond.codeWith y cc maxL ret hh ∈ zWS)
    (body : ∀ X : zX, zC X l D N0 cc maxL y.cls zWS → zR X rm.cells rm.slots rm.frames rm.locals → zTab X hh → zxEnd X ret rm.cells rm.slots Qc (fun _ _ => False) → Z X μ 0 0 0 (zent av maxL) []) : zwMet l y cc maxL ret hh rm D N0 av μ Qc := by
  refine vx_ofWH (cc := cc) (maxL := maxL) (ret := ret) (hh := hh) hy rfl ?_
  intro p e s m args below meth c s₁ B hml hv
  obtain ⟨rfl, hH, hB⟩ := hv
  have hown : s.vm.findClass y.cls = some m.cls := findClass_of_methodNamed B.named
  have ht0 : c.exceptionTable.toList = tableOf hh := vx_table (x := y) B (hB.2.2.2.1 _ hw _)
  have h := body (p, l, e, (headSpec [Cond.codeWith y cc maxL ret hh] rm).room, s, m, av.toArray, below, meth, c, D, N0, vx_MQ below Qc (zXC D N0 (fun _ _ => False)) av.toArray s rm.cells rm.slots (fun q => N0 ≤ q)) ⟨rfl, rfl, rfl, B.exec, B.bytes, hml, hown, fun w hw => hB.2.2.2.1 w hw _, B.notSynchronized, hB⟩ ⟨Nat.le_refl _, Nat.le_refl _, Nat.le_refl _, Nat.le_refl _⟩ ht0 ⟨B.returns, rfl⟩
  have hle := lv_entry av (n := maxL) (by rw [← zarg_len]; exact hfit)
  rw [lg_entry_eq]
  exact h s.heap [] 0 0 _ hH va_S.rf (Nat.le_refl _) (Nat.le_refl _) (zent_ok hfit hle)
/-- an exception of the class En is under way at a place of the code -/
def ZX (X : zX) (μ : zM) (k n pc : Nat) (L : List (Option Value)) (En : String) : Prop :=
  match X with
  | (p, l, e, R, s, m, args, below, meth, c, D, N0, Q) => ∀ (H : Heap) (locs : List Loc) (cells slots : Nat) (ls : Array Slot) (ce : Cell) (q9 : Addr) (rest : List Value), zH D N0 μ H → va_S (fun q => N0 ≤ q) s.heap H locs → cells ≤ k → slots ≤ n → zL ls L → H[q9]? = some ce → ce.vm = .none → s.vm.findClass En = some ce.cls → vx_W p l e R s m args below meth c H locs cells slots Q (F0 m pc ls rest) q9
def zxRun (X : zX) (μ : zM) (kc kn mc ms pc : Nat) (L : List (Option Value)) (st rest : List Value) (Qa : State → Outcome → State → Prop) (XC : String → State → State → Prop) : Prop :=
  match X with
  | (p, l, e, R, s, m, args, below, meth, c, D, N0, Q) => ∀ (H : Heap) (locs : List Loc) (cells slots : Nat) (ls : Array Slot), zH D N0 μ H → va_S (fun q => N0 ≤ q) s.heap H locs → cells ≤ kc → slots ≤ kn → zL ls L → vx_Run p l e R s m args below meth c H locs cells slots mc ms (F0 m pc ls st) rest Qa XC (fun q => N0 ≤ q)
section ZXROWS
variable {X : zX} {l : Launch} {D : va_G} {N0 : Nat} {cc : ByteArray} {nL : Nat} {own : String} {Ts : List Cond} {μ : zM} {kc kn pc : Nat} {L L' : List (Option Value)} {st : List Value} {ret : Option FieldType} {k0 n0 : Nat} {Qc : Array Value → State → Outcome → State → Prop} {pX pX1 : String → zM → Prop}
variable {rk rn rf rw : Nat} {y : MethodName} {bytes : ByteArray} {maxL n index : Nat} {rm : Room} {b ci : Nat} {fs As rest : List Value} {CN : String} {T : u_T} {N : Nat} {ret1 : Option FieldType} {Qc1 : Array Value → State → Outcome → State → Prop}
/-- a plain end of a method that might have thrown -/
theorem zx_ret (C : zC X l D N0 cc nL own Ts) (E : zxEnd X ret k0 n0 Qc pX) (k : ∀ X2 : zX, zC X2 l D N0 cc nL own Ts → zEnd X2 ret k0 n0 Qc → Z X2 μ kc kn pc L st) : Z X μ kc kn pc L st := by
  obtain ⟨p, l', e, R, s, m, args, below, meth, c, D', N', Q⟩ := X
  obtain ⟨rfl, rfl, rfl, hx, hb, hml, hown, hts, hlk, hB⟩ := C
  obtain ⟨hr, rfl⟩ := E
  intro H locs cells slots ls hH hS hc1 hs1 hl
  exact vx_ret (k (p, l', e, R, s, m, args, below, meth, c, D', N', MQ below Qc args s k0 n0 (fun q => N' ≤ q)) ⟨rfl, rfl, rfl, hx, hb, hml, hown, hts, hlk, hB⟩ ⟨hr, rfl⟩ H locs cells slots ls hH hS hc1 hs1 hl)
theorem zx_throwW (C : zC X l D N0 cc nL RX6 zWS) (Rm : zR X rk rn rf rw) (Tb : zTab X []) (E : zxEnd X ret k0 n0 Qc pX) (hl0 : l.stackTraces = false) {cls text : String} {ik ic is : Nat} (t : zThr cls ik ic) (hst : (is, text) ∈ zST) (d0 : decode cc pc = .ok (.new ik, 3)) (d3 : decode cc (pc + 3) = .ok (.dup, 1)) (d4 : decode cc (pc + 4) = .ok (.ldc_w is, 3)) (d7 : decode cc (pc + 7) = .ok (.invokespecial ic, 3)) (d10 : decode cc (pc + 10) = .ok (.athrow, 1)) (hLn : L.length = nL) (hroom : 5 < rf ∧ (st.map fun v => v.category).sum + 82 ≤ rw ∧ kc + 1 ≤ rk ∧ kn + 6 ≤ rn) (hroom2 : kc + 1 ≤ k0 ∧ kn + 6 ≤ n0) (hp : pX cls μ) : Z X μ kc kn pc L st := by
  obtain ⟨p, l', e, R, s, m, args, below, meth, c, D', N', Q⟩ := X
  obtain ⟨rfl, rfl, rfl, hx, hb, hml, hown, hts, hlk, hB⟩ := C
  obtain ⟨hr, rfl⟩ := E
  obtain ⟨r1, r2, r3, r4⟩ := Rm
  obtain ⟨g1, g2, g3, g4⟩ := hroom
  obtain ⟨t1, t2, t3, t4, t5⟩ := t
  obtain ⟨sa, hsa⟩ := hB.2.2.2.2.2.2.1 _ hst
  have htab : c.exceptionTable.toList = [] := Tb
  intro H locs cells slots ls hH hS hc1 hs1 hl
  refine vx_throwSW hx hb hl0 hown t3 zxN_fit (hts _ t1) (hts _ t2) hsa (fun w hw => (t4 w hw).elim (fun h => hts _ h) (fun h => ?_)) t5 hB.2.1.1 hB.2.1.2 hS (hl.1.trans (hLn.trans hml.symm)) d0 d3 d4 d7 d10 (fun x hx9 => by rw [htab] at hx9; cases hx9) (Nat.lt_of_lt_of_le g1 r3) (Nat.le_trans g2 r4) (Nat.le_trans (Nat.le_trans (Nat.add_le_add_right hc1 _) g3) r1) (Nat.le_trans (Nat.le_trans (Nat.add_le_add_right hs1 _) g4) r2) hlk (fun t9 hal hz hk => ?_) hS.2.2 (Nat.le_trans (Nat.add_le_add_right hc1 _) hroom2.1) (Nat.le_trans (Nat.add_le_add_right hs1 _) hroom2.2)
  · have h9 := hB.2.2.2.2.2.1 _ h
    simp only [zNG, List.mem_cons, List.not_mem_nil, or_false] at h
    rcases h with rfl | rfl | rfl | rfl | rfl | rfl | rfl | rfl | rfl <;> exact va_Nw.use rfl h9
  · refine ⟨(cls, μ), hp, ⟨rfl, hH.kept (fun a e9 ha => hk a (hH.lt ha))⟩, ⟨Nat.le_trans hS.1 hz, fun q h1 h2 => (hk q (Nat.lt_of_lt_of_le h1 hS.1)).trans (hS.2.1 q h1 h2)⟩⟩
theorem zx_throwS (C : zC X l D N0 cc nL RX6 zWS) (Rm : zR X rk rn rf rw) (Tb : zTab X []) (E : zxEnd X ret k0 n0 Qc pX) (hl0 : l.stackTraces = false) {cls text : String} {ik ic is : Nat} (t : zThr cls ik ic) (hst : (is, text) ∈ zST) (d0 : decode cc pc = .ok (.new ik, 3)) (d3 : decode cc (pc + 3) = .ok (.dup, 1)) (d4 : decode cc (pc + 4) = .ok (.ldc is, 2)) (d6 : decode cc (pc + 6) = .ok (.invokespecial ic, 3)) (d9 : decode cc (pc + 9) = .ok (.athrow, 1)) (hLn : L.length = nL) (hroom : 5 < rf ∧ (st.map fun v => v.category).sum + 82 ≤ rw ∧ kc + 1 ≤ rk ∧ kn + 6 ≤ rn) (hroom2 : kc + 1 ≤ k0 ∧ kn + 6 ≤ n0) (hp : pX cls μ) : Z X μ kc kn pc L st := by
  obtain ⟨p, l', e, R, s, m, args, below, meth, c, D', N', Q⟩ := X
  obtain ⟨rfl, rfl, rfl, hx, hb, hml, hown, hts, hlk, hB⟩ := C
  obtain ⟨hr, rfl⟩ := E
  obtain ⟨r1, r2, r3, r4⟩ := Rm
  obtain ⟨g1, g2, g3, g4⟩ := hroom
  obtain ⟨t1, t2, t3, t4, t5⟩ := t
  obtain ⟨sa, hsa⟩ := hB.2.2.2.2.2.2.1 _ hst
  have htab : c.exceptionTable.toList = [] := Tb
  intro H locs cells slots ls hH hS hc1 hs1 hl
  refine vx_throwS hx hb hl0 hown t3 zxN_fit (hts _ t1) (hts _ t2) hsa (fun w hw => (t4 w hw).elim (fun h => hts _ h) (fun h => ?_)) t5 hB.2.1.1 hB.2.1.2 hS (hl.1.trans (hLn.trans hml.symm)) d0 d3 d4 d6 d9 (fun x hx9 => by rw [htab] at hx9; cases hx9) (Nat.lt_of_lt_of_le g1 r3) (Nat.le_trans g2 r4) (Nat.le_trans (Nat.le_trans (Nat.add_le_add_right hc1 _) g3) r1) (Nat.le_trans (Nat.le_trans (Nat.add_le_add_right hs1 _) g4) r2) hlk (fun t9 hal hz hk => ?_) hS.2.2 (Nat.le_trans (Nat.add_le_add_right hc1 _) hroom2.1) (Nat.le_trans (Nat.add_le_add_right hs1 _) hroom2.2)
  · have h9 := hB.2.2.2.2.2.1 _ h
    simp only [zNG, List.mem_cons, List.not_mem_nil, or_false] at h
    rcases h with rfl | rfl | rfl | rfl | rfl | rfl | rfl | rfl | rfl <;> exact va_Nw.use rfl h9
  · refine ⟨(cls, μ), hp, ⟨rfl, hH.kept (fun a e9 ha => hk a (hH.lt ha))⟩, ⟨Nat.le_trans hS.1 hz, fun q h1 h2 => (hk q (Nat.lt_of_lt_of_le h1 hS.1)).trans (hS.2.1 q h1 h2)⟩⟩
/-- an exception that goes on to the caller -/
theorem zx_prop (C : zC X l D N0 cc nL own Ts) (Tb : zTab X []) (E : zxEnd X ret k0 n0 Qc pX) {En : String} (hroom : kc ≤ k0 ∧ kn ≤ n0) (hp : pX En μ) : ZX X μ kc kn pc L En := by
  obtain ⟨p, l', e, R, s, m, args, below, meth, c, D', N', Q⟩ := X
  obtain ⟨rfl, rfl, rfl, hx, hb, hml, hown, hts, hlk, hB⟩ := C
  obtain ⟨hr, rfl⟩ := E
  have htab : c.exceptionTable.toList = [] := Tb
  intro H locs cells slots ls ce q9 rest hH hS hc1 hs1 hl hce hv hcl
  exact vx_out (fun x hx9 => by rw [htab] at hx9; cases hx9) hlk hce hv hcl (fun t9 ht hal => ⟨(En, μ), hp, ⟨rfl, by show zH _ _ μ t9.heap; rw [ht]; exact hH⟩, hS.F ht⟩) hS.2.2 (Nat.le_trans hc1 hroom.1) (Nat.le_trans hs1 hroom.2)
/-- an exception that is caught -/
theorem zx_catch (C : zC X l D N0 cc nL own zWS) {hh : List (Nat × Nat × Nat × Nat)} (Tb : zTab X hh) {En : String} (pre : List (Nat × Nat × Nat × Nat)) (x : Nat × Nat × Nat × Nat) (suf : List (Nat × Nat × Nat × Nat)) (hsp : hh = pre ++ x :: suf) (hpass : ∀ z ∈ pre, z.2.2.2 ≠ 0 ∧ ∃ nm, Cond.classLink own z.2.2.2 nm ∈ zWS ∧ (En, nm) ∈ zNC) (hcov : x.1 ≤ pc ∧ pc < x.2.1) (h0 : x.2.2.2 ≠ 0) (hlink : Cond.classLink own x.2.2.2 En ∈ zWS) (hcast : Cond.castable En En ∈ zNG) (k : ∀ q : Nat, Z X μ kc kn x.2.2.1 L [.ref q]) : ZX X μ kc kn pc L En := by
  obtain ⟨p, l', e, R, s, m, args, below, meth, c, D', N', Q⟩ := X
  obtain ⟨rfl, rfl, rfl, hx, hb, hml, hown, hts, hlk, hB⟩ := C
  have htab : c.exceptionTable.toList = tableOf hh := Tb
  intro H locs cells slots ls ce q9 rest hH hS hc1 hs1 hl hce hv hcl
  refine vx_catch hown (tableOf pre) ⟨x.1, x.2.1, x.2.2.1, x.2.2.2⟩ (tableOf suf) (by rw [htab, hsp]; unfold tableOf; rw [List.map_append, List.map_cons]) (fun z hz => ?_) (by simp [covers, hcov.1, hcov.2]) h0 (hts _ hlink) (va_Nw.use rfl (hB.2.2.2.2.2.1 _ hcast)) hce hv hcl (k q9 H locs cells slots ls hH hS hc1 hs1 hl)
  obtain ⟨z0, hz0, rfl⟩ := List.mem_map.mp hz
  obtain ⟨g1, nm, g2, g3⟩ := hpass z0 hz0
  exact Or.inr ⟨g1, nm, hts _ g2, hB.2.2.2.2.2.2.2.2.2 _ g3⟩
theorem zx_rV (C : zC X l D N0 cc nL own zWS) (Rm : zR X rk rn rf rw) (q : zCalV CN y bytes maxL ret1 n) (w1 : Cond.methodLink own index y ∈ zWS) (hM : zxMet l y bytes maxL ret1 rm D N0 (.ref b :: As) μ Qc1 pX1) (hob : μ b = some (.inr (ci, fs))) (hcl : vwCl[ci]? = some (CN, T, N)) (d : decode cc pc = .ok (.invokevirtual index, 3)) (hst : st = As.reverse ++ .ref b :: rest) (hn : As.length = n) (hcat : (rest.map fun v => v.category).sum ≤ 8) (hLn : L.length = nL) (hroom : rm.frames + 1 ≤ rf ∧ 8 + (maxL + 11) + rm.locals ≤ rw ∧ kc + rm.cells ≤ rk ∧ kn + rm.slots ≤ rn) : zxRun X μ kc kn rm.cells rm.slots pc L st rest (Qc1 (Value.ref b :: As).toArray) (zXC D N0 pX1) := by
  obtain ⟨p, l', e, R, s, m, args, below, meth, c, D', N', Q⟩ := X
  obtain ⟨rfl, rfl, rfl, hx, hb, hml, hown, hts, hlk, hB⟩ := C
  obtain ⟨r1, r2, r3, r4⟩ := Rm
  obtain ⟨g1, g2, g3, g4⟩ := hroom
  obtain ⟨q1, q2, q3, q4, q5, q6, q7⟩ := q
  intro H locs cells slots ls hH hS hc1 hs1 hl
  exact vx_runV (C := CN) (As := As) (rest := rest) ⟨hx, hb, hml, hown, hts⟩ hM ⟨⟨rfl, rfl, Nat.le_trans g1 r3, Nat.le_trans g2 r4, zpay hB q4, List.mem_singleton.mpr rfl, hts _ q4, hts _ q3, ⟨q5, q6⟩, zn q7, hts _ w1⟩, hts _ q1, hts _ q2⟩ ⟨zPre_blind, va_recv hB.1 (hH.one hob) (ci := ci) (q0 := 0) hcl rfl, fun U hU hW => ⟨rfl, by rw [hU]; exact hH, hB.moved hW (by rw [hU]; exact hS)⟩⟩ rfl hn (hl.1.trans hLn) hst (lv_room hcat) d ⟨Nat.le_trans (Nat.le_trans (Nat.add_le_add_right hc1 _) g3) r1, Nat.le_trans (Nat.le_trans (Nat.add_le_add_right hs1 _) g4) r2⟩
theorem zx_rS (C : zC X l D N0 cc nL own zWS) (Rm : zR X rk rn rf rw) (q : zCalS y bytes maxL ret1 n) (w1 : Cond.methodLink own index y ∈ zWS) (hM : zxMet l y bytes maxL ret1 rm D N0 As μ Qc1 pX1) (d : decode cc pc = .ok (.invokestatic index, 3)) (hst : st = As.reverse ++ rest) (hn : As.length = n) (hcat : (rest.map fun v => v.category).sum ≤ 8) (hLn : L.length = nL) (hroom : rm.frames + 1 ≤ rf ∧ 8 + (maxL + 11) + rm.locals ≤ rw ∧ kc + rm.cells ≤ rk ∧ kn + rm.slots ≤ rn) : zxRun X μ kc kn rm.cells rm.slots pc L st rest (Qc1 As.toArray) (zXC D N0 pX1) := by
  obtain ⟨p, l', e, R, s, m, args, below, meth, c, D', N', Q⟩ := X
  obtain ⟨rfl, rfl, rfl, hx, hb, hml, hown, hts, hlk, hB⟩ := C
  obtain ⟨r1, r2, r3, r4⟩ := Rm
  obtain ⟨g1, g2, g3, g4⟩ := hroom
  obtain ⟨q1, q3, q4, q5, q6, q7⟩ := q
  intro H locs cells slots ls hH hS hc1 hs1 hl
  exact vx_runS (As := As) (rest := rest) ⟨hx, hb, hml, hown, hts⟩ hM ⟨⟨rfl, rfl, Nat.le_trans g1 r3, Nat.le_trans g2 r4, zpay hB q4, List.mem_singleton.mpr rfl, hts _ q4, hts _ q3, ⟨q5, q6⟩, zn q7, hts _ w1⟩, hts _ q1⟩ ⟨zPre_blind, fun U hU hW => ⟨rfl, by rw [hU]; exact hH, hB.moved hW (by rw [hU]; exact hS)⟩⟩ rfl hn (hl.1.trans hLn) hst (lv_room hcat) d ⟨Nat.le_trans (Nat.le_trans (Nat.add_le_add_right hc1 _) g3) r1, Nat.le_trans (Nat.le_trans (Nat.add_le_add_right hs1 _) g4) r2⟩
/-- a static method with a table of its own -/
def zCalW (y : MethodName) (bytes : ByteArray) (maxL : Nat) (ret : Option FieldType) (hh : List (Nat × Nat × Nat × Nat)) (n : Nat) : Prop := Cond.static y ∈ zWS ∧ Cond.initialized y.cls ∈ zWS ∧ Cond.codeWith y bytes maxL ret hh ∈ zWS ∧ (y.cls ≠ "java/lang/invoke/MethodHandle" ∧ y.cls ≠ "java/lang/invoke/VarHandle" ∧ (parseMethodDescriptor y.desc).map (fun d => d.parameters.length) = some n)
theorem zx_rW {hh : List (Nat × Nat × Nat × Nat)} (C : zC X l D N0 cc nL own zWS) (Rm : zR X rk rn rf rw) (q : zCalW y bytes maxL ret1 hh n) (w1 : Cond.methodLink own index y ∈ zWS) (hM : zwMet l y bytes maxL ret1 hh rm D N0 As μ Qc1) (d : decode cc pc = .ok (.invokestatic index, 3)) (hst : st = As.reverse ++ rest) (hn : As.length = n) (hcat : (rest.map fun v => v.category).sum ≤ 8) (hLn : L.length = nL) (hroom : rm.frames + 1 ≤ rf ∧ 8 + (maxL + 11) + rm.locals ≤ rw ∧ kc + rm.cells ≤ rk ∧ kn + rm.slots ≤ rn) : zxRun X μ kc kn rm.cells rm.slots pc L st rest (Qc1 As.toArray) (zXC D N0 (fun _ _ => False)) := by
  obtain ⟨p, l', e, R, s, m, args, below, meth, c, D', N', Q⟩ := X
  obtain ⟨rfl, rfl, rfl, hx, hb, hml, hown, hts, hlk, hB⟩ := C
  obtain ⟨r1, r2, r3, r4⟩ := Rm
  obtain ⟨g1, g2, g3, g4⟩ := hroom
  obtain ⟨q1, q3, q4, q5, q6, q7⟩ := q
  intro H locs cells slots ls hH hS hc1 hs1 hl
  exact vx_runSX (As := As) (rest := rest) ⟨hx, hb, hml, hown, hts⟩ hM ⟨⟨rfl, rfl, Nat.le_trans g1 r3, Nat.le_trans g2 r4, fun w h a' U hW => by
      rw [List.mem_singleton] at h
      subst h
      exact word_at hW (good_of_word (List.mem_filter.mp q4).2) (hB.2.2.2.1 _ q4 #[]), List.mem_singleton.mpr rfl⟩, hts _ q4, hts _ q3, ⟨q5, q6⟩, zn q7, hts _ w1, hts _ q1⟩ ⟨zPre_blind, fun U hU hW => ⟨rfl, by rw [hU]; exact hH, hB.moved hW (by rw [hU]; exact hS)⟩⟩ rfl hn (hl.1.trans hLn) hst (lv_room hcat) d ⟨Nat.le_trans (Nat.le_trans (Nat.add_le_add_right hc1 _) g3) r1, Nat.le_trans (Nat.le_trans (Nat.add_le_add_right hs1 _) g4) r2⟩
variable {mc ms : Nat}
theorem zx_ci (C : zC X l D N0 cc nL own Ts) {post : Int → zM → Prop} {a : Array Value} (hr : zxRun X μ kc kn mc ms pc L st rest (zQI D N0 post a) (zXC D N0 pX1)) (kx : ∀ (En : String) (μ' : zM), pX1 En μ' → ZX X μ' (kc + mc) (kn + ms) pc L En) (kk : ∀ (z : Int) (μ' : zM), post z μ' → Z X μ' (kc + mc) (kn + ms) (pc + 3) L (zi z :: rest)) : Z X μ kc kn pc L st := by
  obtain ⟨p, l', e, R, s, m, args, below, meth, c, D', N', Q⟩ := X
  obtain ⟨rfl, rfl, rfl, hx, hb, hml, hown, hts, hlk, hB⟩ := C
  intro H locs cells slots ls hH hS hc1 hs1 hl
  refine vx_calli (hr H locs cells slots ls hH hS hc1 hs1 hl) hS (fun q _ h => h) (fun q h => h) (fun q _ h => h) (fun En ce q9 u t H1 locs1 ht hvm hpx hBX hz1 hk1 hS1 hce hv hcl => ?_) (fun r u t H1 locs1 ht hvm hw hB1 hz1 hk1 hS1 => ?_)
  · obtain ⟨rfl, hB2⟩ := hBX
    exact kx u.1 u.2 hpx H1 locs1 _ _ ls ce q9 rest (by rw [← ht]; exact hB2) hS1 (Nat.add_le_add_right hc1 _) (Nat.add_le_add_right hs1 _) hl hce hv hcl
  · obtain ⟨z, rfl, hp⟩ := hw
    exact kk z u hp H1 locs1 _ _ ls (by rw [← ht]; exact hB1) hS1 (Nat.add_le_add_right hc1 _) (Nat.add_le_add_right hs1 _) hl
theorem zx_cd (C : zC X l D N0 cc nL own Ts) {post : UInt64 → zM → Prop} {a : Array Value} (hr : zxRun X μ kc kn mc ms pc L st rest (zQD D N0 post a) (zXC D N0 pX1)) (kx : ∀ (En : String) (μ' : zM), pX1 En μ' → ZX X μ' (kc + mc) (kn + ms) pc L En) (kk : ∀ (z : UInt64) (μ' : zM), post z μ' → Z X μ' (kc + mc) (kn + ms) (pc + 3) L (.double z :: rest)) : Z X μ kc kn pc L st := by
  obtain ⟨p, l', e, R, s, m, args, below, meth, c, D', N', Q⟩ := X
  obtain ⟨rfl, rfl, rfl, hx, hb, hml, hown, hts, hlk, hB⟩ := C
  intro H locs cells slots ls hH hS hc1 hs1 hl
  refine vx_calld (hr H locs cells slots ls hH hS hc1 hs1 hl) hS (fun q _ h => h) (fun q h => h) (fun q _ h => h) (fun En ce q9 u t H1 locs1 ht hvm hpx hBX hz1 hk1 hS1 hce hv hcl => ?_) (fun r u t H1 locs1 ht hvm hp hB1 hz1 hk1 hS1 => ?_)
  · obtain ⟨rfl, hB2⟩ := hBX
    exact kx u.1 u.2 hpx H1 locs1 _ _ ls ce q9 rest (by rw [← ht]; exact hB2) hS1 (Nat.add_le_add_right hc1 _) (Nat.add_le_add_right hs1 _) hl hce hv hcl
  · exact kk r u hp H1 locs1 _ _ ls (by rw [← ht]; exact hB1) hS1 (Nat.add_le_add_right hc1 _) (Nat.add_le_add_right hs1 _) hl
theorem zx_cv (C : zC X l D N0 cc nL own Ts) {post : zM → Prop} {a : Array Value} (hr : zxRun X μ kc kn mc ms pc L st rest (zQV D N0 post a) (zXC D N0 pX1)) (kx : ∀ (En : String) (μ' : zM), pX1 En μ' → ZX X μ' (kc + mc) (kn + ms) pc L En) (kk : ∀ (μ' : zM), post μ' → Z X μ' (kc + mc) (kn + ms) (pc + 3) L rest) : Z X μ kc kn pc L st := by
  obtain ⟨p, l', e, R, s, m, args, below, meth, c, D', N', Q⟩ := X
  obtain ⟨rfl, rfl, rfl, hx, hb, hml, hown, hts, hlk, hB⟩ := C
  intro H locs cells slots ls hH hS hc1 hs1 hl
  refine vx_callv (hr H locs cells slots ls hH hS hc1 hs1 hl) hS (fun q _ h => h) (fun q h => h) (fun q _ h => h) (fun En ce q9 u t H1 locs1 ht hvm hpx hBX hz1 hk1 hS1 hce hv hcl => ?_) (fun u t H1 locs1 ht hvm hp hB1 hz1 hk1 hS1 => ?_)
  · obtain ⟨rfl, hB2⟩ := hBX
    exact kx u.1 u.2 hpx H1 locs1 _ _ ls ce q9 rest (by rw [← ht]; exact hB2) hS1 (Nat.add_le_add_right hc1 _) (Nat.add_le_add_right hs1 _) hl hce hv hcl
  · exact kk u hp H1 locs1 _ _ ls (by rw [← ht]; exact hB1) hS1 (Nat.add_le_add_right hc1 _) (Nat.add_le_add_right hs1 _) hl
theorem zx_cr (C : zC X l D N0 cc nL own Ts) {post : Nat → zM → Prop} {a : Array Value} (hr : zxRun X μ kc kn mc ms pc L st rest (zQR D N0 post a) (zXC D N0 pX1)) (kx : ∀ (En : String) (μ' : zM), pX1 En μ' → ZX X μ' (kc + mc) (kn + ms) pc L En) (kk : ∀ (q : Nat) (μ' : zM), post q μ' → Z X μ' (kc + mc) (kn + ms) (pc + 3) L (.ref q :: rest)) : Z X μ kc kn pc L st := by
  obtain ⟨p, l', e, R, s, m, args, below, meth, c, D', N', Q⟩ := X
  obtain ⟨rfl, rfl, rfl, hx, hb, hml, hown, hts, hlk, hB⟩ := C
  intro H locs cells slots ls hH hS hc1 hs1 hl T hT Xs
  rcases hr H locs cells slots ls hH hS hc1 hs1 hl T hT Xs with ⟨v, st₀, t, T', L9, h0, X', hL, e1, e2, ⟨⟨u, ra, hv, hp, hb9⟩, hF⟩, st9⟩ | ⟨q, st₀, t, T', L9, E, ce, h0, X', hL, e1, e2, ⟨u, hp, hb9, hF⟩, hce, hcv, hcl, st9⟩
  · cases hv
    obtain ⟨k1, k2, k3⟩ := vx_keep h0 e1 hS (fun q _ h => h) (fun q h => h) hL hF
    obtain ⟨h9, hB2⟩ := hb9
    rw [← h9] at st9
    obtain ⟨t2, a1, b1⟩ := kk u.1 u.2 hp T'.heap (locs ++ L9) _ _ ls (by rw [e1]; exact hB2) k3 (Nat.add_le_add_right hc1 _) (Nat.add_le_add_right hs1 _) hl T' rfl X'
    exact ⟨t2, st9 t2 a1, b1⟩
  · obtain ⟨k1, k2, k3⟩ := vx_keep h0 e1 hS (fun q _ h => h) (fun q h => h) hL hF
    obtain ⟨h9, hB2⟩ := hb9
    subst h9
    obtain ⟨t2, a1, b1⟩ := kx u.1 u.2 hp T'.heap (locs ++ L9) _ _ ls ce q rest (by rw [e1]; exact hB2) k3 (Nat.add_le_add_right hc1 _) (Nat.add_le_add_right hs1 _) hl (by rw [e1]; exact hce) hcv hcl T' rfl X'
    exact ⟨t2, st9.trans a1, b1⟩
end ZXROWS
end
section
/-! ScrimshawKernel$Fields: 64 rows of 64 bits; an object lies right ahead of its rows -/
def isF (D : va_G) (μ : zM) (o : Nat) (f : Nat → Int64) : Prop := μ o = some (.inr (0, [.ref (o + 1)])) ∧ μ (o + 1) = some (zAL D 64 f)
def setF (D : va_G) (μ : zM) (o : Nat) (f : Nat → Int64) : zM := zu μ (o + 1) (zAL D 64 f)
theorem zAL_ne {D : va_G} {n : Nat} {f : Nat → Int64} {ci : Nat} {fs : List Value} : zAL D n f ≠ .inr (ci, fs) := fun h => by cases h
theorem isF.set {D : va_G} {μ : zM} {o : Nat} {f : Nat → Int64} (h : isF D μ o f) (g : Nat → Int64) : isF D (setF D μ o g) o g := ⟨by unfold setF; rw [zu_n (by omega)]; exact h.1, zu_s⟩
theorem isF.ne {D : va_G} {μ : zM} {o q : Nat} {f g : Nat → Int64} (h : isF D μ o f) (h2 : isF D μ q g) : q ≠ o + 1 := by
  intro e
  subst e
  have h3 := h.2.symm.trans h2.1
  cases h3
theorem isF.keep {D : va_G} {μ : zM} {o q : Nat} {f g : Nat → Int64} (h : isF D μ o f) (h2 : isF D μ q g) (hne : q ≠ o) (g2 : Nat → Int64) : isF D (setF D μ o g2) q g := by
  refine ⟨?_, ?_⟩
  · unfold setF
    rw [zu_n (h.ne h2)]
    exact h2.1
  · unfold setF
    rw [zu_n (by omega)]
    exact h2.2
theorem setF_k {D : va_G} {μ : zM} {o q : Nat} {f : Nat → Int64} (hq : q ≠ o + 1) : setF D μ o f q = μ q := zu_n hq
theorem setF_u {D : va_G} (μ : zM) (o : Nat) (f g : Nat → Int64) : setF D (setF D μ o f) o g = setF D μ o g := zu_u _ _ _ _
theorem setF_i {D : va_G} {μ : zM} {o : Nat} {f : Nat → Int64} (h : isF D μ o f) : setF D μ o f = μ := zu_i h.2
def rowv (f : Nat → Int64) (y : Int) : Int64 := if 0 ≤ y + 32 ∧ y + 32 < 64 then f (y + 32).toNat else 0
theorem rowv_i {f : Nat → Int64} {y : Int} {i : Nat} (h : y = -32 + (i : Int)) (hi : i < 64) : rowv f y = f i := by
  unfold rowv
  rw [if_pos (by omega), show (y + 32).toNat = i by omega]
theorem rowv_o {f : Nat → Int64} {y : Int} (h : y < -32 ∨ 31 < y) : rowv f y = 0 := by
  unfold rowv
  rw [if_neg (by omega)]

set_option maxRecDepth 100000 in
set_option maxHeartbeats 4000000 in
theorem c_row {l : Launch} {D : va_G} {N0 : Nat} {o : Nat} {f : Nat → Int64} {μ : zM} (hF : isF D μ o f) {y : Int} (hy : -1000 ≤ y ∧ y ≤ 1000) : zMet l yX0_row cX0_row 3 (some .long) ({ frames := 0, cells := 0, slots := 0, locals := 0 } : Room) D N0 [.ref o, zi y] μ (zQL D N0 (fun z u => z = rowv f y ∧ u = μ)) := by
  refine zMet_of rfl (Nat.le_of_ble_eq_true rfl) (fun X C Rm hin E => ?_)
  refine z_iload_n C dX0_row_0 rfl ?_
  refine z_bipush C dX0_row_1 ?_
  refine z_isub C dX0_row_3 ?_
  refine z_istore_n (L' := [_, _, _]) C dX0_row_4 rfl ?_
  refine z_iload_n C dX0_row_5 rfl ?_
  refine z_if_lt (tgt := 27) C dX0_row_6 (by decide) (fun h1 => ?_) (fun h1 => ?_)
  · refine z_lconst_0 C dX0_row_27 ?_
    exact z_lret C E dX0_row_28 (Nat.le_of_ble_eq_true rfl) (Nat.le_of_ble_eq_true rfl) ⟨by rw [rowv_o (by omega)], rfl⟩
  · refine z_iload_n C dX0_row_9 rfl ?_
    refine z_aload_n C dX0_row_10 rfl ?_
    refine z_get C hF.1 rfl 0 (by decide) m_69 inz0 rfl rfl dX0_row_11 ?_
    refine z_alen C hF.2 1 rfl dX0_row_14 ?_
    refine z_icmp_ge (tgt := 27) C dX0_row_15 (by decide) (fun h2 => ?_) (fun h2 => ?_)
    · refine z_lconst_0 C dX0_row_27 ?_
      exact z_lret C E dX0_row_28 (Nat.le_of_ble_eq_true rfl) (Nat.le_of_ble_eq_true rfl) ⟨by rw [rowv_o (by omega)], rfl⟩
    · refine z_aload_n C dX0_row_18 rfl ?_
      refine z_get C hF.1 rfl 0 (by decide) m_69 inz0 rfl rfl dX0_row_19 ?_
      refine z_iload_n C dX0_row_22 rfl ?_
      refine z_lald C hF.2 (by decide) dX0_row_23 ?_
      refine z_goto (tgt := 28) C dX0_row_24 (by decide) ?_
      exact z_lret C E dX0_row_28 (Nat.le_of_ble_eq_true rfl) (Nat.le_of_ble_eq_true rfl) ⟨by unfold rowv; rw [if_pos (by omega)]; congr 1, rfl⟩

def zbcL (x : Int64) : Int64 :=
  let a := x - (zushr x 1 &&& 6148914691236517205)
  let b := (a &&& 3689348814741910323) + (zushr a 2 &&& 3689348814741910323)
  let c := (b + zushr b 4) &&& 1085102592571150095
  let d := c + zushr c 8
  let e := d + zushr d 16
  e + zushr e 32
def zbc (x : Int64) : Int := (Int32.ofInt (zbcL x).toInt32.toInt &&& Int32.ofInt 127).toInt

set_option maxRecDepth 100000 in
set_option maxHeartbeats 4000000 in
theorem c_bitCount {l : Launch} {D : va_G} {N0 : Nat} {μ : zM} {x : Int64} : zMet l yJ13_bitCount_95d88 cJ13_bitCount_95d88 2 (some .int) ({ frames := 0, cells := 0, slots := 0, locals := 0 } : Room) D N0 [.long x] μ (zQI D N0 (fun z u => z = zbc x ∧ u = μ)) := by
  refine zMet_of rfl (Nat.le_of_ble_eq_true rfl) (fun X C Rm hin E => ?_)
  refine z_lload_n C dJ13_bitCount_95d88_0 rfl ?_
  refine z_lload_n C dJ13_bitCount_95d88_1 rfl ?_
  refine z_iconst C dJ13_bitCount_95d88_2 ?_
  refine z_lushr C dJ13_bitCount_95d88_3 ?_
  refine z_ldc2 C m_297 dJ13_bitCount_95d88_4 ?_
  refine z_land C dJ13_bitCount_95d88_7 ?_
  refine z_lsub C dJ13_bitCount_95d88_8 ?_
  refine z_lstore_n (L' := [_, _]) C dJ13_bitCount_95d88_9 rfl ?_
  refine z_lload_n C dJ13_bitCount_95d88_10 rfl ?_
  refine z_ldc2 C m_298 dJ13_bitCount_95d88_11 ?_
  refine z_land C dJ13_bitCount_95d88_14 ?_
  refine z_lload_n C dJ13_bitCount_95d88_15 rfl ?_
  refine z_iconst C dJ13_bitCount_95d88_16 ?_
  refine z_lushr C dJ13_bitCount_95d88_17 ?_
  refine z_ldc2 C m_298 dJ13_bitCount_95d88_18 ?_
  refine z_land C dJ13_bitCount_95d88_21 ?_
  refine z_ladd C dJ13_bitCount_95d88_22 ?_
  refine z_lstore_n (L' := [_, _]) C dJ13_bitCount_95d88_23 rfl ?_
  refine z_lload_n C dJ13_bitCount_95d88_24 rfl ?_
  refine z_lload_n C dJ13_bitCount_95d88_25 rfl ?_
  refine z_iconst C dJ13_bitCount_95d88_26 ?_
  refine z_lushr C dJ13_bitCount_95d88_27 ?_
  refine z_ladd C dJ13_bitCount_95d88_28 ?_
  refine z_ldc2 C m_299 dJ13_bitCount_95d88_29 ?_
  refine z_land C dJ13_bitCount_95d88_32 ?_
  refine z_lstore_n (L' := [_, _]) C dJ13_bitCount_95d88_33 rfl ?_
  refine z_lload_n C dJ13_bitCount_95d88_34 rfl ?_
  refine z_lload_n C dJ13_bitCount_95d88_35 rfl ?_
  refine z_bipush C dJ13_bitCount_95d88_36 ?_
  refine z_lushr C dJ13_bitCount_95d88_38 ?_
  refine z_ladd C dJ13_bitCount_95d88_39 ?_
  refine z_lstore_n (L' := [_, _]) C dJ13_bitCount_95d88_40 rfl ?_
  refine z_lload_n C dJ13_bitCount_95d88_41 rfl ?_
  refine z_lload_n C dJ13_bitCount_95d88_42 rfl ?_
  refine z_bipush C dJ13_bitCount_95d88_43 ?_
  refine z_lushr C dJ13_bitCount_95d88_45 ?_
  refine z_ladd C dJ13_bitCount_95d88_46 ?_
  refine z_lstore_n (L' := [_, _]) C dJ13_bitCount_95d88_47 rfl ?_
  refine z_lload_n C dJ13_bitCount_95d88_48 rfl ?_
  refine z_lload_n C dJ13_bitCount_95d88_49 rfl ?_
  refine z_bipush C dJ13_bitCount_95d88_50 ?_
  refine z_lushr C dJ13_bitCount_95d88_52 ?_
  refine z_ladd C dJ13_bitCount_95d88_53 ?_
  refine z_lstore_n (L' := [_, _]) C dJ13_bitCount_95d88_54 rfl ?_
  refine z_lload_n C dJ13_bitCount_95d88_55 rfl ?_
  refine z_l2i C dJ13_bitCount_95d88_56 ?_
  refine z_bipush C dJ13_bitCount_95d88_57 ?_
  refine z_iand C dJ13_bitCount_95d88_59 (zI_as _).symm ?_
  exact z_iret C E dJ13_bitCount_95d88_60 (Nat.le_of_ble_eq_true rfl) (Nat.le_of_ble_eq_true rfl) ⟨rfl, rfl⟩

def cntF (f : Nat → Int64) : Nat → Int
  | 0 => 0
  | i + 1 => cntF f i + zbc (f i)

set_option maxRecDepth 100000 in
set_option maxHeartbeats 4000000 in
theorem c_count {l : Launch} {D : va_G} {N0 : Nat} {o : Nat} {f : Nat → Int64} {μ : zM} (hF : isF D μ o f) : zMet l yX0_count cX0_count 3 (some .int) ({ frames := 1, cells := 0, slots := 0, locals := 40 } : Room) D N0 [.ref o] μ (zQI D N0 (fun z u => z = cntF f 64 ∧ u = μ)) := by
  refine zMet_of rfl (Nat.le_of_ble_eq_true rfl) (fun X C Rm hin E => ?_)
  have loop : ∀ (n i : Nat) (y s : Int), i + n = 64 → y = -32 + (i : Int) → s = cntF f i → Z X μ 0 0 5 [some (.ref o), some (zi s), some (zi y)] [] := by
    intro n
    induction n with
    | zero =>
      intro i y s hi hy hs
      refine z_iload_n C dX0_count_5 rfl ?_
      refine z_bipush C dX0_count_6 ?_
      refine z_icmp_gt (tgt := 28) C dX0_count_8 (by decide) (fun _ => ?_) (fun hno => absurd hno (by omega))
      refine z_iload_n C dX0_count_28 rfl ?_
      exact z_iret C E dX0_count_29 (Nat.le_of_ble_eq_true rfl) (Nat.le_of_ble_eq_true rfl) ⟨by rw [hs]; congr 1, rfl⟩
    | succ n ih =>
      intro i y s hi hy hs
      refine z_iload_n C dX0_count_5 rfl ?_
      refine z_bipush C dX0_count_6 ?_
      refine z_icmp_gt (tgt := 28) C dX0_count_8 (by decide) (fun hno => absurd hno (by omega)) (fun _ => ?_)
      refine z_iload_n C dX0_count_11 rfl ?_
      refine z_aload_n C dX0_count_12 rfl ?_
      refine z_iload_n C dX0_count_13 rfl ?_
      refine z_cl C (z_rV C Rm qv_X0_row m_273 (c_row hF (y := y) (by omega)) hF.1 rfl dX0_count_14 rfl rfl (Nat.le_of_ble_eq_true rfl) rfl ⟨Nat.le_of_ble_eq_true rfl, Nat.le_of_ble_eq_true rfl, Nat.le_of_ble_eq_true rfl, Nat.le_of_ble_eq_true rfl⟩) (fun z μ1 hp => ?_)
      obtain ⟨rfl, rfl⟩ := hp
      rw [rowv_i hy (by omega)]
      refine z_ci C (z_rS C Rm qs_J13_bitCount_95d88 m_294 (c_bitCount) dX0_count_17 rfl rfl (Nat.le_of_ble_eq_true rfl) rfl ⟨Nat.le_of_ble_eq_true rfl, Nat.le_of_ble_eq_true rfl, Nat.le_of_ble_eq_true rfl, Nat.le_of_ble_eq_true rfl⟩) (fun z μ1 hp => ?_)
      obtain ⟨rfl, rfl⟩ := hp
      refine z_iadd C dX0_count_20 ?_
      refine z_istore_n (L' := [_, _, _]) C dX0_count_21 rfl ?_
      refine z_iinc (L' := [_, _, _]) C dX0_count_22 rfl rfl ?_
      refine z_goto (tgt := 5) C dX0_count_25 (by decide) ?_
      exact ih (i + 1) _ _ (by omega) (by omega) (by rw [hs]; rfl)
  refine z_iconst C dX0_count_0 ?_
  refine z_istore_n (L' := [_, _, _]) C dX0_count_1 rfl ?_
  refine z_bipush C dX0_count_2 ?_
  refine z_istore_n (L' := [_, _, _]) C dX0_count_4 rfl ?_
  exact loop 64 0 _ _ rfl rfl rfl

def zF : Nat → Int64 := fun _ => 0
theorem zi_wrap (z : Int) : zi z = zi (z - 4294967296) := by
  unfold zi
  rw [← zI_sub, show Int32.ofInt 4294967296 = 0 from rfl, Int32.sub_zero]
theorem zushr_0 (y : Int) : zushr 0 y = 0 := by
  unfold zushr
  apply Int64.toBitVec_inj.mp
  simp
theorem zshl_0 (y : Int) : zshl 0 y = 0 := by
  unfold zshl
  apply Int64.toBitVec_inj.mp
  simp
theorem zcmp_s (x : Int64) : zcmp x x = 0 := (zcmp_0 x x).mpr rfl
theorem zw_id {α : Type} {g : Nat → α} {k : Nat} {x : α} (h : g k = x) : zw g k x = g := by
  funext j
  unfold zw
  by_cases q : j = k
  · rw [if_pos q, q, h]
  · rw [if_neg q]
/-- g below i, f from there on -/
def zmx {α : Type} (f g : Nat → α) (i : Nat) : Nat → α := fun j => if j < i then g j else f j
theorem zmx_0 {α : Type} (f g : Nat → α) : zmx f g 0 = f := by
  funext j
  unfold zmx
  rw [if_neg (by omega)]
theorem zmx_s {α : Type} (f g : Nat → α) (i : Nat) : zw (zmx f g i) i (g i) = zmx f g (i + 1) := by
  funext j
  unfold zw zmx
  by_cases q : j = i
  · rw [if_pos q, if_pos (by omega), q]
  · rw [if_neg q]
    by_cases q2 : j < i
    · rw [if_pos q2, if_pos (by omega)]
    · rw [if_neg q2, if_neg (by omega)]
theorem zmx_e {α : Type} {f g : Nat → α} {i j : Nat} (h : j < i) : zmx f g i j = g j := if_pos h
theorem zmx_i {α : Type} {f g : Nat → α} {i j : Nat} (h : i ≤ j) : zmx f g i j = f j := if_neg (by omega)
theorem setF_z {D : va_G} {μ : zM} {o k : Nat} (h : isF D μ o zF) : setF D μ o (zw zF k 0) = μ := by
  rw [show zw zF k 0 = zF from zw_id rfl]
  exact setF_i h
theorem rowv_z (y : Int) : rowv zF y = 0 := by
  unfold rowv zF
  split <;> rfl

set_option maxRecDepth 100000 in
set_option maxHeartbeats 4000000 in
theorem c_putRow {l : Launch} {D : va_G} {N0 : Nat} {o : Nat} {f : Nat → Int64} {μ : zM} (hF : isF D μ o f) {y : Int} (hy : -32 ≤ y ∧ y ≤ 31) {v : Int64} : zMet l yX0_putRow cX0_putRow 5 none ({ frames := 0, cells := 0, slots := 0, locals := 0 } : Room) D N0 [.ref o, zi y, .long v] μ (zQV D N0 (fun u => u = setF D μ o (zw f (y + 32).toNat v))) := by
  refine zMet_of rfl (Nat.le_of_ble_eq_true rfl) (fun X C Rm hin E => ?_)
  refine z_iload_n C dX0_putRow_0 rfl ?_
  refine z_bipush C dX0_putRow_1 ?_
  refine z_isub C dX0_putRow_3 ?_
  refine z_istore (L' := [_, _, _, _, _]) C dX0_putRow_4 rfl ?_
  refine z_iload C dX0_putRow_6 rfl ?_
  refine z_if_lt (tgt := 29) C dX0_putRow_8 (by decide) (fun hno => absurd hno (by omega)) (fun _ => ?_)
  refine z_iload C dX0_putRow_11 rfl ?_
  refine z_aload_n C dX0_putRow_13 rfl ?_
  refine z_get C hF.1 rfl 0 (by decide) m_69 inz0 rfl rfl dX0_putRow_14 ?_
  refine z_alen C hF.2 1 rfl dX0_putRow_17 ?_
  refine z_icmp_ge (tgt := 29) C dX0_putRow_18 (by decide) (fun hno => absurd hno (by omega)) (fun _ => ?_)
  refine z_aload_n C dX0_putRow_21 rfl ?_
  refine z_get C hF.1 rfl 0 (by decide) m_69 inz0 rfl rfl dX0_putRow_22 ?_
  refine z_iload C dX0_putRow_25 rfl ?_
  refine z_lload_n C dX0_putRow_27 rfl ?_
  refine z_last C hF.2 (by decide) dX0_putRow_28 ?_
  exact z_vret C E dX0_putRow_29 (Nat.le_of_ble_eq_true rfl) (Nat.le_of_ble_eq_true rfl) (by unfold setF; rw [show (y - -32).toNat = (y + 32).toNat by omega])

set_option maxRecDepth 100000 in
set_option maxHeartbeats 4000000 in
theorem c_fillJ {l : Launch} {D : va_G} {N0 : Nat} {a n : Nat} {f : Nat → Int64} {v : Int64} {μ : zM} (hA : μ a = some (zAL D n f)) (hn : n < 100000) : zMet l yJ7_fill_d0a16 cJ7_fill_d0a16 5 none ({ frames := 0, cells := 0, slots := 0, locals := 0 } : Room) D N0 [.ref a, .long v] μ (zQV D N0 (fun u => u = zu μ a (zAL D n (fun _ => v)))) := by
  refine zMet_of rfl (Nat.le_of_ble_eq_true rfl) (fun X C Rm hin E => ?_)
  have loop : ∀ (m i : Nat) (y : Int) (ν : zM), i + m = n → y = (i : Int) → ν = zu μ a (zAL D n (zmx f (fun _ => v) i)) → Z X ν 0 0 6 [some (.ref a), some (.long v), none, some (zi y), some (zi (n : Int))] [] := by
    intro m
    induction m with
    | zero =>
      intro i y ν hi hy hν
      subst hν
      refine z_eqL C (f := zmx f (fun _ => v) i) (g := fun _ => v) (fun j hj => zmx_e (by omega)) ?_
      refine z_iload_n C dJ7_fill_d0a16_6 rfl ?_
      refine z_iload C dJ7_fill_d0a16_7 rfl ?_
      refine z_icmp_ge (tgt := 22) C dJ7_fill_d0a16_9 (by decide) (fun _ => ?_) (fun hno => absurd hno (by omega))
      exact z_vret C E dJ7_fill_d0a16_22 (Nat.le_of_ble_eq_true rfl) (Nat.le_of_ble_eq_true rfl) rfl
    | succ m ih =>
      intro i y ν hi hy hν
      have hA1 : ν a = some (zAL D n (zmx f (fun _ => v) i)) := by rw [hν]; exact zu_s
      refine z_iload_n C dJ7_fill_d0a16_6 rfl ?_
      refine z_iload C dJ7_fill_d0a16_7 rfl ?_
      refine z_icmp_ge (tgt := 22) C dJ7_fill_d0a16_9 (by decide) (fun hno => absurd hno (by omega)) (fun _ => ?_)
      refine z_aload_n C dJ7_fill_d0a16_12 rfl ?_
      refine z_iload_n C dJ7_fill_d0a16_13 rfl ?_
      refine z_lload_n C dJ7_fill_d0a16_14 rfl ?_
      refine z_last C hA1 (by omega) dJ7_fill_d0a16_15 ?_
      refine z_iinc (L' := [_, _, _, _, _]) C dJ7_fill_d0a16_16 rfl rfl ?_
      refine z_goto (tgt := 6) C dJ7_fill_d0a16_19 (by decide) ?_
      exact ih (i + 1) _ _ (by omega) (by omega) (by rw [hν, zu_u, show y.toNat = i by omega, ← zmx_s f (fun _ => v) i])
  refine z_iconst C dJ7_fill_d0a16_0 ?_
  refine z_istore_n (L' := [_, _, _, _, _]) C dJ7_fill_d0a16_1 rfl ?_
  refine z_aload_n C dJ7_fill_d0a16_2 rfl ?_
  refine z_alen C hA 1 rfl dJ7_fill_d0a16_3 ?_
  refine z_istore (L' := [_, _, _, _, _]) C dJ7_fill_d0a16_4 rfl ?_
  exact loop n 0 0 μ (by omega) rfl (by rw [zmx_0, zu_i hA])

set_option maxRecDepth 100000 in
set_option maxHeartbeats 4000000 in
theorem c_empty {l : Launch} {D : va_G} {N0 : Nat} {o : Nat} {f : Nat → Int64} {μ : zM} (hF : isF D μ o f) : zMet l yX0_empty cX0_empty 1 none ({ frames := 1, cells := 0, slots := 0, locals := 40 } : Room) D N0 [.ref o] μ (zQV D N0 (fun u => u = setF D μ o zF)) := by
  refine zMet_of rfl (Nat.le_of_ble_eq_true rfl) (fun X C Rm hin E => ?_)
  refine z_aload_n C dX0_empty_0 rfl ?_
  refine z_get C hF.1 rfl 0 (by decide) m_69 inz0 rfl rfl dX0_empty_1 ?_
  refine z_lconst_0 C dX0_empty_4 ?_
  refine z_cv C (z_rS C Rm qs_J7_fill_d0a16 m_327 (c_fillJ hF.2 (by decide)) dX0_empty_5 rfl rfl (Nat.le_of_ble_eq_true rfl) rfl ⟨Nat.le_of_ble_eq_true rfl, Nat.le_of_ble_eq_true rfl, Nat.le_of_ble_eq_true rfl, Nat.le_of_ble_eq_true rfl⟩) (fun μ1 hp => ?_)
  exact z_vret C E dX0_empty_8 (Nat.le_of_ble_eq_true rfl) (Nat.le_of_ble_eq_true rfl) hp

set_option maxRecDepth 100000 in
set_option maxHeartbeats 4000000 in
theorem c_columns0 {l : Launch} {D : va_G} {N0 : Nat} {o : Nat} {μ : zM} (hF : isF D μ o zF) : zMet l yX0_columns cX0_columns 4 (some .long) ({ frames := 1, cells := 0, slots := 0, locals := 40 } : Room) D N0 [.ref o] μ (zQL D N0 (fun z u => z = 0 ∧ u = μ)) := by
  refine zMet_of rfl (Nat.le_of_ble_eq_true rfl) (fun X C Rm hin E => ?_)
  have loop : ∀ (n i : Nat) (y : Int), i + n = 64 → y = -32 + (i : Int) → Z X μ 0 0 5 [some (.ref o), some (.long 0), none, some (zi y)] [] := by
    intro n
    induction n with
    | zero =>
      intro i y hi hy
      refine z_iload_n C dX0_columns_5 rfl ?_
      refine z_bipush C dX0_columns_6 ?_
      refine z_icmp_gt (tgt := 25) C dX0_columns_8 (by decide) (fun _ => ?_) (fun hno => absurd hno (by omega))
      refine z_lload_n C dX0_columns_25 rfl ?_
      exact z_lret C E dX0_columns_26 (Nat.le_of_ble_eq_true rfl) (Nat.le_of_ble_eq_true rfl) ⟨rfl, rfl⟩
    | succ n ih =>
      intro i y hi hy
      refine z_iload_n C dX0_columns_5 rfl ?_
      refine z_bipush C dX0_columns_6 ?_
      refine z_icmp_gt (tgt := 25) C dX0_columns_8 (by decide) (fun hno => absurd hno (by omega)) (fun _ => ?_)
      refine z_lload_n C dX0_columns_11 rfl ?_
      refine z_aload_n C dX0_columns_12 rfl ?_
      refine z_iload_n C dX0_columns_13 rfl ?_
      refine z_cl C (z_rV C Rm qv_X0_row m_273 (c_row hF (y := y) (by omega)) hF.1 rfl dX0_columns_14 rfl rfl (Nat.le_of_ble_eq_true rfl) rfl ⟨Nat.le_of_ble_eq_true rfl, Nat.le_of_ble_eq_true rfl, Nat.le_of_ble_eq_true rfl, Nat.le_of_ble_eq_true rfl⟩) (fun z μ1 hp => ?_)
      obtain ⟨rfl, rfl⟩ := hp
      rw [rowv_z]
      refine z_lor C dX0_columns_17 ?_
      rw [Int64.zero_or]
      refine z_lstore_n (L' := [_, _, _, _]) C dX0_columns_18 rfl ?_
      refine z_iinc (L' := [_, _, _, _]) C dX0_columns_19 rfl rfl ?_
      refine z_goto (tgt := 5) C dX0_columns_22 (by decide) ?_
      exact ih (i + 1) _ (by omega) (by omega)
  refine z_lconst_0 C dX0_columns_0 ?_
  refine z_lstore_n (L' := [_, _, _, _]) C dX0_columns_1 rfl ?_
  refine z_bipush C dX0_columns_2 ?_
  refine z_istore_n (L' := [_, _, _, _]) C dX0_columns_4 rfl ?_
  exact loop 64 0 _ rfl rfl

set_option maxRecDepth 100000 in
set_option maxHeartbeats 4000000 in
theorem c_copy {l : Launch} {D : va_G} {N0 : Nat} {o q : Nat} {f g : Nat → Int64} {μ : zM} (hF : isF D μ o f) (hG : isF D μ q g) (hne : q ≠ o) : zMet l yX0_copy cX0_copy 3 none ({ frames := 1, cells := 0, slots := 0, locals := 40 } : Room) D N0 [.ref o, .ref q] μ (zQV D N0 (fun u => u = setF D μ o g)) := by
  refine zMet_of rfl (Nat.le_of_ble_eq_true rfl) (fun X C Rm hin E => ?_)
  have loop : ∀ (n i : Nat) (y : Int) (ν : zM), i + n = 64 → y = -32 + (i : Int) → ν = setF D μ o (zmx f g i) → Z X ν 0 0 3 [some (.ref o), some (.ref q), some (zi y)] [] := by
    intro n
    induction n with
    | zero =>
      intro i y ν hi hy hν
      subst hν
      refine z_eqL C (f := zmx f g i) (g := g) (fun j hj => zmx_e (by omega)) ?_
      refine z_iload_n C dX0_copy_3 rfl ?_
      refine z_bipush C dX0_copy_4 ?_
      refine z_icmp_gt (tgt := 25) C dX0_copy_6 (by decide) (fun _ => ?_) (fun hno => absurd hno (by omega))
      exact z_vret C E dX0_copy_25 (Nat.le_of_ble_eq_true rfl) (Nat.le_of_ble_eq_true rfl) rfl
    | succ n ih =>
      intro i y ν hi hy hν
      have hF1 : isF D ν o (zmx f g i) := by rw [hν]; exact hF.set _
      have hG1 : isF D ν q g := by rw [hν]; exact hF.keep hG hne _
      refine z_iload_n C dX0_copy_3 rfl ?_
      refine z_bipush C dX0_copy_4 ?_
      refine z_icmp_gt (tgt := 25) C dX0_copy_6 (by decide) (fun hno => absurd hno (by omega)) (fun _ => ?_)
      refine z_aload_n C dX0_copy_9 rfl ?_
      refine z_iload_n C dX0_copy_10 rfl ?_
      refine z_aload_n C dX0_copy_11 rfl ?_
      refine z_iload_n C dX0_copy_12 rfl ?_
      refine z_cl C (z_rV C Rm qv_X0_row m_273 (c_row hG1 (y := y) (by omega)) hG1.1 rfl dX0_copy_13 rfl rfl (Nat.le_of_ble_eq_true rfl) rfl ⟨Nat.le_of_ble_eq_true rfl, Nat.le_of_ble_eq_true rfl, Nat.le_of_ble_eq_true rfl, Nat.le_of_ble_eq_true rfl⟩) (fun z μ1 hp => ?_)
      obtain ⟨rfl, rfl⟩ := hp
      rw [rowv_i hy (by omega)]
      refine z_cv C (z_rV C Rm qv_X0_putRow m_277 (c_putRow hF1 (y := y) (by omega) (v := g i)) hF1.1 rfl dX0_copy_16 rfl rfl (Nat.le_of_ble_eq_true rfl) rfl ⟨Nat.le_of_ble_eq_true rfl, Nat.le_of_ble_eq_true rfl, Nat.le_of_ble_eq_true rfl, Nat.le_of_ble_eq_true rfl⟩) (fun μ2 hp => ?_)
      refine z_iinc (L' := [_, _, _]) C dX0_copy_19 rfl rfl ?_
      refine z_goto (tgt := 3) C dX0_copy_22 (by decide) ?_
      exact ih (i + 1) _ _ (by omega) (by omega) (by rw [hp, hν, setF_u, show (y + 32).toNat = i by omega, zmx_s])
  refine z_bipush C dX0_copy_0 ?_
  refine z_istore_n (L' := [_, _, _]) C dX0_copy_2 rfl ?_
  exact loop 64 0 _ μ rfl rfl (by rw [zmx_0, setF_i hF])

theorem zbc_0 : zbc 0 = 0 := by decide +kernel
set_option maxRecDepth 100000 in
set_option maxHeartbeats 4000000 in
theorem c_countEdges0 {l : Launch} {D : va_G} {N0 : Nat} {o : Nat} {μ : zM} (hF : isF D μ o zF) : zMet l yX0_countEdges cX0_countEdges 5 (some .int) ({ frames := 1, cells := 0, slots := 0, locals := 40 } : Room) D N0 [.ref o] μ (zQI D N0 (fun z u => z = 0 ∧ u = μ)) := by
  refine zMet_of rfl (Nat.le_of_ble_eq_true rfl) (fun X C Rm hin E => ?_)
  have loop : ∀ (n i : Nat) (y : Int) (L2 : List (Option Value)), L2 = [none, none] ∨ L2 = [some (.long 0), none] → i + n = 65 → y = -32 + (i : Int) → Z X μ 0 0 5 (some (.ref o) :: some (zi 0) :: some (zi y) :: L2) [] := by
    intro n
    induction n with
    | zero =>
      intro i y L2 hL hi hy
      rcases hL with rfl | rfl
      · refine z_iload_n C dX0_countEdges_5 rfl ?_
        refine z_bipush C dX0_countEdges_6 ?_
        refine z_icmp_gt (tgt := 61) C dX0_countEdges_8 (by decide) (fun _ => ?_) (fun hno => absurd hno (by omega))
        refine z_iload_n C dX0_countEdges_61 rfl ?_
        exact z_iret C E dX0_countEdges_62 (Nat.le_of_ble_eq_true rfl) (Nat.le_of_ble_eq_true rfl) ⟨rfl, rfl⟩
      · refine z_iload_n C dX0_countEdges_5 rfl ?_
        refine z_bipush C dX0_countEdges_6 ?_
        refine z_icmp_gt (tgt := 61) C dX0_countEdges_8 (by decide) (fun _ => ?_) (fun hno => absurd hno (by omega))
        refine z_iload_n C dX0_countEdges_61 rfl ?_
        exact z_iret C E dX0_countEdges_62 (Nat.le_of_ble_eq_true rfl) (Nat.le_of_ble_eq_true rfl) ⟨rfl, rfl⟩
    | succ n ih =>
      intro i y L2 hL hi hy
      have key : Z X μ 0 0 5 (some (.ref o) :: some (zi 0) :: some (zi y) :: [none, none]) [] := by
        refine z_iload_n C dX0_countEdges_5 rfl ?_
        refine z_bipush C dX0_countEdges_6 ?_
        refine z_icmp_gt (tgt := 61) C dX0_countEdges_8 (by decide) (fun hno => absurd hno (by omega)) (fun _ => ?_)
        refine z_aload_n C dX0_countEdges_11 rfl ?_
        refine z_iload_n C dX0_countEdges_12 rfl ?_
        refine z_cl C (z_rV C Rm qv_X0_row m_273 (c_row hF (y := y) (by omega)) hF.1 rfl dX0_countEdges_13 rfl rfl (Nat.le_of_ble_eq_true rfl) rfl ⟨Nat.le_of_ble_eq_true rfl, Nat.le_of_ble_eq_true rfl, Nat.le_of_ble_eq_true rfl, Nat.le_of_ble_eq_true rfl⟩) (fun z μ1 hp => ?_)
        obtain ⟨rfl, rfl⟩ := hp
        refine z_aload_n C dX0_countEdges_16 rfl ?_
        refine z_iload_n C dX0_countEdges_17 rfl ?_
        refine z_cl C (z_rV C Rm qv_X0_row m_273 (c_row hF (y := y) (by omega)) hF.1 rfl dX0_countEdges_18 rfl rfl (Nat.le_of_ble_eq_true rfl) rfl ⟨Nat.le_of_ble_eq_true rfl, Nat.le_of_ble_eq_true rfl, Nat.le_of_ble_eq_true rfl, Nat.le_of_ble_eq_true rfl⟩) (fun z μ1 hp => ?_)
        obtain ⟨rfl, rfl⟩ := hp
        rw [rowv_z]
        refine z_iconst C dX0_countEdges_21 ?_
        refine z_lshl C dX0_countEdges_22 ?_
        refine z_ldc2 C m_304 dX0_countEdges_23 ?_
        refine z_lxor C dX0_countEdges_26 ?_
        refine z_land C dX0_countEdges_27 ?_
        rw [Int64.zero_and]
        refine z_lstore_n (L' := [_, _, _, _, _]) C dX0_countEdges_28 rfl ?_
        refine z_iload_n C dX0_countEdges_29 rfl ?_
        refine z_iconst C dX0_countEdges_30 ?_
        refine z_lload_n C dX0_countEdges_31 rfl ?_
        refine z_ci C (z_rS C Rm qs_J13_bitCount_95d88 m_294 (c_bitCount) dX0_countEdges_32 rfl rfl (Nat.le_of_ble_eq_true rfl) rfl ⟨Nat.le_of_ble_eq_true rfl, Nat.le_of_ble_eq_true rfl, Nat.le_of_ble_eq_true rfl, Nat.le_of_ble_eq_true rfl⟩) (fun z μ1 hp => ?_)
        obtain ⟨rfl, rfl⟩ := hp
        rw [zbc_0]
        refine z_imul C dX0_countEdges_35 ?_
        refine z_aload_n C dX0_countEdges_36 rfl ?_
        refine z_iload_n C dX0_countEdges_37 rfl ?_
        refine z_cl C (z_rV C Rm qv_X0_row m_273 (c_row hF (y := y) (by omega)) hF.1 rfl dX0_countEdges_38 rfl rfl (Nat.le_of_ble_eq_true rfl) rfl ⟨Nat.le_of_ble_eq_true rfl, Nat.le_of_ble_eq_true rfl, Nat.le_of_ble_eq_true rfl, Nat.le_of_ble_eq_true rfl⟩) (fun z μ1 hp => ?_)
        obtain ⟨rfl, rfl⟩ := hp
        refine z_aload_n C dX0_countEdges_41 rfl ?_
        refine z_iload_n C dX0_countEdges_42 rfl ?_
        refine z_iconst C dX0_countEdges_43 ?_
        refine z_isub C dX0_countEdges_44 ?_
        refine z_cl C (z_rV C Rm qv_X0_row m_273 (c_row hF (y := y - 1) (by omega)) hF.1 rfl dX0_countEdges_45 rfl rfl (Nat.le_of_ble_eq_true rfl) rfl ⟨Nat.le_of_ble_eq_true rfl, Nat.le_of_ble_eq_true rfl, Nat.le_of_ble_eq_true rfl, Nat.le_of_ble_eq_true rfl⟩) (fun z μ1 hp => ?_)
        obtain ⟨rfl, rfl⟩ := hp
        rw [rowv_z, rowv_z]
        refine z_lxor C dX0_countEdges_48 ?_
        rw [show (0 : Int64) ^^^ 0 = 0 from rfl]
        refine z_ci C (z_rS C Rm qs_J13_bitCount_95d88 m_294 (c_bitCount) dX0_countEdges_49 rfl rfl (Nat.le_of_ble_eq_true rfl) rfl ⟨Nat.le_of_ble_eq_true rfl, Nat.le_of_ble_eq_true rfl, Nat.le_of_ble_eq_true rfl, Nat.le_of_ble_eq_true rfl⟩) (fun z μ1 hp => ?_)
        obtain ⟨rfl, rfl⟩ := hp
        rw [zbc_0]
        refine z_iadd C dX0_countEdges_52 ?_
        refine z_iadd C dX0_countEdges_53 ?_
        refine z_istore_n (L' := [_, _, _, _, _]) C dX0_countEdges_54 rfl ?_
        refine z_iinc (L' := [_, _, _, _, _]) C dX0_countEdges_55 rfl rfl ?_
        refine z_goto (tgt := 5) C dX0_countEdges_58 (by decide) ?_
        exact ih (i + 1) _ _ (Or.inr rfl) (by omega) (by omega)
      rcases hL with rfl | rfl
      · exact key
      · exact z_fewer (L' := [some (.ref o), some (zi 0), some (zi y), none, none]) ⟨Or.inr rfl, Or.inr rfl, Or.inr rfl, Or.inl rfl, Or.inr rfl, trivial⟩ key
  refine z_iconst C dX0_countEdges_0 ?_
  refine z_istore_n (L' := [_, _, _, _, _]) C dX0_countEdges_1 rfl ?_
  refine z_bipush C dX0_countEdges_2 ?_
  refine z_istore_n (L' := [_, _, _, _, _]) C dX0_countEdges_4 rfl ?_
  exact loop 65 0 _ [none, none] (Or.inl rfl) rfl rfl

set_option maxRecDepth 100000 in
set_option maxHeartbeats 4000000 in
theorem c_leastX0 {l : Launch} {D : va_G} {N0 : Nat} {o : Nat} {μ : zM} (hF : isF D μ o zF) : zMet l yX0_leastX cX0_leastX 3 (some .int) ({ frames := 2, cells := 0, slots := 0, locals := 80 } : Room) D N0 [.ref o] μ (zQI D N0 (fun z u => z = 0 ∧ u = μ)) := by
  refine zMet_of rfl (Nat.le_of_ble_eq_true rfl) (fun X C Rm hin E => ?_)
  refine z_aload_n C dX0_leastX_0 rfl ?_
  refine z_cl C (z_rV C Rm qv_X0_columns m_375 (c_columns0 hF) hF.1 rfl dX0_leastX_1 rfl rfl (Nat.le_of_ble_eq_true rfl) rfl ⟨Nat.le_of_ble_eq_true rfl, Nat.le_of_ble_eq_true rfl, Nat.le_of_ble_eq_true rfl, Nat.le_of_ble_eq_true rfl⟩) (fun z μ1 hp => ?_)
  obtain ⟨rfl, rfl⟩ := hp
  refine z_lstore_n (L' := [_, _, _]) C dX0_leastX_4 rfl ?_
  refine z_lload_n C dX0_leastX_5 rfl ?_
  refine z_lconst_0 C dX0_leastX_6 ?_
  refine z_lcmp C dX0_leastX_7 ?_
  rw [zcmp_s]
  refine z_if_ne (tgt := 15) C dX0_leastX_8 (by decide) (fun hno => absurd hno (by omega)) (fun _ => ?_)
  refine z_iconst C dX0_leastX_11 ?_
  refine z_goto (tgt := 22) C dX0_leastX_12 (by decide) ?_
  exact z_iret C E dX0_leastX_22 (Nat.le_of_ble_eq_true rfl) (Nat.le_of_ble_eq_true rfl) ⟨rfl, rfl⟩

set_option maxRecDepth 100000 in
set_option maxHeartbeats 4000000 in
theorem c_bit {l : Launch} {D : va_G} {N0 : Nat} {μ : zM} {x : Int} : zMet l yX6_bit cX6_bit 1 (some .long) ({ frames := 0, cells := 0, slots := 0, locals := 0 } : Room) D N0 [zi x] μ (zQL D N0 (fun z u => z = zshl 1 (x - -32) ∧ u = μ)) := by
  refine zMet_of rfl (Nat.le_of_ble_eq_true rfl) (fun X C Rm hin E => ?_)
  refine z_lconst_1 C dX6_bit_0 ?_
  refine z_iload_n C dX6_bit_1 rfl ?_
  refine z_bipush C dX6_bit_2 ?_
  refine z_isub C dX6_bit_4 ?_
  refine z_lshl C dX6_bit_5 ?_
  exact z_lret C E dX6_bit_6 (Nat.le_of_ble_eq_true rfl) (Nat.le_of_ble_eq_true rfl) ⟨rfl, rfl⟩

set_option maxRecDepth 100000 in
set_option maxHeartbeats 4000000 in
theorem c_greatestX0 {l : Launch} {D : va_G} {N0 : Nat} {o : Nat} {μ : zM} (hF : isF D μ o zF) : zMet l yX0_greatestX cX0_greatestX 4 (some .int) ({ frames := 2, cells := 0, slots := 0, locals := 80 } : Room) D N0 [.ref o] μ (zQI D N0 (fun z u => z = 0 ∧ u = μ)) := by
  refine zMet_of rfl (Nat.le_of_ble_eq_true rfl) (fun X C Rm hin E => ?_)
  have loop : ∀ (n : Nat) (y : Int), n ≤ 64 → y = (n : Int) - 33 → Z X μ 0 0 8 [some (.ref o), some (.long 0), none, some (zi y)] [] := by
    intro n
    induction n with
    | zero =>
      intro y hn hy
      refine z_iload_n C dX0_greatestX_8 rfl ?_
      refine z_bipush C dX0_greatestX_9 ?_
      refine z_icmp_lt (tgt := 33) C dX0_greatestX_11 (by decide) (fun _ => ?_) (fun hno => absurd hno (by omega))
      refine z_iconst C dX0_greatestX_33 ?_
      exact z_iret C E dX0_greatestX_34 (Nat.le_of_ble_eq_true rfl) (Nat.le_of_ble_eq_true rfl) ⟨rfl, rfl⟩
    | succ n ih =>
      intro y hn hy
      refine z_iload_n C dX0_greatestX_8 rfl ?_
      refine z_bipush C dX0_greatestX_9 ?_
      refine z_icmp_lt (tgt := 33) C dX0_greatestX_11 (by decide) (fun hno => absurd hno (by omega)) (fun _ => ?_)
      refine z_lload_n C dX0_greatestX_14 rfl ?_
      refine z_iload_n C dX0_greatestX_15 rfl ?_
      refine z_cl C (z_rSN C Rm qs_X6_bit nl_388 (c_bit (x := y)) dX0_greatestX_16 rfl rfl (Nat.le_of_ble_eq_true rfl) rfl ⟨Nat.le_of_ble_eq_true rfl, Nat.le_of_ble_eq_true rfl, Nat.le_of_ble_eq_true rfl, Nat.le_of_ble_eq_true rfl⟩) (fun z μ1 hp => ?_)
      obtain ⟨rfl, rfl⟩ := hp
      refine z_land C dX0_greatestX_19 ?_
      rw [Int64.zero_and]
      refine z_lconst_0 C dX0_greatestX_20 ?_
      refine z_lcmp C dX0_greatestX_21 ?_
      rw [zcmp_s]
      refine z_if_eq (tgt := 27) C dX0_greatestX_22 (by decide) (fun _ => ?_) (fun hno => absurd hno (by omega))
      refine z_iinc (L' := [_, _, _, _]) C dX0_greatestX_27 rfl rfl ?_
      refine z_goto (tgt := 8) C dX0_greatestX_30 (by decide) ?_
      exact ih _ (by omega) (by omega)
  refine z_aload_n C dX0_greatestX_0 rfl ?_
  refine z_cl C (z_rV C Rm qv_X0_columns m_375 (c_columns0 hF) hF.1 rfl dX0_greatestX_1 rfl rfl (Nat.le_of_ble_eq_true rfl) rfl ⟨Nat.le_of_ble_eq_true rfl, Nat.le_of_ble_eq_true rfl, Nat.le_of_ble_eq_true rfl, Nat.le_of_ble_eq_true rfl⟩) (fun z μ1 hp => ?_)
  obtain ⟨rfl, rfl⟩ := hp
  refine z_lstore_n (L' := [_, _, _, _]) C dX0_greatestX_4 rfl ?_
  refine z_bipush C dX0_greatestX_5 ?_
  refine z_istore_n (L' := [_, _, _, _]) C dX0_greatestX_7 rfl ?_
  exact loop 64 _ (by omega) rfl

set_option maxRecDepth 100000 in
set_option maxHeartbeats 4000000 in
theorem c_leastY0 {l : Launch} {D : va_G} {N0 : Nat} {o : Nat} {μ : zM} (hF : isF D μ o zF) : zMet l yX0_leastY cX0_leastY 2 (some .int) ({ frames := 1, cells := 0, slots := 0, locals := 40 } : Room) D N0 [.ref o] μ (zQI D N0 (fun z u => z = 0 ∧ u = μ)) := by
  refine zMet_of rfl (Nat.le_of_ble_eq_true rfl) (fun X C Rm hin E => ?_)
  have loop : ∀ (n i : Nat) (y : Int), i + n = 64 → y = -32 + (i : Int) → Z X μ 0 0 3 [some (.ref o), some (zi y)] [] := by
    intro n
    induction n with
    | zero =>
      intro i y hi hy
      refine z_iload_n C dX0_leastY_3 rfl ?_
      refine z_bipush C dX0_leastY_4 ?_
      refine z_icmp_gt (tgt := 27) C dX0_leastY_6 (by decide) (fun _ => ?_) (fun hno => absurd hno (by omega))
      refine z_iconst C dX0_leastY_27 ?_
      exact z_iret C E dX0_leastY_28 (Nat.le_of_ble_eq_true rfl) (Nat.le_of_ble_eq_true rfl) ⟨rfl, rfl⟩
    | succ n ih =>
      intro i y hi hy
      refine z_iload_n C dX0_leastY_3 rfl ?_
      refine z_bipush C dX0_leastY_4 ?_
      refine z_icmp_gt (tgt := 27) C dX0_leastY_6 (by decide) (fun hno => absurd hno (by omega)) (fun _ => ?_)
      refine z_aload_n C dX0_leastY_9 rfl ?_
      refine z_iload_n C dX0_leastY_10 rfl ?_
      refine z_cl C (z_rV C Rm qv_X0_row m_273 (c_row hF (y := y) (by omega)) hF.1 rfl dX0_leastY_11 rfl rfl (Nat.le_of_ble_eq_true rfl) rfl ⟨Nat.le_of_ble_eq_true rfl, Nat.le_of_ble_eq_true rfl, Nat.le_of_ble_eq_true rfl, Nat.le_of_ble_eq_true rfl⟩) (fun z μ1 hp => ?_)
      obtain ⟨rfl, rfl⟩ := hp
      rw [rowv_z]
      refine z_lconst_0 C dX0_leastY_14 ?_
      refine z_lcmp C dX0_leastY_15 ?_
      rw [zcmp_s]
      refine z_if_eq (tgt := 21) C dX0_leastY_16 (by decide) (fun _ => ?_) (fun hno => absurd hno (by omega))
      refine z_iinc (L' := [_, _]) C dX0_leastY_21 rfl rfl ?_
      refine z_goto (tgt := 3) C dX0_leastY_24 (by decide) ?_
      exact ih (i + 1) _ (by omega) (by omega)
  refine z_bipush C dX0_leastY_0 ?_
  refine z_istore_n (L' := [_, _]) C dX0_leastY_2 rfl ?_
  exact loop 64 0 _ rfl rfl

set_option maxRecDepth 100000 in
set_option maxHeartbeats 4000000 in
theorem c_greatestY0 {l : Launch} {D : va_G} {N0 : Nat} {o : Nat} {μ : zM} (hF : isF D μ o zF) : zMet l yX0_greatestY cX0_greatestY 2 (some .int) ({ frames := 1, cells := 0, slots := 0, locals := 40 } : Room) D N0 [.ref o] μ (zQI D N0 (fun z u => z = 0 ∧ u = μ)) := by
  refine zMet_of rfl (Nat.le_of_ble_eq_true rfl) (fun X C Rm hin E => ?_)
  have loop : ∀ (n : Nat) (y : Int), n ≤ 64 → y = (n : Int) - 33 → Z X μ 0 0 3 [some (.ref o), some (zi y)] [] := by
    intro n
    induction n with
    | zero =>
      intro y hn hy
      refine z_iload_n C dX0_greatestY_3 rfl ?_
      refine z_bipush C dX0_greatestY_4 ?_
      refine z_icmp_lt (tgt := 27) C dX0_greatestY_6 (by decide) (fun _ => ?_) (fun hno => absurd hno (by omega))
      refine z_iconst C dX0_greatestY_27 ?_
      exact z_iret C E dX0_greatestY_28 (Nat.le_of_ble_eq_true rfl) (Nat.le_of_ble_eq_true rfl) ⟨rfl, rfl⟩
    | succ n ih =>
      intro y hn hy
      refine z_iload_n C dX0_greatestY_3 rfl ?_
      refine z_bipush C dX0_greatestY_4 ?_
      refine z_icmp_lt (tgt := 27) C dX0_greatestY_6 (by decide) (fun hno => absurd hno (by omega)) (fun _ => ?_)
      refine z_aload_n C dX0_greatestY_9 rfl ?_
      refine z_iload_n C dX0_greatestY_10 rfl ?_
      refine z_cl C (z_rV C Rm qv_X0_row m_273 (c_row hF (y := y) (by omega)) hF.1 rfl dX0_greatestY_11 rfl rfl (Nat.le_of_ble_eq_true rfl) rfl ⟨Nat.le_of_ble_eq_true rfl, Nat.le_of_ble_eq_true rfl, Nat.le_of_ble_eq_true rfl, Nat.le_of_ble_eq_true rfl⟩) (fun z μ1 hp => ?_)
      obtain ⟨rfl, rfl⟩ := hp
      rw [rowv_z]
      refine z_lconst_0 C dX0_greatestY_14 ?_
      refine z_lcmp C dX0_greatestY_15 ?_
      rw [zcmp_s]
      refine z_if_eq (tgt := 21) C dX0_greatestY_16 (by decide) (fun _ => ?_) (fun hno => absurd hno (by omega))
      refine z_iinc (L' := [_, _]) C dX0_greatestY_21 rfl rfl ?_
      refine z_goto (tgt := 3) C dX0_greatestY_24 (by decide) ?_
      exact ih _ (by omega) (by omega)
  refine z_bipush C dX0_greatestY_0 ?_
  refine z_istore_n (L' := [_, _]) C dX0_greatestY_2 rfl ?_
  exact loop 64 _ (by omega) rfl
end
section
/-! Pen, History, Flood, Outline, StripWalk, as they are on a new object -/
def zO (P : Nat → Prop) (μ u : zM) : Prop := ∀ q, ¬ P q → u q = μ q
def zb (a n : Nat) : Nat → Prop := fun q => a ≤ q ∧ q < a + n
theorem zO.rf {P : Nat → Prop} {μ : zM} : zO P μ μ := fun _ _ => rfl
theorem zO.tr {P : Nat → Prop} {μ ν u : zM} (h : zO P μ ν) (h2 : zO P ν u) : zO P μ u := fun q hq => (h2 q hq).trans (h q hq)
theorem zO.mo {P Q : Nat → Prop} {μ u : zM} (h : zO P μ u) (hPQ : ∀ q, P q → Q q) : zO Q μ u := fun q hq => h q (fun hp => hq (hPQ q hp))
theorem zO.zu {P : Nat → Prop} {μ u : zM} {a : Nat} {e : va_E} (h : zO P μ u) (ha : P a) : zO P μ (zu u a e) := fun q hq => (zu_n (fun hqa => hq (by rw [hqa]; exact ha))).trans (h q hq)
theorem zO.at {P : Nat → Prop} {μ u : zM} {a : Nat} {x : Option va_E} (h : zO P μ u) (ha : ¬ P a) (hx : μ a = x) : u a = x := (h a ha).trans hx
theorem isF.o {D : va_G} {P : Nat → Prop} {μ u : zM} {o : Nat} {f : Nat → Int64} (h : isF D μ o f) (hO : zO P μ u) (h1 : ¬ P o) (h2 : ¬ P (o + 1)) : isF D u o f := ⟨hO.at h1 h.1, hO.at h2 h.2⟩
theorem z_canL {X : zX} {l : Launch} {D : va_G} {N0 : Nat} {cc : ByteArray} {nL : Nat} {own : String} {Ts : List Cond} {μ : zM} {kc kn pc : Nat} {L : List (Option Value)} {st : List Value} (C : zC X l D N0 cc nL own Ts) {a n : Nat} {f g : Nat → Int64} (hm : μ a = some (zAL D n f)) (h : ∀ j, j < n → f j = g j) (k : Z X (zu μ a (zAL D n g)) kc kn pc L st) : Z X μ kc kn pc L st := by
  have h1 := z_eqL C (μ := μ) h k
  rwa [zu_i hm] at h1
def zIz : Nat → Int := fun _ => 0
-- ---- the pen
def isPen (D : va_G) (μ : zM) (a : Nat) (n fx fy ax ay : Int) (gx gy gc : Nat → Int) : Prop := μ a = some (.inr (4, [.ref (a + 1), .ref (a + 2), zi n, zi fx, zi fy, zi ax, zi ay, .ref (a + 3)])) ∧ μ (a + 1) = some (zAI D 60 gx) ∧ μ (a + 2) = some (zAI D 60 gy) ∧ μ (a + 3) = some (zAI D 64 gc)
theorem isPen.o {D : va_G} {P : Nat → Prop} {μ u : zM} {a : Nat} {n fx fy ax ay : Int} {gx gy gc : Nat → Int} (h : isPen D μ a n fx fy ax ay gx gy gc) (hO : zO P μ u) (hP : ∀ q, a ≤ q → q < a + 4 → ¬ P q) : isPen D u a n fx fy ax ay gx gy gc := ⟨hO.at (hP _ (by omega) (by omega)) h.1, hO.at (hP _ (by omega) (by omega)) h.2.1, hO.at (hP _ (by omega) (by omega)) h.2.2.1, hO.at (hP _ (by omega) (by omega)) h.2.2.2⟩
set_option maxRecDepth 100000 in
set_option maxHeartbeats 4000000 in
theorem c_plen {l : Launch} {D : va_G} {N0 : Nat} {a : Nat} {n fx fy ax ay : Int} {gx gy gc : Nat → Int} {μ : zM} (hP : isPen D μ a n fx fy ax ay gx gy gc) : zMet l yX4_length cX4_length 1 (some .int) ({ frames := 0, cells := 0, slots := 0, locals := 0 } : Room) D N0 [.ref a] μ (zQI D N0 (fun z u => z = n ∧ u = μ)) := by
  refine zMet_of rfl (Nat.le_of_ble_eq_true rfl) (fun X C Rm hin E => ?_)
  refine z_aload_n C dX4_length_0 rfl ?_
  refine z_get C hP.1 rfl 2 (by decide) m_82 inz4 rfl rfl dX4_length_1 ?_
  exact z_iret C E dX4_length_4 (Nat.le_of_ble_eq_true rfl) (Nat.le_of_ble_eq_true rfl) ⟨rfl, rfl⟩
-- ---- the history
def isHi (D : va_G) (μ : zM) (a : Nat) (lt ct : Int) (kr : Nat → Int) : Prop := μ a = some (.inr (2, [.ref (a + 1), .ref (a + 2), zi lt, zi ct])) ∧ μ (a + 1) = some (zAF D 12 (fun k => some (a + 3 + 2 * k))) ∧ μ (a + 2) = some (zAI D 12 kr)
set_option maxRecDepth 100000 in
set_option maxHeartbeats 4000000 in
theorem c_hcount {l : Launch} {D : va_G} {N0 : Nat} {a : Nat} {lt ct : Int} {kr : Nat → Int} {μ : zM} (hH : isHi D μ a lt ct kr) : zMet l yX2_count cX2_count 1 (some .int) ({ frames := 0, cells := 0, slots := 0, locals := 0 } : Room) D N0 [.ref a] μ (zQI D N0 (fun z u => z = ct ∧ u = μ)) := by
  refine zMet_of rfl (Nat.le_of_ble_eq_true rfl) (fun X C Rm hin E => ?_)
  refine z_aload_n C dX2_count_0 rfl ?_
  refine z_get C hH.1 rfl 3 (by decide) m_117 inz2 rfl rfl dX2_count_1 ?_
  exact z_iret C E dX2_count_4 (Nat.le_of_ble_eq_true rfl) (Nat.le_of_ble_eq_true rfl) ⟨rfl, rfl⟩
end
section
-- ---- the flood
def zN1 : Nat → Int64 := fun _ => -1
theorem n1_or (x : Int64) : (-1 : Int64) ||| x = -1 := by
  apply Int64.toBitVec_inj.mp
  rw [Int64.toBitVec_or, show (-1 : Int64).toBitVec = BitVec.allOnes 64 from rfl, BitVec.allOnes_or]
theorem or_n1 (x : Int64) : x ||| (-1 : Int64) = -1 := by
  rw [Int64.or_comm, n1_or]
theorem n1_and (x : Int64) : (-1 : Int64) &&& x = x := by
  apply Int64.toBitVec_inj.mp
  rw [Int64.toBitVec_and, show (-1 : Int64).toBitVec = BitVec.allOnes 64 from rfl, BitVec.allOnes_and]
theorem x0_n1 : (0 : Int64) ^^^ (-1) = -1 := by decide
theorem xn_n1 : (-1 : Int64) ^^^ (-1) = 0 := by decide
def isFl (D : va_G) (μ : zM) (a : Nat) (f g : Nat → Int64) (lo hi : Int) : Prop := μ a = some (.inr (1, [.ref (a + 1), .ref (a + 3), zi lo, zi hi])) ∧ isF D μ (a + 1) f ∧ isF D μ (a + 3) g
theorem isFl.o {D : va_G} {P : Nat → Prop} {μ u : zM} {a : Nat} {f g : Nat → Int64} {lo hi : Int} (h : isFl D μ a f g lo hi) (hO : zO P μ u) (hP : ∀ q, a ≤ q → q < a + 5 → ¬ P q) : isFl D u a f g lo hi := ⟨hO.at (hP _ (by omega) (by omega)) h.1, h.2.1.o hO (hP _ (by omega) (by omega)) (hP _ (by omega) (by omega)), h.2.2.o hO (hP _ (by omega) (by omega)) (hP _ (by omega) (by omega))⟩
theorem isFl.found {D : va_G} {μ : zM} {a : Nat} {f g : Nat → Int64} {lo hi : Int} (h : isFl D μ a f g lo hi) (g2 : Nat → Int64) : isFl D (setF D μ (a + 3) g2) a f g2 lo hi := ⟨by rw [setF_k (by omega)]; exact h.1, h.2.2.keep h.2.1 (by omega) _, h.2.2.set _⟩
theorem isFl.rest {D : va_G} {μ : zM} {a : Nat} {f g : Nat → Int64} {lo hi : Int} (h : isFl D μ a f g lo hi) (f2 : Nat → Int64) : isFl D (setF D μ (a + 1) f2) a f2 g lo hi := ⟨by rw [setF_k (by omega)]; exact h.1, h.2.1.set _, h.2.1.keep h.2.2 (by omega) _⟩
theorem zO.f3 {D : va_G} {μ : zM} {a : Nat} {g : Nat → Int64} : zO (zb a 5) μ (setF D μ (a + 3) g) := zO.zu zO.rf (by unfold zb; omega)
theorem zO.f1 {D : va_G} {μ : zM} {a : Nat} {g : Nat → Int64} : zO (zb a 5) μ (setF D μ (a + 1) g) := zO.zu zO.rf (by unfold zb; omega)
set_option maxRecDepth 100000 in
set_option maxHeartbeats 4000000 in
theorem c_along1 {l : Launch} {D : va_G} {N0 : Nat} {μ : zM} : zMet l yX1_along cX1_along 13 (some .long) ({ frames := 0, cells := 0, slots := 0, locals := 0 } : Room) D N0 [.long (-1), .long (-1)] μ (zQL D N0 (fun z u => z = -1 ∧ u = μ)) := by
  refine zMet_of rfl (Nat.le_of_ble_eq_true rfl) (fun X C Rm hin E => ?_)
  have s64 : ∀ (p q : Int64), Z X μ 0 0 15 [some (.long (-1)), none, some (.long (-1)), none, some (.long (-1)), none, some (.long p), none, some (.long (-1)), none, some (.long q), none, some (zi 64)] [] := by
    intro p q
    refine z_iload C dX1_along_15 rfl ?_
    refine z_bipush C dX1_along_17 ?_
    refine z_icmp_ge (tgt := 77) C dX1_along_19 (by decide) (fun _ => ?_) (fun hno => absurd hno (by omega))
    refine z_lload C dX1_along_77 rfl ?_
    refine z_lload C dX1_along_79 rfl ?_
    refine z_lor C dX1_along_81 ?_
    rw [n1_or]
    exact z_lret C E dX1_along_82 (Nat.le_of_ble_eq_true rfl) (Nat.le_of_ble_eq_true rfl) ⟨rfl, rfl⟩
  have step : ∀ (b b2 : Int), 1 ≤ b ∧ b ≤ 32 → b2 = b * 2 → (∀ (p q : Int64), Z X μ 0 0 15 [some (.long (-1)), none, some (.long (-1)), none, some (.long (-1)), none, some (.long p), none, some (.long (-1)), none, some (.long q), none, some (zi b2)] []) → ∀ (p q : Int64), Z X μ 0 0 15 [some (.long (-1)), none, some (.long (-1)), none, some (.long (-1)), none, some (.long p), none, some (.long (-1)), none, some (.long q), none, some (zi b)] [] := by
    intro b b2 hb h2 k p q
    refine z_iload C dX1_along_15 rfl ?_
    refine z_bipush C dX1_along_17 ?_
    refine z_icmp_ge (tgt := 77) C dX1_along_19 (by decide) (fun hno => absurd hno (by omega)) (fun _ => ?_)
    refine z_lload C dX1_along_22 rfl ?_
    refine z_lload C dX1_along_24 rfl ?_
    refine z_lload C dX1_along_26 rfl ?_
    refine z_iload C dX1_along_28 rfl ?_
    refine z_lshl C dX1_along_30 ?_
    refine z_land C dX1_along_31 ?_
    refine z_lor C dX1_along_32 ?_
    rw [n1_or]
    refine z_lstore (L' := [_, _, _, _, _, _, _, _, _, _, _, _, _]) C dX1_along_33 rfl ?_
    refine z_lload C dX1_along_35 rfl ?_
    refine z_lload C dX1_along_37 rfl ?_
    refine z_iload C dX1_along_39 rfl ?_
    refine z_lshl C dX1_along_41 ?_
    refine z_land C dX1_along_42 ?_
    refine z_lstore (L' := [_, _, _, _, _, _, _, _, _, _, _, _, _]) C dX1_along_43 rfl ?_
    refine z_lload C dX1_along_45 rfl ?_
    refine z_lload C dX1_along_47 rfl ?_
    refine z_lload C dX1_along_49 rfl ?_
    refine z_iload C dX1_along_51 rfl ?_
    refine z_lushr C dX1_along_53 ?_
    refine z_land C dX1_along_54 ?_
    refine z_lor C dX1_along_55 ?_
    rw [n1_or]
    refine z_lstore (L' := [_, _, _, _, _, _, _, _, _, _, _, _, _]) C dX1_along_56 rfl ?_
    refine z_lload C dX1_along_58 rfl ?_
    refine z_lload C dX1_along_60 rfl ?_
    refine z_iload C dX1_along_62 rfl ?_
    refine z_lushr C dX1_along_64 ?_
    refine z_land C dX1_along_65 ?_
    refine z_lstore (L' := [_, _, _, _, _, _, _, _, _, _, _, _, _]) C dX1_along_66 rfl ?_
    refine z_iload C dX1_along_68 rfl ?_
    refine z_iconst C dX1_along_70 ?_
    refine z_imul C dX1_along_71 ?_
    refine z_istore (L' := [_, _, _, _, _, _, _, _, _, _, _, _, _]) C dX1_along_72 rfl ?_
    refine z_goto (tgt := 15) C dX1_along_74 (by decide) ?_
    rw [← h2]
    exact k _ _
  have s32 := step 32 64 (by omega) (by omega) s64
  have s16 := step 16 32 (by omega) (by omega) s32
  have s8 := step 8 16 (by omega) (by omega) s16
  have s4 := step 4 8 (by omega) (by omega) s8
  have s2 := step 2 4 (by omega) (by omega) s4
  have s1 := step 1 2 (by omega) (by omega) s2
  refine z_lload_n C dX1_along_0 rfl ?_
  refine z_lstore (L' := [_, _, _, _, _, _, _, _, _, _, _, _, _]) C dX1_along_1 rfl ?_
  refine z_lload_n C dX1_along_3 rfl ?_
  refine z_lstore (L' := [_, _, _, _, _, _, _, _, _, _, _, _, _]) C dX1_along_4 rfl ?_
  refine z_lload_n C dX1_along_6 rfl ?_
  refine z_lstore (L' := [_, _, _, _, _, _, _, _, _, _, _, _, _]) C dX1_along_7 rfl ?_
  refine z_lload_n C dX1_along_9 rfl ?_
  refine z_lstore (L' := [_, _, _, _, _, _, _, _, _, _, _, _, _]) C dX1_along_10 rfl ?_
  refine z_iconst C dX1_along_12 ?_
  refine z_istore (L' := [_, _, _, _, _, _, _, _, _, _, _, _, _]) C dX1_along_13 rfl ?_
  exact s1 _ _
def zends (g : Nat → Int64) (y : Int) : Int64 := rowv g (y - 1) ||| rowv g (y + 1)
set_option maxRecDepth 100000 in
set_option maxHeartbeats 4000000 in
theorem c_into {l : Launch} {D : va_G} {N0 : Nat} {a i : Nat} {g : Nat → Int64} {y : Int} {μ : zM} (hA : isFl D μ a zN1 g (-32) 31) (hi : i < 64) (hy : y = -32 + (i : Int)) (hc : g i ||| (zends g y ||| (zshl (zends g y) 1 ||| zushr (zends g y) 1)) = -1) : zMet l yX1_spreadInto cX1_spreadInto 11 (some .boolean) ({ frames := 1, cells := 0, slots := 0, locals := 40 } : Room) D N0 [.ref a, zi y, zi 1] μ (zQI D N0 (fun z u => (z = 0 ∨ z = 1) ∧ (g i = -1 → z = 0) ∧ isFl D u a zN1 (zw g i (-1)) (-32) 31 ∧ zO (zb a 5) μ u)) := by
  refine zMet_of rfl (Nat.le_of_ble_eq_true rfl) (fun X C Rm hin E => ?_)
  refine z_aload_n C dX1_spreadInto_0 rfl ?_
  refine z_get C hA.1 rfl 1 (by decide) m_136 inz1 rfl rfl dX1_spreadInto_1 ?_
  refine z_iload_n C dX1_spreadInto_4 rfl ?_
  refine z_iconst C dX1_spreadInto_5 ?_
  refine z_isub C dX1_spreadInto_6 ?_
  refine z_cl C (z_rV C Rm qv_X0_row m_314 (c_row hA.2.2 (y := y - 1) (by omega)) hA.2.2.1 rfl dX1_spreadInto_7 rfl rfl (Nat.le_of_ble_eq_true rfl) rfl ⟨Nat.le_of_ble_eq_true rfl, Nat.le_of_ble_eq_true rfl, Nat.le_of_ble_eq_true rfl, Nat.le_of_ble_eq_true rfl⟩) (fun z μ1 hp => ?_)
  obtain ⟨rfl, rfl⟩ := hp
  refine z_aload_n C dX1_spreadInto_10 rfl ?_
  refine z_get C hA.1 rfl 1 (by decide) m_136 inz1 rfl rfl dX1_spreadInto_11 ?_
  refine z_iload_n C dX1_spreadInto_14 rfl ?_
  refine z_iconst C dX1_spreadInto_15 ?_
  refine z_iadd C dX1_spreadInto_16 ?_
  refine z_cl C (z_rV C Rm qv_X0_row m_314 (c_row hA.2.2 (y := y + 1) (by omega)) hA.2.2.1 rfl dX1_spreadInto_17 rfl rfl (Nat.le_of_ble_eq_true rfl) rfl ⟨Nat.le_of_ble_eq_true rfl, Nat.le_of_ble_eq_true rfl, Nat.le_of_ble_eq_true rfl, Nat.le_of_ble_eq_true rfl⟩) (fun z μ2 hp => ?_)
  obtain ⟨rfl, rfl⟩ := hp
  refine z_lor C dX1_spreadInto_20 ?_
  refine z_lstore_n (L' := [_, _, _, _, _, _, _, _, _, _, _]) C dX1_spreadInto_21 rfl ?_
  refine z_iload_n C dX1_spreadInto_22 rfl ?_
  refine z_if_eq (tgt := 36) C dX1_spreadInto_23 (by decide) (fun hno => absurd hno (by omega)) (fun _ => ?_)
  refine z_lload_n C dX1_spreadInto_26 rfl ?_
  refine z_lload_n C dX1_spreadInto_27 rfl ?_
  refine z_iconst C dX1_spreadInto_28 ?_
  refine z_lshl C dX1_spreadInto_29 ?_
  refine z_lload_n C dX1_spreadInto_30 rfl ?_
  refine z_iconst C dX1_spreadInto_31 ?_
  refine z_lushr C dX1_spreadInto_32 ?_
  refine z_lor C dX1_spreadInto_33 ?_
  refine z_lor C dX1_spreadInto_34 ?_
  refine z_lstore_n (L' := [_, _, _, _, _, _, _, _, _, _, _]) C dX1_spreadInto_35 rfl ?_
  refine z_aload_n C dX1_spreadInto_36 rfl ?_
  refine z_get C hA.1 rfl 0 (by decide) m_135 inz1 rfl rfl dX1_spreadInto_37 ?_
  refine z_iload_n C dX1_spreadInto_40 rfl ?_
  refine z_cl C (z_rV C Rm qv_X0_row m_314 (c_row hA.2.1 (y := y) (by omega)) hA.2.1.1 rfl dX1_spreadInto_41 rfl rfl (Nat.le_of_ble_eq_true rfl) rfl ⟨Nat.le_of_ble_eq_true rfl, Nat.le_of_ble_eq_true rfl, Nat.le_of_ble_eq_true rfl, Nat.le_of_ble_eq_true rfl⟩) (fun z μ3 hp => ?_)
  obtain ⟨rfl, rfl⟩ := hp
  rw [show rowv zN1 y = -1 from rowv_i hy hi]
  refine z_lstore (L' := [_, _, _, _, _, _, _, _, _, _, _]) C dX1_spreadInto_44 rfl ?_
  refine z_aload_n C dX1_spreadInto_46 rfl ?_
  refine z_get C hA.1 rfl 1 (by decide) m_136 inz1 rfl rfl dX1_spreadInto_47 ?_
  refine z_iload_n C dX1_spreadInto_50 rfl ?_
  refine z_cl C (z_rV C Rm qv_X0_row m_314 (c_row hA.2.2 (y := y) (by omega)) hA.2.2.1 rfl dX1_spreadInto_51 rfl rfl (Nat.le_of_ble_eq_true rfl) rfl ⟨Nat.le_of_ble_eq_true rfl, Nat.le_of_ble_eq_true rfl, Nat.le_of_ble_eq_true rfl, Nat.le_of_ble_eq_true rfl⟩) (fun z μ4 hp => ?_)
  obtain ⟨rfl, rfl⟩ := hp
  rw [rowv_i hy hi]
  refine z_lstore (L' := [_, _, _, _, _, _, _, _, _, _, _]) C dX1_spreadInto_54 rfl ?_
  refine z_lload C dX1_spreadInto_56 rfl ?_
  refine z_lload C dX1_spreadInto_58 rfl ?_
  refine z_lload_n C dX1_spreadInto_60 rfl ?_
  refine z_lor C dX1_spreadInto_61 ?_
  rw [show g i ||| (rowv g (y - 1) ||| rowv g (y + 1) ||| (zshl (rowv g (y - 1) ||| rowv g (y + 1)) 1 ||| zushr (rowv g (y - 1) ||| rowv g (y + 1)) 1)) = -1 from hc]
  refine z_land C dX1_spreadInto_62 ?_
  rw [n1_and]
  refine z_lload C dX1_spreadInto_63 rfl ?_
  refine z_cl C (z_rS C Rm qs_X1_along m_342 (c_along1) dX1_spreadInto_65 rfl rfl (Nat.le_of_ble_eq_true rfl) rfl ⟨Nat.le_of_ble_eq_true rfl, Nat.le_of_ble_eq_true rfl, Nat.le_of_ble_eq_true rfl, Nat.le_of_ble_eq_true rfl⟩) (fun z μ5 hp => ?_)
  obtain ⟨rfl, rfl⟩ := hp
  refine z_lstore (L' := [_, _, _, _, _, _, _, _, _, _, _]) C dX1_spreadInto_68 rfl ?_
  refine z_lload C dX1_spreadInto_70 rfl ?_
  refine z_lload C dX1_spreadInto_72 rfl ?_
  refine z_lcmp C dX1_spreadInto_74 ?_
  by_cases hg : g i = -1
  · rw [hg, zcmp_s]
    refine z_if_ne (tgt := 80) C dX1_spreadInto_75 (by decide) (fun hno => absurd hno (by omega)) (fun _ => ?_)
    refine z_iconst C dX1_spreadInto_78 ?_
    exact z_zret C E (Or.inl rfl) dX1_spreadInto_79 (Nat.le_of_ble_eq_true rfl) (Nat.le_of_ble_eq_true rfl) ⟨Or.inl rfl, fun _ => rfl, by rw [zw_id hg]; exact hA, zO.rf⟩
  · have hz9 := zcmp_rng (-1) (g i)
    refine z_if_ne (tgt := 80) C dX1_spreadInto_75 (by decide) (fun _ => ?_) (fun hno => absurd hno (fun h => hg ((zcmp_0 _ _).mp h).symm))
    refine z_aload_n C dX1_spreadInto_80 rfl ?_
    refine z_get C hA.1 rfl 1 (by decide) m_136 inz1 rfl rfl dX1_spreadInto_81 ?_
    refine z_iload_n C dX1_spreadInto_84 rfl ?_
    refine z_lload C dX1_spreadInto_85 rfl ?_
    refine z_cv C (z_rV C Rm qv_X0_putRow m_345 (c_putRow hA.2.2 (y := y) (by omega) (v := -1)) hA.2.2.1 rfl dX1_spreadInto_87 rfl rfl (Nat.le_of_ble_eq_true rfl) rfl ⟨Nat.le_of_ble_eq_true rfl, Nat.le_of_ble_eq_true rfl, Nat.le_of_ble_eq_true rfl, Nat.le_of_ble_eq_true rfl⟩) (fun μ6 hp => ?_)
    rw [show (y + 32).toNat = i by omega] at hp
    have hA6 : isFl D μ6 a zN1 (zw g i (-1)) (-32) 31 := by rw [hp]; exact hA.found _
    have hO6 : zO (zb a 5) μ5 μ6 := by rw [hp]; exact zO.f3
    clear hp
    refine z_aload_n C dX1_spreadInto_90 rfl ?_
    refine z_aload_n C dX1_spreadInto_91 rfl ?_
    refine z_get C hA6.1 rfl 2 (by decide) m_137 inz1 rfl rfl dX1_spreadInto_92 ?_
    refine z_iload_n C dX1_spreadInto_95 rfl ?_
    refine z_mmin C Rm m_346 m_347 m_50 m_348 dX1_spreadInto_96 rfl ⟨Nat.le_of_ble_eq_true rfl, Nat.le_of_ble_eq_true rfl, Nat.le_of_ble_eq_true rfl, Nat.le_of_ble_eq_true rfl⟩ ?_
    refine z_put C hA6.1 rfl tyX1 tyX1_ok nmX1 2 (by decide) m_137 inz1 rfl rfl (by rfl) (by rfl) (Nat.le_of_ble_eq_true rfl) dX1_spreadInto_99 ?_
    rw [Int.min_eq_left (by omega)]
    rw [show zu μ6 a (.inr (1, List.set [.ref (a + 1), .ref (a + 3), zi (-32), zi 31] 2 (zi (-32)))) = μ6 from zu_i hA6.1]
    refine z_aload_n C dX1_spreadInto_102 rfl ?_
    refine z_aload_n C dX1_spreadInto_103 rfl ?_
    refine z_get C hA6.1 rfl 3 (by decide) m_138 inz1 rfl rfl dX1_spreadInto_104 ?_
    refine z_iload_n C dX1_spreadInto_107 rfl ?_
    refine z_mmax C Rm m_349 m_350 m_50 m_351 dX1_spreadInto_108 rfl ⟨Nat.le_of_ble_eq_true rfl, Nat.le_of_ble_eq_true rfl, Nat.le_of_ble_eq_true rfl, Nat.le_of_ble_eq_true rfl⟩ ?_
    refine z_put C hA6.1 rfl tyX1 tyX1_ok nmX1 3 (by decide) m_138 inz1 rfl rfl (by rfl) (by rfl) (Nat.le_of_ble_eq_true rfl) dX1_spreadInto_111 ?_
    rw [Int.max_eq_left (by omega)]
    rw [show zu μ6 a (.inr (1, List.set [.ref (a + 1), .ref (a + 3), zi (-32), zi 31] 3 (zi 31))) = μ6 from zu_i hA6.1]
    refine z_iconst C dX1_spreadInto_114 ?_
    exact z_zret C E (Or.inr rfl) dX1_spreadInto_115 (Nat.le_of_ble_eq_true rfl) (Nat.le_of_ble_eq_true rfl) ⟨Or.inr rfl, fun h => absurd h hg, hA6, hO6⟩
theorem zor01 {m z : Int} (hm : m = 0 ∨ m = 1) (hz : z = 0 ∨ z = 1) : ∃ v, (v = 0 ∨ v = 1) ∧ (z = 0 → v = m) ∧ Int32.ofInt m ||| Int32.ofInt z = Int32.ofInt v := by
  rcases hm with rfl | rfl <;> rcases hz with rfl | rfl
  · exact ⟨0, Or.inl rfl, fun _ => rfl, rfl⟩
  · exact ⟨1, Or.inr rfl, fun h => by omega, rfl⟩
  · exact ⟨1, Or.inr rfl, fun _ => rfl, rfl⟩
  · exact ⟨1, Or.inr rfl, fun h => by omega, rfl⟩
theorem zcov {g : Nat → Int64} {i : Nat} {y : Int} (h0 : g 0 = -1) (hi : i < 64) (hy : y = -32 + (i : Int)) : (zmx g zN1 i) i ||| (zends (zmx g zN1 i) y ||| (zshl (zends (zmx g zN1 i) y) 1 ||| zushr (zends (zmx g zN1 i) y) 1)) = -1 := by
  by_cases q : i = 0
  · subst q
    rw [zmx_0, h0, n1_or]
  · have e : zends (zmx g zN1 i) y = -1 := by
      unfold zends
      rw [rowv_i (i := i - 1) (by omega) (by omega), zmx_e (by omega)]
      exact n1_or _
    rw [e, n1_or, or_n1]
set_option maxRecDepth 100000 in
set_option maxHeartbeats 4000000 in
theorem c_spread {l : Launch} {D : va_G} {N0 : Nat} {a : Nat} {g : Nat → Int64} {μ : zM} (hA : isFl D μ a zN1 g (-32) 31) (h0 : g 0 = -1) : zMet l yX1_spread cX1_spread 5 none ({ frames := 2, cells := 0, slots := 0, locals := 80 } : Room) D N0 [.ref a, zi 1] μ (zQV D N0 (fun u => isFl D u a zN1 zN1 (-32) 31 ∧ zO (zb a 5) μ u)) := by
  refine zMet_of rfl (Nat.le_of_ble_eq_true rfl) (fun X C Rm hin E => ?_)
  have round : ∀ (g : Nat → Int64) (hg : g 0 = -1) (r : Int) (hr : 0 ≤ r ∧ r ≤ 4096) (ν : zM) (hν : isFl D ν a zN1 g (-32) 31) (hO : zO (zb a 5) μ ν) (b : Int)
      (cont : ∀ (ν2 : zM) (m b2 : Int), (m = 0 ∨ m = 1) → ((∀ i, i < 64 → g i = -1) → m = 0) → isFl D ν2 a zN1 zN1 (-32) 31 → zO (zb a 5) μ ν2 → Z X ν2 0 0 4 [some (.ref a), some (zi 1), some (zi m), some (zi (r + 1)), some (zi b2)] []),
      Z X ν 0 0 15 [some (.ref a), some (zi 1), some (zi b), some (zi r), none] [] := by
    intro g hg r hr ν hν hO b cont
    have down : ∀ (n : Nat) (y m : Int) (ν : zM), n ≤ 64 → y = (n : Int) - 33 → (m = 0 ∨ m = 1) → ((∀ i, i < 64 → g i = -1) → m = 0) → isFl D ν a zN1 zN1 (-32) 31 → zO (zb a 5) μ ν → Z X ν 0 0 63 [some (.ref a), some (zi 1), some (zi m), some (zi r), some (zi y)] [] := by
      intro n
      induction n with
      | zero =>
        intro y m ν hn hy hm hm2 hν hO
        refine z_iload C dX1_spread_63 rfl ?_
        refine z_bipush C dX1_spread_65 ?_
        refine z_icmp_lt (tgt := 97) C dX1_spread_67 (by decide) (fun _ => ?_) (fun hno => absurd hno (by omega))
        refine z_iinc (L' := [_, _, _, _, _]) C dX1_spread_97 rfl rfl ?_
        refine z_goto (tgt := 4) C dX1_spread_100 (by decide) ?_
        exact cont ν m _ hm hm2 hν hO
      | succ n ih =>
        intro y m ν hn hy hm hm2 hν hO
        refine z_iload C dX1_spread_63 rfl ?_
        refine z_bipush C dX1_spread_65 ?_
        refine z_icmp_lt (tgt := 97) C dX1_spread_67 (by decide) (fun hno => absurd hno (by omega)) (fun _ => ?_)
        refine z_iload C dX1_spread_70 rfl ?_
        refine z_aload_n C dX1_spread_72 rfl ?_
        refine z_get C hν.1 rfl 2 (by decide) m_137 inz1 rfl rfl dX1_spread_73 ?_
        refine z_iconst C dX1_spread_76 ?_
        refine z_isub C dX1_spread_77 ?_
        refine z_icmp_lt (tgt := 97) C dX1_spread_78 (by decide) (fun hno => absurd hno (by omega)) (fun _ => ?_)
        have hcv := zcov (g := zN1) (i := n) (y := y) rfl (by omega) (by omega)
        rw [show zmx zN1 zN1 n = zN1 from by funext j; unfold zmx; split <;> rfl] at hcv
        refine z_iload_n C dX1_spread_81 rfl ?_
        refine z_aload_n C dX1_spread_82 rfl ?_
        refine z_iload C dX1_spread_83 rfl ?_
        refine z_iload_n C dX1_spread_85 rfl ?_
        refine z_ci C (z_rV C Rm qv_X1_spreadInto m_338 (c_into hν (i := n) (y := y) (by omega) (by omega) hcv) hν.1 rfl dX1_spread_86 rfl rfl (Nat.le_of_ble_eq_true rfl) rfl ⟨Nat.le_of_ble_eq_true rfl, Nat.le_of_ble_eq_true rfl, Nat.le_of_ble_eq_true rfl, Nat.le_of_ble_eq_true rfl⟩) (fun z ν3 hp => ?_)
        obtain ⟨hz, hz2, hν3, hO3⟩ := hp
        obtain rfl := hz2 rfl
        obtain ⟨v, hv1, hv2, hv3⟩ := zor01 hm (Or.inl rfl)
        obtain rfl := hv2 rfl
        rw [show zw zN1 n (-1) = zN1 from zw_id rfl] at hν3
        refine z_ior C dX1_spread_89 hv3 ?_
        refine z_istore_n (L' := [_, _, _, _, _]) C dX1_spread_90 rfl ?_
        refine z_iinc (L' := [_, _, _, _, _]) C dX1_spread_91 rfl rfl ?_
        refine z_goto (tgt := 63) C dX1_spread_94 (by decide) ?_
        exact ih _ _ _ (by omega) (by omega) hm hm2 hν3 (hO.tr hO3)
    have up : ∀ (n i : Nat) (y m : Int) (ν : zM), i + n = 64 → y = -32 + (i : Int) → (m = 0 ∨ m = 1) → ((∀ i, i < 64 → g i = -1) → m = 0) → isFl D ν a zN1 (zmx g zN1 i) (-32) 31 → zO (zb a 5) μ ν → Z X ν 0 0 23 [some (.ref a), some (zi 1), some (zi m), some (zi r), some (zi y)] [] := by
      intro n
      induction n with
      | zero =>
        intro i y m ν hi hy hm hm2 hν hO
        refine z_canL C hν.2.2.2 (g := zN1) (fun j hj => zmx_e (by omega)) ?_
        have hν9 : isFl D (zu ν (a + 3 + 1) (zAL D 64 zN1)) a zN1 zN1 (-32) 31 := hν.found zN1
        have hO9 : zO (zb a 5) μ (zu ν (a + 3 + 1) (zAL D 64 zN1)) := hO.zu (by unfold zb; omega)
        generalize zu ν (a + 3 + 1) (zAL D 64 zN1) = ν9 at hν9 hO9 ⊢
        refine z_iload C dX1_spread_23 rfl ?_
        refine z_bipush C dX1_spread_25 ?_
        refine z_icmp_gt (tgt := 57) C dX1_spread_27 (by decide) (fun _ => ?_) (fun hno => absurd hno (by omega))
        refine z_aload_n C dX1_spread_57 rfl ?_
        refine z_get C hν9.1 rfl 3 (by decide) m_138 inz1 rfl rfl dX1_spread_58 ?_
        refine z_istore (L' := [_, _, _, _, _]) C dX1_spread_61 rfl ?_
        exact down 64 _ _ _ (by omega) (by omega) hm hm2 hν9 hO9
      | succ n ih =>
        intro i y m ν hi hy hm hm2 hν hO
        refine z_iload C dX1_spread_23 rfl ?_
        refine z_bipush C dX1_spread_25 ?_
        refine z_icmp_gt (tgt := 57) C dX1_spread_27 (by decide) (fun hno => absurd hno (by omega)) (fun _ => ?_)
        refine z_iload C dX1_spread_30 rfl ?_
        refine z_aload_n C dX1_spread_32 rfl ?_
        refine z_get C hν.1 rfl 3 (by decide) m_138 inz1 rfl rfl dX1_spread_33 ?_
        refine z_iconst C dX1_spread_36 ?_
        refine z_iadd C dX1_spread_37 ?_
        refine z_icmp_gt (tgt := 57) C dX1_spread_38 (by decide) (fun hno => absurd hno (by omega)) (fun _ => ?_)
        refine z_iload_n C dX1_spread_41 rfl ?_
        refine z_aload_n C dX1_spread_42 rfl ?_
        refine z_iload C dX1_spread_43 rfl ?_
        refine z_iload_n C dX1_spread_45 rfl ?_
        refine z_ci C (z_rV C Rm qv_X1_spreadInto m_338 (c_into hν (i := i) (y := y) (by omega) (by omega) (zcov hg (by omega) hy)) hν.1 rfl dX1_spread_46 rfl rfl (Nat.le_of_ble_eq_true rfl) rfl ⟨Nat.le_of_ble_eq_true rfl, Nat.le_of_ble_eq_true rfl, Nat.le_of_ble_eq_true rfl, Nat.le_of_ble_eq_true rfl⟩) (fun z ν3 hp => ?_)
        obtain ⟨hz, hz2, hν3, hO3⟩ := hp
        obtain ⟨v, hv1, hv2, hv3⟩ := zor01 hm hz
        rw [show zw (zmx g zN1 i) i (-1) = zmx g zN1 (i + 1) from zmx_s g zN1 i] at hν3
        refine z_ior C dX1_spread_49 hv3 ?_
        refine z_istore_n (L' := [_, _, _, _, _]) C dX1_spread_50 rfl ?_
        refine z_iinc (L' := [_, _, _, _, _]) C dX1_spread_51 rfl rfl ?_
        refine z_goto (tgt := 23) C dX1_spread_54 (by decide) ?_
        exact ih (i + 1) _ _ _ (by omega) (by omega) hv1 (fun h => by rw [hv2 (hz2 (by rw [zmx_i (by omega)]; exact h i (by omega)))]; exact hm2 h) hν3 (hO.tr hO3)
    refine z_iconst C dX1_spread_15 ?_
    refine z_istore_n (L' := [_, _, _, _, _]) C dX1_spread_16 rfl ?_
    refine z_aload_n C dX1_spread_17 rfl ?_
    refine z_get C hν.1 rfl 2 (by decide) m_137 inz1 rfl rfl dX1_spread_18 ?_
    refine z_istore (L' := [_, _, _, _, _]) C dX1_spread_21 rfl ?_
    exact up 64 0 _ 0 ν rfl (by omega) (Or.inl rfl) (fun _ => rfl) (by rw [zmx_0]; exact hν) hO
  have fin : ∀ (ν : zM) (m r b : Int), 0 ≤ r ∧ r ≤ 10 → m = 0 → isFl D ν a zN1 zN1 (-32) 31 → zO (zb a 5) μ ν → Z X ν 0 0 4 [some (.ref a), some (zi 1), some (zi m), some (zi r), some (zi b)] [] := by
    intro ν m r b hr hm hν hO
    subst hm
    refine z_iload_n C dX1_spread_4 rfl ?_
    refine z_sipush C dX1_spread_5 ?_
    refine z_icmp_gt (tgt := 103) C dX1_spread_8 (by decide) (fun hno => absurd hno (by omega)) (fun _ => ?_)
    refine z_iload_n C dX1_spread_11 rfl ?_
    refine z_if_eq (tgt := 103) C dX1_spread_12 (by decide) (fun _ => ?_) (fun hno => absurd hno (by omega))
    exact z_vret C E dX1_spread_103 (Nat.le_of_ble_eq_true rfl) (Nat.le_of_ble_eq_true rfl) ⟨hν, hO⟩
  refine z_iconst C dX1_spread_0 ?_
  refine z_istore_n (L' := [_, _, _, _, _]) C dX1_spread_1 rfl ?_
  refine z_iconst C dX1_spread_2 ?_
  refine z_istore_n (L' := [_, _, _, _, _]) C dX1_spread_3 rfl ?_
  refine z_iload_n C dX1_spread_4 rfl ?_
  refine z_sipush C dX1_spread_5 ?_
  refine z_icmp_gt (tgt := 103) C dX1_spread_8 (by decide) (fun hno => absurd hno (by omega)) (fun _ => ?_)
  refine z_iload_n C dX1_spread_11 rfl ?_
  refine z_if_eq (tgt := 103) C dX1_spread_12 (by decide) (fun hno => absurd hno (by omega)) (fun _ => ?_)
  refine round g h0 0 (by omega) μ hA zO.rf 1 (fun ν2 m b2 hm hm2 hν2 hO2 => ?_)
  rcases hm with rfl | rfl
  · exact fin _ _ _ _ (by omega) rfl hν2 hO2
  · refine z_iload_n C dX1_spread_4 rfl ?_
    refine z_sipush C dX1_spread_5 ?_
    refine z_icmp_gt (tgt := 103) C dX1_spread_8 (by decide) (fun hno => absurd hno (by omega)) (fun _ => ?_)
    refine z_iload_n C dX1_spread_11 rfl ?_
    refine z_if_eq (tgt := 103) C dX1_spread_12 (by decide) (fun hno => absurd hno (by omega)) (fun _ => ?_)
    refine z_fewer (L' := [some (.ref a), some (zi 1), some (zi 1), some (zi (0 + 1)), none]) ⟨Or.inr rfl, Or.inr rfl, Or.inr rfl, Or.inr rfl, Or.inl rfl, trivial⟩ ?_
    refine round zN1 rfl (0 + 1) (by omega) ν2 hν2 hO2 1 (fun ν3 m3 b3 hm3 hm4 hν3 hO3 => ?_)
    exact fin _ _ _ _ (by omega) (hm4 (fun _ _ => rfl)) hν3 hO3
set_option maxRecDepth 100000 in
set_option maxHeartbeats 4000000 in
theorem c_remove {l : Launch} {D : va_G} {N0 : Nat} {a : Nat} {μ : zM} (hA : isFl D μ a zN1 zN1 (-32) 31) : zMet l yX1_removeFound cX1_removeFound 2 none ({ frames := 1, cells := 0, slots := 0, locals := 40 } : Room) D N0 [.ref a] μ (zQV D N0 (fun u => isFl D u a zF zN1 (-32) 31 ∧ zO (zb a 5) μ u)) := by
  refine zMet_of rfl (Nat.le_of_ble_eq_true rfl) (fun X C Rm hin E => ?_)
  have loop : ∀ (n i : Nat) (y : Int) (ν : zM), i + n = 64 → y = -32 + (i : Int) → isFl D ν a (zmx zN1 zF i) zN1 (-32) 31 → zO (zb a 5) μ ν → Z X ν 0 0 5 [some (.ref a), some (zi y)] [] := by
    intro n
    induction n with
    | zero =>
      intro i y ν hi hy hν hO
      refine z_canL C hν.2.1.2 (g := zF) (fun j hj => zmx_e (by omega)) ?_
      have hν9 : isFl D (zu ν (a + 1 + 1) (zAL D 64 zF)) a zF zN1 (-32) 31 := hν.rest zF
      have hO9 : zO (zb a 5) μ (zu ν (a + 1 + 1) (zAL D 64 zF)) := hO.zu (by unfold zb; omega)
      generalize zu ν (a + 1 + 1) (zAL D 64 zF) = ν9 at hν9 hO9 ⊢
      refine z_iload_n C dX1_removeFound_5 rfl ?_
      refine z_aload_n C dX1_removeFound_6 rfl ?_
      refine z_get C hν9.1 rfl 3 (by decide) m_138 inz1 rfl rfl dX1_removeFound_7 ?_
      refine z_icmp_gt (tgt := 48) C dX1_removeFound_10 (by decide) (fun _ => ?_) (fun hno => absurd hno (by omega))
      exact z_vret C E dX1_removeFound_48 (Nat.le_of_ble_eq_true rfl) (Nat.le_of_ble_eq_true rfl) ⟨hν9, hO9⟩
    | succ n ih =>
      intro i y ν hi hy hν hO
      refine z_iload_n C dX1_removeFound_5 rfl ?_
      refine z_aload_n C dX1_removeFound_6 rfl ?_
      refine z_get C hν.1 rfl 3 (by decide) m_138 inz1 rfl rfl dX1_removeFound_7 ?_
      refine z_icmp_gt (tgt := 48) C dX1_removeFound_10 (by decide) (fun hno => absurd hno (by omega)) (fun _ => ?_)
      refine z_aload_n C dX1_removeFound_13 rfl ?_
      refine z_get C hν.1 rfl 0 (by decide) m_135 inz1 rfl rfl dX1_removeFound_14 ?_
      refine z_iload_n C dX1_removeFound_17 rfl ?_
      refine z_aload_n C dX1_removeFound_18 rfl ?_
      refine z_get C hν.1 rfl 0 (by decide) m_135 inz1 rfl rfl dX1_removeFound_19 ?_
      refine z_iload_n C dX1_removeFound_22 rfl ?_
      refine z_cl C (z_rV C Rm qv_X0_row m_314 (c_row hν.2.1 (y := y) (by omega)) hν.2.1.1 rfl dX1_removeFound_23 rfl rfl (Nat.le_of_ble_eq_true rfl) rfl ⟨Nat.le_of_ble_eq_true rfl, Nat.le_of_ble_eq_true rfl, Nat.le_of_ble_eq_true rfl, Nat.le_of_ble_eq_true rfl⟩) (fun z μ3 hp => ?_)
      obtain ⟨rfl, rfl⟩ := hp
      rw [rowv_i hy (by omega), zmx_i (by omega)]
      refine z_aload_n C dX1_removeFound_26 rfl ?_
      refine z_get C hν.1 rfl 1 (by decide) m_136 inz1 rfl rfl dX1_removeFound_27 ?_
      refine z_iload_n C dX1_removeFound_30 rfl ?_
      refine z_cl C (z_rV C Rm qv_X0_row m_314 (c_row hν.2.2 (y := y) (by omega)) hν.2.2.1 rfl dX1_removeFound_31 rfl rfl (Nat.le_of_ble_eq_true rfl) rfl ⟨Nat.le_of_ble_eq_true rfl, Nat.le_of_ble_eq_true rfl, Nat.le_of_ble_eq_true rfl, Nat.le_of_ble_eq_true rfl⟩) (fun z μ3 hp => ?_)
      obtain ⟨rfl, rfl⟩ := hp
      rw [rowv_i hy (by omega)]
      refine z_ldc2 C m_356 dX1_removeFound_34 ?_
      refine z_lxor C dX1_removeFound_37 ?_
      refine z_land C dX1_removeFound_38 ?_
      rw [show zN1 i &&& (zN1 i ^^^ (-1)) = 0 from by unfold zN1; rw [xn_n1]; rfl]
      refine z_cv C (z_rV C Rm qv_X0_putRow m_345 (c_putRow hν.2.1 (y := y) (by omega) (v := 0)) hν.2.1.1 rfl dX1_removeFound_39 rfl rfl (Nat.le_of_ble_eq_true rfl) rfl ⟨Nat.le_of_ble_eq_true rfl, Nat.le_of_ble_eq_true rfl, Nat.le_of_ble_eq_true rfl, Nat.le_of_ble_eq_true rfl⟩) (fun μ6 hp => ?_)
      rw [show (y + 32).toNat = i by omega, show zw (zmx zN1 zF i) i 0 = zmx zN1 zF (i + 1) from zmx_s zN1 zF i] at hp
      refine z_iinc (L' := [_, _]) C dX1_removeFound_42 rfl rfl ?_
      refine z_goto (tgt := 5) C dX1_removeFound_45 (by decide) ?_
      exact ih (i + 1) _ _ (by omega) (by omega) (by rw [hp]; exact hν.rest _) (by rw [hp]; exact hO.tr zO.f1)
  refine z_aload_n C dX1_removeFound_0 rfl ?_
  refine z_get C hA.1 rfl 2 (by decide) m_137 inz1 rfl rfl dX1_removeFound_1 ?_
  refine z_istore_n (L' := [_, _]) C dX1_removeFound_4 rfl ?_
  exact loop 64 0 _ μ rfl rfl (by rw [zmx_0]; exact hA) zO.rf
def zgB : Nat → Int64 := fun j => if j = 0 ∨ j = 63 then -1 else (zshl 1 (-32 - -32) ||| zshl 1 (31 - -32))
set_option maxRecDepth 100000 in
set_option maxHeartbeats 4000000 in
theorem c_findHoles {l : Launch} {D : va_G} {N0 : Nat} {a o : Nat} {f g : Nat → Int64} {l0 h0 : Int} {μ : zM} (hA : isFl D μ a f g l0 h0) (hF : isF D μ o zF) (ho : ¬ zb a 5 o ∧ ¬ zb a 5 (o + 1)) : zMet l yX1_findHoles cX1_findHoles 6 none ({ frames := 3, cells := 0, slots := 0, locals := 120 } : Room) D N0 [.ref a, .ref o] μ (zQV D N0 (fun u => isFl D u a zF zN1 (-32) 31 ∧ zO (zb a 5) μ u)) := by
  refine zMet_of rfl (Nat.le_of_ble_eq_true rfl) (fun X C Rm hin E => ?_)
  have loop : ∀ (n i : Nat) (y : Int) (ν : zM), i + n = 64 → y = -32 + (i : Int) → isFl D ν a (zmx f zN1 i) (zmx g zgB i) l0 h0 → zO (zb a 5) μ ν → Z X ν 0 0 3 [some (.ref a), some (.ref o), some (zi y), none, none, none] [] := by
    intro n
    induction n with
    | zero =>
      intro i y ν hi hy hν hO
      refine z_canL C hν.2.1.2 (g := zN1) (fun j hj => zmx_e (by omega)) ?_
      have hν8 : isFl D (zu ν (a + 1 + 1) (zAL D 64 zN1)) a zN1 (zmx g zgB i) _ _ := hν.rest zN1
      have hO8 : zO (zb a 5) μ (zu ν (a + 1 + 1) (zAL D 64 zN1)) := hO.zu (by unfold zb; omega)
      generalize zu ν (a + 1 + 1) (zAL D 64 zN1) = ν8 at hν8 hO8 ⊢
      refine z_canL C hν8.2.2.2 (g := zgB) (fun j hj => zmx_e (by omega)) ?_
      have hν9 : isFl D (zu ν8 (a + 3 + 1) (zAL D 64 zgB)) a zN1 zgB _ _ := hν8.found zgB
      have hO9 : zO (zb a 5) μ (zu ν8 (a + 3 + 1) (zAL D 64 zgB)) := hO8.zu (by unfold zb; omega)
      generalize zu ν8 (a + 3 + 1) (zAL D 64 zgB) = ν9 at hν9 hO9 ⊢
      refine z_iload_n C dX1_findHoles_3 rfl ?_
      refine z_bipush C dX1_findHoles_4 ?_
      refine z_icmp_gt (tgt := 93) C dX1_findHoles_6 (by decide) (fun _ => ?_) (fun hno => absurd hno (by omega))
      refine z_aload_n C dX1_findHoles_93 rfl ?_
      refine z_bipush C dX1_findHoles_94 ?_
      refine z_put C hν9.1 rfl tyX1 tyX1_ok nmX1 2 (by decide) m_137 inz1 rfl rfl (by rfl) (by rfl) (Nat.le_of_ble_eq_true rfl) dX1_findHoles_96 ?_
      refine z_aload_n C dX1_findHoles_99 rfl ?_
      refine z_bipush C dX1_findHoles_100 ?_
      refine z_put C zu_s rfl tyX1 tyX1_ok nmX1 3 (by decide) m_138 inz1 rfl rfl (by rfl) (by rfl) (Nat.le_of_ble_eq_true rfl) dX1_findHoles_102 ?_
      have hν7 : isFl D (zu (zu ν9 a (.inr (1, List.set [.ref (a + 1), .ref (a + 3), zi l0, zi h0] 2 (zi (-32))))) a (.inr (1, List.set (List.set [.ref (a + 1), .ref (a + 3), zi l0, zi h0] 2 (zi (-32))) 3 (zi 31)))) a zN1 zgB (-32) 31 := ⟨zu_s, hν9.2.1.o (zO.zu (P := fun q => q = a) (zO.zu zO.rf rfl) rfl) (by omega) (by omega), hν9.2.2.o (zO.zu (P := fun q => q = a) (zO.zu zO.rf rfl) rfl) (by omega) (by omega)⟩
      have hO7 : zO (zb a 5) μ (zu (zu ν9 a (.inr (1, List.set [.ref (a + 1), .ref (a + 3), zi l0, zi h0] 2 (zi (-32))))) a (.inr (1, List.set (List.set [.ref (a + 1), .ref (a + 3), zi l0, zi h0] 2 (zi (-32))) 3 (zi 31)))) := (hO9.zu (by unfold zb; omega)).zu (by unfold zb; omega)
      generalize zu (zu ν9 a (.inr (1, List.set [.ref (a + 1), .ref (a + 3), zi l0, zi h0] 2 (zi (-32))))) a (.inr (1, List.set (List.set [.ref (a + 1), .ref (a + 3), zi l0, zi h0] 2 (zi (-32))) 3 (zi 31))) = ν7 at hν7 hO7 ⊢
      refine z_aload_n C dX1_findHoles_105 rfl ?_
      refine z_iconst C dX1_findHoles_106 ?_
      refine z_cv C (z_rV C Rm qv_X1_spread m_334 (c_spread hν7 rfl) hν7.1 rfl dX1_findHoles_107 rfl rfl (Nat.le_of_ble_eq_true rfl) rfl ⟨Nat.le_of_ble_eq_true rfl, Nat.le_of_ble_eq_true rfl, Nat.le_of_ble_eq_true rfl, Nat.le_of_ble_eq_true rfl⟩) (fun ν6 hp => ?_)
      obtain ⟨hν6, hO6⟩ := hp
      refine z_aload_n C dX1_findHoles_110 rfl ?_
      refine z_cv C (z_rV C Rm qv_X1_removeFound m_352 (c_remove hν6) hν6.1 rfl dX1_findHoles_111 rfl rfl (Nat.le_of_ble_eq_true rfl) rfl ⟨Nat.le_of_ble_eq_true rfl, Nat.le_of_ble_eq_true rfl, Nat.le_of_ble_eq_true rfl, Nat.le_of_ble_eq_true rfl⟩) (fun ν5 hp => ?_)
      obtain ⟨hν5, hO5⟩ := hp
      exact z_vret C E dX1_findHoles_114 (Nat.le_of_ble_eq_true rfl) (Nat.le_of_ble_eq_true rfl) ⟨hν5, (hO7.tr hO6).tr hO5⟩
    | succ n ih =>
      intro i y ν hi hy hν hO
      have hF1 : isF D ν o zF := hF.o hO ho.1 ho.2
      have key : ∀ (b : Int) (v : Int64), v = zgB i → Z X ν 0 0 48 [some (.ref a), some (.ref o), some (zi y), some (zi b), none, none] [.long v] := by
        intro b v hv
        subst hv
        refine z_lstore (L' := [_, _, _, _, _, _]) C dX1_findHoles_48 rfl ?_
        refine z_aload_n C dX1_findHoles_50 rfl ?_
        refine z_get C hν.1 rfl 0 (by decide) m_135 inz1 rfl rfl dX1_findHoles_51 ?_
        refine z_iload_n C dX1_findHoles_54 rfl ?_
        refine z_aload_n C dX1_findHoles_55 rfl ?_
        refine z_iload_n C dX1_findHoles_56 rfl ?_
        refine z_cl C (z_rV C Rm qv_X0_row m_314 (c_row hF1 (y := y) (by omega)) hF1.1 rfl dX1_findHoles_57 rfl rfl (Nat.le_of_ble_eq_true rfl) rfl ⟨Nat.le_of_ble_eq_true rfl, Nat.le_of_ble_eq_true rfl, Nat.le_of_ble_eq_true rfl, Nat.le_of_ble_eq_true rfl⟩) (fun z μ3 hp => ?_)
        obtain ⟨rfl, rfl⟩ := hp
        rw [rowv_z]
        refine z_ldc2 C m_356 dX1_findHoles_60 ?_
        refine z_lxor C dX1_findHoles_63 ?_
        rw [x0_n1]
        refine z_cv C (z_rV C Rm qv_X0_putRow m_345 (c_putRow hν.2.1 (y := y) (by omega) (v := -1)) hν.2.1.1 rfl dX1_findHoles_64 rfl rfl (Nat.le_of_ble_eq_true rfl) rfl ⟨Nat.le_of_ble_eq_true rfl, Nat.le_of_ble_eq_true rfl, Nat.le_of_ble_eq_true rfl, Nat.le_of_ble_eq_true rfl⟩) (fun ν1 hp => ?_)
        rw [show (y + 32).toNat = i by omega, show zw (zmx f zN1 i) i (-1) = zmx f zN1 (i + 1) from zmx_s f zN1 i] at hp
        have hν1 : isFl D ν1 a (zmx f zN1 (i + 1)) (zmx g zgB i) l0 h0 := by rw [hp]; exact hν.rest _
        have hO1 : zO (zb a 5) μ ν1 := by rw [hp]; exact hO.tr zO.f1
        have hF2 : isF D ν1 o zF := hF.o hO1 ho.1 ho.2
        clear hp
        refine z_aload_n C dX1_findHoles_67 rfl ?_
        refine z_get C hν1.1 rfl 1 (by decide) m_136 inz1 rfl rfl dX1_findHoles_68 ?_
        refine z_iload_n C dX1_findHoles_71 rfl ?_
        refine z_aload_n C dX1_findHoles_72 rfl ?_
        refine z_iload_n C dX1_findHoles_73 rfl ?_
        refine z_cl C (z_rV C Rm qv_X0_row m_314 (c_row hF2 (y := y) (by omega)) hF2.1 rfl dX1_findHoles_74 rfl rfl (Nat.le_of_ble_eq_true rfl) rfl ⟨Nat.le_of_ble_eq_true rfl, Nat.le_of_ble_eq_true rfl, Nat.le_of_ble_eq_true rfl, Nat.le_of_ble_eq_true rfl⟩) (fun z μ4 hp => ?_)
        obtain ⟨rfl, rfl⟩ := hp
        rw [rowv_z]
        refine z_ldc2 C m_356 dX1_findHoles_77 ?_
        refine z_lxor C dX1_findHoles_80 ?_
        refine z_lload C dX1_findHoles_81 rfl ?_
        refine z_land C dX1_findHoles_83 ?_
        rw [x0_n1, n1_and]
        refine z_cv C (z_rV C Rm qv_X0_putRow m_345 (c_putRow hν1.2.2 (y := y) (by omega) (v := zgB i)) hν1.2.2.1 rfl dX1_findHoles_84 rfl rfl (Nat.le_of_ble_eq_true rfl) rfl ⟨Nat.le_of_ble_eq_true rfl, Nat.le_of_ble_eq_true rfl, Nat.le_of_ble_eq_true rfl, Nat.le_of_ble_eq_true rfl⟩) (fun ν2 hp => ?_)
        rw [show (y + 32).toNat = i by omega, zmx_s g zgB i] at hp
        refine z_iinc (L' := [_, _, _, _, _, _]) C dX1_findHoles_87 rfl rfl ?_
        refine z_goto (tgt := 3) C dX1_findHoles_90 (by decide) ?_
        refine z_fewer (L' := [some (.ref a), some (.ref o), some (zi (y + 1)), none, none, none]) ⟨Or.inr rfl, Or.inr rfl, Or.inr rfl, Or.inl rfl, Or.inl rfl, Or.inr rfl, trivial⟩ ?_
        exact ih (i + 1) _ _ (by omega) (by omega) (by rw [hp]; exact hν1.found _) (by rw [hp]; exact hO1.tr zO.f3)
      refine z_iload_n C dX1_findHoles_3 rfl ?_
      refine z_bipush C dX1_findHoles_4 ?_
      refine z_icmp_gt (tgt := 93) C dX1_findHoles_6 (by decide) (fun hno => absurd hno (by omega)) (fun _ => ?_)
      have key1 : i = 0 ∨ i = 63 → Z X ν 0 0 21 [some (.ref a), some (.ref o), some (zi y), none, none, none] [] := by
        intro h
        refine z_iconst C dX1_findHoles_21 ?_
        refine z_goto (tgt := 26) C dX1_findHoles_22 (by decide) ?_
        refine z_istore_n (L' := [_, _, _, _, _, _]) C dX1_findHoles_26 rfl ?_
        refine z_iload_n C dX1_findHoles_27 rfl ?_
        refine z_if_eq (tgt := 37) C dX1_findHoles_28 (by decide) (fun hno => absurd hno (by omega)) (fun _ => ?_)
        refine z_ldc2 C m_356 dX1_findHoles_31 ?_
        refine z_goto (tgt := 48) C dX1_findHoles_34 (by decide) ?_
        exact key _ _ (by unfold zgB; rw [if_pos h])
      refine z_iload_n C dX1_findHoles_9 rfl ?_
      refine z_bipush C dX1_findHoles_10 ?_
      refine z_icmp_eq (tgt := 21) C dX1_findHoles_12 (by decide) (fun h1 => ?_) (fun h1 => ?_)
      · exact key1 (by omega)
      · refine z_iload_n C dX1_findHoles_15 rfl ?_
        refine z_bipush C dX1_findHoles_16 ?_
        refine z_icmp_ne (tgt := 25) C dX1_findHoles_18 (by decide) (fun h2 => ?_) (fun h2 => ?_)
        · refine z_iconst C dX1_findHoles_25 ?_
          refine z_istore_n (L' := [_, _, _, _, _, _]) C dX1_findHoles_26 rfl ?_
          refine z_iload_n C dX1_findHoles_27 rfl ?_
          refine z_if_eq (tgt := 37) C dX1_findHoles_28 (by decide) (fun _ => ?_) (fun hno => absurd hno (by omega))
          refine z_bipush C dX1_findHoles_37 ?_
          refine z_cl C (z_rSN C Rm qs_X6_bit nl_365 (c_bit (x := -32)) dX1_findHoles_39 rfl rfl (Nat.le_of_ble_eq_true rfl) rfl ⟨Nat.le_of_ble_eq_true rfl, Nat.le_of_ble_eq_true rfl, Nat.le_of_ble_eq_true rfl, Nat.le_of_ble_eq_true rfl⟩) (fun z μ3 hp => ?_)
          obtain ⟨rfl, rfl⟩ := hp
          refine z_bipush C dX1_findHoles_42 ?_
          refine z_cl C (z_rSN C Rm qs_X6_bit nl_365 (c_bit (x := 31)) dX1_findHoles_44 rfl rfl (Nat.le_of_ble_eq_true rfl) rfl ⟨Nat.le_of_ble_eq_true rfl, Nat.le_of_ble_eq_true rfl, Nat.le_of_ble_eq_true rfl, Nat.le_of_ble_eq_true rfl⟩) (fun z μ3 hp => ?_)
          obtain ⟨rfl, rfl⟩ := hp
          refine z_lor C dX1_findHoles_47 ?_
          exact key _ _ (by unfold zgB; rw [if_neg (by omega)])
        · exact key1 (by omega)
  refine z_bipush C dX1_findHoles_0 ?_
  refine z_istore_n (L' := [_, _, _, _, _, _]) C dX1_findHoles_2 rfl ?_
  exact loop 64 0 _ μ rfl rfl (by rw [zmx_0, zmx_0]; exact hA) zO.rf
set_option maxRecDepth 100000 in
set_option maxHeartbeats 4000000 in
theorem c_parts0 {l : Launch} {D : va_G} {N0 : Nat} {a : Nat} {g : Nat → Int64} {lo hi b : Int} {μ : zM} (hA : isFl D μ a zF g lo hi) : zMet l yX1_countParts cX1_countParts 5 (some .int) ({ frames := 1, cells := 0, slots := 0, locals := 40 } : Room) D N0 [.ref a, zi b] μ (zQI D N0 (fun z u => z = 0 ∧ u = μ)) := by
  refine zMet_of rfl (Nat.le_of_ble_eq_true rfl) (fun X C Rm hin E => ?_)
  have loop : ∀ (n i : Nat) (y : Int), i + n = 64 → y = -32 + (i : Int) → Z X μ 0 0 5 [some (.ref a), some (zi b), some (zi 0), some (zi y), none] [] := by
    intro n
    induction n with
    | zero =>
      intro i y hi hy
      refine z_iload_n C dX1_countParts_5 rfl ?_
      refine z_bipush C dX1_countParts_6 ?_
      refine z_icmp_gt (tgt := 69) C dX1_countParts_8 (by decide) (fun _ => ?_) (fun hno => absurd hno (by omega))
      refine z_iload_n C dX1_countParts_69 rfl ?_
      exact z_iret C E dX1_countParts_70 (Nat.le_of_ble_eq_true rfl) (Nat.le_of_ble_eq_true rfl) ⟨rfl, rfl⟩
    | succ n ih =>
      intro i y hi hy
      refine z_iload_n C dX1_countParts_5 rfl ?_
      refine z_bipush C dX1_countParts_6 ?_
      refine z_icmp_gt (tgt := 69) C dX1_countParts_8 (by decide) (fun hno => absurd hno (by omega)) (fun _ => ?_)
      refine z_iconst C dX1_countParts_11 ?_
      refine z_istore (L' := [_, _, _, _, _]) C dX1_countParts_12 rfl ?_
      refine z_iload C dX1_countParts_14 rfl ?_
      refine z_bipush C dX1_countParts_16 ?_
      refine z_icmp_ge (tgt := 63) C dX1_countParts_18 (by decide) (fun hno => absurd hno (by omega)) (fun _ => ?_)
      refine z_aload_n C dX1_countParts_21 rfl ?_
      refine z_get C hA.1 rfl 0 (by decide) m_135 inz1 rfl rfl dX1_countParts_22 ?_
      refine z_iload_n C dX1_countParts_25 rfl ?_
      refine z_cl C (z_rV C Rm qv_X0_row m_314 (c_row hA.2.1 (y := y) (by omega)) hA.2.1.1 rfl dX1_countParts_26 rfl rfl (Nat.le_of_ble_eq_true rfl) rfl ⟨Nat.le_of_ble_eq_true rfl, Nat.le_of_ble_eq_true rfl, Nat.le_of_ble_eq_true rfl, Nat.le_of_ble_eq_true rfl⟩) (fun z μ3 hp => ?_)
      obtain ⟨rfl, rfl⟩ := hp
      rw [rowv_z]
      refine z_lconst_0 C dX1_countParts_29 ?_
      refine z_lcmp C dX1_countParts_30 ?_
      rw [zcmp_s]
      refine z_if_eq (tgt := 63) C dX1_countParts_31 (by decide) (fun _ => ?_) (fun hno => absurd hno (by omega))
      refine z_iinc (L' := [_, _, _, _, _]) C dX1_countParts_63 rfl rfl ?_
      refine z_goto (tgt := 5) C dX1_countParts_66 (by decide) ?_
      refine z_fewer (L' := [some (.ref a), some (zi b), some (zi 0), some (zi (y + 1)), none]) ⟨Or.inr rfl, Or.inr rfl, Or.inr rfl, Or.inr rfl, Or.inl rfl, trivial⟩ ?_
      exact ih (i + 1) _ (by omega) (by omega)
  refine z_iconst C dX1_countParts_0 ?_
  refine z_istore_n (L' := [_, _, _, _, _]) C dX1_countParts_1 rfl ?_
  refine z_bipush C dX1_countParts_2 ?_
  refine z_istore_n (L' := [_, _, _, _, _]) C dX1_countParts_4 rfl ?_
  exact loop 64 0 _ rfl rfl
set_option maxRecDepth 100000 in
set_option maxHeartbeats 4000000 in
theorem c_pieces0 {l : Launch} {D : va_G} {N0 : Nat} {a o : Nat} {g : Nat → Int64} {lo hi : Int} {μ : zM} (hA : isFl D μ a zF g lo hi) (hF : isF D μ o zF) (hne : o ≠ a + 1) : zMet l yX1_countPieces cX1_countPieces 2 (some .int) ({ frames := 2, cells := 0, slots := 0, locals := 80 } : Room) D N0 [.ref a, .ref o] μ (zQI D N0 (fun z u => z = 0 ∧ u = μ)) := by
  refine zMet_of rfl (Nat.le_of_ble_eq_true rfl) (fun X C Rm hin E => ?_)
  refine z_aload_n C dX1_countPieces_0 rfl ?_
  refine z_get C hA.1 rfl 0 (by decide) m_135 inz1 rfl rfl dX1_countPieces_1 ?_
  refine z_aload_n C dX1_countPieces_4 rfl ?_
  refine z_cv C (z_rV C Rm qv_X0_copy m_309 (c_copy hA.2.1 hF hne) hA.2.1.1 rfl dX1_countPieces_5 rfl rfl (Nat.le_of_ble_eq_true rfl) rfl ⟨Nat.le_of_ble_eq_true rfl, Nat.le_of_ble_eq_true rfl, Nat.le_of_ble_eq_true rfl, Nat.le_of_ble_eq_true rfl⟩) (fun μ1 hp => ?_)
  rw [setF_i hA.2.1] at hp
  subst hp
  refine z_aload_n C dX1_countPieces_8 rfl ?_
  refine z_iconst C dX1_countPieces_9 ?_
  refine z_ci C (z_rV C Rm qv_X1_countParts m_310 (c_parts0 hA (b := 0)) hA.1 rfl dX1_countPieces_10 rfl rfl (Nat.le_of_ble_eq_true rfl) rfl ⟨Nat.le_of_ble_eq_true rfl, Nat.le_of_ble_eq_true rfl, Nat.le_of_ble_eq_true rfl, Nat.le_of_ble_eq_true rfl⟩) (fun z μ2 hp => ?_)
  exact z_iret C E dX1_countPieces_13 (Nat.le_of_ble_eq_true rfl) (Nat.le_of_ble_eq_true rfl) hp
set_option maxRecDepth 100000 in
set_option maxHeartbeats 4000000 in
theorem c_holes0 {l : Launch} {D : va_G} {N0 : Nat} {a o : Nat} {f g : Nat → Int64} {lo hi : Int} {μ : zM} (hA : isFl D μ a f g lo hi) (hF : isF D μ o zF) (ho : ¬ zb a 5 o ∧ ¬ zb a 5 (o + 1)) : zMet l yX1_countHoles cX1_countHoles 2 (some .int) ({ frames := 4, cells := 0, slots := 0, locals := 160 } : Room) D N0 [.ref a, .ref o] μ (zQI D N0 (fun z u => z = 0 ∧ isFl D u a zF zN1 (-32) 31 ∧ zO (zb a 5) μ u)) := by
  refine zMet_of rfl (Nat.le_of_ble_eq_true rfl) (fun X C Rm hin E => ?_)
  refine z_aload_n C dX1_countHoles_0 rfl ?_
  refine z_aload_n C dX1_countHoles_1 rfl ?_
  refine z_cv C (z_rV C Rm qv_X1_findHoles m_361 (c_findHoles hA hF ho) hA.1 rfl dX1_countHoles_2 rfl rfl (Nat.le_of_ble_eq_true rfl) rfl ⟨Nat.le_of_ble_eq_true rfl, Nat.le_of_ble_eq_true rfl, Nat.le_of_ble_eq_true rfl, Nat.le_of_ble_eq_true rfl⟩) (fun μ1 hp => ?_)
  obtain ⟨h1, h2⟩ := hp
  refine z_aload_n C dX1_countHoles_5 rfl ?_
  refine z_iconst C dX1_countHoles_6 ?_
  refine z_ci C (z_rV C Rm qv_X1_countParts m_310 (c_parts0 h1 (b := 1)) h1.1 rfl dX1_countHoles_7 rfl rfl (Nat.le_of_ble_eq_true rfl) rfl ⟨Nat.le_of_ble_eq_true rfl, Nat.le_of_ble_eq_true rfl, Nat.le_of_ble_eq_true rfl, Nat.le_of_ble_eq_true rfl⟩) (fun z μ2 hp => ?_)
  obtain ⟨rfl, rfl⟩ := hp
  exact z_iret C E dX1_countHoles_10 (Nat.le_of_ble_eq_true rfl) (Nat.le_of_ble_eq_true rfl) ⟨rfl, h1, h2⟩
end
section
-- ---- the outline
def isOu (D : va_G) (μ : zM) (a : Nat) (fy wt : Int) : Prop := μ a = some (.inr (3, [.ref (a + 1), .ref (a + 3), .ref (a + 5), zi fy, zi 0, zi 0, zi 0, zi 0, zi 0, zi wt, zi 0, zi 0])) ∧ isF D μ (a + 1) zF ∧ isF D μ (a + 3) zF ∧ isF D μ (a + 5) zF
theorem isOu.o {D : va_G} {P : Nat → Prop} {μ u : zM} {a : Nat} {fy wt : Int} (h : isOu D μ a fy wt) (hO : zO P μ u) (hP : ∀ q, a ≤ q → q < a + 7 → ¬ P q) : isOu D u a fy wt := ⟨hO.at (hP _ (by omega) (by omega)) h.1, h.2.1.o hO (hP _ (by omega) (by omega)) (hP _ (by omega) (by omega)), h.2.2.1.o hO (hP _ (by omega) (by omega)) (hP _ (by omega) (by omega)), h.2.2.2.o hO (hP _ (by omega) (by omega)) (hP _ (by omega) (by omega))⟩
theorem isOu.put {D : va_G} {μ : zM} {a : Nat} {fy wt fy2 wt2 : Int} (h : isOu D μ a fy wt) : isOu D (zu μ a (.inr (3, [.ref (a + 1), .ref (a + 3), .ref (a + 5), zi fy2, zi 0, zi 0, zi 0, zi 0, zi 0, zi wt2, zi 0, zi 0]))) a fy2 wt2 := ⟨zu_s, h.2.1.o (zO.zu (P := fun q => q = a) zO.rf rfl) (by omega) (by omega), h.2.2.1.o (zO.zu (P := fun q => q = a) zO.rf rfl) (by omega) (by omega), h.2.2.2.o (zO.zu (P := fun q => q = a) zO.rf rfl) (by omega) (by omega)⟩
set_option maxRecDepth 100000 in
set_option maxHeartbeats 4000000 in
theorem c_obegin {l : Launch} {D : va_G} {N0 : Nat} {a o : Nat} {fy wt : Int} {μ : zM} (hA : isOu D μ a fy wt) (hF : isF D μ o zF) (hne : o ≠ a + 1) : zMet l yX3_begin cX3_begin 2 none ({ frames := 2, cells := 0, slots := 0, locals := 80 } : Room) D N0 [.ref a, .ref o] μ (zQV D N0 (fun u => isOu D u a (-32) wt ∧ zO (fun q => q = a) μ u)) := by
  refine zMet_of rfl (Nat.le_of_ble_eq_true rfl) (fun X C Rm hin E => ?_)
  refine z_aload_n C dX3_begin_0 rfl ?_
  refine z_get C hA.1 rfl 0 (by decide) m_156 inz3 rfl rfl dX3_begin_1 ?_
  refine z_aload_n C dX3_begin_4 rfl ?_
  refine z_cv C (z_rV C Rm qv_X0_copy m_401 (c_copy hA.2.1 hF hne) hA.2.1.1 rfl dX3_begin_5 rfl rfl (Nat.le_of_ble_eq_true rfl) rfl ⟨Nat.le_of_ble_eq_true rfl, Nat.le_of_ble_eq_true rfl, Nat.le_of_ble_eq_true rfl, Nat.le_of_ble_eq_true rfl⟩) (fun μ1 hp => ?_)
  rw [setF_i hA.2.1] at hp
  subst hp
  refine z_aload_n C dX3_begin_8 rfl ?_
  refine z_get C hA.1 rfl 1 (by decide) m_157 inz3 rfl rfl dX3_begin_9 ?_
  refine z_cv C (z_rV C Rm qv_X0_empty m_402 (c_empty hA.2.2.1) hA.2.2.1.1 rfl dX3_begin_12 rfl rfl (Nat.le_of_ble_eq_true rfl) rfl ⟨Nat.le_of_ble_eq_true rfl, Nat.le_of_ble_eq_true rfl, Nat.le_of_ble_eq_true rfl, Nat.le_of_ble_eq_true rfl⟩) (fun μ2 hp => ?_)
  rw [setF_i hA.2.2.1] at hp
  subst hp
  refine z_aload_n C dX3_begin_15 rfl ?_
  refine z_get C hA.1 rfl 2 (by decide) m_158 inz3 rfl rfl dX3_begin_16 ?_
  refine z_cv C (z_rV C Rm qv_X0_empty m_402 (c_empty hA.2.2.2) hA.2.2.2.1 rfl dX3_begin_19 rfl rfl (Nat.le_of_ble_eq_true rfl) rfl ⟨Nat.le_of_ble_eq_true rfl, Nat.le_of_ble_eq_true rfl, Nat.le_of_ble_eq_true rfl, Nat.le_of_ble_eq_true rfl⟩) (fun μ3 hp => ?_)
  rw [setF_i hA.2.2.2] at hp
  subst hp
  refine z_aload_n C dX3_begin_22 rfl ?_
  refine z_bipush C dX3_begin_23 ?_
  refine z_put C hA.1 rfl tyX3 tyX3_ok nmX3 3 (by decide) m_159 inz3 rfl rfl (by rfl) (by rfl) (Nat.le_of_ble_eq_true rfl) dX3_begin_25 ?_
  exact z_vret C E dX3_begin_28 (Nat.le_of_ble_eq_true rfl) (Nat.le_of_ble_eq_true rfl) ⟨hA.put, zO.zu zO.rf rfl⟩
set_option maxRecDepth 100000 in
set_option maxHeartbeats 4000000 in
theorem c_onext {l : Launch} {D : va_G} {N0 : Nat} {a : Nat} {fy wt c : Int} {μ : zM} (hA : isOu D μ a fy wt) (hf : -32 ≤ fy ∧ fy ≤ 32) (hc : -2147483648 ≤ c ∧ c < 2147483648) : zMet l yX3_next cX3_next 8 (some .boolean) ({ frames := 1, cells := 0, slots := 0, locals := 40 } : Room) D N0 [.ref a, zi c] μ (zQI D N0 (fun z u => z = 0 ∧ isOu D u a 32 c ∧ zO (fun q => q = a) μ u)) := by
  refine zMet_of rfl (Nat.le_of_ble_eq_true rfl) (fun X C Rm hin E => ?_)
  have loop : ∀ (n : Nat) (f : Int) (ν : zM), f + n = 32 → -32 ≤ f → isOu D ν a f c → zO (fun q => q = a) μ ν → Z X ν 0 0 5 [some (.ref a), some (zi c), none, none, none, none, none, none] [] := by
    intro n
    induction n with
    | zero =>
      intro f ν hn hf1 hν hO
      obtain rfl : f = 32 := by omega
      refine z_aload_n C dX3_next_5 rfl ?_
      refine z_get C hν.1 rfl 3 (by decide) m_159 inz3 rfl rfl dX3_next_6 ?_
      refine z_bipush C dX3_next_9 ?_
      refine z_icmp_gt (tgt := 133) C dX3_next_11 (by decide) (fun _ => ?_) (fun hno => absurd hno (by omega))
      refine z_iconst C dX3_next_133 ?_
      exact z_zret C E (Or.inl rfl) dX3_next_134 (Nat.le_of_ble_eq_true rfl) (Nat.le_of_ble_eq_true rfl) ⟨rfl, hν, hO⟩
    | succ n ih =>
      intro f ν hn hf1 hν hO
      refine z_aload_n C dX3_next_5 rfl ?_
      refine z_get C hν.1 rfl 3 (by decide) m_159 inz3 rfl rfl dX3_next_6 ?_
      refine z_bipush C dX3_next_9 ?_
      refine z_icmp_gt (tgt := 133) C dX3_next_11 (by decide) (fun hno => absurd hno (by omega)) (fun _ => ?_)
      refine z_aload_n C dX3_next_14 rfl ?_
      refine z_get C hν.1 rfl 0 (by decide) m_156 inz3 rfl rfl dX3_next_15 ?_
      refine z_aload_n C dX3_next_18 rfl ?_
      refine z_get C hν.1 rfl 3 (by decide) m_159 inz3 rfl rfl dX3_next_19 ?_
      refine z_cl C (z_rV C Rm qv_X0_row m_407 (c_row hν.2.1 (y := f) (by omega)) hν.2.1.1 rfl dX3_next_22 rfl rfl (Nat.le_of_ble_eq_true rfl) rfl ⟨Nat.le_of_ble_eq_true rfl, Nat.le_of_ble_eq_true rfl, Nat.le_of_ble_eq_true rfl, Nat.le_of_ble_eq_true rfl⟩) (fun z μ3 hp => ?_)
      obtain ⟨rfl, rfl⟩ := hp
      rw [rowv_z]
      refine z_lstore_n (L' := [_, _, _, _, _, _, _, _]) C dX3_next_25 rfl ?_
      refine z_lload_n C dX3_next_26 rfl ?_
      refine z_aload_n C dX3_next_27 rfl ?_
      refine z_get C hν.1 rfl 0 (by decide) m_156 inz3 rfl rfl dX3_next_28 ?_
      refine z_aload_n C dX3_next_31 rfl ?_
      refine z_get C hν.1 rfl 3 (by decide) m_159 inz3 rfl rfl dX3_next_32 ?_
      refine z_iconst C dX3_next_35 ?_
      refine z_isub C dX3_next_36 ?_
      refine z_cl C (z_rV C Rm qv_X0_row m_407 (c_row hν.2.1 (y := f - 1) (by omega)) hν.2.1.1 rfl dX3_next_37 rfl rfl (Nat.le_of_ble_eq_true rfl) rfl ⟨Nat.le_of_ble_eq_true rfl, Nat.le_of_ble_eq_true rfl, Nat.le_of_ble_eq_true rfl, Nat.le_of_ble_eq_true rfl⟩) (fun z μ3 hp => ?_)
      obtain ⟨rfl, rfl⟩ := hp
      refine z_ldc2 C m_408 dX3_next_40 ?_
      refine z_lxor C dX3_next_43 ?_
      refine z_land C dX3_next_44 ?_
      rw [Int64.zero_and]
      refine z_aload_n C dX3_next_45 rfl ?_
      refine z_get C hν.1 rfl 1 (by decide) m_157 inz3 rfl rfl dX3_next_46 ?_
      refine z_aload_n C dX3_next_49 rfl ?_
      refine z_get C hν.1 rfl 3 (by decide) m_159 inz3 rfl rfl dX3_next_50 ?_
      refine z_cl C (z_rV C Rm qv_X0_row m_407 (c_row hν.2.2.1 (y := f) (by omega)) hν.2.2.1.1 rfl dX3_next_53 rfl rfl (Nat.le_of_ble_eq_true rfl) rfl ⟨Nat.le_of_ble_eq_true rfl, Nat.le_of_ble_eq_true rfl, Nat.le_of_ble_eq_true rfl, Nat.le_of_ble_eq_true rfl⟩) (fun z μ3 hp => ?_)
      obtain ⟨rfl, rfl⟩ := hp
      refine z_ldc2 C m_408 dX3_next_56 ?_
      refine z_lxor C dX3_next_59 ?_
      refine z_land C dX3_next_60 ?_
      rw [Int64.zero_and]
      refine z_lstore (L' := [_, _, _, _, _, _, _, _]) C dX3_next_61 rfl ?_
      refine z_lload_n C dX3_next_63 rfl ?_
      refine z_lload_n C dX3_next_64 rfl ?_
      refine z_iconst C dX3_next_65 ?_
      refine z_lushr C dX3_next_66 ?_
      refine z_ldc2 C m_408 dX3_next_67 ?_
      refine z_lxor C dX3_next_70 ?_
      refine z_land C dX3_next_71 ?_
      rw [Int64.zero_and]
      refine z_aload_n C dX3_next_72 rfl ?_
      refine z_get C hν.1 rfl 2 (by decide) m_158 inz3 rfl rfl dX3_next_73 ?_
      refine z_aload_n C dX3_next_76 rfl ?_
      refine z_get C hν.1 rfl 3 (by decide) m_159 inz3 rfl rfl dX3_next_77 ?_
      refine z_cl C (z_rV C Rm qv_X0_row m_407 (c_row hν.2.2.2 (y := f) (by omega)) hν.2.2.2.1 rfl dX3_next_80 rfl rfl (Nat.le_of_ble_eq_true rfl) rfl ⟨Nat.le_of_ble_eq_true rfl, Nat.le_of_ble_eq_true rfl, Nat.le_of_ble_eq_true rfl, Nat.le_of_ble_eq_true rfl⟩) (fun z μ3 hp => ?_)
      obtain ⟨rfl, rfl⟩ := hp
      refine z_ldc2 C m_408 dX3_next_83 ?_
      refine z_lxor C dX3_next_86 ?_
      refine z_land C dX3_next_87 ?_
      rw [Int64.zero_and]
      refine z_lstore (L' := [_, _, _, _, _, _, _, _]) C dX3_next_88 rfl ?_
      refine z_lload C dX3_next_90 rfl ?_
      refine z_lload C dX3_next_92 rfl ?_
      refine z_lor C dX3_next_94 ?_
      rw [Int64.zero_or]
      refine z_lconst_0 C dX3_next_95 ?_
      refine z_lcmp C dX3_next_96 ?_
      rw [zcmp_s]
      refine z_if_eq (tgt := 120) C dX3_next_97 (by decide) (fun _ => ?_) (fun hno => absurd hno (by omega))
      refine z_aload_n C dX3_next_120 rfl ?_
      refine z_dup C dX3_next_121 rfl ?_
      refine z_get C hν.1 rfl 3 (by decide) m_159 inz3 rfl rfl dX3_next_122 ?_
      refine z_iconst C dX3_next_125 ?_
      refine z_iadd C dX3_next_126 ?_
      refine z_put C hν.1 rfl tyX3 tyX3_ok nmX3 3 (by decide) m_159 inz3 rfl rfl (by rfl) (by rfl) (Nat.le_of_ble_eq_true rfl) dX3_next_127 ?_
      refine z_goto (tgt := 5) C dX3_next_130 (by decide) ?_
      refine z_fewer (L' := [some (.ref a), some (zi c), none, none, none, none, none, none]) ⟨Or.inr rfl, Or.inr rfl, Or.inl rfl, Or.inr rfl, Or.inl rfl, Or.inr rfl, Or.inl rfl, Or.inr rfl, trivial⟩ ?_
      exact ih (f + 1) _ (by omega) (by omega) hν.put (hO.zu rfl)
  refine z_aload_n C dX3_next_0 rfl ?_
  refine z_iload_n C dX3_next_1 rfl ?_
  refine z_put C hA.1 rfl tyX3 tyX3_ok nmX3 9 (by decide) m_165 inz3 rfl rfl (by rfl) (by rfl) (Nat.le_of_ble_eq_true rfl) dX3_next_2 ?_
  obtain ⟨n, hn⟩ : ∃ n : Nat, fy + n = 32 := ⟨(32 - fy).toNat, by omega⟩
  exact loop n fy _ hn hf.1 hA.put (zO.zu zO.rf rfl)
set_option maxRecDepth 100000 in
set_option maxHeartbeats 4000000 in
theorem c_contours0 {l : Launch} {D : va_G} {N0 : Nat} {a o : Nat} {fy wt : Int} {μ : zM} (hA : isOu D μ a fy wt) (hF : isF D μ o zF) (hne : o ≠ a + 1) : zMet l yX3_countContours cX3_countContours 3 (some .int) ({ frames := 3, cells := 0, slots := 0, locals := 120 } : Room) D N0 [.ref a, .ref o] μ (zQI D N0 (fun z u => z = 0 ∧ isOu D u a 32 0 ∧ zO (fun q => q = a) μ u)) := by
  refine zMet_of rfl (Nat.le_of_ble_eq_true rfl) (fun X C Rm hin E => ?_)
  refine z_aload_n C dX3_countContours_0 rfl ?_
  refine z_aload_n C dX3_countContours_1 rfl ?_
  refine z_cv C (z_rV C Rm qv_X3_begin m_397 (c_obegin hA hF hne) hA.1 rfl dX3_countContours_2 rfl rfl (Nat.le_of_ble_eq_true rfl) rfl ⟨Nat.le_of_ble_eq_true rfl, Nat.le_of_ble_eq_true rfl, Nat.le_of_ble_eq_true rfl, Nat.le_of_ble_eq_true rfl⟩) (fun μ1 hp => ?_)
  obtain ⟨h1, h2⟩ := hp
  refine z_iconst C dX3_countContours_5 ?_
  refine z_istore_n (L' := [_, _, _]) C dX3_countContours_6 rfl ?_
  refine z_iload_n C dX3_countContours_7 rfl ?_
  refine z_sipush C dX3_countContours_8 ?_
  refine z_icmp_ge (tgt := 28) C dX3_countContours_11 (by decide) (fun hno => absurd hno (by omega)) (fun _ => ?_)
  refine z_aload_n C dX3_countContours_14 rfl ?_
  refine z_iconst C dX3_countContours_15 ?_
  refine z_ci C (z_rV C Rm qv_X3_next m_403 (c_onext h1 (c := 0) (by omega) (by omega)) h1.1 rfl dX3_countContours_16 rfl rfl (Nat.le_of_ble_eq_true rfl) rfl ⟨Nat.le_of_ble_eq_true rfl, Nat.le_of_ble_eq_true rfl, Nat.le_of_ble_eq_true rfl, Nat.le_of_ble_eq_true rfl⟩) (fun z μ2 hp => ?_)
  obtain ⟨rfl, h3, h4⟩ := hp
  refine z_if_eq (tgt := 28) C dX3_countContours_19 (by decide) (fun _ => ?_) (fun hno => absurd hno (by omega))
  refine z_iload_n C dX3_countContours_28 rfl ?_
  exact z_iret C E dX3_countContours_29 (Nat.le_of_ble_eq_true rfl) (Nat.le_of_ble_eq_true rfl) ⟨rfl, h3, h2.tr h4⟩
-- ---- the strips
def isSt (D : va_G) (μ : zM) (a : Nat) (fy : Int) : Prop := μ a = some (.inr (5, [.ref (a + 1), zi fy, .long 0, zi 0, zi 0, zi 0, zi 0])) ∧ isF D μ (a + 1) zF
theorem isSt.o {D : va_G} {P : Nat → Prop} {μ u : zM} {a : Nat} {fy : Int} (h : isSt D μ a fy) (hO : zO P μ u) (hP : ∀ q, a ≤ q → q < a + 3 → ¬ P q) : isSt D u a fy := ⟨hO.at (hP _ (by omega) (by omega)) h.1, h.2.o hO (hP _ (by omega) (by omega)) (hP _ (by omega) (by omega))⟩
theorem isSt.put {D : va_G} {μ : zM} {a : Nat} {fy fy2 : Int} (h : isSt D μ a fy) : isSt D (zu μ a (.inr (5, [.ref (a + 1), zi fy2, .long 0, zi 0, zi 0, zi 0, zi 0]))) a fy2 := ⟨zu_s, h.2.o (zO.zu (P := fun q => q = a) zO.rf rfl) (by omega) (by omega)⟩
set_option maxRecDepth 100000 in
set_option maxHeartbeats 4000000 in
theorem c_sbegin {l : Launch} {D : va_G} {N0 : Nat} {a o : Nat} {fy : Int} {μ : zM} (hA : isSt D μ a fy) (hF : isF D μ o zF) (hne : o ≠ a + 1) : zMet l yX5_begin cX5_begin 2 none ({ frames := 2, cells := 0, slots := 0, locals := 80 } : Room) D N0 [.ref a, .ref o] μ (zQV D N0 (fun u => isSt D u a (-32) ∧ zO (fun q => q = a) μ u)) := by
  refine zMet_of rfl (Nat.le_of_ble_eq_true rfl) (fun X C Rm hin E => ?_)
  refine z_aload_n C dX5_begin_0 rfl ?_
  refine z_get C hA.1 rfl 0 (by decide) m_201 inz5 rfl rfl dX5_begin_1 ?_
  refine z_aload_n C dX5_begin_4 rfl ?_
  refine z_cv C (z_rV C Rm qv_X0_copy m_466 (c_copy hA.2 hF hne) hA.2.1 rfl dX5_begin_5 rfl rfl (Nat.le_of_ble_eq_true rfl) rfl ⟨Nat.le_of_ble_eq_true rfl, Nat.le_of_ble_eq_true rfl, Nat.le_of_ble_eq_true rfl, Nat.le_of_ble_eq_true rfl⟩) (fun μ1 hp => ?_)
  rw [setF_i hA.2] at hp
  subst hp
  refine z_aload_n C dX5_begin_8 rfl ?_
  refine z_bipush C dX5_begin_9 ?_
  refine z_put C hA.1 rfl tyX5 tyX5_ok nmX5 1 (by decide) m_202 inz5 rfl rfl (by rfl) (by rfl) (Nat.le_of_ble_eq_true rfl) dX5_begin_11 ?_
  have h1 : isSt D (zu μ1 a (.inr (5, List.set [.ref (a + 1), zi fy, .long 0, zi 0, zi 0, zi 0, zi 0] 1 (zi (-32))))) a (-32) := hA.put
  have hO : zO (fun q => q = a) μ1 (zu μ1 a (.inr (5, List.set [.ref (a + 1), zi fy, .long 0, zi 0, zi 0, zi 0, zi 0] 1 (zi (-32))))) := zO.zu zO.rf rfl
  generalize zu μ1 a (.inr (5, List.set [.ref (a + 1), zi fy, .long 0, zi 0, zi 0, zi 0, zi 0] 1 (zi (-32)))) = ν at h1 hO ⊢
  refine z_aload_n C dX5_begin_14 rfl ?_
  refine z_aload_n C dX5_begin_15 rfl ?_
  refine z_get C h1.1 rfl 0 (by decide) m_201 inz5 rfl rfl dX5_begin_16 ?_
  refine z_aload_n C dX5_begin_19 rfl ?_
  refine z_get C h1.1 rfl 1 (by decide) m_202 inz5 rfl rfl dX5_begin_20 ?_
  refine z_cl C (z_rV C Rm qv_X0_row m_467 (c_row h1.2 (y := -32) (by omega)) h1.2.1 rfl dX5_begin_23 rfl rfl (Nat.le_of_ble_eq_true rfl) rfl ⟨Nat.le_of_ble_eq_true rfl, Nat.le_of_ble_eq_true rfl, Nat.le_of_ble_eq_true rfl, Nat.le_of_ble_eq_true rfl⟩) (fun z μ2 hp => ?_)
  obtain ⟨rfl, rfl⟩ := hp
  rw [rowv_z]
  refine z_put C h1.1 rfl tyX5 tyX5_ok nmX5 2 (by decide) m_203 inz5 rfl rfl (by rfl) (by rfl) (Nat.le_of_ble_eq_true rfl) dX5_begin_26 ?_
  exact z_vret C E dX5_begin_29 (Nat.le_of_ble_eq_true rfl) (Nat.le_of_ble_eq_true rfl) ⟨h1.put, hO.tr (zO.zu zO.rf rfl)⟩
set_option maxRecDepth 100000 in
set_option maxHeartbeats 4000000 in
theorem c_snext {l : Launch} {D : va_G} {N0 : Nat} {a : Nat} {fy : Int} {μ : zM} (hA : isSt D μ a fy) (hf : -32 ≤ fy ∧ fy ≤ 32) : zMet l yX5_next cX5_next 4 (some .boolean) ({ frames := 1, cells := 0, slots := 0, locals := 40 } : Room) D N0 [.ref a] μ (zQI D N0 (fun z u => z = 0 ∧ isSt D u a 32 ∧ zO (fun q => q = a) μ u)) := by
  refine zMet_of rfl (Nat.le_of_ble_eq_true rfl) (fun X C Rm hin E => ?_)
  have loop : ∀ (n : Nat) (f : Int) (ν : zM), f + n = 32 → -32 ≤ f → isSt D ν a f → zO (fun q => q = a) μ ν → Z X ν 0 0 0 [some (.ref a), none, none, none] [] := by
    intro n
    induction n with
    | zero =>
      intro f ν hn hf1 hν hO
      obtain rfl : f = 32 := by omega
      refine z_aload_n C dX5_next_0 rfl ?_
      refine z_get C hν.1 rfl 1 (by decide) m_202 inz5 rfl rfl dX5_next_1 ?_
      refine z_bipush C dX5_next_4 ?_
      refine z_icmp_gt (tgt := 103) C dX5_next_6 (by decide) (fun _ => ?_) (fun hno => absurd hno (by omega))
      refine z_iconst C dX5_next_103 ?_
      exact z_zret C E (Or.inl rfl) dX5_next_104 (Nat.le_of_ble_eq_true rfl) (Nat.le_of_ble_eq_true rfl) ⟨rfl, hν, hO⟩
    | succ n ih =>
      intro f ν hn hf1 hν hO
      refine z_aload_n C dX5_next_0 rfl ?_
      refine z_get C hν.1 rfl 1 (by decide) m_202 inz5 rfl rfl dX5_next_1 ?_
      refine z_bipush C dX5_next_4 ?_
      refine z_icmp_gt (tgt := 103) C dX5_next_6 (by decide) (fun hno => absurd hno (by omega)) (fun _ => ?_)
      refine z_iconst C dX5_next_9 ?_
      refine z_istore_n (L' := [_, _, _, _]) C dX5_next_10 rfl ?_
      refine z_iload_n C dX5_next_11 rfl ?_
      refine z_bipush C dX5_next_12 ?_
      refine z_icmp_ge (tgt := 75) C dX5_next_14 (by decide) (fun hno => absurd hno (by omega)) (fun _ => ?_)
      refine z_aload_n C dX5_next_17 rfl ?_
      refine z_get C hν.1 rfl 2 (by decide) m_203 inz5 rfl rfl dX5_next_18 ?_
      refine z_lconst_0 C dX5_next_21 ?_
      refine z_lcmp C dX5_next_22 ?_
      rw [zcmp_s]
      refine z_if_eq (tgt := 75) C dX5_next_23 (by decide) (fun _ => ?_) (fun hno => absurd hno (by omega))
      refine z_aload_n C dX5_next_75 rfl ?_
      refine z_dup C dX5_next_76 rfl ?_
      refine z_get C hν.1 rfl 1 (by decide) m_202 inz5 rfl rfl dX5_next_77 ?_
      refine z_iconst C dX5_next_80 ?_
      refine z_iadd C dX5_next_81 ?_
      refine z_put C hν.1 rfl tyX5 tyX5_ok nmX5 1 (by decide) m_202 inz5 rfl rfl (by rfl) (by rfl) (Nat.le_of_ble_eq_true rfl) dX5_next_82 ?_
      have h1 : isSt D (zu ν a (.inr (5, List.set [.ref (a + 1), zi f, .long 0, zi 0, zi 0, zi 0, zi 0] 1 (zi (f + 1))))) a (f + 1) := hν.put
      have hO1 : zO (fun q => q = a) μ (zu ν a (.inr (5, List.set [.ref (a + 1), zi f, .long 0, zi 0, zi 0, zi 0, zi 0] 1 (zi (f + 1))))) := hO.zu rfl
      generalize zu ν a (.inr (5, List.set [.ref (a + 1), zi f, .long 0, zi 0, zi 0, zi 0, zi 0] 1 (zi (f + 1)))) = ν1 at h1 hO1 ⊢
      refine z_aload_n C dX5_next_85 rfl ?_
      refine z_aload_n C dX5_next_86 rfl ?_
      refine z_get C h1.1 rfl 0 (by decide) m_201 inz5 rfl rfl dX5_next_87 ?_
      refine z_aload_n C dX5_next_90 rfl ?_
      refine z_get C h1.1 rfl 1 (by decide) m_202 inz5 rfl rfl dX5_next_91 ?_
      refine z_cl C (z_rV C Rm qv_X0_row m_467 (c_row h1.2 (y := f + 1) (by omega)) h1.2.1 rfl dX5_next_94 rfl rfl (Nat.le_of_ble_eq_true rfl) rfl ⟨Nat.le_of_ble_eq_true rfl, Nat.le_of_ble_eq_true rfl, Nat.le_of_ble_eq_true rfl, Nat.le_of_ble_eq_true rfl⟩) (fun z μ2 hp => ?_)
      obtain ⟨rfl, rfl⟩ := hp
      rw [rowv_z]
      refine z_put C h1.1 rfl tyX5 tyX5_ok nmX5 2 (by decide) m_203 inz5 rfl rfl (by rfl) (by rfl) (Nat.le_of_ble_eq_true rfl) dX5_next_97 ?_
      refine z_goto (tgt := 0) C dX5_next_100 (by decide) ?_
      refine z_fewer (L' := [some (.ref a), none, none, none]) ⟨Or.inr rfl, Or.inl rfl, Or.inr rfl, Or.inr rfl, trivial⟩ ?_
      exact ih (f + 1) _ (by omega) (by omega) h1.put (hO1.zu rfl)
  obtain ⟨n, hn⟩ : ∃ n : Nat, fy + n = 32 := ⟨(32 - fy).toNat, by omega⟩
  exact loop n fy _ hn hf.1 hA zO.rf
set_option maxRecDepth 100000 in
set_option maxHeartbeats 4000000 in
theorem c_strips0 {l : Launch} {D : va_G} {N0 : Nat} {a o : Nat} {fy : Int} {μ : zM} (hA : isSt D μ a fy) (hF : isF D μ o zF) (hne : o ≠ a + 1) : zMet l yX5_countStrips cX5_countStrips 3 (some .int) ({ frames := 3, cells := 0, slots := 0, locals := 120 } : Room) D N0 [.ref a, .ref o] μ (zQI D N0 (fun z u => z = 0 ∧ isSt D u a 32 ∧ zO (fun q => q = a) μ u)) := by
  refine zMet_of rfl (Nat.le_of_ble_eq_true rfl) (fun X C Rm hin E => ?_)
  refine z_aload_n C dX5_countStrips_0 rfl ?_
  refine z_aload_n C dX5_countStrips_1 rfl ?_
  refine z_cv C (z_rV C Rm qv_X5_begin m_462 (c_sbegin hA hF hne) hA.1 rfl dX5_countStrips_2 rfl rfl (Nat.le_of_ble_eq_true rfl) rfl ⟨Nat.le_of_ble_eq_true rfl, Nat.le_of_ble_eq_true rfl, Nat.le_of_ble_eq_true rfl, Nat.le_of_ble_eq_true rfl⟩) (fun μ1 hp => ?_)
  obtain ⟨h1, h2⟩ := hp
  refine z_iconst C dX5_countStrips_5 ?_
  refine z_istore_n (L' := [_, _, _]) C dX5_countStrips_6 rfl ?_
  refine z_iload_n C dX5_countStrips_7 rfl ?_
  refine z_sipush C dX5_countStrips_8 ?_
  refine z_icmp_ge (tgt := 27) C dX5_countStrips_11 (by decide) (fun hno => absurd hno (by omega)) (fun _ => ?_)
  refine z_aload_n C dX5_countStrips_14 rfl ?_
  refine z_ci C (z_rV C Rm qv_X5_next m_468 (c_snext h1 (by omega)) h1.1 rfl dX5_countStrips_15 rfl rfl (Nat.le_of_ble_eq_true rfl) rfl ⟨Nat.le_of_ble_eq_true rfl, Nat.le_of_ble_eq_true rfl, Nat.le_of_ble_eq_true rfl, Nat.le_of_ble_eq_true rfl⟩) (fun z μ2 hp => ?_)
  obtain ⟨rfl, h3, h4⟩ := hp
  refine z_if_eq (tgt := 27) C dX5_countStrips_18 (by decide) (fun _ => ?_) (fun hno => absurd hno (by omega))
  refine z_iload_n C dX5_countStrips_27 rfl ?_
  exact z_iret C E dX5_countStrips_28 (Nat.le_of_ble_eq_true rfl) (Nat.le_of_ble_eq_true rfl) ⟨rfl, h3, h2.tr h4⟩
end
section
/-! ScrimshawKernel on a new object -/
theorem zl_i2l {x : Int} (h : -2147483648 ≤ x ∧ x < 2147483648 := by omega) : (Int32.ofInt x).toInt64 = Int64.ofInt x := by
  apply Int64.toInt_inj.mp
  rw [Int32.toInt_toInt64, zI h, Int64.toInt_ofInt_of_le (by omega) (by omega)]
theorem zl_l2i {x : Int} (h : -2147483648 ≤ x ∧ x < 2147483648 := by omega) : (Int64.ofInt x).toInt32.toInt = x := by
  rw [Int64.toInt32_ofInt, zI h]
theorem zl_add (a b : Int) : Int64.ofInt a + Int64.ofInt b = Int64.ofInt (a + b) := (Int64.ofInt_add _ _).symm
theorem zl_sub (a b : Int) : Int64.ofInt a - Int64.ofInt b = Int64.ofInt (a - b) := (Int64.ofInt_sub _ _).symm
theorem zl_lt {a b : Int} (ha : -9223372036854775808 ≤ a ∧ a < 9223372036854775808) (hb : -9223372036854775808 ≤ b ∧ b < 9223372036854775808) : Int64.ofInt a < Int64.ofInt b ↔ a < b := by
  rw [Int64.lt_iff_toInt_lt, Int64.toInt_ofInt_of_le (by omega) (by omega), Int64.toInt_ofInt_of_le (by omega) (by omega)]
theorem zcl_lt {a b : Int} (ha : -9223372036854775808 ≤ a ∧ a < 9223372036854775808 := by omega) (hb : -9223372036854775808 ≤ b ∧ b < 9223372036854775808 := by omega) : zcmp (Int64.ofInt a) (Int64.ofInt b) < 0 ↔ a < b := (zcmp_lt _ _).trans (zl_lt ha hb)
theorem zcl_gt {a b : Int} (ha : -9223372036854775808 ≤ a ∧ a < 9223372036854775808 := by omega) (hb : -9223372036854775808 ≤ b ∧ b < 9223372036854775808 := by omega) : 0 < zcmp (Int64.ofInt a) (Int64.ofInt b) ↔ b < a := (zcmp_gt _ _).trans (zl_lt hb ha)
theorem cntF_z : cntF zF 64 = 0 := by decide +kernel
abbrev zir (x : Int) : Prop := -2147483648 ≤ x ∧ x < 2147483648
def isKe (D : va_G) (μ : zM) (K : Nat) : Prop := μ K = some (.inr (6, [.ref (K + 1), .ref (K + 2), .ref (K + 4), .ref (K + 8), .ref (K + 35), .ref (K + 40), .ref (K + 47)])) ∧ μ (K + 1) = some (zAF D 8 (fun k => some (K + 50 + 2 * k))) ∧ (∀ k, k < 8 → isF D μ (K + 50 + 2 * k) zF) ∧ isF D μ (K + 2) zF ∧ isPen D μ (K + 4) 1 0 0 0 0 (zw zIz 0 0) (zw zIz 0 0) zIz ∧ isHi D μ (K + 8) 0 0 zIz ∧ isF D μ (K + 8 + 5) zF ∧ isFl D μ (K + 35) zF zF 0 0 ∧ isOu D μ (K + 40) 0 0 ∧ isSt D μ (K + 47) 0
section KE
variable {D : va_G} {μ : zM} {K : Nat}
theorem isKe.obj (h : isKe D μ K) : μ K = some (.inr (6, [.ref (K + 1), .ref (K + 2), .ref (K + 4), .ref (K + 8), .ref (K + 35), .ref (K + 40), .ref (K + 47)])) := h.1
theorem isKe.regs (h : isKe D μ K) : μ (K + 1) = some (zAF D 8 (fun k => some (K + 50 + 2 * k))) := h.2.1
theorem isKe.reg (h : isKe D μ K) {k : Nat} (hk : k < 8) : isF D μ (K + 50 + 2 * k) zF := h.2.2.1 k hk
theorem isKe.spare (h : isKe D μ K) : isF D μ (K + 2) zF := h.2.2.2.1
theorem isKe.pen (h : isKe D μ K) : isPen D μ (K + 4) 1 0 0 0 0 (zw zIz 0 0) (zw zIz 0 0) zIz := h.2.2.2.2.1
theorem isKe.his (h : isKe D μ K) : isHi D μ (K + 8) 0 0 zIz := h.2.2.2.2.2.1
theorem isKe.kept (h : isKe D μ K) : isF D μ (K + 8 + 5) zF := h.2.2.2.2.2.2.1
theorem isKe.fl (h : isKe D μ K) : isFl D μ (K + 35) zF zF 0 0 := h.2.2.2.2.2.2.2.1
theorem isKe.ou (h : isKe D μ K) : isOu D μ (K + 40) 0 0 := h.2.2.2.2.2.2.2.2.1
theorem isKe.st (h : isKe D μ K) : isSt D μ (K + 47) 0 := h.2.2.2.2.2.2.2.2.2
end KE
abbrev zKO (K : Nat) (μ u : zM) : Prop := zO (zb K 66) μ u
theorem zO.eq {P : Nat → Prop} {μ u : zM} (h : u = μ) : zO P μ u := h ▸ zO.rf
def zReg (K : Nat) (r : Int) : Nat := K + 50 + 2 * r.toNat
theorem isKe.at {D : va_G} {μ : zM} {K : Nat} (h : isKe D μ K) {r : Int} (hr : 0 ≤ r ∧ r < 8) : isF D μ (zReg K r) zF := h.reg (by omega)
theorem zReg_b {K : Nat} {r : Int} (hr : 0 ≤ r ∧ r < 8) : K + 50 ≤ zReg K r ∧ zReg K r + 1 < K + 66 := by unfold zReg; omega
/-- the place lies ahead of the regions of the object -/
theorem zkeep {K : Nat} {μ u : zM} {P : Nat → Prop} (h : zO P μ u) (hP : ∀ q, P q → K ≤ q ∧ q < K + 50) : zKO K μ u := h.mo (fun q hq => by have := hP q hq; unfold zb; omega)
end
section
theorem isKe.hist {D : va_G} {μ u : zM} {K : Nat} (h : isKe D μ K) (hO : zO (fun q => q = K + 8 ∨ q = K + 8 + 2) μ u) : u K = some (.inr (6, [.ref (K + 1), .ref (K + 2), .ref (K + 4), .ref (K + 8), .ref (K + 35), .ref (K + 40), .ref (K + 47)])) ∧ (∀ r, 0 ≤ r ∧ r < 8 → isF D u (zReg K r) zF) ∧ isF D u (K + 2) zF ∧ isPen D u (K + 4) 1 0 0 0 0 (zw zIz 0 0) (zw zIz 0 0) zIz ∧ isFl D u (K + 35) zF zF 0 0 ∧ zKO K μ u :=
  ⟨hO.at (by omega) h.obj, fun r hr => (h.at hr).o hO (by have := zReg_b (K := K) hr; omega) (by have := zReg_b (K := K) hr; omega), h.spare.o hO (by omega) (by omega), h.pen.o hO (fun q h1 h2 => by omega), h.fl.o hO (fun q h1 h2 => by omega), zkeep hO (fun q hq => by omega)⟩
-- ---- a rectangle
def zRect (y : Int) (k : Nat) (m : Int64) : Nat → Int64 := fun i => if y + 32 ≤ (i : Int) ∧ (i : Int) < y + 32 + k then m else 0
theorem zRect_0 {y : Int} {m : Int64} : zRect y 0 m = zF := by
  funext i
  unfold zRect
  rw [if_neg (by omega)]
  rfl
theorem zRect_s {y : Int} {k : Nat} {m : Int64} {i : Nat} (h : y + k + 32 = (i : Int)) : zw (zRect y k m) i m = zRect y (k + 1) m := by
  funext j
  unfold zw
  by_cases hj : j = i
  · subst hj
    rw [if_pos rfl]
    unfold zRect
    rw [if_pos (by omega)]
  · rw [if_neg hj]
    unfold zRect
    by_cases h1 : y + 32 ≤ (j : Int) ∧ (j : Int) < y + 32 + k
    · rw [if_pos h1, if_pos (by omega)]
    · rw [if_neg h1, if_neg (by omega)]
theorem zRect_r {y : Int} {k : Nat} {m : Int64} (h : -32 ≤ y ∧ y + k ≤ 31) : rowv (zRect y k m) (y + k) = 0 := by
  unfold rowv
  rw [if_pos (by omega)]
  unfold zRect
  rw [if_neg (by omega)]
theorem zRect_cnt {y : Int} {k : Nat} {m : Int64} (hy : -32 ≤ y) : ∀ n : Nat, cntF (zRect y k m) n = (if (n : Int) ≤ y + 32 then 0 else if (n : Int) ≤ y + 32 + k then (n - (y + 32)) * zbc m else (k : Int) * zbc m)
  | 0 => by
    rw [if_pos (by omega)]
    rfl
  | n + 1 => by
    show cntF (zRect y k m) n + zbc (zRect y k m n) = _
    rw [zRect_cnt hy n]
    unfold zRect
    have z0 : zbc 0 = 0 := by decide +kernel
    by_cases a1 : y + 32 ≤ (n : Int) ∧ (n : Int) < y + 32 + k
    · rw [if_pos a1]
      by_cases a2 : (n : Int) = y + 32
      · rw [if_pos (by omega), if_neg (by omega), if_pos (by omega), show ((n + 1 : Nat) : Int) - (y + 32) = 1 by omega]
        omega
      · rw [if_neg (by omega), if_pos (by omega), if_neg (by omega), if_pos (by omega), show ((n + 1 : Nat) : Int) - (y + 32) = (n - (y + 32)) + 1 by omega, Int.add_mul, Int.one_mul]
    · rw [if_neg a1, z0, Int.add_zero]
      by_cases a2 : (n : Int) < y + 32
      · rw [if_pos (by omega), if_pos (by omega)]
      · by_cases a3 : k = 0
        · subst a3
          by_cases a4 : (n : Int) = y + 32
          · rw [if_pos (by omega), if_neg (by omega), if_neg (by omega)]
            simp
          · rw [if_neg (by omega), if_neg (by omega), if_neg (by omega), if_neg (by omega)]
        · by_cases a4 : (n : Int) = y + 32 + k
          · rw [if_neg (by omega), if_pos (by omega), if_neg (by omega), if_neg (by omega), show (n : Int) - (y + 32) = k by omega]
          · rw [if_neg (by omega), if_neg (by omega), if_neg (by omega), if_neg (by omega)]
def zMask (w s : Nat) : Int64 := zshl (zushr (-1) (64 - (w : Int))) (s : Int)
set_option maxRecDepth 100000 in
theorem zMask_all : ∀ w : Fin 65, ∀ s : Fin 64, 1 ≤ w.1 → w.1 + s.1 ≤ 64 → zbc (zMask w.1 s.1) = (w.1 : Int) := by decide +kernel
theorem zMask_bc {w x : Int} (hw : 1 ≤ w ∧ w ≤ 64) (hx : -32 ≤ x) (h : x + w - 1 ≤ 31) : zbc (zshl (zushr (-1) (64 - w)) (x - -32)) = w := by
  have h1 := zMask_all ⟨w.toNat, by omega⟩ ⟨(x + 32).toNat, by omega⟩ (by show 1 ≤ w.toNat; omega) (by show w.toNat + (x + 32).toNat ≤ 64; omega)
  unfold zMask at h1
  simp only at h1
  rw [show ((w.toNat : Nat) : Int) = w by omega, show (((x + 32).toNat : Nat) : Int) = x - -32 by omega] at h1
  exact h1
end
section
theorem zRect_full {y : Int} {k : Nat} {m : Int64} (hy : -32 ≤ y) (hk : 1 ≤ k) (h : y + k - 1 ≤ 31) : cntF (zRect y k m) 64 = (k : Int) * zbc m := by
  rw [zRect_cnt hy, if_neg (by omega)]
  by_cases a : ((64 : Nat) : Int) ≤ y + 32 + k
  · rw [if_pos a, show ((64 : Nat) : Int) - (y + 32) = k by omega]
  · rw [if_neg a]
theorem zKO_set {D : va_G} {μ ν : zM} {K : Nat} {r : Int} {f : Nat → Int64} (h : zKO K μ ν) (hr : 0 ≤ r ∧ r < 8) : zKO K μ (setF D ν (zReg K r) f) := zO.zu h (by have := zReg_b (K := K) hr; unfold zb; omega)
end
section
-- ---- changes
/-- on a region that is empty all the same -/
abbrev zXR (K : Nat) (μ : zM) (r : Int) (P : Prop) (En : String) (u : zM) : Prop := (En = eIOB ∧ ¬ (0 ≤ r ∧ r < 8) ∨ En = eIAE ∧ (0 ≤ r ∧ r < 8) ∧ ¬ P) ∧ zKO K μ u
end
section
-- ---- asking
set_option maxRecDepth 100000 in
set_option maxHeartbeats 4000000 in
theorem k_boundOf0 {l : Launch} {D : va_G} {N0 : Nat} {o : Nat} {s : Int} {μ : zM} (hF : isF D μ o zF) (hs : 0 ≤ s ∧ s ≤ 3) : zMet l yX6_boundOf cX6_boundOf 2 (some .int) ({ frames := 3, cells := 0, slots := 0, locals := 120 } : Room) D N0 [.ref o, zi s] μ (zQI D N0 (fun z u => z = 0 ∧ u = μ)) := by
  refine zMet_of rfl (Nat.le_of_ble_eq_true rfl) (fun X C Rm hin E => ?_)
  rcases (by omega : s = 0 ∨ s = 1 ∨ s = 2 ∨ s = 3) with rfl | rfl | rfl | rfl
  · refine z_iload_n C dX6_boundOf_0 rfl ?_
    refine z_tableIn (tgt := 28) C dX6_boundOf_1 (by decide) (by decide) rfl (by decide) ?_
    refine z_aload_n C dX6_boundOf_28 rfl ?_
    refine z_ci C (z_rV C Rm qv_X0_leastX m_371 (c_leastX0 hF) hF.1 rfl dX6_boundOf_29 rfl rfl (Nat.le_of_ble_eq_true rfl) rfl ⟨Nat.le_of_ble_eq_true rfl, Nat.le_of_ble_eq_true rfl, Nat.le_of_ble_eq_true rfl, Nat.le_of_ble_eq_true rfl⟩) (fun z μ1 hp => ?_)
    exact z_iret C E dX6_boundOf_32 (Nat.le_of_ble_eq_true rfl) (Nat.le_of_ble_eq_true rfl) hp
  · refine z_iload_n C dX6_boundOf_0 rfl ?_
    refine z_tableIn (tgt := 33) C dX6_boundOf_1 (by decide) (by decide) rfl (by decide) ?_
    refine z_aload_n C dX6_boundOf_33 rfl ?_
    refine z_ci C (z_rV C Rm qv_X0_leastY m_380 (c_leastY0 hF) hF.1 rfl dX6_boundOf_34 rfl rfl (Nat.le_of_ble_eq_true rfl) rfl ⟨Nat.le_of_ble_eq_true rfl, Nat.le_of_ble_eq_true rfl, Nat.le_of_ble_eq_true rfl, Nat.le_of_ble_eq_true rfl⟩) (fun z μ1 hp => ?_)
    exact z_iret C E dX6_boundOf_37 (Nat.le_of_ble_eq_true rfl) (Nat.le_of_ble_eq_true rfl) hp
  · refine z_iload_n C dX6_boundOf_0 rfl ?_
    refine z_tableIn (tgt := 38) C dX6_boundOf_1 (by decide) (by decide) rfl (by decide) ?_
    refine z_aload_n C dX6_boundOf_38 rfl ?_
    refine z_ci C (z_rV C Rm qv_X0_greatestX m_384 (c_greatestX0 hF) hF.1 rfl dX6_boundOf_39 rfl rfl (Nat.le_of_ble_eq_true rfl) rfl ⟨Nat.le_of_ble_eq_true rfl, Nat.le_of_ble_eq_true rfl, Nat.le_of_ble_eq_true rfl, Nat.le_of_ble_eq_true rfl⟩) (fun z μ1 hp => ?_)
    exact z_iret C E dX6_boundOf_42 (Nat.le_of_ble_eq_true rfl) (Nat.le_of_ble_eq_true rfl) hp
  · refine z_iload_n C dX6_boundOf_0 rfl ?_
    refine z_tableOut (tgt := 43) C dX6_boundOf_1 (by omega) (by decide) ?_
    refine z_aload_n C dX6_boundOf_43 rfl ?_
    refine z_ci C (z_rV C Rm qv_X0_greatestY m_389 (c_greatestY0 hF) hF.1 rfl dX6_boundOf_44 rfl rfl (Nat.le_of_ble_eq_true rfl) rfl ⟨Nat.le_of_ble_eq_true rfl, Nat.le_of_ble_eq_true rfl, Nat.le_of_ble_eq_true rfl, Nat.le_of_ble_eq_true rfl⟩) (fun z μ1 hp => ?_)
    exact z_iret C E dX6_boundOf_47 (Nat.le_of_ble_eq_true rfl) (Nat.le_of_ble_eq_true rfl) hp
end
section
-- ---- the digest
def zmix (d v : Int64) : Int64 := d * 31 + v
def zmz (d : Int64) : Int64 := zmix d (Int32.ofInt 0).toInt64
def zmz10 (d : Int64) : Int64 := zmz (zmz (zmz (zmz (zmz (zmz (zmz (zmz (zmz (zmz d)))))))))
def zdg : Nat → Int64
  | 0 => zmix 2543 (Int32.ofInt 1).toInt64
  | n + 1 => zmz10 (zdg n)
abbrev zKobj (K : Nat) : Option va_E := some (.inr (6, [.ref (K + 1), .ref (K + 2), .ref (K + 4), .ref (K + 8), .ref (K + 35), .ref (K + 40), .ref (K + 47)]))
set_option maxRecDepth 100000 in
set_option maxHeartbeats 4000000 in
theorem k_mixed {l : Launch} {D : va_G} {N0 : Nat} {μ : zM} {d v : Int64} : zMet l yX6_mixed cX6_mixed 4 (some .long) ({ frames := 0, cells := 0, slots := 0, locals := 0 } : Room) D N0 [.long d, .long v] μ (zQL D N0 (fun z u => z = zmix d v ∧ u = μ)) := by
  refine zMet_of rfl (Nat.le_of_ble_eq_true rfl) (fun X C Rm hin E => ?_)
  refine z_lload_n C dX6_mixed_0 rfl ?_
  refine z_ldc2 C m_289 dX6_mixed_1 ?_
  refine z_lmul C dX6_mixed_4 ?_
  refine z_lload_n C dX6_mixed_5 rfl ?_
  refine z_ladd C dX6_mixed_6 ?_
  exact z_lret C E dX6_mixed_7 (Nat.le_of_ble_eq_true rfl) (Nat.le_of_ble_eq_true rfl) ⟨rfl, rfl⟩
theorem k_mixz {l : Launch} {D : va_G} {N0 : Nat} {μ : zM} {d : Int64} : zMet l yX6_mixed cX6_mixed 4 (some .long) ({ frames := 0, cells := 0, slots := 0, locals := 0 } : Room) D N0 [.long d, .long (Int32.ofInt 0).toInt64] μ (zQL D N0 (fun z u => z = zmz d ∧ u = μ)) := k_mixed
set_option maxRecDepth 100000 in
set_option maxHeartbeats 4000000 in
theorem k_dCont {l : Launch} {D : va_G} {N0 : Nat} {K o : Nat} {d : Int64} {fy wt : Int} {μ : zM} (hob : μ K = zKobj K) (hA : isOu D μ (K + 40) fy wt) (hF : isF D μ o zF) (hne : o ≠ K + 40 + 1) : zMet l yX6_digestOfContours cX6_digestOfContours 7 (some .long) ({ frames := 3, cells := 0, slots := 0, locals := 120 } : Room) D N0 [.ref K, .long d, .ref o] μ (zQL D N0 (fun z u => z = d ∧ isOu D u (K + 40) 32 0 ∧ zO (fun q => q = K + 40) μ u)) := by
  refine zMet_of rfl (Nat.le_of_ble_eq_true rfl) (fun X C Rm hin E => ?_)
  refine z_lload_n C dX6_digestOfContours_0 rfl ?_
  refine z_lstore (L' := [_, _, _, _, _, _, _]) C dX6_digestOfContours_1 rfl ?_
  refine z_aload_n C dX6_digestOfContours_3 rfl ?_
  refine z_get C hob rfl 5 (by decide) m_228 inz6 rfl rfl dX6_digestOfContours_4 ?_
  refine z_aload_n C dX6_digestOfContours_7 rfl ?_
  refine z_cv C (z_rV C Rm qv_X3_begin m_440 (c_obegin hA hF hne) hA.1 rfl dX6_digestOfContours_8 rfl rfl (Nat.le_of_ble_eq_true rfl) rfl ⟨Nat.le_of_ble_eq_true rfl, Nat.le_of_ble_eq_true rfl, Nat.le_of_ble_eq_true rfl, Nat.le_of_ble_eq_true rfl⟩) (fun μ1 hp => ?_)
  have hob1 := hp.2.at (by omega) hob
  refine z_iconst C dX6_digestOfContours_11 ?_
  refine z_istore (L' := [_, _, _, _, _, _, _]) C dX6_digestOfContours_12 rfl ?_
  refine z_iload C dX6_digestOfContours_14 rfl ?_
  refine z_sipush C dX6_digestOfContours_16 ?_
  refine z_icmp_ge (tgt := 99) C dX6_digestOfContours_19 (by decide) (fun hno => absurd hno (by omega)) (fun _ => ?_)
  refine z_aload_n C dX6_digestOfContours_22 rfl ?_
  refine z_get C hob1 rfl 5 (by decide) m_228 inz6 rfl rfl dX6_digestOfContours_23 ?_
  refine z_iconst C dX6_digestOfContours_26 ?_
  refine z_ci C (z_rV C Rm qv_X3_next m_441 (c_onext hp.1 (c := 0) (by omega) (by omega)) hp.1.1 rfl dX6_digestOfContours_27 rfl rfl (Nat.le_of_ble_eq_true rfl) rfl ⟨Nat.le_of_ble_eq_true rfl, Nat.le_of_ble_eq_true rfl, Nat.le_of_ble_eq_true rfl, Nat.le_of_ble_eq_true rfl⟩) (fun z μ2 hq => ?_)
  obtain ⟨rfl, hq, hO⟩ := hq
  refine z_if_eq (tgt := 99) C dX6_digestOfContours_30 (by decide) (fun _ => ?_) (fun hno => absurd hno (by omega))
  refine z_lload C dX6_digestOfContours_99 rfl ?_
  exact z_lret C E dX6_digestOfContours_101 (Nat.le_of_ble_eq_true rfl) (Nat.le_of_ble_eq_true rfl) ⟨rfl, hq, hp.2.tr hO⟩
set_option maxRecDepth 100000 in
set_option maxHeartbeats 4000000 in
theorem k_dStr {l : Launch} {D : va_G} {N0 : Nat} {K o : Nat} {d : Int64} {fy : Int} {μ : zM} (hob : μ K = zKobj K) (hA : isSt D μ (K + 47) fy) (hF : isF D μ o zF) (hne : o ≠ K + 47 + 1) : zMet l yX6_digestOfStrips cX6_digestOfStrips 8 (some .long) ({ frames := 3, cells := 0, slots := 0, locals := 120 } : Room) D N0 [.ref K, .long d, .ref o] μ (zQL D N0 (fun z u => z = d ∧ isSt D u (K + 47) 32 ∧ zO (fun q => q = K + 47) μ u)) := by
  refine zMet_of rfl (Nat.le_of_ble_eq_true rfl) (fun X C Rm hin E => ?_)
  refine z_lload_n C dX6_digestOfStrips_0 rfl ?_
  refine z_lstore (L' := [_, _, _, _, _, _, _, _]) C dX6_digestOfStrips_1 rfl ?_
  refine z_aload_n C dX6_digestOfStrips_3 rfl ?_
  refine z_get C hob rfl 6 (by decide) m_229 inz6 rfl rfl dX6_digestOfStrips_4 ?_
  refine z_aload_n C dX6_digestOfStrips_7 rfl ?_
  refine z_cv C (z_rV C Rm qv_X5_begin m_490 (c_sbegin hA hF hne) hA.1 rfl dX6_digestOfStrips_8 rfl rfl (Nat.le_of_ble_eq_true rfl) rfl ⟨Nat.le_of_ble_eq_true rfl, Nat.le_of_ble_eq_true rfl, Nat.le_of_ble_eq_true rfl, Nat.le_of_ble_eq_true rfl⟩) (fun μ1 hp => ?_)
  have hob1 := hp.2.at (by omega) hob
  refine z_iconst C dX6_digestOfStrips_11 ?_
  refine z_istore (L' := [_, _, _, _, _, _, _, _]) C dX6_digestOfStrips_12 rfl ?_
  refine z_iload C dX6_digestOfStrips_14 rfl ?_
  refine z_sipush C dX6_digestOfStrips_16 ?_
  refine z_icmp_ge (tgt := 70) C dX6_digestOfStrips_19 (by decide) (fun hno => absurd hno (by omega)) (fun _ => ?_)
  refine z_aload_n C dX6_digestOfStrips_22 rfl ?_
  refine z_get C hob1 rfl 6 (by decide) m_229 inz6 rfl rfl dX6_digestOfStrips_23 ?_
  refine z_ci C (z_rV C Rm qv_X5_next m_491 (c_snext hp.1 (by omega)) hp.1.1 rfl dX6_digestOfStrips_26 rfl rfl (Nat.le_of_ble_eq_true rfl) rfl ⟨Nat.le_of_ble_eq_true rfl, Nat.le_of_ble_eq_true rfl, Nat.le_of_ble_eq_true rfl, Nat.le_of_ble_eq_true rfl⟩) (fun z μ2 hq => ?_)
  obtain ⟨rfl, hq, hO⟩ := hq
  refine z_if_eq (tgt := 70) C dX6_digestOfStrips_29 (by decide) (fun _ => ?_) (fun hno => absurd hno (by omega))
  refine z_lload C dX6_digestOfStrips_70 rfl ?_
  exact z_lret C E dX6_digestOfStrips_72 (Nat.le_of_ble_eq_true rfl) (Nat.le_of_ble_eq_true rfl) ⟨rfl, hq, hp.2.tr hO⟩
end
section
/-- System.arraycopy of booleans, both from 0 on -/
theorem z_copyZ {X : zX} {l : Launch} {D : va_G} {N0 : Nat} {cc : ByteArray} {nL : Nat} {own : String} {μ : zM} {kc kn pc : Nat} {L : List (Option Value)} {st : List Value} {rk rn rf rw index : Nat} (C : zC X l D N0 cc nL own zWS) (Rm : zR X rk rn rf rw) (w1 : Cond.methodLink own index arraycopyName ∈ zWS) (w2 : Cond.native arraycopyName ∈ zWS) (w3 : Cond.static arraycopyName ∈ zWS) (w4 : Cond.initialized "java/lang/System" ∈ zWS) {a0 a n0 n1 n : Nat} {f g : Nat → Int} (hm0 : μ a0 = some (zAZ D n0 f)) (hm1 : μ a = some (zAZ D n1 g)) (hn : n ≤ n0 ∧ n ≤ n1 ∧ n0 < 100000 ∧ n1 < 100000) (hv : ∀ i, f i = 0 ∨ f i = 1) (d : decode cc pc = .ok (.invokestatic index, 3)) (hLn : L.length = nL) (hroom : 1 ≤ rf ∧ (st.map fun v => v.category).sum + (nativeFrameWords "java/lang/System" "arraycopy" 5 + 11) ≤ rw) (k : Z X (zu μ a (zAZ D n1 (fun j => if j < n then f j else g j))) kc kn (pc + 3) L st) : Z X μ kc kn pc L (zi (n : Int) :: zi 0 :: .ref a :: zi 0 :: .ref a0 :: st) := by
  obtain ⟨p, l', e, R, s, m, args, below, meth, c, D', N', Q⟩ := X
  obtain ⟨rfl, rfl, rfl, hx, hb, hml, hown, hts, hlk, hB⟩ := C
  obtain ⟨r1, r2, r3, r4⟩ := Rm
  intro H locs cells slots ls hH hS hc1 hs1 hl T hT Xs
  have hc0 := (hH a0 _ hm0).1
  have hc9 := (hH a _ hm1).1
  have hN := (hH a _ hm1).2
  have hn2 : (Int32.ofInt (n : Int)).toNatClampNeg = n := by rw [zI_nc (by omega)]; omega
  have hz2 : (Int32.ofInt 0).toNatClampNeg = 0 := by decide
  have hn3 : (Int32.ofInt (n : Int)).toInt = (n : Int) := zI (by omega)
  have hz3 : (Int32.ofInt 0).toInt = 0 := by decide
  obtain ⟨-, k0, hk0, cm0, hkk0⟩ := (hB.1.2 2 _ rfl).1 n0 (fun j => .int (Int32.ofInt (f j)))
  obtain ⟨-, k1, hk1, cm1, hkk1⟩ := (hB.1.2 2 _ rfl).1 n1 (fun j => .int (Int32.ofInt (g j)))
  obtain ⟨vm', X', step⟩ := Xs.arraycopy hx hown (hts _ w1) (hts _ w2) (hts _ w3) (hts _ w4) (src := a0) (dst := a) (cs := arrV (D'.1 102) n0 (fun j => .int (Int32.ofInt (f j)))) (cd := arrV (D'.1 102) n1 (fun j => .int (Int32.ofInt (g j)))) (srcPos := Int32.ofInt 0) (destPos := Int32.ofInt 0) (n := Int32.ofInt (n : Int)) (by rw [hT]; exact hc0) (by rw [hT]; exact hc9)
    (fun _ h => by cases h) (fun _ h => by cases h) (fun h => by cases h) (fun h => by cases h) hk0 hk1 hkk0 hkk1 rfl (by decide) (by decide) (by rw [zI_0, zI_lt (by omega) (by omega)]; omega)
    (by rw [hn3, hz3, arrV_size]; omega)
    (by rw [hn3, hz3, arrV_size]; omega)
    (fun vm₁ _ i hi => by
      rw [hn2] at hi
      have e : (arrV (D'.1 102) n0 (fun j => .int (Int32.ofInt (f j)))).slots.getD ((Int32.ofInt 0).toNatClampNeg + i) .null = .int (Int32.ofInt (f i)) := by
        rw [hz2, Nat.zero_add, Array.getD_eq_getD_getElem?, arrV_read _ _ (by omega)]
        rfl
      refine ⟨?_, ?_⟩
      · rw [e]
        rcases hv i with q | q
        · rw [q]
          exact (by decide : fits .boolean (.int (Int32.ofInt 0)) = true)
        · rw [q]
          exact (by decide : fits .boolean (.int (Int32.ofInt 1)) = true)
      · rw [e]
        exact trivial)
    (g := F0 m pc ls (zi (n : Int) :: zi 0 :: .ref a :: zi 0 :: .ref a0 :: st)) rfl (by show ls.size = c.maxLocals; rw [hml, ← hLn]; exact hl.1) (rest := st) rfl (by rw [hb]; exact d) (Nat.le_trans hroom.1 r3) (by show 2 * 0 + _ + _ ≤ _; have := Nat.le_trans hroom.2 r4; omega)
  have e1 : copied (arrV (D'.1 102) n0 (fun j => .int (Int32.ofInt (f j)))) (arrV (D'.1 102) n1 (fun j => .int (Int32.ofInt (g j)))) (Int32.ofInt 0) (Int32.ofInt 0) (Int32.ofInt (n : Int)) = arrV (D'.1 102) n1 (fun j => .int (Int32.ofInt (if j < n then f j else g j))) := by
    have h9 := va_copied (fun z => Value.int z) (D'.1 102) (D'.1 102) (n1 := n1) (dp := 0) (fun j => Int32.ofInt (f j)) (fun j => Int32.ofInt (g j)) (show 0 + n ≤ n0 by omega)
    unfold copied
    rw [hn2, hz2]
    refine h9.trans ?_
    congr 1
    funext j
    unfold va_cpy
    by_cases hj : j < n
    · rw [if_pos (by omega), if_pos hj]
      simp
    · rw [if_neg (by omega), if_neg hj]
  rw [e1] at X' step
  have hlt : a < H.size := (Array.getElem?_eq_some_iff.mp hc9).1
  have oq : ∀ q : Nat, q ≠ a → (H.setIfInBounds a (arrV (D'.1 102) n1 (fun j => .int (Int32.ofInt (if j < n then f j else g j)))))[q]? = H[q]? := fun q hq => by simp [Array.getElem?_setIfInBounds, Ne.symm hq]
  have hheap : ((T.setVm vm').setCell a (arrV (D'.1 102) n1 (fun j => .int (Int32.ofInt (if j < n then f j else g j))))).heap = H.setIfInBounds a (arrV (D'.1 102) n1 (fun j => .int (Int32.ofInt (if j < n then f j else g j)))) := by rw [← hT]; rfl
  obtain ⟨t, a1, b1⟩ := k _ _ cells slots ls (hH.seta (show (H.setIfInBounds a _)[a]? = some (vp_cell _ _) by rw [vp_cell_i]; simp [Array.getElem?_setIfInBounds, hlt]) hN oq) ⟨by simp; exact hS.1, fun q g1 g2 => by
      rw [oq q (fun e => g2 (by rw [e]; exact hN))]
      exact hS.2.1 q g1 g2, fun q hq => by
      rcases List.mem_append.mp hq with h | h
      · exact hS.2.2 q h
      · obtain ⟨z, -, hz⟩ := List.mem_map.mp h
        rw [← hz]
        exact hN⟩ hc1 hs1 hl _ hheap X'
  exact ⟨t, step t a1, b1⟩
end
section
/-! stores of references; memory at a place that was free -/
theorem z_fast {X : zX} {l : Launch} {D : va_G} {N0 : Nat} {cc : ByteArray} {nL : Nat} {own : String} {Ts : List Cond} {μ : zM} {kc kn pc : Nat} {L : List (Option Value)} {st : List Value} (C : zC X l D N0 cc nL own Ts) {a n v : Nat} {f : Nat → Option Nat} {fs : List Value} {i : Int} (hm : μ a = some (zAF D n f)) (hv : μ v = some (.inr (0, fs))) (hn : n < 2147483648) (d : decode cc pc = .ok (.aastore, 1)) (k : Z X (zu μ a (zAF D n (zw f i.toNat (some v)))) kc kn (pc + 1) L st) (hi : 0 ≤ i ∧ i < n := by omega) : Z X μ kc kn pc L (.ref v :: zi i :: .ref a :: st) := by
  obtain ⟨p, l', e, R, s, m, args, below, meth, c, D', N', Q⟩ := X
  obtain ⟨rfl, rfl, rfl, hx, hb, hml, hown, hts, hlk, hB⟩ := C
  intro H locs cells slots ls hH hS hc1 hs1 hl
  have hlt : (Int32.ofInt i).toNatClampNeg < n := by rw [zI_nc (a := i) (by omega)]; omega
  obtain ⟨⟨r', hr', cellV, g1, g2, g3, -⟩, -⟩ := hH v _ hv
  have hcls := (hB.1.1 0 _ rfl).2
  obtain ⟨kA, comp, k1, k2, k3, -⟩ := (hB.1.2 4 _ rfl).2
  have hcomp : comp = D'.1 0 := Option.some.inj (k3.symm.trans hcls.1)
  subst hcomp
  obtain ⟨kC, hkC, -⟩ := hcls.2
  refine W.aast hx hb (hH a _ hm).1 (fun q h => by cases h) (fun h => by cases h) k1 k2 rfl hkC ⟨fun q => zI_in hi hn (Or.inl q), by show _ < (arrV _ _ _).slots.size; rw [arrV_size]; exact hlt⟩ g1 (fun q h => by rw [g3] at h; cases h) (by rw [g2]; exact hkC) (by rw [g2]; exact va_asg _ _) rfl rfl d fun H1 e z oq => ?_
  refine k H1 _ cells slots ls (hH.seta ?_ (hH a _ hm).2 oq) (hS.put z oq (hH a _ hm).2) hc1 hs1 hl
  show H1[a]? = some (vp_cell _ _)
  rw [e, vp_cell_q, vp_cell_q, arrV_store, zI_nc (by omega)]
  congr 2
  funext q
  by_cases hq : q = i.toNat
  · subst hq
    simp [updV, zw, va_rf]
  · simp [updV, zw, hq]
theorem z_bast {X : zX} {l : Launch} {D : va_G} {N0 : Nat} {cc : ByteArray} {nL : Nat} {own : String} {Ts : List Cond} {μ : zM} {kc kn pc : Nat} {L : List (Option Value)} {st : List Value} (C : zC X l D N0 cc nL own Ts) {a n v n2 : Nat} {f : Nat → Option Nat} {g : Nat → Int} {i : Int} (hm : μ a = some (zAB D n f)) (hv : μ v = some (zAZ D n2 g)) (hn : n < 2147483648) (d : decode cc pc = .ok (.aastore, 1)) (k : Z X (zu μ a (zAB D n (zw f i.toNat (some v)))) kc kn (pc + 1) L st) (hi : 0 ≤ i ∧ i < n := by omega) : Z X μ kc kn pc L (.ref v :: zi i :: .ref a :: st) := by
  obtain ⟨p, l', e, R, s, m, args, below, meth, c, D', N', Q⟩ := X
  obtain ⟨rfl, rfl, rfl, hx, hb, hml, hown, hts, hlk, hB⟩ := C
  intro H locs cells slots ls hH hS hc1 hs1 hl
  have hlt : (Int32.ofInt i).toNatClampNeg < n := by rw [zI_nc (a := i) (by omega)]; omega
  have g1 := (hH v _ hv).1
  obtain ⟨comp, cA2, kA, k3, -, k1, k2, k4⟩ := arrayOverA_spec (va_AOA.use (A := args) hB.2.2.2.2.2.2.2.2.1)
  cases ((hB.1.2 5 _ rfl).2 : s.vm.findClass ("[" ++ (FieldType.array .boolean).toString) = some (D'.1 105)).symm.trans k4
  cases k3.symm.trans ((hB.1.2 2 _ rfl).2 : s.vm.findClass (FieldType.array .boolean).toString = some (D'.1 102))
  obtain ⟨kE, hkE, -⟩ := Vm.findClass_spec k3
  refine W.aast hx hb (hH a _ hm).1 (fun q h => by cases h) (fun h => by cases h) k1 k2 rfl hkE ⟨fun q => zI_in hi hn (Or.inl q), by show _ < (arrV _ _ _).slots.size; rw [arrV_size]; exact hlt⟩ g1 (fun q h => by cases h) hkE (va_asg _ _) rfl rfl d fun H1 e z oq => ?_
  refine k H1 _ cells slots ls (hH.seta ?_ (hH a _ hm).2 oq) (hS.put z oq (hH a _ hm).2) hc1 hs1 hl
  show H1[a]? = some (vp_cell _ _)
  rw [e, vp_cell_q, vp_cell_q, arrV_store, zI_nc (by omega)]
  congr 2
  funext q
  by_cases hq : q = i.toNat
  · subst hq
    simp [updV, zw, va_rf]
  · simp [updV, zw, hq]
end
section
/-! the reference on a new object -/
def isMo (D : va_G) (μ : zM) (M : Nat) : Prop := μ M = some (.inr (7, [zi 0, .ref (M + 1), .ref (M + 10), .ref (M + 11), zi 1, zi 0, .ref (M + 12), .ref (M + 13)])) ∧ μ (M + 1) = some (zAB D 8 (fun k => if k < 8 then some (M + 2 + k) else none)) ∧ (∀ k, k < 8 → μ (M + 2 + k) = some (zAZ D 4096 zIz)) ∧ μ (M + 10) = some (zAI D 61 zIz) ∧ μ (M + 11) = some (zAI D 61 zIz) ∧ μ (M + 12) = some (zAI D 13 zIz) ∧ μ (M + 13) = some (zAB D 13 (fun _ => none))
section MO
variable {D : va_G} {μ : zM} {M : Nat}
theorem isMo.obj (h : isMo D μ M) : μ M = some (.inr (7, [zi 0, .ref (M + 1), .ref (M + 10), .ref (M + 11), zi 1, zi 0, .ref (M + 12), .ref (M + 13)])) := h.1
theorem isMo.rows (h : isMo D μ M) : μ (M + 1) = some (zAB D 8 (fun k => if k < 8 then some (M + 2 + k) else none)) := h.2.1
theorem isMo.row (h : isMo D μ M) {r : Int} (hr : 0 ≤ r ∧ r < 8) : μ (M + 2 + r.toNat) = some (zAZ D 4096 zIz) := h.2.2.1 _ (by omega)
theorem isMo.px (h : isMo D μ M) : μ (M + 10) = some (zAI D 61 zIz) := h.2.2.2.1
theorem isMo.py (h : isMo D μ M) : μ (M + 11) = some (zAI D 61 zIz) := h.2.2.2.2.1
theorem isMo.kr (h : isMo D μ M) : μ (M + 12) = some (zAI D 13 zIz) := h.2.2.2.2.2.1
theorem isMo.kf (h : isMo D μ M) : μ (M + 13) = some (zAB D 13 (fun _ => none)) := h.2.2.2.2.2.2
/-- what has been known outside the block of the reference stays -/
def zN (M : Nat) (μ u : zM) : Prop := ∀ (q : Nat) (e : va_E), μ q = some e → ¬ zb M 14 q → u q = some e
theorem zN.rf : zN M μ μ := fun _ _ h _ => h
theorem zN.tr {ν u : zM} (h : zN M μ ν) (h2 : zN M ν u) : zN M μ u := fun q e hq hb => h2 q e (h q e hq hb) hb
theorem zN.put {u : zM} {a : Nat} {x : va_E} (h : zN M μ u) (ha : zb M 14 a) : zN M μ (zu u a x) := fun q e hq hb => (zu_n (fun e9 => hb (by rw [e9]; exact ha))).trans (h q e hq hb)
theorem zN.own {u : zM} {a : Nat} {x : va_E} (h : zN M μ u) (ha : ∀ (b : Nat) (e : va_E), μ b = some e → b < a) : zN M μ (zu u a x) := fun q e hq hb => (zu_n (by have := ha q e hq; omega)).trans (h q e hq hb)
theorem isMo.row_eq {r : Int} (hr : 0 ≤ r ∧ r < 8) : (fun k => if k < 8 then some (M + 2 + k) else none) r.toNat = some (M + 2 + r.toNat) := by
  show (if r.toNat < 8 then _ else _) = _
  rw [if_pos (by omega)]
end MO
/-- what the caller of the reference sees afterwards: the number of what was thrown -/
def zMP (M : Nat) (μ : zM) (t : Int) (u : zM) : Prop := (∃ fs, u M = some (.inr (7, zi t :: fs))) ∧ zN M μ u
theorem zMP.of {M : Nat} {μ u : zM} {t : Int} {fs : List Value} (h : u M = some (.inr (7, zi t :: fs))) (h2 : zN M μ u) : zMP M μ t u := ⟨⟨fs, h⟩, h2⟩
theorem z_same {X : zX} {μ : zM} {kc kn pc a : Nat} {e : va_E} {L : List (Option Value)} {st : List Value} (h : μ a = some e) (k : Z X μ kc kn pc L st) : Z X (zu μ a e) kc kn pc L st := by
  rw [zu_i h]
  exact k
set_option maxRecDepth 100000 in
set_option maxHeartbeats 4000000 in
theorem m_isIn {l : Launch} {D : va_G} {N0 : Nat} {μ : zM} {x a b : Int} (hx : zir x) (ha : zir a) (hb : zir b) : zMet l yX7_isIn cX7_isIn 3 (some .boolean) ({ frames := 0, cells := 0, slots := 0, locals := 0 } : Room) D N0 [zi x, zi a, zi b] μ (zQI D N0 (fun z u => (z = 1 ∧ (a ≤ x ∧ x ≤ b) ∨ z = 0 ∧ ¬ (a ≤ x ∧ x ≤ b)) ∧ u = μ)) := by
  refine zMet_of rfl (Nat.le_of_ble_eq_true rfl) (fun X C Rm hin E => ?_)
  unfold zir at ha hx hb
  refine z_iload_n C dX7_isIn_0 rfl ?_
  refine z_iload_n C dX7_isIn_1 rfl ?_
  refine z_icmp_lt (tgt := 14) C dX7_isIn_2 (by decide) (fun h1 => ?_) (fun h1 => ?_)
  · refine z_iconst C dX7_isIn_14 ?_
    exact z_zret C E (Or.inl rfl) dX7_isIn_15 (Nat.le_of_ble_eq_true rfl) (Nat.le_of_ble_eq_true rfl) ⟨Or.inr ⟨rfl, by omega⟩, rfl⟩
  · refine z_iload_n C dX7_isIn_5 rfl ?_
    refine z_iload_n C dX7_isIn_6 rfl ?_
    refine z_icmp_gt (tgt := 14) C dX7_isIn_7 (by decide) (fun h2 => ?_) (fun h2 => ?_)
    · refine z_iconst C dX7_isIn_14 ?_
      exact z_zret C E (Or.inl rfl) dX7_isIn_15 (Nat.le_of_ble_eq_true rfl) (Nat.le_of_ble_eq_true rfl) ⟨Or.inr ⟨rfl, by omega⟩, rfl⟩
    · refine z_iconst C dX7_isIn_10 ?_
      refine z_goto (tgt := 15) C dX7_isIn_11 (by decide) ?_
      exact z_zret C E (Or.inr rfl) dX7_isIn_15 (Nat.le_of_ble_eq_true rfl) (Nat.le_of_ble_eq_true rfl) ⟨Or.inl ⟨rfl, by omega⟩, rfl⟩
set_option maxRecDepth 100000 in
set_option maxHeartbeats 4000000 in
theorem m_isField {l : Launch} {D : va_G} {N0 : Nat} {μ : zM} {x y : Int} (hx : zir x) (hy : zir y) : zMet l yX7_isField cX7_isField 2 (some .boolean) ({ frames := 1, cells := 0, slots := 0, locals := 40 } : Room) D N0 [zi x, zi y] μ (zQI D N0 (fun z u => (z = 1 ∧ ((-32 ≤ x ∧ x ≤ 31) ∧ -32 ≤ y ∧ y ≤ 31) ∨ z = 0 ∧ ¬ ((-32 ≤ x ∧ x ≤ 31) ∧ -32 ≤ y ∧ y ≤ 31)) ∧ u = μ)) := by
  refine zMet_of rfl (Nat.le_of_ble_eq_true rfl) (fun X C Rm hin E => ?_)
  refine z_iload_n C dX7_isField_0 rfl ?_
  refine z_bipush C dX7_isField_1 ?_
  refine z_bipush C dX7_isField_3 ?_
  refine z_ci C (z_rS C Rm qs_X7_isIn m_1044 (m_isIn hx (by decide) (by decide)) dX7_isField_5 rfl rfl (Nat.le_of_ble_eq_true rfl) rfl ⟨Nat.le_of_ble_eq_true rfl, Nat.le_of_ble_eq_true rfl, Nat.le_of_ble_eq_true rfl, Nat.le_of_ble_eq_true rfl⟩) (fun z μ1 hp => ?_)
  obtain ⟨hp, rfl⟩ := hp
  refine z_if_eq (tgt := 26) C dX7_isField_8 (by decide) (fun h1 => ?_) (fun h1 => ?_)
  · refine z_iconst C dX7_isField_26 ?_
    exact z_zret C E (Or.inl rfl) dX7_isField_27 (Nat.le_of_ble_eq_true rfl) (Nat.le_of_ble_eq_true rfl) ⟨by omega, rfl⟩
  · refine z_iload_n C dX7_isField_11 rfl ?_
    refine z_bipush C dX7_isField_12 ?_
    refine z_bipush C dX7_isField_14 ?_
    refine z_ci C (z_rS C Rm qs_X7_isIn m_1044 (m_isIn hy (by decide) (by decide)) dX7_isField_16 rfl rfl (Nat.le_of_ble_eq_true rfl) rfl ⟨Nat.le_of_ble_eq_true rfl, Nat.le_of_ble_eq_true rfl, Nat.le_of_ble_eq_true rfl, Nat.le_of_ble_eq_true rfl⟩) (fun z μ1 hq => ?_)
    obtain ⟨hq, rfl⟩ := hq
    refine z_if_eq (tgt := 26) C dX7_isField_19 (by decide) (fun h2 => ?_) (fun h2 => ?_)
    · refine z_iconst C dX7_isField_26 ?_
      exact z_zret C E (Or.inl rfl) dX7_isField_27 (Nat.le_of_ble_eq_true rfl) (Nat.le_of_ble_eq_true rfl) ⟨by omega, rfl⟩
    · refine z_iconst C dX7_isField_22 ?_
      refine z_goto (tgt := 27) C dX7_isField_23 (by decide) ?_
      exact z_zret C E (Or.inr rfl) dX7_isField_27 (Nat.le_of_ble_eq_true rfl) (Nat.le_of_ble_eq_true rfl) ⟨by omega, rfl⟩
set_option maxRecDepth 100000 in
set_option maxHeartbeats 4000000 in
theorem m_at {l : Launch} {D : va_G} {N0 : Nat} {μ : zM} {x y : Int} : zMet l yX7_at cX7_at 2 (some .int) ({ frames := 0, cells := 0, slots := 0, locals := 0 } : Room) D N0 [zi x, zi y] μ (zQI D N0 (fun z u => z = (y + 32) * 64 + x + 32 ∧ u = μ)) := by
  refine zMet_of rfl (Nat.le_of_ble_eq_true rfl) (fun X C Rm hin E => ?_)
  refine z_iload_n C dX7_at_0 rfl ?_
  refine z_bipush C dX7_at_1 ?_
  refine z_isub C dX7_at_3 ?_
  refine z_bipush C dX7_at_4 ?_
  refine z_imul C dX7_at_6 ?_
  refine z_iload_n C dX7_at_7 rfl ?_
  refine z_iadd C dX7_at_8 ?_
  refine z_bipush C dX7_at_9 ?_
  refine z_isub C dX7_at_11 ?_
  exact z_iret C E dX7_at_12 (Nat.le_of_ble_eq_true rfl) (Nat.le_of_ble_eq_true rfl) ⟨by omega, rfl⟩
set_option maxRecDepth 100000 in
set_option maxHeartbeats 4000000 in
theorem m_has0 {l : Launch} {D : va_G} {N0 : Nat} {a : Nat} {μ : zM} {x y : Int} (hA : μ a = some (zAZ D 4096 zIz)) (hx : zir x) (hy : zir y) : zMet l yX7_has cX7_has 3 (some .boolean) ({ frames := 2, cells := 0, slots := 0, locals := 80 } : Room) D N0 [.ref a, zi x, zi y] μ (zQI D N0 (fun z u => z = 0 ∧ u = μ)) := by
  refine zMet_of rfl (Nat.le_of_ble_eq_true rfl) (fun X C Rm hin E => ?_)
  refine z_iload_n C dX7_has_0 rfl ?_
  refine z_iload_n C dX7_has_1 rfl ?_
  refine z_ci C (z_rS C Rm qs_X7_isField m_1104 (m_isField hx hy) dX7_has_2 rfl rfl (Nat.le_of_ble_eq_true rfl) rfl ⟨Nat.le_of_ble_eq_true rfl, Nat.le_of_ble_eq_true rfl, Nat.le_of_ble_eq_true rfl, Nat.le_of_ble_eq_true rfl⟩) (fun z μ1 hp => ?_)
  obtain ⟨hp, rfl⟩ := hp
  refine z_if_eq (tgt := 22) C dX7_has_5 (by decide) (fun h1 => ?_) (fun h1 => ?_)
  · refine z_iconst C dX7_has_22 ?_
    exact z_zret C E (Or.inl rfl) dX7_has_23 (Nat.le_of_ble_eq_true rfl) (Nat.le_of_ble_eq_true rfl) ⟨rfl, rfl⟩
  · refine z_aload_n C dX7_has_8 rfl ?_
    refine z_iload_n C dX7_has_9 rfl ?_
    refine z_iload_n C dX7_has_10 rfl ?_
    refine z_ci C (z_rS C Rm qs_X7_at m_1075 (m_at (x := x) (y := y)) dX7_has_11 rfl rfl (Nat.le_of_ble_eq_true rfl) rfl ⟨Nat.le_of_ble_eq_true rfl, Nat.le_of_ble_eq_true rfl, Nat.le_of_ble_eq_true rfl, Nat.le_of_ble_eq_true rfl⟩) (fun z μ1 hq => ?_)
    obtain ⟨rfl, rfl⟩ := hq
    refine z_zald C hA (by decide) dX7_has_14 ?_
    rw [show zIz ((y + 32) * 64 + x + 32).toNat = 0 from rfl]
    refine z_if_eq (tgt := 22) C dX7_has_15 (by decide) (fun _ => ?_) (fun hno => absurd hno (fun h => h rfl))
    refine z_iconst C dX7_has_22 ?_
    exact z_zret C E (Or.inl rfl) dX7_has_23 (Nat.le_of_ble_eq_true rfl) (Nat.le_of_ble_eq_true rfl) ⟨rfl, rfl⟩
def cntZ (g : Nat → Int) : Nat → Int
  | 0 => 0
  | n + 1 => cntZ g n + (if g n = 0 then 0 else 1)
theorem cntZ_b (g : Nat → Int) : ∀ n : Nat, 0 ≤ cntZ g n ∧ cntZ g n ≤ n
  | 0 => ⟨Int.le_refl _, Int.le_refl _⟩
  | n + 1 => by
    have h := cntZ_b g n
    unfold cntZ
    by_cases h0 : g n = 0
    · rw [if_pos h0]; omega
    · rw [if_neg h0]; omega
theorem cntZ_z (n : Nat) : cntZ zIz n = 0 := by
  induction n with
  | zero => rfl
  | succ n ih => unfold cntZ; rw [ih, if_pos (show zIz n = 0 from rfl)]; rfl
set_option maxRecDepth 100000 in
set_option maxHeartbeats 4000000 in
theorem m_area {l : Launch} {D : va_G} {N0 : Nat} {a : Nat} {g : Nat → Int} {μ : zM} (hA : μ a = some (zAZ D 4096 g)) (hg : ∀ i, g i = 0 ∨ g i = 1) : zMet l yX7_areaOf cX7_areaOf 6 (some .int) ({ frames := 0, cells := 0, slots := 0, locals := 0 } : Room) D N0 [.ref a] μ (zQI D N0 (fun z u => z = cntZ g 4096 ∧ u = μ)) := by
  refine zMet_of rfl (Nat.le_of_ble_eq_true rfl) (fun X C Rm hin E => ?_)
  have loop : ∀ (n i : Nat) (k s : Int) (L5 : Option Value), i + n = 4096 → k = (i : Int) → s = cntZ g i → Z X μ 0 0 10 [some (.ref a), some (zi s), some (.ref a), some (zi 4096), some (zi k), L5] [] := by
    intro n
    induction n with
    | zero =>
      intro i k s L5 hn hk hs
      refine z_iload C dX7_areaOf_10 rfl ?_
      refine z_iload_n C dX7_areaOf_12 rfl ?_
      refine z_icmp_ge (tgt := 41) C dX7_areaOf_13 (by decide) (fun _ => ?_) (fun hno => absurd hno (by omega))
      refine z_iload_n C dX7_areaOf_41 rfl ?_
      exact z_iret C E dX7_areaOf_42 (Nat.le_of_ble_eq_true rfl) (Nat.le_of_ble_eq_true rfl) ⟨by rw [hs, show i = 4096 by omega], rfl⟩
    | succ n ih =>
      intro i k s L5 hn hk hs
      have hb := cntZ_b g i
      have hgi := hg i
      have e9 : k.toNat = i := by omega
      refine z_iload C dX7_areaOf_10 rfl ?_
      refine z_iload_n C dX7_areaOf_12 rfl ?_
      refine z_icmp_ge (tgt := 41) C dX7_areaOf_13 (by decide) (fun hno => absurd hno (by omega)) (fun _ => ?_)
      refine z_aload_n C dX7_areaOf_16 rfl ?_
      refine z_iload C dX7_areaOf_17 rfl ?_
      refine z_zald C hA (by decide) dX7_areaOf_19 ?_
      refine z_istore (L' := [_, _, _, _, _, _]) C dX7_areaOf_20 rfl ?_
      refine z_iload_n C dX7_areaOf_22 rfl ?_
      refine z_iload C dX7_areaOf_23 rfl ?_
      rw [e9]
      refine z_if_eq (tgt := 32) C dX7_areaOf_25 (by decide) (fun h5 => ?_) (fun h5 => ?_)
      · refine z_iconst C dX7_areaOf_32 ?_
        refine z_iadd C dX7_areaOf_33 ?_
        refine z_istore_n (L' := [_, _, _, _, _, _]) C dX7_areaOf_34 rfl ?_
        refine z_iinc (L' := [_, _, _, _, _, _]) C dX7_areaOf_35 rfl rfl ?_
        refine z_goto (tgt := 10) C dX7_areaOf_38 (by decide) ?_
        exact ih (i + 1) (k + 1) _ _ (by omega) (by omega) (by rw [hs]; show _ = cntZ g i + _; rw [if_pos h5])
      · refine z_iconst C dX7_areaOf_28 ?_
        refine z_goto (tgt := 33) C dX7_areaOf_29 (by decide) ?_
        refine z_iadd C dX7_areaOf_33 ?_
        refine z_istore_n (L' := [_, _, _, _, _, _]) C dX7_areaOf_34 rfl ?_
        refine z_iinc (L' := [_, _, _, _, _, _]) C dX7_areaOf_35 rfl rfl ?_
        refine z_goto (tgt := 10) C dX7_areaOf_38 (by decide) ?_
        exact ih (i + 1) (k + 1) _ _ (by omega) (by omega) (by rw [hs]; show _ = cntZ g i + _; rw [if_neg h5])
  refine z_iconst C dX7_areaOf_0 ?_
  refine z_istore_n (L' := [_, _, _, _, _, _]) C dX7_areaOf_1 rfl ?_
  refine z_aload_n C dX7_areaOf_2 rfl ?_
  refine z_astore_n (L' := [_, _, _, _, _, _]) C dX7_areaOf_3 rfl ?_
  refine z_aload_n C dX7_areaOf_4 rfl ?_
  refine z_alen C hA 2 rfl dX7_areaOf_5 ?_
  refine z_istore_n (L' := [_, _, _, _, _, _]) C dX7_areaOf_6 rfl ?_
  refine z_iconst C dX7_areaOf_7 ?_
  refine z_istore (L' := [_, _, _, _, _, _]) C dX7_areaOf_8 rfl ?_
  exact loop 4096 0 0 0 _ (by omega) rfl rfl
abbrev zIn24 (x : Int) : Prop := -24 ≤ x ∧ x ≤ 24
end
section
theorem isMo.new {D : va_G} {μ : zM} {M q : Nat} {x : va_E} (h : isMo D μ M) (hq : ∀ (a : Nat) (e : va_E), μ a = some e → a < q) : isMo D (zu μ q x) M :=
  have k : ∀ (a : Nat) (e : va_E), μ a = some e → zu μ q x a = some e := fun a e ha => zu_k ha (by have := hq a e ha; omega)
  ⟨k _ _ h.1, k _ _ h.2.1, fun j hj => k _ _ (h.2.2.1 j hj), k _ _ h.px, k _ _ h.py, k _ _ h.kr, k _ _ h.kf⟩
theorem zMP.tr {M : Nat} {μ ν u : zM} {t : Int} (h : zN M μ ν) (h2 : zMP M ν t u) : zMP M μ t u := ⟨h2.1, h.tr h2.2⟩
theorem z_newM {X : zX} {l : Launch} {D : va_G} {N0 : Nat} {cc : ByteArray} {nL : Nat} {own : String} {μ : zM} {kc kn pc : Nat} {L : List (Option Value)} {st : List Value} {rk rn rf rw M : Nat} (C : zC X l D N0 cc nL own zWS) (Rm : zR X rk rn rf rw) (hM : isMo D μ M) (d : decode cc pc = .ok (.newarray .boolean, 2)) (hr : kc + 1 ≤ rk ∧ kn + 4096 ≤ rn) (k : ∀ (q : Nat) (ν : zM), isMo D ν M → ν q = some (zAZ D 4096 zIz) → ¬ zb M 14 q → zN M μ ν → Z X ν (kc + 1) (kn + 4096) (pc + 2) L (.ref q :: st)) : Z X μ kc kn pc L (zi 4096 :: st) :=
  z_newZ C Rm (by decide) m_1035 d hr (fun q hN hq => k q _ (hM.new hq) zu_s (by have := hq _ _ hM.kf; unfold zb; omega) (zN.rf.own hq))
theorem z_st0 {X : zX} {D : va_G} {μ : zM} {kc kn pc a k0 : Nat} {L : List (Option Value)} {st : List Value} (h : μ a = some (zAZ D 4096 zIz)) (k : Z X μ kc kn pc L st) : Z X (zu μ a (zAZ D 4096 (zw zIz k0 0))) kc kn pc L st := by
  rw [show zw zIz k0 0 = zIz from zw_id rfl, zu_i h]
  exact k
end
section
set_option maxRecDepth 100000 in
set_option maxHeartbeats 4000000 in
theorem m_edgesNow {l : Launch} {D : va_G} {N0 : Nat} {M : Nat} {μ : zM} (hM1 : isMo D μ M) {r : Int} (h8 : 0 ≤ r ∧ r < 8) : zMet l yX7_edgesNow cX7_edgesNow 5 (some .int) ({ frames := 2, cells := 0, slots := 0, locals := 80 } : Room) D N0 [.ref M, zi r] μ (zQI D N0 (fun z u => z = 0 ∧ u = μ)) := by
  refine zMet_of rfl (Nat.le_of_ble_eq_true rfl) (fun X C Rm hin E => ?_)
  refine z_iconst C dX7_edgesNow_0 ?_
  refine z_istore_n (L' := [_, _, _, _, _]) C dX7_edgesNow_1 rfl ?_
  refine z_bipush C dX7_edgesNow_2 ?_
  refine z_istore_n (L' := [_, _, _, _, _]) C dX7_edgesNow_4 rfl ?_
  have grid : ∀ (n : Nat) (x : Int) (Ly : Option Value), x + n = 32 → -32 ≤ x → Z X μ 0 0 5 [some (.ref M), some (zi r), some (zi 0), some (zi x), Ly] [] := by
    intro n
    induction n with
    | zero =>
      intro x Ly hn h0
      refine z_iload_n C dX7_edgesNow_5 rfl ?_
      refine z_bipush C dX7_edgesNow_6 ?_
      refine z_icmp_gt (tgt := 153) C dX7_edgesNow_8 (by decide) (fun _ => ?_) (fun hno => absurd hno (by omega))
      refine z_iload_n C dX7_edgesNow_153 rfl ?_
      exact z_iret C E dX7_edgesNow_154 (Nat.le_of_ble_eq_true rfl) (Nat.le_of_ble_eq_true rfl) ⟨rfl, rfl⟩
    | succ n ih =>
      intro x Ly hn h0
      have row : ∀ (j : Nat) (y : Int), y + j = 32 → -32 ≤ y → Z X μ 0 0 15 [some (.ref M), some (zi r), some (zi 0), some (zi x), some (zi y)] [] := by
        intro j
        induction j with
        | zero =>
          intro y hj hy
          refine z_iload C dX7_edgesNow_15 rfl ?_
          refine z_bipush C dX7_edgesNow_17 ?_
          refine z_icmp_gt (tgt := 147) C dX7_edgesNow_19 (by decide) (fun _ => ?_) (fun hno => absurd hno (by omega))
          refine z_iinc (L' := [_, _, _, _, _]) C dX7_edgesNow_147 rfl rfl ?_
          refine z_goto (tgt := 5) C dX7_edgesNow_150 (by decide) ?_
          exact ih (x + 1) _ (by omega) (by omega)
        | succ j ih2 =>
          intro y hj hy
          refine z_iload C dX7_edgesNow_15 rfl ?_
          refine z_bipush C dX7_edgesNow_17 ?_
          refine z_icmp_gt (tgt := 147) C dX7_edgesNow_19 (by decide) (fun hno => absurd hno (by omega)) (fun _ => ?_)
          refine z_aload_n C dX7_edgesNow_22 rfl ?_
          refine z_get C hM1.obj rfl 1 (by decide) m_1011 inz7 rfl rfl dX7_edgesNow_23 ?_
          refine z_iload_n C dX7_edgesNow_26 rfl ?_
          refine z_bald C hM1.rows (by decide) (isMo.row_eq h8) dX7_edgesNow_27 ?_
          refine z_iload_n C dX7_edgesNow_28 rfl ?_
          refine z_iload C dX7_edgesNow_29 rfl ?_
          refine z_ci C (z_rS C Rm qs_X7_at m_1075 (m_at (x := x) (y := y)) dX7_edgesNow_31 rfl rfl (Nat.le_of_ble_eq_true rfl) rfl ⟨Nat.le_of_ble_eq_true rfl, Nat.le_of_ble_eq_true rfl, Nat.le_of_ble_eq_true rfl, Nat.le_of_ble_eq_true rfl⟩) (fun z μ5 hq5 => ?_)
          obtain ⟨rfl, rfl⟩ := hq5
          refine z_zald C (hM1.row h8) (by decide) dX7_edgesNow_34 ?_
          rw [show zIz ((y + 32) * 64 + x + 32).toNat = 0 from rfl]
          refine z_if_ne (tgt := 41) C dX7_edgesNow_35 (by decide) (fun hno => absurd hno (fun h => h rfl)) (fun _ => ?_)
          refine z_goto (tgt := 141) C dX7_edgesNow_38 (by decide) ?_
          refine z_iinc (L' := [_, _, _, _, _]) C dX7_edgesNow_141 rfl rfl ?_
          refine z_goto (tgt := 15) C dX7_edgesNow_144 (by decide) ?_
          exact ih2 (y + 1) (by omega) (by omega)
      refine z_iload_n C dX7_edgesNow_5 rfl ?_
      refine z_bipush C dX7_edgesNow_6 ?_
      refine z_icmp_gt (tgt := 153) C dX7_edgesNow_8 (by decide) (fun hno => absurd hno (by omega)) (fun _ => ?_)
      refine z_bipush C dX7_edgesNow_11 ?_
      refine z_istore (L' := [_, _, _, _, _]) C dX7_edgesNow_13 rfl ?_
      exact row 64 (-32) (by omega) (by omega)
  exact grid 64 (-32) _ (by omega) (by omega)
set_option maxRecDepth 100000 in
set_option maxHeartbeats 4000000 in
theorem m_boundNow {l : Launch} {D : va_G} {N0 : Nat} {M : Nat} {μ : zM} (hM1 : isMo D μ M) {r s : Int} (h8 : 0 ≤ r ∧ r < 8) : zMet l yX7_boundNow cX7_boundNow 8 (some .int) ({ frames := 2, cells := 0, slots := 0, locals := 80 } : Room) D N0 [.ref M, zi r, zi s] μ (zQI D N0 (fun z u => z = 0 ∧ u = μ)) := by
  refine zMet_of rfl (Nat.le_of_ble_eq_true rfl) (fun X C Rm hin E => ?_)
  refine z_iconst C dX7_boundNow_0 ?_
  refine z_istore_n (L' := [_, _, _, _, _, _, _, _]) C dX7_boundNow_1 rfl ?_
  refine z_iconst C dX7_boundNow_2 ?_
  refine z_istore (L' := [_, _, _, _, _, _, _, _]) C dX7_boundNow_3 rfl ?_
  refine z_bipush C dX7_boundNow_5 ?_
  refine z_istore (L' := [_, _, _, _, _, _, _, _]) C dX7_boundNow_7 rfl ?_
  have grid : ∀ (n : Nat) (x : Int) (Ly : Option Value), x + n = 32 → -32 ≤ x → Z X μ 0 0 9 [some (.ref M), some (zi r), some (zi s), some (zi 0), some (zi 0), some (zi x), Ly, none] [] := by
    intro n
    induction n with
    | zero =>
      intro x Ly hn h0
      refine z_iload C dX7_boundNow_9 rfl ?_
      refine z_bipush C dX7_boundNow_11 ?_
      refine z_icmp_gt (tgt := 105) C dX7_boundNow_13 (by decide) (fun _ => ?_) (fun hno => absurd hno (by omega))
      refine z_iload_n C dX7_boundNow_105 rfl ?_
      exact z_iret C E dX7_boundNow_106 (Nat.le_of_ble_eq_true rfl) (Nat.le_of_ble_eq_true rfl) ⟨rfl, rfl⟩
    | succ n ih =>
      intro x Ly hn h0
      have row : ∀ (j : Nat) (y : Int), y + j = 32 → -32 ≤ y → Z X μ 0 0 20 [some (.ref M), some (zi r), some (zi s), some (zi 0), some (zi 0), some (zi x), some (zi y), none] [] := by
        intro j
        induction j with
        | zero =>
          intro y hj hy
          refine z_iload C dX7_boundNow_20 rfl ?_
          refine z_bipush C dX7_boundNow_22 ?_
          refine z_icmp_gt (tgt := 99) C dX7_boundNow_24 (by decide) (fun _ => ?_) (fun hno => absurd hno (by omega))
          refine z_iinc (L' := [_, _, _, _, _, _, _, _]) C dX7_boundNow_99 rfl rfl ?_
          refine z_goto (tgt := 9) C dX7_boundNow_102 (by decide) ?_
          exact ih (x + 1) _ (by omega) (by omega)
        | succ j ih2 =>
          intro y hj hy
          refine z_iload C dX7_boundNow_20 rfl ?_
          refine z_bipush C dX7_boundNow_22 ?_
          refine z_icmp_gt (tgt := 99) C dX7_boundNow_24 (by decide) (fun hno => absurd hno (by omega)) (fun _ => ?_)
          refine z_aload_n C dX7_boundNow_27 rfl ?_
          refine z_get C hM1.obj rfl 1 (by decide) m_1011 inz7 rfl rfl dX7_boundNow_28 ?_
          refine z_iload_n C dX7_boundNow_31 rfl ?_
          refine z_bald C hM1.rows (by decide) (isMo.row_eq h8) dX7_boundNow_32 ?_
          refine z_iload C dX7_boundNow_33 rfl ?_
          refine z_iload C dX7_boundNow_35 rfl ?_
          refine z_ci C (z_rS C Rm qs_X7_at m_1075 (m_at (x := x) (y := y)) dX7_boundNow_37 rfl rfl (Nat.le_of_ble_eq_true rfl) rfl ⟨Nat.le_of_ble_eq_true rfl, Nat.le_of_ble_eq_true rfl, Nat.le_of_ble_eq_true rfl, Nat.le_of_ble_eq_true rfl⟩) (fun z μ5 hq5 => ?_)
          obtain ⟨rfl, rfl⟩ := hq5
          refine z_zald C (hM1.row h8) (by decide) dX7_boundNow_40 ?_
          rw [show zIz ((y + 32) * 64 + x + 32).toNat = 0 from rfl]
          refine z_if_ne (tgt := 47) C dX7_boundNow_41 (by decide) (fun hno => absurd hno (fun h => h rfl)) (fun _ => ?_)
          refine z_goto (tgt := 93) C dX7_boundNow_44 (by decide) ?_
          refine z_iinc (L' := [_, _, _, _, _, _, _, _]) C dX7_boundNow_93 rfl rfl ?_
          refine z_goto (tgt := 20) C dX7_boundNow_96 (by decide) ?_
          exact ih2 (y + 1) (by omega) (by omega)
      refine z_iload C dX7_boundNow_9 rfl ?_
      refine z_bipush C dX7_boundNow_11 ?_
      refine z_icmp_gt (tgt := 105) C dX7_boundNow_13 (by decide) (fun hno => absurd hno (by omega)) (fun _ => ?_)
      refine z_bipush C dX7_boundNow_16 ?_
      refine z_istore (L' := [_, _, _, _, _, _, _, _]) C dX7_boundNow_18 rfl ?_
      exact row 64 (-32) (by omega) (by omega)
  exact grid 64 (-32) _ (by omega) (by omega)
end
section
def zEx (μ u : zM) : Prop := ∀ (b : Nat) (e : va_E), μ b = some e → u b = some e
theorem zEx.rf {μ : zM} : zEx μ μ := fun _ _ h => h
theorem zEx.tr {μ ν u : zM} (h : zEx μ ν) (h2 : zEx ν u) : zEx μ u := fun b e hb => h2 b e (h b e hb)
theorem zEx.own {μ u : zM} {a : Nat} {x : va_E} (h : zEx μ u) (ha : ∀ (b : Nat) (e : va_E), μ b = some e → b < a) : zEx μ (zu u a x) := fun q e hq => (zu_n (by have := ha q e hq; omega)).trans (h q e hq)
theorem zEx.n {M : Nat} {μ u : zM} (h : zEx μ u) : zN M μ u := fun q e hq _ => h q e hq
theorem zEx.mo {D : va_G} {M : Nat} {μ u : zM} (h : zEx μ u) (hM : isMo D μ M) : isMo D u M := ⟨h _ _ hM.1, h _ _ hM.2.1, fun j hj => h _ _ (hM.2.2.1 j hj), h _ _ hM.px, h _ _ hM.py, h _ _ hM.kr, h _ _ hM.kf⟩
theorem zEx.lt {μ ν : zM} {q : Nat} (h : zEx μ ν) (hq : ∀ (b : Nat) (e : va_E), ν b = some e → b < q) : ∀ (b : Nat) (e : va_E), μ b = some e → b < q := fun b e hb => hq b e (h b e hb)
set_option maxRecDepth 100000 in
set_option maxHeartbeats 4000000 in
theorem m_most {l : Launch} {D : va_G} {N0 : Nat} {a : Nat} {g : Nat → Int} {v : Int} {μ : zM} (hA : μ a = some (zAI D 4356 g)) (hg : ∀ i, i < 4356 → g i = v) (hv : v = 0 ∨ v = 1) : zMet l yX7_most cX7_most 6 (some .int) ({ frames := 1, cells := 0, slots := 0, locals := 40 } : Room) D N0 [.ref a] μ (zQI D N0 (fun z u => z = v ∧ u = μ)) := by
  refine zMet_of rfl (Nat.le_of_ble_eq_true rfl) (fun X C Rm hin E => ?_)
  have loop : ∀ (n i : Nat) (k s : Int) (L5 : Option Value), i + n = 4356 → k = (i : Int) → (i = 0 ∧ s = 0 ∨ 0 < i ∧ s = v) → Z X μ 0 0 10 [some (.ref a), some (zi s), some (.ref a), some (zi 4356), some (zi k), L5] [] := by
    intro n
    induction n with
    | zero =>
      intro i k s L5 hn hk hs
      refine z_iload C dX7_most_10 rfl ?_
      refine z_iload_n C dX7_most_12 rfl ?_
      refine z_icmp_ge (tgt := 35) C dX7_most_13 (by decide) (fun _ => ?_) (fun hno => absurd hno (by omega))
      refine z_iload_n C dX7_most_35 rfl ?_
      exact z_iret C E dX7_most_36 (Nat.le_of_ble_eq_true rfl) (Nat.le_of_ble_eq_true rfl) ⟨by omega, rfl⟩
    | succ n ih =>
      intro i k s L5 hn hk hs
      have hgi := hg k.toNat (by omega)
      refine z_iload C dX7_most_10 rfl ?_
      refine z_iload_n C dX7_most_12 rfl ?_
      refine z_icmp_ge (tgt := 35) C dX7_most_13 (by decide) (fun hno => absurd hno (by omega)) (fun _ => ?_)
      refine z_aload_n C dX7_most_16 rfl ?_
      refine z_iload C dX7_most_17 rfl ?_
      refine z_iald C hA (by decide) dX7_most_19 ?_
      rw [hgi]
      refine z_istore (L' := [_, _, _, _, _, _]) C dX7_most_20 rfl ?_
      refine z_iload_n C dX7_most_22 rfl ?_
      refine z_iload C dX7_most_23 rfl ?_
      refine z_mmax C Rm m_1074 m_350 m_50 m_351 dX7_most_25 rfl ⟨Nat.le_of_ble_eq_true rfl, Nat.le_of_ble_eq_true rfl, Nat.le_of_ble_eq_true rfl, Nat.le_of_ble_eq_true rfl⟩ ?_
      refine z_istore_n (L' := [_, _, _, _, _, _]) C dX7_most_28 rfl ?_
      refine z_iinc (L' := [_, _, _, _, _, _]) C dX7_most_29 rfl rfl ?_
      refine z_goto (tgt := 10) C dX7_most_32 (by decide) ?_
      exact ih (i + 1) (k + 1) _ _ (by omega) (by omega) (Or.inr ⟨by omega, by omega⟩)
  refine z_iconst C dX7_most_0 ?_
  refine z_istore_n (L' := [_, _, _, _, _, _]) C dX7_most_1 rfl ?_
  refine z_aload_n C dX7_most_2 rfl ?_
  refine z_astore_n (L' := [_, _, _, _, _, _]) C dX7_most_3 rfl ?_
  refine z_aload_n C dX7_most_4 rfl ?_
  refine z_alen C hA 0 rfl dX7_most_5 ?_
  refine z_istore_n (L' := [_, _, _, _, _, _]) C dX7_most_6 rfl ?_
  refine z_iconst C dX7_most_7 ?_
  refine z_istore (L' := [_, _, _, _, _, _]) C dX7_most_8 rfl ?_
  exact loop 4356 0 0 0 _ (by omega) rfl (Or.inl ⟨rfl, rfl⟩)
end
section
set_option maxRecDepth 100000 in
set_option maxHeartbeats 4000000 in
theorem m_isEdge0 {l : Launch} {D : va_G} {N0 : Nat} {a : Nat} {x y d : Int} {μ : zM} (hA : μ a = some (zAZ D 4096 zIz)) (hx : -1000 ≤ x ∧ x ≤ 1000) (hy : -1000 ≤ y ∧ y ≤ 1000) (hd : d = 0 ∨ d = 1) : zMet l yX7_isEdge cX7_isEdge 4 (some .boolean) ({ frames := 3, cells := 0, slots := 0, locals := 120 } : Room) D N0 [.ref a, zi x, zi y, zi d] μ (zQI D N0 (fun z u => z = 0 ∧ u = μ)) := by
  refine zMet_of rfl (Nat.le_of_ble_eq_true rfl) (fun X C Rm hin E => ?_)
  rcases hd with rfl | rfl
  · refine z_iload_n C dX7_isEdge_0 rfl ?_
    refine z_tableIn (tgt := 28) C dX7_isEdge_1 (by decide) (by decide) rfl (by decide) ?_
    refine z_aload_n C dX7_isEdge_28 rfl ?_
    refine z_iload_n C dX7_isEdge_29 rfl ?_
    refine z_iload_n C dX7_isEdge_30 rfl ?_
    refine z_ci C (z_rS C Rm qs_X7_has m_1129 (m_has0 hA (x := x) (y := y) (by omega) (by omega)) dX7_isEdge_31 rfl rfl (Nat.le_of_ble_eq_true rfl) rfl ⟨Nat.le_of_ble_eq_true rfl, Nat.le_of_ble_eq_true rfl, Nat.le_of_ble_eq_true rfl, Nat.le_of_ble_eq_true rfl⟩) (fun z μ5 hq5 => ?_)
    obtain ⟨rfl, rfl⟩ := hq5
    refine z_if_eq (tgt := 52) C dX7_isEdge_34 (by decide) (fun _ => ?_) (fun hno => absurd hno (fun h => h rfl))
    refine z_iconst C dX7_isEdge_52 ?_
    exact z_zret C E (Or.inl rfl) dX7_isEdge_53 (Nat.le_of_ble_eq_true rfl) (Nat.le_of_ble_eq_true rfl) ⟨rfl, rfl⟩
  · refine z_iload_n C dX7_isEdge_0 rfl ?_
    refine z_tableIn (tgt := 54) C dX7_isEdge_1 (by decide) (by decide) rfl (by decide) ?_
    refine z_aload_n C dX7_isEdge_54 rfl ?_
    refine z_iload_n C dX7_isEdge_55 rfl ?_
    refine z_iconst C dX7_isEdge_56 ?_
    refine z_isub C dX7_isEdge_57 ?_
    refine z_iload_n C dX7_isEdge_58 rfl ?_
    refine z_ci C (z_rS C Rm qs_X7_has m_1129 (m_has0 hA (x := x - 1) (y := y) (by omega) (by omega)) dX7_isEdge_59 rfl rfl (Nat.le_of_ble_eq_true rfl) rfl ⟨Nat.le_of_ble_eq_true rfl, Nat.le_of_ble_eq_true rfl, Nat.le_of_ble_eq_true rfl, Nat.le_of_ble_eq_true rfl⟩) (fun z μ5 hq5 => ?_)
    obtain ⟨rfl, rfl⟩ := hq5
    refine z_if_eq (tgt := 78) C dX7_isEdge_62 (by decide) (fun _ => ?_) (fun hno => absurd hno (fun h => h rfl))
    refine z_iconst C dX7_isEdge_78 ?_
    exact z_zret C E (Or.inl rfl) dX7_isEdge_79 (Nat.le_of_ble_eq_true rfl) (Nat.le_of_ble_eq_true rfl) ⟨rfl, rfl⟩
set_option maxRecDepth 100000 in
set_option maxHeartbeats 4000000 in
theorem m_stripsNow {l : Launch} {D : va_G} {N0 : Nat} {M : Nat} {μ : zM} (hM : isMo D μ M) {r : Int} (h8 : 0 ≤ r ∧ r < 8) : zMet l yX7_stripsNow cX7_stripsNow 9 (some (.array .int)) ({ frames := 4, cells := 1, slots := 64, locals := 160 } : Room) D N0 [.ref M, zi r] μ (zQR D N0 (fun q u => u q = some (zAI D 64 zIz) ∧ zEx μ u)) := by
  refine zMet_of rfl (Nat.le_of_ble_eq_true rfl) (fun X C Rm hin E => ?_)
  refine z_aload_n C dX7_stripsNow_0 rfl ?_
  refine z_get C hM.obj rfl 1 (by decide) m_1011 inz7 rfl rfl dX7_stripsNow_1 ?_
  refine z_iload_n C dX7_stripsNow_4 rfl ?_
  refine z_bald C hM.rows (by decide) (isMo.row_eq h8) dX7_stripsNow_5 ?_
  refine z_astore_n (L' := [_, _, _, _, _, _, _, _, _]) C dX7_stripsNow_6 rfl ?_
  refine z_bipush C dX7_stripsNow_7 ?_
  refine z_newI C Rm (by decide) m_105 dX7_stripsNow_9 (by decide) (fun q1 hNq1 hqq1 => ?_)
  obtain ⟨ν, hν⟩ : ∃ ν, ν = zu μ q1 (zAI D 64 zIz) := ⟨_, rfl⟩
  have hE : zEx μ ν := by rw [hν]; exact zEx.rf.own hqq1
  have h2 : ν q1 = some (zAI D 64 zIz) := by rw [hν]; exact zu_s
  have hA : ν (M + 2 + r.toNat) = some (zAZ D 4096 zIz) := hE _ _ (hM.row h8)
  refine (show Z X ν 1 64 (7 + 2 + 2) [some (.ref M), some (zi r), some (.ref (M + 2 + r.toNat)), none, none, none, none, none, none] [.ref q1] → _ from fun h => by rw [hν] at h; exact h) ?_
  have grid : ∀ (n : Nat) (x : Int) (Ly : Option Value), x + n = 32 → -32 ≤ x → Z X ν 1 64 19 [some (.ref M), some (zi r), some (.ref (M + 2 + r.toNat)), some (.ref q1), some (zi 1), some (zi x), Ly, none, none] [] := by
    intro n
    induction n with
    | zero =>
      intro x Ly hn h0
      refine z_iload C dX7_stripsNow_19 rfl ?_
      refine z_bipush C dX7_stripsNow_21 ?_
      refine z_icmp_gt (tgt := 178) C dX7_stripsNow_23 (by decide) (fun _ => ?_) (fun hno => absurd hno (by omega))
      refine z_aload_n C dX7_stripsNow_178 rfl ?_
      exact z_aret C E (Or.inr ⟨_, rfl⟩) dX7_stripsNow_179 (Nat.le_of_ble_eq_true rfl) (Nat.le_of_ble_eq_true rfl) ⟨h2, hE⟩
    | succ n ih =>
      intro x Ly hn h0
      have row : ∀ (j : Nat) (y : Int), y + j = 32 → -32 ≤ y → Z X ν 1 64 30 [some (.ref M), some (zi r), some (.ref (M + 2 + r.toNat)), some (.ref q1), some (zi 1), some (zi x), some (zi y), none, none] [] := by
        intro j
        induction j with
        | zero =>
          intro y hj hy
          refine z_iload C dX7_stripsNow_30 rfl ?_
          refine z_bipush C dX7_stripsNow_32 ?_
          refine z_icmp_gt (tgt := 172) C dX7_stripsNow_34 (by decide) (fun _ => ?_) (fun hno => absurd hno (by omega))
          refine z_iinc (L' := [_, _, _, _, _, _, _, _, _]) C dX7_stripsNow_172 rfl rfl ?_
          refine z_goto (tgt := 19) C dX7_stripsNow_175 (by decide) ?_
          exact ih (x + 1) _ (by omega) (by omega)
        | succ j ih2 =>
          intro y hj hy
          refine z_iload C dX7_stripsNow_30 rfl ?_
          refine z_bipush C dX7_stripsNow_32 ?_
          refine z_icmp_gt (tgt := 172) C dX7_stripsNow_34 (by decide) (fun hno => absurd hno (by omega)) (fun _ => ?_)
          refine z_aload_n C dX7_stripsNow_37 rfl ?_
          refine z_iload C dX7_stripsNow_38 rfl ?_
          refine z_iload C dX7_stripsNow_40 rfl ?_
          refine z_ci C (z_rS C Rm qs_X7_has m_1129 (m_has0 hA (x := y) (y := x) (by omega) (by omega)) dX7_stripsNow_42 rfl rfl (Nat.le_of_ble_eq_true rfl) rfl ⟨Nat.le_of_ble_eq_true rfl, Nat.le_of_ble_eq_true rfl, Nat.le_of_ble_eq_true rfl, Nat.le_of_ble_eq_true rfl⟩) (fun z μ5 hq5 => ?_)
          obtain ⟨rfl, rfl⟩ := hq5
          refine z_if_eq (tgt := 166) C dX7_stripsNow_45 (by decide) (fun _ => ?_) (fun hno => absurd hno (fun h => h rfl))
          refine z_iinc (L' := [_, _, _, _, _, _, _, _, _]) C dX7_stripsNow_166 rfl rfl ?_
          refine z_goto (tgt := 30) C dX7_stripsNow_169 (by decide) ?_
          exact ih2 (y + 1) (by omega) (by omega)
      refine z_iload C dX7_stripsNow_19 rfl ?_
      refine z_bipush C dX7_stripsNow_21 ?_
      refine z_icmp_gt (tgt := 178) C dX7_stripsNow_23 (by decide) (fun hno => absurd hno (by omega)) (fun _ => ?_)
      refine z_bipush C dX7_stripsNow_26 ?_
      refine z_istore (L' := [_, _, _, _, _, _, _, _, _]) C dX7_stripsNow_28 rfl ?_
      exact row 64 (-32) (by omega) (by omega)
  refine z_astore_n (L' := [_, _, _, _, _, _, _, _, _]) C dX7_stripsNow_11 rfl ?_
  refine z_iconst C dX7_stripsNow_12 ?_
  refine z_istore (L' := [_, _, _, _, _, _, _, _, _]) C dX7_stripsNow_13 rfl ?_
  refine z_bipush C dX7_stripsNow_15 ?_
  refine z_istore (L' := [_, _, _, _, _, _, _, _, _]) C dX7_stripsNow_17 rfl ?_
  exact grid 64 (-32) _ (by omega) (by omega)
end
section
/-! the parts of what is not in a region that has nothing: one, that is everything -/
theorem cntZ_out {g : Nat → Int} {k : Nat} {x : Int} : ∀ n : Nat, n ≤ k → cntZ (zw g k x) n = cntZ g n
  | 0, _ => rfl
  | n + 1, h => by
    show cntZ (zw g k x) n + (if zw g k x n = 0 then 0 else 1) = cntZ g n + (if g n = 0 then 0 else 1)
    rw [cntZ_out n (by omega), zw_n (show n ≠ k by omega)]
theorem cntZ_add {g : Nat → Int} {k : Nat} (h0 : g k = 0) : ∀ n : Nat, k < n → cntZ (zw g k 1) n = cntZ g n + 1
  | 0, h => by omega
  | n + 1, h => by
    show cntZ (zw g k 1) n + (if zw g k 1 n = 0 then 0 else 1) = cntZ g n + (if g n = 0 then 0 else 1) + 1
    by_cases e : k = n
    · subst e
      rw [cntZ_out k (Nat.le_refl _), zw_s, if_neg (by decide), if_pos h0]
      omega
    · rw [cntZ_add h0 n (by omega), zw_n (show n ≠ k by omega)]
      omega
theorem cntZ_lt {g : Nat → Int} {k n : Nat} (h0 : g k = 0) (h : k < n) : cntZ g n < n := by
  have h1 := cntZ_add h0 n h
  have h2 := cntZ_b (zw g k 1) n
  omega
def bfI (g w : Nat → Int) (e : Int) : Prop := (∀ j, j < 4356 → g j = 0 ∨ g j = 1) ∧ cntZ g 4356 = e ∧ (∀ i : Nat, (i : Int) < e → (0 ≤ w i ∧ w i < 4356) ∧ g (w i).toNat = 1) ∧ (∀ j, j < 4356 → g j = 1 → ∃ i : Nat, (i : Int) < e ∧ w i = (j : Int)) ∧ g 0 = 1
def bfN (c : Int) (j : Nat) (d : Int) : Prop := (j : Int) % 66 = c % 66 + (d % 3 - 1) ∧ (j : Int) / 66 = c / 66 + (d / 3 - 1)
def bfD (g w : Nat → Int) (f : Int) : Prop := ∀ i : Nat, (i : Int) < f → ∀ (d : Int) (j : Nat), 0 ≤ d ∧ d < 9 → j < 4356 → bfN (w i) j d → g j = 1
theorem bf_mo {g : Nat → Int} {k j : Nat} (h : g j = 1) : zw g k 1 j = 1 := by
  by_cases e : j = k
  · subst e; exact zw_s
  · rw [zw_n e]; exact h
theorem bf_add {g w : Nat → Int} {e : Int} {k : Nat} (h : bfI g w e) (hk : k < 4356) (h0 : g k = 0) : bfI (zw g k 1) (zw w e.toNat k) (e + 1) ∧ 0 ≤ e ∧ e < 4356 := by
  obtain ⟨a, b, c, d, z⟩ := h
  have hb := cntZ_b g 4356
  have hlt := cntZ_lt h0 hk
  refine ⟨⟨fun j hj => ?_, by rw [cntZ_add h0 4356 hk, b], fun i hi => ?_, fun j hj h1 => ?_, bf_mo z⟩, by omega, by omega⟩
  · by_cases q : j = k
    · subst q; exact Or.inr zw_s
    · rw [zw_n q]; exact a j hj
  · by_cases q : i = e.toNat
    · subst q
      rw [zw_s]
      exact ⟨by omega, by rw [show ((k : Int)).toNat = k by omega]; exact zw_s⟩
    · rw [zw_n q]
      obtain ⟨c1, c2⟩ := c i (by omega)
      exact ⟨c1, bf_mo c2⟩
  · by_cases q : j = k
    · subst q
      exact ⟨e.toNat, by omega, zw_s⟩
    · rw [zw_n q] at h1
      obtain ⟨i, i1, i2⟩ := d j hj h1
      exact ⟨i, by omega, by rw [zw_n (show i ≠ e.toNat by omega)]; exact i2⟩
theorem bf_keep {g w : Nat → Int} {e f : Int} {k : Nat} (h : bfD g w f) (hf : f ≤ e) : bfD (zw g k 1) (zw w e.toNat k) f := fun i hi d j hd hj hn => by
  rw [zw_n (show i ≠ e.toNat by omega)] at hn
  exact bf_mo (h i hi d j hd hj hn)
theorem bf_fin {g w : Nat → Int} {e : Int} (h : bfI g w e) (hD : bfD g w e) : ∀ j : Nat, j < 4356 → g j = 1 := by
  obtain ⟨a, b, c, d, z⟩ := h
  intro j
  induction j using Nat.strongRecOn with
  | _ j ih =>
    intro hj
    by_cases h0 : j = 0
    · subst h0; exact z
    by_cases h1 : j % 66 = 0
    · obtain ⟨i, i1, i2⟩ := d (j - 66) (by omega) (ih (j - 66) (by omega) (by omega))
      exact hD i i1 7 j (by omega) hj ⟨by rw [i2]; omega, by rw [i2]; omega⟩
    · obtain ⟨i, i1, i2⟩ := d (j - 1) (by omega) (ih (j - 1) (by omega) (by omega))
      exact hD i i1 5 j (by omega) hj ⟨by rw [i2]; omega, by rw [i2]; omega⟩
end
section
theorem z_up {X : zX} {μ : zM} {kc kn kc' kn' pc : Nat} {L : List (Option Value)} {st : List Value} (h1 : kc ≤ kc') (h2 : kn ≤ kn') (k : Z X μ kc' kn' pc L st) : Z X μ kc kn pc L st := by
  obtain ⟨p, l', e, R, s, m, args, below, meth, c, D', N', Q⟩ := X
  intro H locs cells slots ls hH hS hc1 hs1 hl
  exact k H locs cells slots ls hH hS (Nat.le_trans hc1 h1) (Nat.le_trans hs1 h2) hl
end
section
def zRec (a b h i k : Int) : Nat → Int := fun j => if (a ≤ (j : Int) % 64 ∧ (j : Int) % 64 < a + i ∧ b ≤ (j : Int) / 64 ∧ (j : Int) / 64 < b + h) ∨ ((j : Int) % 64 = a + i ∧ b ≤ (j : Int) / 64 ∧ (j : Int) / 64 < b + k) then 1 else 0
theorem zRec_01 {a b h i k : Int} (j : Nat) : zRec a b h i k j = 0 ∨ zRec a b h i k j = 1 := by
  unfold zRec
  split
  · exact Or.inr rfl
  · exact Or.inl rfl
theorem zRec_0 {a b h : Int} : zRec a b h 0 0 = zIz := by
  funext j
  unfold zRec
  rw [if_neg (by omega)]
  rfl
theorem zRec_s {a b h i k x : Int} (hx : x = (b + k) * 64 + a + i) (h1 : 0 ≤ a + i ∧ a + i < 64) (h2 : 0 ≤ b + k ∧ 0 ≤ k) : zw (zRec a b h i k) x.toNat 1 = zRec a b h i (k + 1) := by
  funext j
  by_cases e : j = x.toNat
  · rw [e, zw_s]
    unfold zRec
    rw [if_pos (by omega)]
  · rw [zw_n e]
    unfold zRec
    by_cases q : (a ≤ (j : Int) % 64 ∧ (j : Int) % 64 < a + i ∧ b ≤ (j : Int) / 64 ∧ (j : Int) / 64 < b + h) ∨ ((j : Int) % 64 = a + i ∧ b ≤ (j : Int) / 64 ∧ (j : Int) / 64 < b + k)
    · rw [if_pos q, if_pos (by omega)]
    · rw [if_neg q, if_neg (by omega)]
theorem zRec_n {a b h i : Int} (hi : 0 ≤ i) : zRec a b h i h = zRec a b h (i + 1) 0 := by
  funext j
  unfold zRec
  by_cases q : (a ≤ (j : Int) % 64 ∧ (j : Int) % 64 < a + i ∧ b ≤ (j : Int) / 64 ∧ (j : Int) / 64 < b + h) ∨ ((j : Int) % 64 = a + i ∧ b ≤ (j : Int) / 64 ∧ (j : Int) / 64 < b + h)
  · rw [if_pos q, if_pos (by omega)]
  · rw [if_neg q, if_neg (by omega)]
theorem zRec_row {a b h w : Int} (ha : 0 ≤ a ∧ a + w ≤ 64) (hw : 0 ≤ w) (R : Nat) : ∀ m : Nat, m ≤ 64 → cntZ (zRec a b h w 0) (64 * R + m) = cntZ (zRec a b h w 0) (64 * R) + (if b ≤ (R : Int) ∧ (R : Int) < b + h then (if (m : Int) ≤ a then 0 else if (m : Int) ≤ a + w then m - a else w) else 0)
  | 0, _ => by
    by_cases q : b ≤ (R : Int) ∧ (R : Int) < b + h
    · rw [if_pos q, if_pos (by omega)]; simp
    · rw [if_neg q]; simp
  | m + 1, hm => by
    show cntZ (zRec a b h w 0) (64 * R + m) + (if zRec a b h w 0 (64 * R + m) = 0 then 0 else 1) = _
    rw [zRec_row ha hw R m (by omega)]
    have e1 : ((64 * R + m : Nat) : Int) % 64 = m := by omega
    have e2 : ((64 * R + m : Nat) : Int) / 64 = R := by omega
    by_cases q : b ≤ (R : Int) ∧ (R : Int) < b + h
    · rw [if_pos q, if_pos q]
      by_cases q2 : a ≤ (m : Int) ∧ (m : Int) < a + w
      · have e3 : zRec a b h w 0 (64 * R + m) = 1 := by unfold zRec; rw [e1, e2, if_pos (by omega)]
        rw [e3, show (if (1 : Int) = 0 then (0 : Int) else 1) = 1 from rfl]
        by_cases q3 : (m : Int) = a
        · rw [if_pos (by omega), if_neg (by omega), if_pos (by omega)]; omega
        · rw [if_neg (by omega), if_pos (by omega), if_neg (by omega), if_pos (by omega)]; omega
      · have e3 : zRec a b h w 0 (64 * R + m) = 0 := by unfold zRec; rw [e1, e2, if_neg (by omega)]
        rw [e3, if_pos rfl]
        by_cases q3 : (m : Int) < a
        · rw [if_pos (by omega), if_pos (by omega)]; omega
        · by_cases q4 : w = 0
          · by_cases q5 : (m : Int) = a
            · rw [if_pos (by omega), if_neg (by omega), if_neg (by omega)]; omega
            · rw [if_neg (by omega), if_neg (by omega), if_neg (by omega), if_neg (by omega)]; omega
          · by_cases q5 : (m : Int) = a + w
            · rw [if_neg (by omega), if_pos (by omega), if_neg (by omega), if_neg (by omega)]; omega
            · rw [if_neg (by omega), if_neg (by omega), if_neg (by omega), if_neg (by omega)]; omega
    · have e3 : zRec a b h w 0 (64 * R + m) = 0 := by unfold zRec; rw [e1, e2, if_neg (by omega)]
      rw [if_neg q, if_neg q, e3, if_pos rfl]
      omega
theorem zRec_cnt {a b h w : Int} (ha : 0 ≤ a ∧ a + w ≤ 64) (hw : 1 ≤ w) (hb : 0 ≤ b) (hh : 1 ≤ h) : ∀ n : Nat, cntZ (zRec a b h w 0) (64 * n) = (if (n : Int) ≤ b then 0 else if (n : Int) ≤ b + h then (n - b) * w else h * w)
  | 0 => by
    rw [if_pos (by omega)]
    rfl
  | n + 1 => by
    rw [show 64 * (n + 1) = 64 * n + 64 by omega, zRec_row ha (by omega) n 64 (Nat.le_refl _), zRec_cnt ha hw hb hh n]
    have e0 : (if ((64 : Nat) : Int) ≤ a then 0 else if ((64 : Nat) : Int) ≤ a + w then ((64 : Nat) : Int) - a else w) = w := by
      rw [if_neg (by omega)]
      by_cases q : ((64 : Nat) : Int) ≤ a + w
      · rw [if_pos q]; omega
      · rw [if_neg q]
    rw [e0]
    by_cases q : b ≤ (n : Int) ∧ (n : Int) < b + h
    · rw [if_pos q]
      by_cases q2 : (n : Int) = b
      · rw [if_pos (by omega), if_neg (by omega), if_pos (by omega), show ((n + 1 : Nat) : Int) - b = 1 by omega]
        omega
      · rw [if_neg (by omega), if_pos (by omega), if_neg (by omega), if_pos (by omega), show ((n + 1 : Nat) : Int) - b = (n - b) + 1 by omega, Int.add_mul, Int.one_mul]
    · rw [if_neg q, Int.add_zero]
      by_cases q2 : (n : Int) < b
      · rw [if_pos (by omega), if_pos (by omega)]
      · by_cases q3 : (n : Int) = b + h
        · rw [if_neg (by omega), if_pos (by omega), if_neg (by omega), if_neg (by omega), show (n : Int) - b = h by omega]
        · rw [if_neg (by omega), if_neg (by omega), if_neg (by omega), if_neg (by omega)]
theorem zRec_all {a b h w : Int} (ha : 0 ≤ a ∧ a + w ≤ 64) (hw : 1 ≤ w) (hb : 0 ≤ b ∧ b + h ≤ 64) (hh : 1 ≤ h) : cntZ (zRec a b h w 0) 4096 = h * w := by
  rw [show 4096 = 64 * 64 from rfl, zRec_cnt ha hw hb.1 hh 64, if_neg (by omega)]
  by_cases q : ((64 : Nat) : Int) ≤ b + h
  · rw [if_pos q, show ((64 : Nat) : Int) - b = h by omega]
  · rw [if_neg q]
end
section
theorem z_dast {X : zX} {l : Launch} {D : va_G} {N0 : Nat} {cc : ByteArray} {nL : Nat} {own : String} {Ts : List Cond} {μ : zM} {kc kn pc : Nat} {L : List (Option Value)} {st : List Value} (C : zC X l D N0 cc nL own Ts) {a n : Nat} {f : Nat → UInt64} {i : Int} {x : UInt64} (hm : μ a = some (zAD D n f)) (hn : n < 2147483648) (d : decode cc pc = .ok (.dastore, 1)) (k : Z X (zu μ a (zAD D n (zw f i.toNat x))) kc kn (pc + 1) L st) (hi : 0 ≤ i ∧ i < n := by omega) : Z X μ kc kn pc L (.double x :: zi i :: .ref a :: st) := by
  obtain ⟨p, l', e, R, s, m, args, below, meth, c, D', N', Q⟩ := X
  obtain ⟨rfl, rfl, rfl, hx, hb, hml, hown, hts, hlk, hB⟩ := C
  intro H locs cells slots ls hH hS hc1 hs1 hl
  refine W.dast hx hb (hH a _ hm).1 ((hB.1.2 3 _ rfl).1 n (fun j => .double (f j))) (fun q => by cases q) (by show ¬ (_ < 0 ∨ (arrV _ _ _).slots.size ≤ _); rw [arrV_size]; exact zI_in hi hn) rfl rfl d fun H1 e z oq => ?_
  refine k H1 _ cells slots ls (hH.seta ?_ (hH a _ hm).2 oq) (hS.put z oq (hH a _ hm).2) hc1 hs1 hl
  show H1[a]? = some (vp_cell _ _)
  rw [e, vp_cell_d, vp_cell_d, arrV_store, zI_nc (by omega)]
  congr 2
  funext q
  by_cases hq : q = i.toNat
  · subst hq
    simp [updV, zw]
  · simp [updV, zw, hq]
theorem z_dald {X : zX} {l : Launch} {D : va_G} {N0 : Nat} {cc : ByteArray} {nL : Nat} {own : String} {Ts : List Cond} {μ : zM} {kc kn pc : Nat} {L : List (Option Value)} {st : List Value} (C : zC X l D N0 cc nL own Ts) {a n : Nat} {f : Nat → UInt64} {i : Int} (hm : μ a = some (zAD D n f)) (hn : n < 2147483648) (d : decode cc pc = .ok (.daload, 1)) (k : Z X μ kc kn (pc + 1) L (.double (f i.toNat) :: st)) (hi : 0 ≤ i ∧ i < n := by omega) : Z X μ kc kn pc L (zi i :: .ref a :: st) := by
  obtain ⟨p, l', e, R, s, m, args, below, meth, c, D', N', Q⟩ := X
  obtain ⟨rfl, rfl, rfl, hx, hb, hml, hown, hts, hlk, hB⟩ := C
  intro H locs cells slots ls hH hS hc1 hs1 hl
  have k2 := k H locs cells slots ls hH hS hc1 hs1 hl
  refine va_dald hx hb hB.1 (hH.one hm) 0 3 rfl rfl (zI_in hi hn) d ?_
  rw [zI_nc (a := i) (by omega)]
  exact k2
end
section
/-! the twin of Z that knows the heap's size, for constructors -/
def ZS (X : zX) (h : Nat) (μ : zM) (k n pc : Nat) (L : List (Option Value)) (st : List Value) : Prop :=
  match X with
  | (p, l, e, R, s, m, args, below, meth, c, D, N0, Q) => ∀ (H : Heap) (locs : List Loc) (cells slots : Nat) (ls : Array Slot), H.size = h → zH D N0 μ H → va_S (fun q => N0 ≤ q) s.heap H locs → cells ≤ k → slots ≤ n → zL ls L → W p l e R s m args below meth c H locs cells slots Q (F0 m pc ls st)
section ZSROWS
variable {X : zX} {l : Launch} {D : va_G} {N0 : Nat} {cc : ByteArray} {nL : Nat} {own : String} {Ts : List Cond} {μ : zM} {kc kn pc : Nat} {L L' : List (Option Value)} {st : List Value} {sz : Nat}
theorem ZS.of (k : Z X μ kc kn pc L st) : ZS X sz μ kc kn pc L st := by
  obtain ⟨p, l', e, R, s, m, args, below, meth, c, D', N', Q⟩ := X
  intro H locs cells slots ls hz hH hS hc1 hs1 hl
  exact k H locs cells slots ls hH hS hc1 hs1 hl
theorem ZS.all (k : ∀ sz, ZS X sz μ kc kn pc L st) : Z X μ kc kn pc L st := by
  obtain ⟨p, l', e, R, s, m, args, below, meth, c, D', N', Q⟩ := X
  intro H locs cells slots ls hH hS hc1 hs1 hl
  exact k H.size H locs cells slots ls rfl hH hS hc1 hs1 hl
theorem s_iconst (C : zC X l D N0 cc nL own Ts) {n : Int} (d : decode cc pc = .ok (.iconst n, 1)) (k : ZS X sz μ kc kn (pc + 1) L (zi n :: st)) : ZS X sz μ kc kn pc L (st) := by
  obtain ⟨p, l', e, R, s, m, args, below, meth, c, D', N', Q⟩ := X
  obtain ⟨rfl, rfl, rfl, hx, hb, hml, hown, hts, hlk, hB⟩ := C
  intro H locs cells slots ls hz hH hS hc1 hs1 hl
  exact lv_iconst hx hb d rfl (k H locs cells slots ls hz hH hS hc1 hs1 hl)
theorem s_bipush (C : zC X l D N0 cc nL own Ts) {n : Int} (d : decode cc pc = .ok (.bipush n, 2)) (k : ZS X sz μ kc kn (pc + 2) L (zi n :: st)) (hv : (Int8.ofInt n).toInt32 = Int32.ofInt n := by decide) : ZS X sz μ kc kn pc L st := by
  obtain ⟨p, l', e, R, s, m, args, below, meth, c, D', N', Q⟩ := X
  obtain ⟨rfl, rfl, rfl, hx, hb, hml, hown, hts, hlk, hB⟩ := C
  intro H locs cells slots ls hz hH hS hc1 hs1 hl
  exact lv_bipush hx hb d hv (k H locs cells slots ls hz hH hS hc1 hs1 hl)
theorem s_sipush (C : zC X l D N0 cc nL own Ts) {n : Int} (d : decode cc pc = .ok (.sipush n, 3)) (k : ZS X sz μ kc kn (pc + 3) L (zi n :: st)) (hv : (Int16.ofInt n).toInt32 = Int32.ofInt n := by decide) : ZS X sz μ kc kn pc L st := by
  obtain ⟨p, l', e, R, s, m, args, below, meth, c, D', N', Q⟩ := X
  obtain ⟨rfl, rfl, rfl, hx, hb, hml, hown, hts, hlk, hB⟩ := C
  intro H locs cells slots ls hz hH hS hc1 hs1 hl
  exact lv_sipush hx hb d hv (k H locs cells slots ls hz hH hS hc1 hs1 hl)
theorem s_iload_n (C : zC X l D N0 cc nL own Ts) {i : Fin 4} {x : Int} (d : decode cc pc = .ok (.iload_n i, 1)) (h : L[i.val]? = some (some (zi x))) (k : ZS X sz μ kc kn (pc + 1) L (zi x :: st)) : ZS X sz μ kc kn pc L (st) := by
  obtain ⟨p, l', e, R, s, m, args, below, meth, c, D', N', Q⟩ := X
  obtain ⟨rfl, rfl, rfl, hx, hb, hml, hown, hts, hlk, hB⟩ := C
  intro H locs cells slots ls hz hH hS hc1 hs1 hl
  exact lv_iload_n hx hb d rfl (hl.2.2 _ _ h) (k H locs cells slots ls hz hH hS hc1 hs1 hl)
theorem s_istore_n (C : zC X l D N0 cc nL own Ts) {i : Fin 4} {x : Int} (d : decode cc pc = .ok (.istore_n i, 1)) (h : L.set i.val (some (zi x)) = L') (k : ZS X sz μ kc kn (pc + 1) L' st) (hi : i.val < L.length := by exact Nat.le_of_ble_eq_true rfl) (hok : zok L i.val = true := by rfl) : ZS X sz μ kc kn pc L (zi x :: st) := by
  obtain ⟨p, l', e, R, s, m, args, below, meth, c, D', N', Q⟩ := X
  obtain ⟨rfl, rfl, rfl, hx, hb, hml, hown, hts, hlk, hB⟩ := C
  intro H locs cells slots ls hz hH hS hc1 hs1 hl
  subst h
  exact lv_istore_n hx hb d rfl hl.has hi rfl (fun ls1 h1 => k H locs cells slots ls1 hz hH hS hc1 hs1 (zL.set1 hok h1))
theorem s_aload_n (C : zC X l D N0 cc nL own Ts) {i : Fin 4} {x : Nat} (d : decode cc pc = .ok (.aload_n i, 1)) (h : L[i.val]? = some (some (.ref x))) (k : ZS X sz μ kc kn (pc + 1) L (.ref x :: st)) : ZS X sz μ kc kn pc L (st) := by
  obtain ⟨p, l', e, R, s, m, args, below, meth, c, D', N', Q⟩ := X
  obtain ⟨rfl, rfl, rfl, hx, hb, hml, hown, hts, hlk, hB⟩ := C
  intro H locs cells slots ls hz hH hS hc1 hs1 hl
  exact lv_aload_n hx hb d rfl (hl.2.2 _ _ h) (k H locs cells slots ls hz hH hS hc1 hs1 hl)
theorem s_aload (C : zC X l D N0 cc nL own Ts) {i : Nat} {x : Nat} (d : decode cc pc = .ok (.aload i, 2)) (h : L[i]? = some (some (.ref x))) (k : ZS X sz μ kc kn (pc + 2) L (.ref x :: st)) : ZS X sz μ kc kn pc L (st) := by
  obtain ⟨p, l', e, R, s, m, args, below, meth, c, D', N', Q⟩ := X
  obtain ⟨rfl, rfl, rfl, hx, hb, hml, hown, hts, hlk, hB⟩ := C
  intro H locs cells slots ls hz hH hS hc1 hs1 hl
  exact lv_aload hx hb d (hl.2.2 _ _ h) (k H locs cells slots ls hz hH hS hc1 hs1 hl)
theorem s_astore_n (C : zC X l D N0 cc nL own Ts) {i : Fin 4} {x : Nat} (d : decode cc pc = .ok (.astore_n i, 1)) (h : L.set i.val (some (.ref x)) = L') (k : ZS X sz μ kc kn (pc + 1) L' st) (hi : i.val < L.length := by exact Nat.le_of_ble_eq_true rfl) (hok : zok L i.val = true := by rfl) : ZS X sz μ kc kn pc L (.ref x :: st) := by
  obtain ⟨p, l', e, R, s, m, args, below, meth, c, D', N', Q⟩ := X
  obtain ⟨rfl, rfl, rfl, hx, hb, hml, hown, hts, hlk, hB⟩ := C
  intro H locs cells slots ls hz hH hS hc1 hs1 hl
  subst h
  exact lv_astore_n hx hb d rfl hl.has hi rfl (fun ls1 h1 => k H locs cells slots ls1 hz hH hS hc1 hs1 (zL.set1 hok h1))
theorem s_astore (C : zC X l D N0 cc nL own Ts) {i : Nat} {x : Nat} (d : decode cc pc = .ok (.astore i, 2)) (h : L.set i (some (.ref x)) = L') (k : ZS X sz μ kc kn (pc + 2) L' st) (hi : i < L.length := by exact Nat.le_of_ble_eq_true rfl) (hok : zok L i = true := by rfl) : ZS X sz μ kc kn pc L (.ref x :: st) := by
  obtain ⟨p, l', e, R, s, m, args, below, meth, c, D', N', Q⟩ := X
  obtain ⟨rfl, rfl, rfl, hx, hb, hml, hown, hts, hlk, hB⟩ := C
  intro H locs cells slots ls hz hH hS hc1 hs1 hl
  subst h
  exact lv_astore hx hb d hl.has hi rfl (fun ls1 h1 => k H locs cells slots ls1 hz hH hS hc1 hs1 (zL.set1 hok h1))
theorem s_iinc (C : zC X l D N0 cc nL own Ts) {i : Nat} {n x : Int} (d : decode cc pc = .ok (.iinc i n, 3)) (h : L[i]? = some (some (zi x))) (h2 : L.set i (some (zi (x + n))) = L') (k : ZS X sz μ kc kn (pc + 3) L' st) (hok : zok L i = true := by rfl) : ZS X sz μ kc kn pc L st := by
  obtain ⟨p, l', e, R, s, m, args, below, meth, c, D', N', Q⟩ := X
  obtain ⟨rfl, rfl, rfl, hx, hb, hml, hown, hts, hlk, hB⟩ := C
  intro H locs cells slots ls hz hH hS hc1 hs1 hl
  subst h2
  obtain ⟨k0, hk0⟩ := List.getElem?_of_mem (zal_mem.mpr h)
  exact lv_iinc hx hb d hl.has hk0 (zI_add x n) (List.getElem?_eq_some_iff.mp h).1 rfl (fun ls1 h1 => k H locs cells slots ls1 hz hH hS hc1 hs1 (zL.set1 hok h1))
theorem s_dup (C : zC X l D N0 cc nL own Ts) {v : Value} (d : decode cc pc = .ok (.dup, 1)) (hv : v.category = 1) (k : ZS X sz μ kc kn (pc + 1) L (v :: v :: st)) : ZS X sz μ kc kn pc L (v :: st) := by
  obtain ⟨p, l', e, R, s, m, args, below, meth, c, D', N', Q⟩ := X
  obtain ⟨rfl, rfl, rfl, hx, hb, hml, hown, hts, hlk, hB⟩ := C
  intro H locs cells slots ls hz hH hS hc1 hs1 hl
  exact lv_dup hx hb d hv (k H locs cells slots ls hz hH hS hc1 hs1 hl)
theorem s_icmp_ge (C : zC X l D N0 cc nL own Ts) {x y : Int} {off : Int} {tgt : Nat} (d : decode cc pc = .ok (.if_icmp .ge off, 3)) (ht : (pc : Int) + off = (tgt : Int)) (kt : y ≤ x → ZS X sz μ kc kn tgt L st) (kf : x < y → ZS X sz μ kc kn (pc + 3) L st) (hxr : -2147483648 ≤ x ∧ x < 2147483648 := by omega) (hyr : -2147483648 ≤ y ∧ y < 2147483648 := by omega) : ZS X sz μ kc kn pc L (zi y :: zi x :: st) := by
  obtain ⟨p, l', e, R, s, m, args, below, meth, c, D', N', Q⟩ := X
  obtain ⟨rfl, rfl, rfl, hx, hb, hml, hown, hts, hlk, hB⟩ := C
  intro H locs cells slots ls hz hH hS hc1 hs1 hl
  exact lv_icmp_ge hx hb d ht (fun q => kt ((zI_le hyr hxr).mp q) H locs cells slots ls hz hH hS hc1 hs1 hl) (fun q => kf (Int.not_le.mp (fun h => q ((zI_le hyr hxr).mpr h))) H locs cells slots ls hz hH hS hc1 hs1 hl)
theorem s_goto (C : zC X l D N0 cc nL own Ts) {off : Int} {tgt : Nat} (d : decode cc pc = .ok (.goto off, 3)) (ht : (pc : Int) + off = (tgt : Int)) (k : ZS X sz μ kc kn tgt L st) : ZS X sz μ kc kn pc L st := by
  obtain ⟨p, l', e, R, s, m, args, below, meth, c, D', N', Q⟩ := X
  obtain ⟨rfl, rfl, rfl, hx, hb, hml, hown, hts, hlk, hB⟩ := C
  intro H locs cells slots ls hz hH hS hc1 hs1 hl
  exact lv_goto hx hb d ht (k H locs cells slots ls hz hH hS hc1 hs1 hl)
theorem s_get (C : zC X l D N0 cc nL own Ts) {a ci index : Nat} {fs : List Value} {CN : String} {T : u_T} {N : Nat} {v : Value} (hm : μ a = some (.inr (ci, fs))) (hc : vwCl[ci]? = some (CN, T, N)) (k : Nat) (hk : k < N) (hlink : Cond.fieldLink own index CN (T k).2.1 (T k).2.2.1 ∈ Ts) (hin : ∀ w ∈ u_ws CN T N, w ∈ Ts) (href : (T k).1 = CN) (hv : fs[k]? = some v) (d : decode cc pc = .ok (.getfield index, 3)) (kk : ZS X sz μ kc kn (pc + 3) L (v :: st)) : ZS X sz μ kc kn pc L (.ref a :: st) := by
  obtain ⟨p, l', e, R, s, m, args, below, meth, c, D', N', Q⟩ := X
  obtain ⟨rfl, rfl, rfl, hx, hb, hml, hown, hts, hlk, hB⟩ := C
  intro H locs cells slots ls hz hH hS hc1 hs1 hl
  exact va_get hx hb hts hin hown hB.1 (hH.one hm) 0 rfl hc k hk (hts _ hlink) (fun x q => by rw [← href]; exact q) hv d (kk H locs cells slots ls hz hH hS hc1 hs1 hl)
theorem s_put (C : zC X l D N0 cc nL own Ts) {a ci index : Nat} {fs : List Value} {CN : String} {T : u_T} {N : Nat} {v : Value} (hm : μ a = some (.inr (ci, fs))) (hc : vwCl[ci]? = some (CN, T, N)) (ty0 : Nat → FieldType) (hty : ∀ k, k < N → parseFieldDescriptor (T k).2.2.1 = some (ty0 k)) (hnm : ∀ a, a < N → ∀ b, b < N → a ≠ b → (T a).2.1 ≠ (T b).2.1) (k : Nat) (hk : k < N) (hlink : Cond.fieldLink own index CN (T k).2.1 (T k).2.2.1 ∈ Ts) (hin : ∀ w ∈ u_ws CN T N, w ∈ Ts) (href : (T k).1 = CN) (hfin : (T k).2.2.2 = false) (hn : narrow (ty0 k) v = v) (hfit : fits (ty0 k) v = true) (hlen : k < fs.length) (d : decode cc pc = .ok (.putfield index, 3)) (kk : ZS X sz (zu μ a (.inr (ci, fs.set k v))) kc kn (pc + 3) L st) : ZS X sz μ kc kn pc L (v :: .ref a :: st) := by
  obtain ⟨p, l', e, R, s, m, args, below, meth, c, D', N', Q⟩ := X
  obtain ⟨rfl, rfl, rfl, hx, hb, hml, hown, hts, hlk, hB⟩ := C
  intro H locs cells slots ls hz hH hS hc1 hs1 hl
  have hap := va_apart (own := own) hts hin ty0 hty hnm hB.1 hc
  obtain ⟨r, h1, cell, q1, q2, q3, q4⟩ := (hH a _ hm).1
  have hr : r = (CN, T, N) := Option.some.inj (h1.symm.trans hc)
  subst hr
  obtain ⟨hSl, hfc, kC, hkC, hkind⟩ := hB.1.1 ci _ hc
  obtain ⟨cf, kf, fi, f, hi, hsl⟩ := hSl k hk
  have hlay := hts _ (hin _ (u_in_lay hk))
  unfold u_lay at hlay
  rw [if_neg (by rw [hfin]; decide)] at hlay
  have hst := (u_facts hfc hkC (u_lays hts hin hk) hi).1
  have h6 := u_store hfc hkC hkind hlay hi (hty k hk) hn hfit
  refine W.putK hx hb (f := f) ⟨hown, hts _ hlink, ⟨_, _, _, by rw [← href]; exact hi⟩, hst⟩ (by rw [q2]; exact h6) q1 q3 (by rw [hsl]; exact k2_hasslot (q4 k hk)) rfl rfl d fun H' e1 e2 e3 => ?_
  rw [hsl] at e1 ⊢
  have hv9 : va_at D' vwCl (a, .inr (ci, fs.set k v)) H' := ⟨_, hc, t_OB.to (V := updV (vp_V fs) k v) ⟨_, e1, q2, q3, t_set q4 hap hk v⟩ (fun j _ => vp_updV_set hlen v j)⟩
  exact kk H' _ cells slots ls (e2.trans hz) (hH.seta hv9 (hH a _ hm).2 e3) (hS.put e2 e3 (hH a _ hm).2) hc1 hs1 hl
theorem s_putF (C : zC X l D N0 cc nL own Ts) {a ci index : Nat} {fs : List Value} {CN : String} {T : u_T} {N : Nat} {v : Value} (hm : μ a = some (.inr (ci, fs))) (hc : vwCl[ci]? = some (CN, T, N)) (ty0 : Nat → FieldType) (hty : ∀ k, k < N → parseFieldDescriptor (T k).2.2.1 = some (ty0 k)) (hnm : ∀ a, a < N → ∀ b, b < N → a ≠ b → (T a).2.1 ≠ (T b).2.1) (k : Nat) (hk : k < N) (hlink : Cond.fieldLink own index CN (T k).2.1 (T k).2.2.1 ∈ Ts) (hin : ∀ w ∈ u_ws CN T N, w ∈ Ts) (href : (T k).1 = CN) (hfin : (T k).2.2.2 = true) (hin2 : zInit X) (hdecl : CN = own) (hn : narrow (ty0 k) v = v) (hfit : fits (ty0 k) v = true) (hlen : k < fs.length) (d : decode cc pc = .ok (.putfield index, 3)) (kk : ZS X sz (zu μ a (.inr (ci, fs.set k v))) kc kn (pc + 3) L st) : ZS X sz μ kc kn pc L (v :: .ref a :: st) := by
  obtain ⟨p, l', e, R, s, m, args, below, meth, c, D', N', Q⟩ := X
  obtain ⟨rfl, rfl, rfl, hx, hb, hml, hown, hts, hlk, hB⟩ := C
  intro H locs cells slots ls hz hH hS hc1 hs1 hl
  have hap := va_apart (own := own) hts hin ty0 hty hnm hB.1 hc
  obtain ⟨r, h1, cell, q1, q2, q3, q4⟩ := (hH a _ hm).1
  have hr : r = (CN, T, N) := Option.some.inj (h1.symm.trans hc)
  subst hr
  obtain ⟨hSl, hfc, kC, hkC, hkind⟩ := hB.1.1 ci _ hc
  obtain ⟨cf, kf, fi, f, hi, hsl⟩ := hSl k hk
  have hlay := hts _ (hin _ (u_in_lay hk))
  unfold u_lay at hlay
  rw [if_pos hfin] at hlay
  have hst := (u_facts hfc hkC (u_lays hts hin hk) hi).1
  have hcf : m.cls = cf := by
    obtain ⟨_, _, c', _, _, _, -, -, hf', -, -, -, hown2, -⟩ := Cond.laysFinal_spec hlay
    have e1 : c' = cf := by have := hi.symm.trans hf'; simp at this; exact this.1.symm
    rw [href, hdecl] at hown2
    rw [← e1]; exact Option.some.inj (hown.symm.trans hown2)
  have h6 := u_fits hfc hkC hkind (Or.inr hlay) hi (hty k hk) hn hfit
  refine W.putFinK hx hb hown (hts _ hlink) (by rw [← href]; exact hi) hst hcf hin2 (by rw [q2]; exact h6) q1 q3 (by rw [hsl]; exact k2_hasslot (q4 k hk)) rfl rfl d fun H' e1 e2 e3 => ?_
  rw [hsl] at e1 ⊢
  have hv9 : va_at D' vwCl (a, .inr (ci, fs.set k v)) H' := ⟨_, hc, t_OB.to (V := updV (vp_V fs) k v) ⟨_, e1, q2, q3, t_set q4 hap hk v⟩ (fun j _ => vp_updV_set hlen v j)⟩
  exact kk H' _ cells slots ls (e2.trans hz) (hH.seta hv9 (hH a _ hm).2 e3) (hS.put e2 e3 (hH a _ hm).2) hc1 hs1 hl
theorem s_alen (C : zC X l D N0 cc nL own Ts) {a n : Nat} {cA : ClassId} {x} (hm : μ a = some (.inl (cA, n, x))) (t0 : Nat) {ty : FieldType} (ht : (zTY D)[t0]? = some (cA, ty)) (d : decode cc pc = .ok (.arraylength, 1)) (k : ZS X sz μ kc kn (pc + 1) L (zi (n : Int) :: st)) : ZS X sz μ kc kn pc L (.ref a :: st) := by
  obtain ⟨p, l', e, R, s, m, args, below, meth, c, D', N', Q⟩ := X
  obtain ⟨rfl, rfl, rfl, hx, hb, hml, hown, hts, hlk, hB⟩ := C
  intro H locs cells slots ls hz hH hS hc1 hs1 hl
  exact va_alen hx hb hB.1 (hH.one hm) 0 t0 rfl ht rfl d (k H locs cells slots ls hz hH hS hc1 hs1 hl)
theorem s_fast (C : zC X l D N0 cc nL own Ts) {a n v : Nat} {f : Nat → Option Nat} {fs : List Value} {i : Int} (hm : μ a = some (zAF D n f)) (hv : μ v = some (.inr (0, fs))) (hn : n < 2147483648) (d : decode cc pc = .ok (.aastore, 1)) (k : ZS X sz (zu μ a (zAF D n (zw f i.toNat (some v)))) kc kn (pc + 1) L st) (hi : 0 ≤ i ∧ i < n := by omega) : ZS X sz μ kc kn pc L (.ref v :: zi i :: .ref a :: st) := by
  obtain ⟨p, l', e, R, s, m, args, below, meth, c, D', N', Q⟩ := X
  obtain ⟨rfl, rfl, rfl, hx, hb, hml, hown, hts, hlk, hB⟩ := C
  intro H locs cells slots ls hz hH hS hc1 hs1 hl
  have hlt : (Int32.ofInt i).toNatClampNeg < n := by rw [zI_nc (a := i) (by omega)]; omega
  obtain ⟨⟨r', hr', cellV, g1, g2, g3, -⟩, -⟩ := hH v _ hv
  have hcls := (hB.1.1 0 _ rfl).2
  obtain ⟨kA, comp, k1, k2, k3, -⟩ := (hB.1.2 4 _ rfl).2
  have hcomp : comp = D'.1 0 := Option.some.inj (k3.symm.trans hcls.1)
  subst hcomp
  obtain ⟨kC, hkC, -⟩ := hcls.2
  refine W.aast hx hb (hH a _ hm).1 (fun q h => by cases h) (fun h => by cases h) k1 k2 rfl hkC ⟨fun q => zI_in hi hn (Or.inl q), by show _ < (arrV _ _ _).slots.size; rw [arrV_size]; exact hlt⟩ g1 (fun q h => by rw [g3] at h; cases h) (by rw [g2]; exact hkC) (by rw [g2]; exact va_asg _ _) rfl rfl d fun H1 e z oq => ?_
  refine k H1 _ cells slots ls (z.trans hz) (hH.seta ?_ (hH a _ hm).2 oq) (hS.put z oq (hH a _ hm).2) hc1 hs1 hl
  show H1[a]? = some (vp_cell _ _)
  rw [e, vp_cell_q, vp_cell_q, arrV_store, zI_nc (by omega)]
  congr 2
  funext q
  by_cases hq : q = i.toNat
  · subst hq
    simp [updV, zw, va_rf]
  · simp [updV, zw, hq]

theorem s_objInit (C : zC X l D N0 cc nL own zWS) {rk rn rf rw : Nat} (Rm : zR X rk rn rf rw) {a index : Nat} (w1 : Cond.methodLink own index Lib.objectInit ∈ zWS) (w2 : Cond.instanceMethod Lib.objectInit ∈ zWS) (w3 : Cond.code Lib.objectInit { data := #[177] } 1 none ∈ zWS) (d : decode cc pc = .ok (.invokespecial index, 3)) (hLn : L.length = nL) (hr : 1 ≤ rf ∧ (st.map fun v => v.category).sum + 12 ≤ rw) (k : ZS X sz μ kc kn (pc + 3) L st) : ZS X sz μ kc kn pc L (.ref a :: st) := by
  obtain ⟨p, l', e, R, s, m, args, below, meth, c, D', N', Q⟩ := X
  obtain ⟨rfl, rfl, rfl, hx, hb, hml, hown, hts, hlk, hB⟩ := C
  obtain ⟨r1, r2, r3, r4⟩ := Rm
  intro H locs cells slots ls hz hH hS hc1 hs1 hl
  exact W.objInit hx hb hown (hts _ w1) (hts _ w2) (hts _ w3) rfl (hl.1.trans (hLn.trans hml.symm)) rfl d (Nat.le_trans hr.1 r3) (by show 2 * 0 + _ + _ ≤ _; have := Nat.le_trans hr.2 r4; omega) (k H locs cells slots ls hz hH hS hc1 hs1 hl)
theorem s_newI (C : zC X l D N0 cc nL own zWS) {rk rn rf rw : Nat} (Rm : zR X rk rn rf rw) {n : Int} (hn : 0 ≤ n ∧ n < 100000) (w : Cond.arrayClass .int ∈ zWS) (d : decode cc pc = .ok (.newarray .int, 2)) (hr : kc + 1 ≤ rk ∧ kn + n.toNat ≤ rn) (k : (∀ (a : Nat) (e : va_E), μ a = some e → a < sz) → ZS X (sz + 1) (zu μ sz (zAI D n.toNat (fun _ => 0))) (kc + 1) (kn + n.toNat) (pc + 2) L (.ref sz :: st)) : ZS X sz μ kc kn pc L (zi n :: st) := by
  obtain ⟨p, l', e, R, s, m, args, below, meth, c, D', N', Q⟩ := X
  obtain ⟨rfl, rfl, rfl, hx, hb, hml, hown, hts, hlk, hB⟩ := C
  obtain ⟨r1, r2, r3, r4⟩ := Rm
  intro H locs cells slots ls hz hH hS hc1 hs1 hl
  subst hz
  have hN : N' ≤ H.size := Nat.le_trans hB.2.2.1 hS.1
  refine va_newaK (atype := .int) hx hb (hts _ w) rfl d rfl (by rw [zI_0, zI_lt (by omega) (by omega)]; omega) (zI_nc (by omega)) (by show n.toNat * 4 ≤ 536870912; omega) (Nat.le_trans (Nat.le_trans (Nat.add_le_add_right hc1 _) hr.1) r1) (Nat.le_trans (Nat.le_trans (Nat.add_le_add_right hs1 _) hr.2) r2) rfl fun H1 cA e1 z1 o1 hAr hNm => ?_
  have hcA : cA = D'.1 100 := Option.some.inj (hNm.symm.trans (hB.1.2 0 _ rfl).2)
  subst hcA
  refine k (fun a e ha => hH.lt ha) H1 locs _ _ ls z1 (hH.new ?_ hN o1) ⟨Nat.le_trans hS.1 (by omega), fun x h1 h2 => (o1 x (Nat.lt_of_lt_of_le h1 hS.1)).trans (hS.2.1 x h1 h2), hS.2.2⟩ (Nat.add_le_add_right hc1 _) (Nat.add_le_add_right hs1 _) hl
  show H1[H.size]? = some (vp_cell _ _)
  rw [e1, vp_cell_i]
  rfl
theorem s_newJ (C : zC X l D N0 cc nL own zWS) {rk rn rf rw : Nat} (Rm : zR X rk rn rf rw) {n : Int} (hn : 0 ≤ n ∧ n < 100000) (w : Cond.arrayClass .long ∈ zWS) (d : decode cc pc = .ok (.newarray .long, 2)) (hr : kc + 1 ≤ rk ∧ kn + n.toNat ≤ rn) (k : (∀ (a : Nat) (e : va_E), μ a = some e → a < sz) → ZS X (sz + 1) (zu μ sz (zAL D n.toNat zF)) (kc + 1) (kn + n.toNat) (pc + 2) L (.ref sz :: st)) : ZS X sz μ kc kn pc L (zi n :: st) := by
  obtain ⟨p, l', e, R, s, m, args, below, meth, c, D', N', Q⟩ := X
  obtain ⟨rfl, rfl, rfl, hx, hb, hml, hown, hts, hlk, hB⟩ := C
  obtain ⟨r1, r2, r3, r4⟩ := Rm
  intro H locs cells slots ls hz hH hS hc1 hs1 hl
  subst hz
  have hN : N' ≤ H.size := Nat.le_trans hB.2.2.1 hS.1
  refine va_newaK (atype := .long) hx hb (hts _ w) rfl d rfl (by rw [zI_0, zI_lt (by omega) (by omega)]; omega) (zI_nc (by omega)) (by show n.toNat * 8 ≤ 536870912; omega) (Nat.le_trans (Nat.le_trans (Nat.add_le_add_right hc1 _) hr.1) r1) (Nat.le_trans (Nat.le_trans (Nat.add_le_add_right hs1 _) hr.2) r2) rfl fun H1 cA e1 z1 o1 hAr hNm => ?_
  have hcA : cA = D'.1 101 := Option.some.inj (hNm.symm.trans (hB.1.2 1 _ rfl).2)
  subst hcA
  refine k (fun a e ha => hH.lt ha) H1 locs _ _ ls z1 (hH.new ?_ hN o1) ⟨Nat.le_trans hS.1 (by omega), fun x h1 h2 => (o1 x (Nat.lt_of_lt_of_le h1 hS.1)).trans (hS.2.1 x h1 h2), hS.2.2⟩ (Nat.add_le_add_right hc1 _) (Nat.add_le_add_right hs1 _) hl
  show H1[H.size]? = some (vp_cell _ _)
  rw [e1, vp_cell_l]
  rfl
theorem s_new (C : zC X l D N0 cc nL own zWS) {rk rn rf rw : Nat} (Rm : zR X rk rn rf rw) {ci index : Nat} {CN : String} {T : u_T} {N : Nat} {fs : List Value} (hc : vwCl[ci]? = some (CN, T, N)) (hin : ∀ w ∈ u_ws CN T N, w ∈ zWS) (ty0 : Nat → FieldType) (hty : ∀ k, k < N → parseFieldDescriptor (T k).2.2.1 = some (ty0 k)) (w1 : Cond.classLink own index CN ∈ zWS) (w2 : Cond.instantiable CN N ∈ zWS) (w3 : Cond.initialized CN ∈ zWS) (hfs : ∀ j, j < N → defaultValue (ty0 j) = vp_V fs j) (d : decode cc pc = .ok (.new index, 3)) (hr : kc + 1 ≤ rk ∧ kn + N ≤ rn) (k : (∀ (a : Nat) (e : va_E), μ a = some e → a < sz) → ZS X (sz + 1) (zu μ sz (.inr (ci, fs))) (kc + 1) (kn + N) (pc + 3) L (.ref sz :: st)) : ZS X sz μ kc kn pc L st := by
  obtain ⟨p, l', e, R, s, m, args, below, meth, c, D', N', Q⟩ := X
  obtain ⟨rfl, rfl, rfl, hx, hb, hml, hown, hts, hlk, hB⟩ := C
  obtain ⟨r1, r2, r3, r4⟩ := Rm
  intro H locs cells slots ls hz hH hS hc1 hs1 hl
  subst hz
  have hN : N' ≤ H.size := Nat.le_trans hB.2.2.1 hS.1
  have hKn := hB.1.1 ci _ hc
  refine W.newcK hx hb hown (hts _ w1) (hts _ w2) (hts _ w3) rfl d (Nat.le_trans (Nat.le_trans (Nat.add_le_add_right hc1 _) hr.1) r1) (Nat.le_trans (Nat.le_trans (Nat.add_le_add_right hs1 _) hr.2) r2) hKn.2.1 rfl fun H1 kC hkC e1 z1 o1 => ?_
  exact k (fun a e ha => hH.lt ha) H1 locs _ _ ls z1 (hH.new ⟨_, hc, (u_born ty0 hts hin hKn hkC e1 hty).to hfs⟩ hN o1) ⟨Nat.le_trans hS.1 (by omega), fun x h1 h2 => (o1 x (Nat.lt_of_lt_of_le h1 hS.1)).trans (hS.2.1 x h1 h2), hS.2.2⟩ (Nat.add_le_add_right hc1 _) (Nat.add_le_add_right hs1 _) hl
theorem s_anewF (C : zC X l D N0 cc nL own zWS) {rk rn rf rw : Nat} (Rm : zR X rk rn rf rw) {index : Nat} {n : Int} (hn : 0 ≤ n ∧ n < 100000) (w1 : Cond.classLink own index RX0 ∈ zWS) (d : decode cc pc = .ok (.anewarray index, 3)) (hr : kc + 1 ≤ rk ∧ kn + n.toNat ≤ rn) (k : (∀ (a : Nat) (e : va_E), μ a = some e → a < sz) → ZS X (sz + 1) (zu μ sz (zAF D n.toNat (fun _ => none))) (kc + 1) (kn + n.toNat) (pc + 3) L (.ref sz :: st)) : ZS X sz μ kc kn pc L (zi n :: st) := by
  obtain ⟨p, l', e, R, s, m, args, below, meth, c, D', N', Q⟩ := X
  obtain ⟨rfl, rfl, rfl, hx, hb, hml, hown, hts, hlk, hB⟩ := C
  obtain ⟨r1, r2, r3, r4⟩ := Rm
  intro H locs cells slots ls hz hH hS hc1 hs1 hl
  subst hz
  have hN : N' ≤ H.size := Nat.le_trans hB.2.2.1 hS.1
  have hnn : (Int32.ofInt n).toNatClampNeg = n.toNat := zI_nc (by omega)
  refine W.anew hx hb hown (hts _ w1) (va_AO.use hB.2.2.2.2.2.2.2.1) rfl d rfl (by rw [zI_0, zI_lt (by omega) (by omega)]; omega) (by rw [hnn]; omega) (Nat.le_trans (Nat.le_trans (Nat.add_le_add_right hc1 _) hr.1) r1) (by rw [hnn]; exact Nat.le_trans (Nat.le_trans (Nat.add_le_add_right hs1 _) hr.2) r2) fun cA kA comp f1 f2 f3 f4 => ?_
  obtain ⟨kA2, comp2, k1, k2, k3, k4⟩ := (hB.1.2 4 _ rfl).2
  have hcA : cA = D'.1 104 := Option.some.inj (f1.symm.trans k4)
  subst hcA
  rw [hnn]
  refine k (fun a e ha => hH.lt ha) _ locs _ _ ls (Array.size_push ..) (hH.new ?_ hN (fun q hq => by rw [Array.getElem?_push, if_neg (Nat.ne_of_lt hq)])) ⟨Nat.le_trans hS.1 (by rw [Array.size_push]; omega), fun x h1 h2 => (by rw [Array.getElem?_push, if_neg (Nat.ne_of_lt (Nat.lt_of_lt_of_le h1 hS.1))]; exact hS.2.1 x h1 h2), hS.2.2⟩ (Nat.add_le_add_right hc1 _) (Nat.add_le_add_right hs1 _) hl
  show (H.push _)[H.size]? = some (vp_cell _ _)
  rw [Array.getElem?_push_size, arrV_new, vp_cell_q]
  rfl
theorem s_anewB (C : zC X l D N0 cc nL own zWS) {rk rn rf rw : Nat} (Rm : zR X rk rn rf rw) {index : Nat} {n : Int} (hn : 0 ≤ n ∧ n < 100000) (w1 : Cond.classLink own index (FieldType.array .boolean).toString ∈ zWS) (d : decode cc pc = .ok (.anewarray index, 3)) (hr : kc + 1 ≤ rk ∧ kn + n.toNat ≤ rn) (k : (∀ (a : Nat) (e : va_E), μ a = some e → a < sz) → ZS X (sz + 1) (zu μ sz (zAB D n.toNat (fun _ => none))) (kc + 1) (kn + n.toNat) (pc + 3) L (.ref sz :: st)) : ZS X sz μ kc kn pc L (zi n :: st) := by
  obtain ⟨p, l', e, R, s, m, args, below, meth, c, D', N', Q⟩ := X
  obtain ⟨rfl, rfl, rfl, hx, hb, hml, hown, hts, hlk, hB⟩ := C
  obtain ⟨r1, r2, r3, r4⟩ := Rm
  intro H locs cells slots ls hz hH hS hc1 hs1 hl
  subst hz
  have hN : N' ≤ H.size := Nat.le_trans hB.2.2.1 hS.1
  have hnn : (Int32.ofInt n).toNatClampNeg = n.toNat := zI_nc (by omega)
  refine W.anewA (t := .boolean) hx hb hown (hts _ w1) (va_AOA.use hB.2.2.2.2.2.2.2.2.1) rfl d rfl (by rw [zI_0, zI_lt (by omega) (by omega)]; omega) (by rw [hnn]; omega) (Nat.le_trans (Nat.le_trans (Nat.add_le_add_right hc1 _) hr.1) r1) (by rw [hnn]; exact Nat.le_trans (Nat.le_trans (Nat.add_le_add_right hs1 _) hr.2) r2) fun cA kA comp f1 f2 f3 f4 => ?_
  have hcA : cA = D'.1 105 := Option.some.inj (f1.symm.trans ((hB.1.2 5 _ rfl).2 : s.vm.findClass ("[" ++ (FieldType.array .boolean).toString) = some (D'.1 105)))
  subst hcA
  rw [hnn]
  refine k (fun a e ha => hH.lt ha) _ locs _ _ ls (Array.size_push ..) (hH.new ?_ hN (fun q hq => by rw [Array.getElem?_push, if_neg (Nat.ne_of_lt hq)])) ⟨Nat.le_trans hS.1 (by rw [Array.size_push]; omega), fun x h1 h2 => (by rw [Array.getElem?_push, if_neg (Nat.ne_of_lt (Nat.lt_of_lt_of_le h1 hS.1))]; exact hS.2.1 x h1 h2), hS.2.2⟩ (Nat.add_le_add_right hc1 _) (Nat.add_le_add_right hs1 _) hl
  show (H.push _)[H.size]? = some (vp_cell _ _)
  rw [Array.getElem?_push_size, arrV_new, vp_cell_q]
  rfl
end ZSROWS
end
section
/-! contracts of constructors, with the heap's size; new T[n][m] -/
def zPreS (D : va_G) (N0 : Nat) (av : List Value) (μ : zM) (sz : Nat) : Array Value → State → Prop := fun v U => v = av.toArray ∧ (zH D N0 μ U.heap ∧ U.heap.size = sz) ∧ zB D N0 U
theorem zPreS_blind {D : va_G} {N0 : Nat} {av : List Value} {μ : zM} {sz : Nat} : FrameBlind (zPreS D N0 av μ sz) := fun a U g mk h => ⟨h.1, h.2.1, h.2.2.moved (U := U.calling g mk a) (State.WarmedH.refl U) va_S.rf⟩
abbrev zQVS (D : va_G) (N0 : Nat) (sz : Nat) (post : zM → Prop) : Array Value → State → Outcome → State → Prop := va_Qv (S := zM) post (fun u t => zH D N0 u t.heap ∧ t.heap.size = sz) (fun q => N0 ≤ q)
abbrev zMetS (l : Launch) (y : MethodName) (cc : ByteArray) (maxL : Nat) (rm : Room) (D : va_G) (N0 : Nat) (av : List Value) (μ : zM) (sz : Nat) (Qc : Array Value → State → Outcome → State → Prop) : Prop := Met l y [Cond.code y cc maxL none] rm (zPreS D N0 av μ sz) Qc rm.cells rm.slots (fun q => N0 ≤ q)
theorem zMetS_of {l : Launch} {y : MethodName} {cc : ByteArray} {maxL : Nat} {rm : Room} {D : va_G} {N0 : Nat} {av : List Value} {μ : zM} {sz : Nat} {Qc : Array Value → State → Outcome → State → Prop} (hy : plainName y.cls = true) (hfit : (zarg av).length ≤ maxL)
    (body : ∀ X : zX, zC X l D N0 cc maxL y.cls zWS → zR X rm.cells rm.slots rm.frames rm.locals → zName X y → zEnd X none rm.cells rm.slots Qc → ZS X sz μ 0 0 0 (zent av maxL) []) : zMetS l y cc maxL rm D N0 av μ sz Qc := by
  refine Met.ofW (cc := cc) (maxL := maxL) (ret := none) hy rfl ?_
  intro p e s m args below meth c s₁ B hml hv
  obtain ⟨rfl, hH, hB⟩ := hv
  have hown : s.vm.findClass y.cls = some m.cls := findClass_of_methodNamed B.named
  have hin : meth.name = y.name := (name_of_methodNamed B.named B.method).1
  have h := body (p, l, e, (headSpec [Cond.code y cc maxL none] rm).room, s, m, av.toArray, below, meth, c, D, N0, MQ below Qc av.toArray s rm.cells rm.slots (fun q => N0 ≤ q)) ⟨rfl, rfl, rfl, B.exec, B.bytes, hml, hown, fun w hw => hB.2.2.2.1 w hw _, B.notSynchronized, hB⟩ ⟨Nat.le_refl _, Nat.le_refl _, Nat.le_refl _, Nat.le_refl _⟩ hin ⟨B.returns, rfl⟩
  have hle := lv_entry av (n := maxL) (by rw [← zarg_len]; exact hfit)
  rw [lg_entry_eq]
  exact h s.heap [] 0 0 _ hH.2 hH.1 va_S.rf (Nat.le_refl _) (Nat.le_refl _) (zent_ok hfit hle)
section ZSC
variable {X : zX} {l : Launch} {D : va_G} {N0 : Nat} {cc : ByteArray} {nL : Nat} {own : String} {μ : zM} {kc kn pc : Nat} {L : List (Option Value)} {st : List Value} {sz : Nat}
variable {rk rn rf rw : Nat} {y : MethodName} {bytes : ByteArray} {maxL n index : Nat} {rm : Room} {b : Nat} {As rest : List Value}
theorem s_vret {Ts : List Cond} (C : zC X l D N0 cc nL own Ts) {k0 n0 : Nat} {post : zM → Prop} (E : zEnd X none k0 n0 (zQVS D N0 sz post)) (d : decode cc pc = .ok (.return_, 1)) (hk : kc ≤ k0) (hn : kn ≤ n0) (hp : post μ) : ZS X sz μ kc kn pc L [] := by
  obtain ⟨p, l', e, R, s, m, args, below, meth, c, D', N', Q⟩ := X
  obtain ⟨rfl, rfl, rfl, hx, hb, hml, hown, hts, hlk, hB⟩ := C
  obtain ⟨hr, rfl⟩ := E
  intro H locs cells slots ls hz hH hS hc1 hs1 hl
  refine W.widen (Nat.le_trans hc1 hk) (Nat.le_trans hs1 hn) ?_
  exact W.vret hx hb hr (fun t ht hW => ⟨⟨μ, rfl, hp, by show zH _ _ μ t.heap; rw [ht]; exact hH, by rw [ht]; exact hz⟩, hS.F ht⟩) hS.2.2 d hlk
theorem s_init (C : zC X l D N0 cc nL own zWS) (Rm : zR X rk rn rf rw) (q : zCalI y bytes maxL n) (w1 : Cond.methodLink own index y ∈ zWS) {sz2 : Nat} {post : zM → Prop} (hM : zMetS l y bytes maxL rm D N0 (.ref b :: As) μ sz (zQVS D N0 sz2 post)) (d : decode cc pc = .ok (.invokespecial index, 3)) (hst : st = As.reverse ++ .ref b :: rest) (hn : As.length = n) (hcat : (rest.map fun v => v.category).sum ≤ 8) (hLn : L.length = nL) (hroom : rm.frames + 1 ≤ rf ∧ 8 + (maxL + 11) + rm.locals ≤ rw ∧ kc + rm.cells ≤ rk ∧ kn + rm.slots ≤ rn) (kk : ∀ μ', post μ' → ZS X sz2 μ' (kc + rm.cells) (kn + rm.slots) (pc + 3) L rest) : ZS X sz μ kc kn pc L st := by
  obtain ⟨p, l', e, R, s, m, args, below, meth, c, D', N', Q⟩ := X
  obtain ⟨rfl, rfl, rfl, hx, hb, hml, hown, hts, hlk, hB⟩ := C
  obtain ⟨r1, r2, r3, r4⟩ := Rm
  obtain ⟨g1, g2, g3, g4⟩ := hroom
  obtain ⟨q1, q3, q4, q8, q5, q6, q7⟩ := q
  intro H locs cells slots ls hz hH hS hc1 hs1 hl
  have hr := va_runI (p := p) (e := e) (R := R) (below := below) (meth := meth) (locs := locs) (cells := cells) (slots := slots) (g := F0 m pc ls st) (As := As) (rest := rest) ⟨hx, hb, hml, hown, hts⟩ hM ⟨⟨rfl, rfl, Nat.le_trans g1 r3, Nat.le_trans g2 r4, zpay hB q4, List.mem_singleton.mpr rfl, hts _ q4, hts _ q3, ⟨q5, q6⟩, zn q7, hts _ w1⟩, q8, hts _ q1⟩ ⟨zPreS_blind, fun U hU hW => ⟨rfl, ⟨by rw [hU]; exact hH, by rw [hU]; exact hz⟩, hB.moved hW (by rw [hU]; exact hS)⟩⟩ rfl hn (hl.1.trans hLn) hst (lv_room hcat) d ⟨Nat.le_trans (Nat.le_trans (Nat.add_le_add_right hc1 _) g3) r1, Nat.le_trans (Nat.le_trans (Nat.add_le_add_right hs1 _) g4) r2⟩
  refine va_callv hr hS (fun q _ h => h) (fun q h => h) (fun u t H1 locs1 ht hvm hp hB1 hz1 hk1 hS1 => ?_)
  exact kk u hp H1 locs1 _ _ ls (by rw [← ht]; exact hB1.2) (by rw [← ht]; exact hB1.1) hS1 (Nat.add_le_add_right hc1 _) (Nat.add_le_add_right hs1 _) hl
theorem s_initN {host : String} (C : zC X l D N0 cc nL own zWS) (Rm : zR X rk rn rf rw) (q : zCalI y bytes maxL n) (w1 : (own, index, y, host) ∈ zNL) {sz2 : Nat} {post : zM → Prop} (hM : zMetS l y bytes maxL rm D N0 (.ref b :: As) μ sz (zQVS D N0 sz2 post)) (d : decode cc pc = .ok (.invokespecial index, 3)) (hst : st = As.reverse ++ .ref b :: rest) (hn : As.length = n) (hcat : (rest.map fun v => v.category).sum ≤ 8) (hLn : L.length = nL) (hroom : rm.frames + 1 ≤ rf ∧ 8 + (maxL + 11) + rm.locals ≤ rw ∧ kc + rm.cells ≤ rk ∧ kn + rm.slots ≤ rn) (kk : ∀ μ', post μ' → ZS X sz2 μ' (kc + rm.cells) (kn + rm.slots) (pc + 3) L rest) : ZS X sz μ kc kn pc L st := by
  obtain ⟨p, l', e, R, s, m, args, below, meth, c, D', N', Q⟩ := X
  obtain ⟨rfl, rfl, rfl, hx, hb, hml, hown, hts, hlk, hB⟩ := C
  obtain ⟨r1, r2, r3, r4⟩ := Rm
  obtain ⟨g1, g2, g3, g4⟩ := hroom
  obtain ⟨q1, q3, q4, q8, q5, q6, q7⟩ := q
  intro H locs cells slots ls hz hH hS hc1 hs1 hl
  have hr := va_runIN (host := host) (p := p) (e := e) (R := R) (below := below) (meth := meth) (locs := locs) (cells := cells) (slots := slots) (g := F0 m pc ls st) (As := As) (rest := rest) ⟨hx, hb, hml, hown, hts⟩ hM ⟨⟨⟨rfl, rfl, Nat.le_trans g1 r3, Nat.le_trans g2 r4, zpay hB q4, List.mem_singleton.mpr rfl⟩, hts _ q4, hts _ q3, ⟨q5, q6⟩, zn q7, va_Nw.use rfl (hB.2.2.2.2.1 _ w1)⟩, q8, hts _ q1⟩ ⟨zPreS_blind, fun U hU hW => ⟨rfl, ⟨by rw [hU]; exact hH, by rw [hU]; exact hz⟩, hB.moved hW (by rw [hU]; exact hS)⟩⟩ rfl hn (hl.1.trans hLn) hst (lv_room hcat) d ⟨Nat.le_trans (Nat.le_trans (Nat.add_le_add_right hc1 _) g3) r1, Nat.le_trans (Nat.le_trans (Nat.add_le_add_right hs1 _) g4) r2⟩
  refine va_callv hr hS (fun q _ h => h) (fun q h => h) (fun u t H1 locs1 ht hvm hp hB1 hz1 hk1 hS1 => ?_)
  exact kk u hp H1 locs1 _ _ ls (by rw [← ht]; exact hB1.2) (by rw [← ht]; exact hB1.1) hS1 (Nat.add_le_add_right hc1 _) (Nat.add_le_add_right hs1 _) hl
/-- memory behind new boolean[N][K] -/
def zMna (D : va_G) (μ : zM) (sz N K : Nat) : zM := fun a => if a = sz then some (zAB D N (fun i => if i < N then some (sz + 1 + i) else none)) else if sz + 1 ≤ a ∧ a < sz + 1 + N then some (zAZ D K zIz) else μ a
theorem s_mna (C : zC X l D N0 cc nL own zWS) (Rm : zR X rk rn rf rw) (w1 : Cond.classLink own index ("[" ++ (FieldType.array .boolean).toString) ∈ zWS) (w2 : Cond.arrayClass .boolean ∈ zWS) {a b : Int} {N K : Nat} (ha : a = (N : Int)) (hb0 : b = (K : Int)) (hN1 : N < 100000) (hK1 : K < 100000) (d : decode cc pc = .ok (.multianewarray index 2, 4)) (hr : kc + (1 + N) ≤ rk ∧ kn + (N + N * K) ≤ rn) (k : (∀ (a : Nat) (e : va_E), μ a = some e → a < sz) → ZS X (sz + 1 + N) (zMna D μ sz N K) (kc + (1 + N)) (kn + (N + N * K)) (pc + 4) L (.ref sz :: st)) : ZS X sz μ kc kn pc L (zi b :: zi a :: st) := by
  subst ha
  subst hb0
  obtain ⟨p, l', e, R, s, m, args, below, meth, c, D', N', Q⟩ := X
  obtain ⟨rfl, rfl, rfl, hx, hb, hml, hown, hts, hlk, hB⟩ := C
  obtain ⟨r1, r2, r3, r4⟩ := Rm
  intro H locs cells slots ls hz hH hS hc1 hs1 hl T hT Xs
  subst hz
  have hNN : N' ≤ H.size := Nat.le_trans hB.2.2.1 hS.1
  have hn2 : (Int32.ofInt (N : Int)).toNatClampNeg = N := by rw [zI_nc (by omega)]; omega
  have hk2 : (Int32.ofInt (K : Int)).toNatClampNeg = K := by rw [zI_nc (by omega)]; omega
  obtain ⟨vm₁, cA, comp, -, fA, fC, hO, -, X', step⟩ := Xs.multianewarray2F hx hown (hts _ w1) (va_AOA.use hB.2.2.2.2.2.2.2.2.1) (hts _ w2) (g := F0 m pc ls (zi (K : Int) :: zi (N : Int) :: st)) rfl (by rw [hb]; exact d) rfl (by rw [zI_0, zI_lt (by omega) (by omega)]; omega) (by rw [zI_0, zI_lt (by omega) (by omega)]; omega) (by rw [hn2]; omega) (by rw [hk2]; show K * 1 ≤ 536870912; omega) (by rw [hk2]; omega) rfl rfl (by rw [hn2]; exact Nat.le_trans (Nat.le_trans (Nat.add_le_add_right hc1 _) hr.1) r1) (by rw [hn2, hk2]; exact Nat.le_trans (Nat.le_trans (Nat.add_le_add_right hs1 _) hr.2) r2)
  have ec : some (D'.1 102) = some comp := ((hB.1.2 2 _ rfl).2 : s.vm.findClass (FieldType.array .boolean).toString = some (D'.1 102)).symm.trans fC
  cases ec
  have eA : some (D'.1 105) = some cA := ((hB.1.2 5 _ rfl).2 : s.vm.findClass ("[" ++ (FieldType.array .boolean).toString) = some (D'.1 105)).symm.trans fA
  cases eA
  rw [hn2, hk2] at X' step
  generalize hF : Jvm.Free.Multi.fill (T.setVm vm₁) (D'.1 105) (D'.1 102) N K (defaultValue .boolean) N = F at X' step
  have hTh : (T.setVm vm₁).heap = H := hT
  obtain ⟨f1, f2, -, -⟩ := Jvm.Free.Multi.fill_facts (T.setVm vm₁) (D'.1 105) (D'.1 102) N K (defaultValue .boolean) N
  rw [hF, hTh] at f1 f2
  have hold : ∀ x : Nat, x < H.size → F.heap[x]? = H[x]? := fun x hx => by
    have := Jvm.Free.Multi.fill_old (T.setVm vm₁) (D'.1 105) (D'.1 102) N K (defaultValue .boolean) (a := x) (by rw [hTh]; exact hx) N
    rw [hF, hTh] at this
    exact this
  have hrow : ∀ j : Nat, j < N → F.heap[H.size + 1 + j]? = some (vp_cell (D'.1 102) (K, .inl (fun _ => Int32.ofInt 0))) := fun j hj => by
    have := Jvm.Free.Multi.fill_inner (T.setVm vm₁) (D'.1 105) (D'.1 102) N K (defaultValue .boolean) N j hj
    rw [hF, hTh] at this
    rw [this]
    show some (Jvm.Free.Multi.innerC _ _ _) = _
    rw [vp_cell_i]
    exact congrArg some (arrV_new _ _ (.int (Int32.ofInt 0)))
  have hout : Jvm.Free.Multi.outerC (D'.1 105) N H.size N = vp_cell (D'.1 105) (N, .inr (.inr (.inr (.inr (fun i => if i < N then some (H.size + 1 + i) else none))))) := by
    rw [vp_cell_q]
    exact vr_outer (D'.1 105) N H.size N
  rw [hout] at f2
  have hH2 : zH D' N' (zMna D' μ H.size N K) F.heap := by
    intro q e hq
    unfold zMna at hq
    by_cases q1 : q = H.size
    · rw [if_pos q1] at hq
      cases hq
      rw [q1]
      exact ⟨f2, hNN⟩
    · rw [if_neg q1] at hq
      by_cases q2 : H.size + 1 ≤ q ∧ q < H.size + 1 + N
      · rw [if_pos q2] at hq
        cases hq
        refine ⟨?_, by omega⟩
        have := hrow (q - (H.size + 1)) (by omega)
        rw [show H.size + 1 + (q - (H.size + 1)) = q by omega] at this
        exact this
      · rw [if_neg q2] at hq
        exact ⟨(hH q e hq).1.kept (hold q (hH.lt hq)), (hH q e hq).2⟩
  obtain ⟨t, a1, b1⟩ := k (fun a e ha => hH.lt ha) F.heap _ (cells + 1 + N) (slots + N + N * K) ls (by rw [f1]) hH2 ⟨by rw [f1]; have := hS.1; omega, fun x h1 h2 => (hold x (Nat.lt_of_lt_of_le h1 hS.1)).trans (hS.2.1 x h1 h2), hS.2.2⟩ (by omega) (by omega) hl F rfl X'
  refine ⟨t, step t ?_, b1⟩
  have e : T.heap.size = H.size := by rw [hT]
  rw [e]
  exact a1
end ZSC
end
section
/-! the constructors -/
set_option maxRecDepth 100000 in
set_option maxHeartbeats 4000000 in
theorem i_F {l : Launch} {D : va_G} {N0 : Nat} {o : Nat} {μ : zM} (hm : μ o = some (.inr (0, [.null]))) : zMetS l yX0_init cX0_init 1 ({ frames := 1, cells := 1, slots := 64, locals := 40 } : Room) D N0 [.ref o] μ (o + 1) (zQVS D N0 (o + 1 + 1) (fun u => isF D u o zF ∧ zO (zb o 2) μ u)) := by
  refine zMetS_of rfl (Nat.le_of_ble_eq_true rfl) (fun X C Rm hin E => ?_)
  refine s_aload_n C dX0_init_0 rfl ?_
  refine s_objInit C Rm m_68 m_60 m_61 dX0_init_1 rfl ⟨Nat.le_of_ble_eq_true rfl, Nat.le_of_ble_eq_true rfl⟩ ?_
  refine s_aload_n C dX0_init_4 rfl ?_
  refine s_bipush C dX0_init_5 ?_
  refine s_newJ C Rm (by decide) m_73 dX0_init_7 (by decide) (fun hq7 => ?_)
  refine s_putF C (zu_k hm (by omega)) rfl tyX0 tyX0_ok nmX0 0 (by decide) m_69 inz0 rfl rfl hin rfl (by rfl) (by rfl) (Nat.le_of_ble_eq_true rfl) dX0_init_9 ?_
  exact s_vret C E dX0_init_12 (Nat.le_of_ble_eq_true rfl) (Nat.le_of_ble_eq_true rfl) ⟨⟨zu_s, zu_k zu_s (by omega)⟩, zO.zu (zO.zu zO.rf (by unfold zb; omega)) (by unfold zb; omega)⟩
set_option maxRecDepth 100000 in
set_option maxHeartbeats 4000000 in
theorem i_Pen {l : Launch} {D : va_G} {N0 : Nat} {a : Nat} {μ : zM} (hm : μ a = some (.inr (4, [.null, .null, zi 0, zi 0, zi 0, zi 0, zi 0, .null]))) : zMetS l yX4_init cX4_init 1 ({ frames := 1, cells := 3, slots := 184, locals := 40 } : Room) D N0 [.ref a] μ (a + 1) (zQVS D N0 (a + 1 + 1 + 1 + 1) (fun u => isPen D u a 1 0 0 0 0 zIz zIz zIz ∧ zO (zb a 4) μ u)) := by
  refine zMetS_of rfl (Nat.le_of_ble_eq_true rfl) (fun X C Rm hin E => ?_)
  refine s_aload_n C dX4_init_0 rfl ?_
  refine s_objInit C Rm m_79 m_60 m_61 dX4_init_1 rfl ⟨Nat.le_of_ble_eq_true rfl, Nat.le_of_ble_eq_true rfl⟩ ?_
  refine s_aload_n C dX4_init_4 rfl ?_
  refine s_bipush C dX4_init_5 ?_
  refine s_newI C Rm (by decide) m_105 dX4_init_7 (by decide) (fun hq7 => ?_)
  refine s_putF C (zu_k hm (by omega)) rfl tyX4 tyX4_ok nmX4 0 (by decide) m_80 inz4 rfl rfl hin rfl (by rfl) (by rfl) (Nat.le_of_ble_eq_true rfl) dX4_init_9 ?_
  refine s_aload_n C dX4_init_12 rfl ?_
  refine s_bipush C dX4_init_13 ?_
  refine s_newI C Rm (by decide) m_105 dX4_init_15 (by decide) (fun hq15 => ?_)
  refine s_putF C (zu_k zu_s (by omega)) rfl tyX4 tyX4_ok nmX4 1 (by decide) m_81 inz4 rfl rfl hin rfl (by rfl) (by rfl) (Nat.le_of_ble_eq_true rfl) dX4_init_17 ?_
  refine s_aload_n C dX4_init_20 rfl ?_
  refine s_iconst C dX4_init_21 ?_
  refine s_put C zu_s rfl tyX4 tyX4_ok nmX4 2 (by decide) m_82 inz4 rfl rfl (by rfl) (by rfl) (Nat.le_of_ble_eq_true rfl) dX4_init_22 ?_
  refine s_aload_n C dX4_init_25 rfl ?_
  refine s_bipush C dX4_init_26 ?_
  refine s_newI C Rm (by decide) m_105 dX4_init_28 (by decide) (fun hq28 => ?_)
  refine s_putF C (zu_k zu_s (by omega)) rfl tyX4 tyX4_ok nmX4 7 (by decide) m_87 inz4 rfl rfl hin rfl (by rfl) (by rfl) (Nat.le_of_ble_eq_true rfl) dX4_init_30 ?_
  exact s_vret C E dX4_init_33 (Nat.le_of_ble_eq_true rfl) (Nat.le_of_ble_eq_true rfl) ⟨⟨zu_s, zu_k (zu_k (zu_k (zu_k (zu_k (zu_k zu_s (by omega)) (by omega)) (by omega)) (by omega)) (by omega)) (by omega), zu_k (zu_k (zu_k (zu_k zu_s (by omega)) (by omega)) (by omega)) (by omega), zu_k zu_s (by omega)⟩, zO.zu (zO.zu (zO.zu (zO.zu (zO.zu (zO.zu (zO.zu zO.rf (by unfold zb; omega)) (by unfold zb; omega)) (by unfold zb; omega)) (by unfold zb; omega)) (by unfold zb; omega)) (by unfold zb; omega)) (by unfold zb; omega)⟩
set_option maxRecDepth 100000 in
set_option maxHeartbeats 4000000 in
theorem i_Flood {l : Launch} {D : va_G} {N0 : Nat} {a : Nat} {μ : zM} (hm : μ a = some (.inr (1, [.null, .null, zi 0, zi 0]))) : zMetS l yX1_init cX1_init 1 ({ frames := 2, cells := 4, slots := 130, locals := 80 } : Room) D N0 [.ref a] μ (a + 1) (zQVS D N0 (a + 5) (fun u => isFl D u a zF zF 0 0 ∧ zO (zb a 5) μ u)) := by
  refine zMetS_of rfl (Nat.le_of_ble_eq_true rfl) (fun X C Rm hin E => ?_)
  refine s_aload_n C dX1_init_0 rfl ?_
  refine s_objInit C Rm m_132 m_60 m_61 dX1_init_1 rfl ⟨Nat.le_of_ble_eq_true rfl, Nat.le_of_ble_eq_true rfl⟩ ?_
  refine s_aload_n C dX1_init_4 rfl ?_
  refine s_new C Rm (ci := 0) (fs := [.null]) rfl inz0 tyX0 tyX0_ok m_133 m_64 m_37 (fun j hj => by rcases (by omega : j = 0) with rfl <;> rfl) dX1_init_5 (by decide) (fun hq5 => ?_)
  refine s_dup C dX1_init_8 rfl ?_
  refine s_initN C Rm qi_X0_init nl_134 (i_F zu_s) dX1_init_9 rfl rfl (Nat.le_of_ble_eq_true rfl) rfl ⟨Nat.le_of_ble_eq_true rfl, Nat.le_of_ble_eq_true rfl, Nat.le_of_ble_eq_true rfl, Nat.le_of_ble_eq_true rfl⟩ (fun μ1 hp1 => ?_)
  have o1 := hp1.2.at (by unfold zb; omega) (zu_k hm (show a ≠ a + 1 by omega))
  have q1 : zO (zb a 5) μ μ1 := (zO.zu zO.rf (by unfold zb; omega)).tr (hp1.2.mo (fun q hq => by unfold zb at hq ⊢; omega))
  refine s_putF C o1 rfl tyX1 tyX1_ok nmX1 0 (by decide) m_135 inz1 rfl rfl hin rfl (by rfl) (by rfl) (Nat.le_of_ble_eq_true rfl) dX1_init_12 ?_
  refine s_aload_n C dX1_init_15 rfl ?_
  refine s_new C Rm (ci := 0) (fs := [.null]) rfl inz0 tyX0 tyX0_ok m_133 m_64 m_37 (fun j hj => by rcases (by omega : j = 0) with rfl <;> rfl) dX1_init_16 (by decide) (fun hq16 => ?_)
  refine s_dup C dX1_init_19 rfl ?_
  refine s_initN C Rm qi_X0_init nl_134 (i_F zu_s) dX1_init_20 rfl rfl (Nat.le_of_ble_eq_true rfl) rfl ⟨Nat.le_of_ble_eq_true rfl, Nat.le_of_ble_eq_true rfl, Nat.le_of_ble_eq_true rfl, Nat.le_of_ble_eq_true rfl⟩ (fun μ2 hp2 => ?_)
  have o2 := hp2.2.at (by unfold zb; omega) (zu_k zu_s (show a ≠ a + 1 + 1 + 1 by omega))
  have q2 : zO (fun q => q = a ∨ zb (a + 3) 2 q) μ1 μ2 := (zO.zu (zO.zu zO.rf (Or.inl rfl)) (Or.inr (by unfold zb; omega))).tr (hp2.2.mo (fun q hq => Or.inr hq))
  refine s_putF C o2 rfl tyX1 tyX1_ok nmX1 1 (by decide) m_136 inz1 rfl rfl hin rfl (by rfl) (by rfl) (Nat.le_of_ble_eq_true rfl) dX1_init_23 ?_
  have q3 : ∀ e, zO (fun q => q = a ∨ zb (a + 3) 2 q) μ1 (zu μ2 a e) := fun e => zO.zu q2 (Or.inl rfl)
  exact s_vret C E dX1_init_26 (Nat.le_of_ble_eq_true rfl) (Nat.le_of_ble_eq_true rfl) ⟨⟨zu_s, hp1.1.o (q3 _) (by unfold zb; omega) (by unfold zb; omega), hp2.1.o (zO.zu (P := fun q => q = a) zO.rf rfl) (by omega) (by omega)⟩, q1.tr ((q3 _).mo (fun q hq => by unfold zb at hq ⊢; omega))⟩
set_option maxRecDepth 100000 in
set_option maxHeartbeats 4000000 in
theorem i_Strip {l : Launch} {D : va_G} {N0 : Nat} {a : Nat} {μ : zM} (hm : μ a = some (.inr (5, [.null, zi 0, .long 0, zi 0, zi 0, zi 0, zi 0]))) : zMetS l yX5_init cX5_init 1 ({ frames := 2, cells := 2, slots := 65, locals := 80 } : Room) D N0 [.ref a] μ (a + 1) (zQVS D N0 (a + 3) (fun u => isSt D u a 0 ∧ zO (zb a 3) μ u)) := by
  refine zMetS_of rfl (Nat.le_of_ble_eq_true rfl) (fun X C Rm hin E => ?_)
  refine s_aload_n C dX5_init_0 rfl ?_
  refine s_objInit C Rm m_198 m_60 m_61 dX5_init_1 rfl ⟨Nat.le_of_ble_eq_true rfl, Nat.le_of_ble_eq_true rfl⟩ ?_
  refine s_aload_n C dX5_init_4 rfl ?_
  refine s_new C Rm (ci := 0) (fs := [.null]) rfl inz0 tyX0 tyX0_ok m_199 m_64 m_37 (fun j hj => by rcases (by omega : j = 0) with rfl <;> rfl) dX5_init_5 (by decide) (fun hq5 => ?_)
  refine s_dup C dX5_init_8 rfl ?_
  refine s_initN C Rm qi_X0_init nl_200 (i_F zu_s) dX5_init_9 rfl rfl (Nat.le_of_ble_eq_true rfl) rfl ⟨Nat.le_of_ble_eq_true rfl, Nat.le_of_ble_eq_true rfl, Nat.le_of_ble_eq_true rfl, Nat.le_of_ble_eq_true rfl⟩ (fun μ1 hp1 => ?_)
  have o1 := hp1.2.at (by unfold zb; omega) (zu_k hm (show a ≠ a + 1 by omega))
  have q1 : zO (zb a 3) μ μ1 := (zO.zu zO.rf (by unfold zb; omega)).tr (hp1.2.mo (fun q hq => by unfold zb at hq ⊢; omega))
  refine s_putF C o1 rfl tyX5 tyX5_ok nmX5 0 (by decide) m_201 inz5 rfl rfl hin rfl (by rfl) (by rfl) (Nat.le_of_ble_eq_true rfl) dX5_init_12 ?_
  exact s_vret C E dX5_init_15 (Nat.le_of_ble_eq_true rfl) (Nat.le_of_ble_eq_true rfl) ⟨⟨zu_s, hp1.1.o (zO.zu (P := fun q => q = a) zO.rf rfl) (by omega) (by omega)⟩, zO.zu q1 (by unfold zb; omega)⟩
set_option maxRecDepth 100000 in
set_option maxHeartbeats 4000000 in
theorem i_Out {l : Launch} {D : va_G} {N0 : Nat} {a : Nat} {μ : zM} (hm : μ a = some (.inr (3, [.null, .null, .null, zi 0, zi 0, zi 0, zi 0, zi 0, zi 0, zi 0, zi 0, zi 0]))) : zMetS l yX3_init cX3_init 1 ({ frames := 2, cells := 6, slots := 195, locals := 80 } : Room) D N0 [.ref a] μ (a + 1) (zQVS D N0 (a + 7) (fun u => isOu D u a 0 0 ∧ zO (zb a 7) μ u)) := by
  refine zMetS_of rfl (Nat.le_of_ble_eq_true rfl) (fun X C Rm hin E => ?_)
  refine s_aload_n C dX3_init_0 rfl ?_
  refine s_objInit C Rm m_153 m_60 m_61 dX3_init_1 rfl ⟨Nat.le_of_ble_eq_true rfl, Nat.le_of_ble_eq_true rfl⟩ ?_
  refine s_aload_n C dX3_init_4 rfl ?_
  refine s_new C Rm (ci := 0) (fs := [.null]) rfl inz0 tyX0 tyX0_ok m_154 m_64 m_37 (fun j hj => by rcases (by omega : j = 0) with rfl <;> rfl) dX3_init_5 (by decide) (fun hq5 => ?_)
  refine s_dup C dX3_init_8 rfl ?_
  refine s_initN C Rm qi_X0_init nl_155 (i_F zu_s) dX3_init_9 rfl rfl (Nat.le_of_ble_eq_true rfl) rfl ⟨Nat.le_of_ble_eq_true rfl, Nat.le_of_ble_eq_true rfl, Nat.le_of_ble_eq_true rfl, Nat.le_of_ble_eq_true rfl⟩ (fun μ1 hp1 => ?_)
  have o1 := hp1.2.at (by unfold zb; omega) (zu_k hm (show a ≠ a + 1 by omega))
  have q1 : zO (zb a 7) μ μ1 := (zO.zu zO.rf (by unfold zb; omega)).tr (hp1.2.mo (fun q hq => by unfold zb at hq ⊢; omega))
  refine s_putF C o1 rfl tyX3 tyX3_ok nmX3 0 (by decide) m_156 inz3 rfl rfl hin rfl (by rfl) (by rfl) (Nat.le_of_ble_eq_true rfl) dX3_init_12 ?_
  refine s_aload_n C dX3_init_15 rfl ?_
  refine s_new C Rm (ci := 0) (fs := [.null]) rfl inz0 tyX0 tyX0_ok m_154 m_64 m_37 (fun j hj => by rcases (by omega : j = 0) with rfl <;> rfl) dX3_init_16 (by decide) (fun hq16 => ?_)
  refine s_dup C dX3_init_19 rfl ?_
  refine s_initN C Rm qi_X0_init nl_155 (i_F zu_s) dX3_init_20 rfl rfl (Nat.le_of_ble_eq_true rfl) rfl ⟨Nat.le_of_ble_eq_true rfl, Nat.le_of_ble_eq_true rfl, Nat.le_of_ble_eq_true rfl, Nat.le_of_ble_eq_true rfl⟩ (fun μ2 hp2 => ?_)
  have o2 := hp2.2.at (by unfold zb; omega) (zu_k zu_s (show a ≠ a + 1 + 1 + 1 by omega))
  have q2 : zO (fun q => q = a ∨ zb (a + 3) 2 q) μ1 μ2 := (zO.zu (zO.zu zO.rf (Or.inl rfl)) (Or.inr (by unfold zb; omega))).tr (hp2.2.mo (fun q hq => Or.inr hq))
  refine s_putF C o2 rfl tyX3 tyX3_ok nmX3 1 (by decide) m_157 inz3 rfl rfl hin rfl (by rfl) (by rfl) (Nat.le_of_ble_eq_true rfl) dX3_init_23 ?_
  refine s_aload_n C dX3_init_26 rfl ?_
  refine s_new C Rm (ci := 0) (fs := [.null]) rfl inz0 tyX0 tyX0_ok m_154 m_64 m_37 (fun j hj => by rcases (by omega : j = 0) with rfl <;> rfl) dX3_init_27 (by decide) (fun hq27 => ?_)
  refine s_dup C dX3_init_30 rfl ?_
  refine s_initN C Rm qi_X0_init nl_155 (i_F zu_s) dX3_init_31 rfl rfl (Nat.le_of_ble_eq_true rfl) rfl ⟨Nat.le_of_ble_eq_true rfl, Nat.le_of_ble_eq_true rfl, Nat.le_of_ble_eq_true rfl, Nat.le_of_ble_eq_true rfl⟩ (fun μ3 hp3 => ?_)
  have o3 := hp3.2.at (by unfold zb; omega) (zu_k zu_s (show a ≠ a + 1 + 1 + 1 + 1 + 1 by omega))
  have q3 : zO (fun q => q = a ∨ zb (a + 5) 2 q) μ2 μ3 := (zO.zu (zO.zu zO.rf (Or.inl rfl)) (Or.inr (by unfold zb; omega))).tr (hp3.2.mo (fun q hq => Or.inr hq))
  refine s_putF C o3 rfl tyX3 tyX3_ok nmX3 2 (by decide) m_158 inz3 rfl rfl hin rfl (by rfl) (by rfl) (Nat.le_of_ble_eq_true rfl) dX3_init_34 ?_
  have q4 : ∀ e, zO (fun q => q = a ∨ zb (a + 5) 2 q) μ2 (zu μ3 a e) := fun e => zO.zu q3 (Or.inl rfl)
  exact s_vret C E dX3_init_37 (Nat.le_of_ble_eq_true rfl) (Nat.le_of_ble_eq_true rfl) ⟨⟨zu_s, (hp1.1.o q2 (by unfold zb; omega) (by unfold zb; omega)).o (q4 _) (by unfold zb; omega) (by unfold zb; omega), hp2.1.o (q4 _) (by unfold zb; omega) (by unfold zb; omega), hp3.1.o (zO.zu (P := fun q => q = a) zO.rf rfl) (by omega) (by omega)⟩, (q1.tr (q2.mo (fun q hq => by unfold zb at hq ⊢; omega))).tr ((q4 _).mo (fun q hq => by unfold zb at hq ⊢; omega))⟩
theorem s_canF {X : zX} {l : Launch} {D : va_G} {N0 : Nat} {cc : ByteArray} {nL : Nat} {own : String} {Ts : List Cond} {μ : zM} {kc kn pc sz : Nat} {L : List (Option Value)} {st : List Value} (C : zC X l D N0 cc nL own Ts) {a n : Nat} {f g : Nat → Option Nat} (hm : μ a = some (zAF D n f)) (h : ∀ j, j < n → f j = g j) (k : ZS X sz (zu μ a (zAF D n g)) kc kn pc L st) : ZS X sz μ kc kn pc L st := by
  obtain ⟨p, l', e, R, s, m, args, below, meth, c, D', N', Q⟩ := X
  obtain ⟨rfl, rfl, rfl, hx, hb, hml, hown, hts, hlk, hB⟩ := C
  intro H locs cells slots ls hz hH hS hc1 hs1 hl
  refine k H locs cells slots ls hz (hH.seta ?_ (hH a _ hm).2 (fun q _ => rfl)) hS hc1 hs1 hl
  show H[a]? = some (vp_cell _ _)
  rw [← vp_cell_cong_q h]
  exact (hH a _ hm).1
theorem s_up {X : zX} {μ : zM} {kc kn kc' kn' pc sz : Nat} {L : List (Option Value)} {st : List Value} (h1 : kc ≤ kc') (h2 : kn ≤ kn') (k : ZS X sz μ kc' kn' pc L st) : ZS X sz μ kc kn pc L st := by
  obtain ⟨p, l', e, R, s, m, args, below, meth, c, D', N', Q⟩ := X
  intro H locs cells slots ls hz hH hS hc1 hs1 hl
  exact k H locs cells slots ls hz hH hS (Nat.le_trans hc1 h1) (Nat.le_trans hs1 h2) hl
set_option maxRecDepth 100000 in
set_option maxHeartbeats 4000000 in
theorem i_Hist {l : Launch} {D : va_G} {N0 : Nat} {a : Nat} {μ : zM} (hm : μ a = some (.inr (2, [.null, .null, zi 0, zi 0]))) : zMetS l yX2_init cX2_init 2 ({ frames := 2, cells := 26, slots := 804, locals := 80 } : Room) D N0 [.ref a] μ (a + 1) (zQVS D N0 (a + 27) (fun u => isHi D u a 0 0 zIz ∧ (∀ j, j < 12 → isF D u (a + 3 + 2 * j) zF) ∧ zO (zb a 27) μ u)) := by
  refine zMetS_of rfl (Nat.le_of_ble_eq_true rfl) (fun X C Rm hin E => ?_)
  have loop : ∀ (n i : Nat) (k : Int) (ν : zM) (f : Nat → Option Nat) (sz : Nat), i + n = 12 → k = (i : Int) → sz = a + 3 + 2 * i → ν a = some (.inr (2, [.ref (a + 1), .ref (a + 2), zi 0, zi 0])) → ν (a + 1) = some (zAF D 12 f) → (∀ j, j < i → f j = some (a + 3 + 2 * j)) → ν (a + 2) = some (zAI D 12 zIz) → (∀ j, j < i → isF D ν (a + 3 + 2 * j) zF) → zO (zb a 27) μ ν → ZS X sz ν (2 + 2 * i) (24 + 65 * i) 23 [some (.ref a), some (zi k)] [] := by
    intro n
    induction n with
    | zero =>
      intro i k ν f sz hn hk hsz ho h1 hf h2 hF hO
      obtain rfl : i = 12 := by omega
      obtain rfl : sz = a + 27 := by omega
      refine s_iload_n C dX2_init_23 rfl ?_
      refine s_aload_n C dX2_init_24 rfl ?_
      refine s_get C ho rfl 0 (by decide) m_114 inz2 rfl rfl dX2_init_25 ?_
      refine s_alen C h1 4 rfl dX2_init_28 ?_
      refine s_icmp_ge (tgt := 51) C dX2_init_29 (by decide) (fun _ => ?_) (fun hno => absurd hno (by omega))
      refine s_canF C h1 (g := fun j => some (a + 3 + 2 * j)) (fun j hj => hf j hj) ?_
      exact s_vret C E dX2_init_51 (Nat.le_of_ble_eq_true rfl) (Nat.le_of_ble_eq_true rfl) ⟨⟨zu_k ho (by omega), zu_s, zu_k h2 (by omega)⟩, fun j hj => (hF j hj).o (zO.zu (P := fun q => q = a + 1) zO.rf rfl) (by omega) (by omega), zO.zu hO (by unfold zb; omega)⟩
    | succ n ih =>
      intro i k ν f sz hn hk hsz ho h1 hf h2 hF hO
      refine s_iload_n C dX2_init_23 rfl ?_
      refine s_aload_n C dX2_init_24 rfl ?_
      refine s_get C ho rfl 0 (by decide) m_114 inz2 rfl rfl dX2_init_25 ?_
      refine s_alen C h1 4 rfl dX2_init_28 ?_
      refine s_icmp_ge (tgt := 51) C dX2_init_29 (by decide) (fun hno => absurd hno (by omega)) (fun _ => ?_)
      refine s_aload_n C dX2_init_32 rfl ?_
      refine s_get C ho rfl 0 (by decide) m_114 inz2 rfl rfl dX2_init_33 ?_
      refine s_iload_n C dX2_init_36 rfl ?_
      refine s_new C Rm (ci := 0) (fs := [.null]) rfl inz0 tyX0 tyX0_ok m_112 m_64 m_37 (fun j hj => by rcases (by omega : j = 0) with rfl <;> rfl) dX2_init_37 ⟨by (try dsimp only); omega, by (try dsimp only); omega⟩ (fun hq37 => ?_)
      refine s_dup C dX2_init_40 rfl ?_
      refine s_initN C Rm qi_X0_init nl_113 (i_F zu_s) dX2_init_41 rfl rfl (Nat.le_of_ble_eq_true rfl) rfl ⟨Nat.le_of_ble_eq_true rfl, Nat.le_of_ble_eq_true rfl, by (try dsimp only); omega, by (try dsimp only); omega⟩ (fun μ1 hp1 => ?_)
      have q1 : zO (zb sz 2) ν μ1 := (zO.zu zO.rf (by unfold zb; omega)).tr hp1.2
      have k1 := q1.at (by unfold zb; omega) h1
      refine s_fast C k1 hp1.1.1 (by decide) dX2_init_44 ?_
      refine s_iinc (L' := [_, _]) C dX2_init_45 rfl rfl ?_
      refine s_goto (tgt := 23) C dX2_init_48 (by decide) ?_
      refine s_up (kc' := 2 + 2 * (i + 1)) (kn' := 24 + 65 * (i + 1)) (by (try dsimp only); omega) (by (try dsimp only); omega) (ih (i + 1) (k + 1) _ (zw f k.toNat (some sz)) (sz + 1 + 1) (by omega) (by omega) (by omega) (zu_k (q1.at (by unfold zb; omega) ho) (by omega)) zu_s (fun j hj => ?_) (zu_k (q1.at (by unfold zb; omega) h2) (by omega)) (fun j hj => ?_) (zO.zu (hO.tr (q1.mo (fun q hq => by unfold zb at hq ⊢; omega))) (by unfold zb; omega)))
      · by_cases e : j = k.toNat
        · rw [e, zw_s]
          congr 1
          omega
        · rw [zw_n e]
          exact hf j (by omega)
      · by_cases e : j = i
        · rw [show a + 3 + 2 * j = sz by omega]
          exact hp1.1.o (zO.zu (P := fun q => q = a + 1) zO.rf rfl) (by omega) (by omega)
        · exact ((hF j (by omega)).o q1 (by unfold zb; omega) (by unfold zb; omega)).o (zO.zu (P := fun q => q = a + 1) zO.rf rfl) (by omega) (by omega)
  refine s_aload_n C dX2_init_0 rfl ?_
  refine s_objInit C Rm m_111 m_60 m_61 dX2_init_1 rfl ⟨Nat.le_of_ble_eq_true rfl, Nat.le_of_ble_eq_true rfl⟩ ?_
  refine s_aload_n C dX2_init_4 rfl ?_
  refine s_bipush C dX2_init_5 ?_
  refine s_anewF C Rm (by decide) m_112 dX2_init_7 (by decide) (fun hq7 => ?_)
  refine s_putF C (zu_k hm (by omega)) rfl tyX2 tyX2_ok nmX2 0 (by decide) m_114 inz2 rfl rfl hin rfl (by rfl) (by rfl) (Nat.le_of_ble_eq_true rfl) dX2_init_10 ?_
  refine s_aload_n C dX2_init_13 rfl ?_
  refine s_bipush C dX2_init_14 ?_
  refine s_newI C Rm (by decide) m_105 dX2_init_16 (by decide) (fun hq16 => ?_)
  refine s_putF C (zu_k zu_s (by omega)) rfl tyX2 tyX2_ok nmX2 1 (by decide) m_115 inz2 rfl rfl hin rfl (by rfl) (by rfl) (Nat.le_of_ble_eq_true rfl) dX2_init_18 ?_
  refine s_iconst C dX2_init_21 ?_
  refine s_istore_n (L' := [_, _]) C dX2_init_22 rfl ?_
  exact loop 12 0 0 _ (fun _ => none) _ (by omega) rfl rfl zu_s (zu_k (zu_k (zu_k zu_s (by omega)) (by omega)) (by omega)) (fun j hj => absurd hj (Nat.not_lt_zero j)) (zu_k zu_s (by omega)) (fun j hj => absurd hj (Nat.not_lt_zero j)) (zO.zu (zO.zu (zO.zu (zO.zu zO.rf (by unfold zb; omega)) (by unfold zb; omega)) (by unfold zb; omega)) (by unfold zb; omega))
end
section
set_option maxRecDepth 100000 in
set_option maxHeartbeats 4000000 in
theorem i_Ker {l : Launch} {D : va_G} {N0 : Nat} {K : Nat} {μ : zM} (hm : μ K = some (.inr (6, [.null, .null, .null, .null, .null, .null, .null]))) : zMetS l yX6_init cX6_init 2 ({ frames := 3, cells := 65, slots := 2006, locals := 120 } : Room) D N0 [.ref K] μ (K + 1) (zQVS D N0 (K + 66) (fun u => isKe D u K ∧ zKO K μ u)) := by
  refine zMetS_of rfl (Nat.le_of_ble_eq_true rfl) (fun X C Rm hin E => ?_)
  refine s_aload_n C dX6_init_0 rfl ?_
  refine s_objInit C Rm m_59 m_60 m_61 dX6_init_1 rfl ⟨Nat.le_of_ble_eq_true rfl, Nat.le_of_ble_eq_true rfl⟩ ?_
  refine s_aload_n C dX6_init_4 rfl ?_
  refine s_bipush C dX6_init_5 ?_
  refine s_anewF C Rm (by decide) m_62 dX6_init_7 (by decide) (fun hq7 => ?_)
  refine s_putF C (zu_k hm (by omega)) rfl tyX6 tyX6_ok nmX6 0 (by decide) m_223 inz6 rfl rfl hin rfl (by rfl) (by rfl) (Nat.le_of_ble_eq_true rfl) dX6_init_10 ?_
  refine s_aload_n C dX6_init_13 rfl ?_
  refine s_new C Rm (ci := 0) (fs := [.null]) rfl inz0 tyX0 tyX0_ok m_62 m_64 m_37 (fun j hj => by rcases (by omega : j = 0) with rfl <;> rfl) dX6_init_14 (by decide) (fun hq14 => ?_)
  refine s_dup C dX6_init_17 rfl ?_
  refine s_initN C Rm qi_X0_init nl_65 (i_F zu_s) dX6_init_18 rfl rfl (Nat.le_of_ble_eq_true rfl) rfl ⟨Nat.le_of_ble_eq_true rfl, Nat.le_of_ble_eq_true rfl, Nat.le_of_ble_eq_true rfl, Nat.le_of_ble_eq_true rfl⟩ (fun μ1 hp1 => ?_)
  have o1 := hp1.2.at (by unfold zb; omega) (zu_k zu_s (show K ≠ K + 1 + 1 by omega))
  have g1 := hp1.2.at (by unfold zb; omega) (zu_k (zu_k (zu_s (μ := μ) (a := K + 1)) (show K + 1 ≠ K by omega)) (show K + 1 ≠ K + 1 + 1 by omega))
  have w1 : zKO K μ μ1 := (zO.zu (zO.zu (zO.zu zO.rf (by unfold zb; omega)) (by unfold zb; omega)) (by unfold zb; omega)).tr (hp1.2.mo (fun q hq => by unfold zb at hq ⊢; omega))
  refine s_putF C o1 rfl tyX6 tyX6_ok nmX6 1 (by decide) m_224 inz6 rfl rfl hin rfl (by rfl) (by rfl) (Nat.le_of_ble_eq_true rfl) dX6_init_21 ?_
  refine s_aload_n C dX6_init_24 rfl ?_
  refine s_new C Rm (ci := 4) (fs := [.null, .null, zi 0, zi 0, zi 0, zi 0, zi 0, .null]) rfl inz4 tyX4 tyX4_ok m_74 m_75 m_38 (fun j hj => by rcases (by omega : j = 0 ∨ j = 1 ∨ j = 2 ∨ j = 3 ∨ j = 4 ∨ j = 5 ∨ j = 6 ∨ j = 7) with rfl | rfl | rfl | rfl | rfl | rfl | rfl | rfl <;> rfl) dX6_init_25 (by decide) (fun hq25 => ?_)
  refine s_dup C dX6_init_28 rfl ?_
  refine s_initN C Rm qi_X4_init nl_76 (i_Pen zu_s) dX6_init_29 rfl rfl (Nat.le_of_ble_eq_true rfl) rfl ⟨Nat.le_of_ble_eq_true rfl, Nat.le_of_ble_eq_true rfl, Nat.le_of_ble_eq_true rfl, Nat.le_of_ble_eq_true rfl⟩ (fun μ2 hp2 => ?_)
  have o2 := hp2.2.at (by unfold zb; omega) (zu_k zu_s (show K ≠ K + 1 + 1 + 1 + 1 by omega))
  have r2 : zO (fun q => q = K ∨ zb (K + 4) 4 q) μ1 μ2 := (zO.zu (zO.zu zO.rf (Or.inl rfl)) (Or.inr (by unfold zb; omega))).tr (hp2.2.mo (fun q hq => Or.inr hq))
  refine s_putF C o2 rfl tyX6 tyX6_ok nmX6 2 (by decide) m_225 inz6 rfl rfl hin rfl (by rfl) (by rfl) (Nat.le_of_ble_eq_true rfl) dX6_init_32 ?_
  refine s_aload_n C dX6_init_35 rfl ?_
  refine s_new C Rm (ci := 2) (fs := [.null, .null, zi 0, zi 0]) rfl inz2 tyX2 tyX2_ok m_106 m_107 m_39 (fun j hj => by rcases (by omega : j = 0 ∨ j = 1 ∨ j = 2 ∨ j = 3) with rfl | rfl | rfl | rfl <;> rfl) dX6_init_36 (by decide) (fun hq36 => ?_)
  refine s_dup C dX6_init_39 rfl ?_
  refine s_init C Rm qi_X2_init m_108 (i_Hist zu_s) dX6_init_40 rfl rfl (Nat.le_of_ble_eq_true rfl) rfl ⟨Nat.le_of_ble_eq_true rfl, Nat.le_of_ble_eq_true rfl, Nat.le_of_ble_eq_true rfl, Nat.le_of_ble_eq_true rfl⟩ (fun μ3 hp3 => ?_)
  have o3 := hp3.2.2.at (by unfold zb; omega) (zu_k zu_s (show K ≠ K + 1 + 1 + 1 + 1 + 1 + 1 + 1 + 1 by omega))
  have r3 : zO (fun q => q = K ∨ zb (K + 8) 27 q) μ2 μ3 := (zO.zu (zO.zu zO.rf (Or.inl rfl)) (Or.inr (by unfold zb; omega))).tr (hp3.2.2.mo (fun q hq => Or.inr hq))
  refine s_putF C o3 rfl tyX6 tyX6_ok nmX6 3 (by decide) m_226 inz6 rfl rfl hin rfl (by rfl) (by rfl) (Nat.le_of_ble_eq_true rfl) dX6_init_43 ?_
  refine s_aload_n C dX6_init_46 rfl ?_
  refine s_new C Rm (ci := 1) (fs := [.null, .null, zi 0, zi 0]) rfl inz1 tyX1 tyX1_ok m_127 m_128 m_40 (fun j hj => by rcases (by omega : j = 0 ∨ j = 1 ∨ j = 2 ∨ j = 3) with rfl | rfl | rfl | rfl <;> rfl) dX6_init_47 (by decide) (fun hq47 => ?_)
  refine s_dup C dX6_init_50 rfl ?_
  refine s_initN C Rm qi_X1_init nl_129 (i_Flood zu_s) dX6_init_51 rfl rfl (Nat.le_of_ble_eq_true rfl) rfl ⟨Nat.le_of_ble_eq_true rfl, Nat.le_of_ble_eq_true rfl, Nat.le_of_ble_eq_true rfl, Nat.le_of_ble_eq_true rfl⟩ (fun μ4 hp4 => ?_)
  have o4 := hp4.2.at (by unfold zb; omega) (zu_k zu_s (by omega))
  have r4 : zO (fun q => q = K ∨ zb (K + 35) 5 q) μ3 μ4 := (zO.zu (zO.zu zO.rf (Or.inl rfl)) (Or.inr (by unfold zb; omega))).tr (hp4.2.mo (fun q hq => Or.inr (by unfold zb at hq ⊢; omega)))
  refine s_putF C o4 rfl tyX6 tyX6_ok nmX6 4 (by decide) m_227 inz6 rfl rfl hin rfl (by rfl) (by rfl) (Nat.le_of_ble_eq_true rfl) dX6_init_54 ?_
  refine s_aload_n C dX6_init_57 rfl ?_
  refine s_new C Rm (ci := 3) (fs := [.null, .null, .null, zi 0, zi 0, zi 0, zi 0, zi 0, zi 0, zi 0, zi 0, zi 0]) rfl inz3 tyX3 tyX3_ok m_148 m_149 m_41 (fun j hj => by rcases (by omega : j = 0 ∨ j = 1 ∨ j = 2 ∨ j = 3 ∨ j = 4 ∨ j = 5 ∨ j = 6 ∨ j = 7 ∨ j = 8 ∨ j = 9 ∨ j = 10 ∨ j = 11) with rfl | rfl | rfl | rfl | rfl | rfl | rfl | rfl | rfl | rfl | rfl | rfl <;> rfl) dX6_init_58 (by decide) (fun hq58 => ?_)
  refine s_dup C dX6_init_61 rfl ?_
  refine s_initN C Rm qi_X3_init nl_150 (i_Out zu_s) dX6_init_62 rfl rfl (Nat.le_of_ble_eq_true rfl) rfl ⟨Nat.le_of_ble_eq_true rfl, Nat.le_of_ble_eq_true rfl, Nat.le_of_ble_eq_true rfl, Nat.le_of_ble_eq_true rfl⟩ (fun μ5 hp5 => ?_)
  have o5 := hp5.2.at (by unfold zb; omega) (zu_k zu_s (by omega))
  have r5 : zO (fun q => q = K ∨ zb (K + 40) 7 q) μ4 μ5 := (zO.zu (zO.zu zO.rf (Or.inl rfl)) (Or.inr (by unfold zb; omega))).tr (hp5.2.mo (fun q hq => Or.inr (by unfold zb at hq ⊢; omega)))
  refine s_putF C o5 rfl tyX6 tyX6_ok nmX6 5 (by decide) m_228 inz6 rfl rfl hin rfl (by rfl) (by rfl) (Nat.le_of_ble_eq_true rfl) dX6_init_65 ?_
  refine s_aload_n C dX6_init_68 rfl ?_
  refine s_new C Rm (ci := 5) (fs := [.null, zi 0, .long 0, zi 0, zi 0, zi 0, zi 0]) rfl inz5 tyX5 tyX5_ok m_193 m_194 m_42 (fun j hj => by rcases (by omega : j = 0 ∨ j = 1 ∨ j = 2 ∨ j = 3 ∨ j = 4 ∨ j = 5 ∨ j = 6) with rfl | rfl | rfl | rfl | rfl | rfl | rfl <;> rfl) dX6_init_69 (by decide) (fun hq69 => ?_)
  refine s_dup C dX6_init_72 rfl ?_
  refine s_initN C Rm qi_X5_init nl_195 (i_Strip zu_s) dX6_init_73 rfl rfl (Nat.le_of_ble_eq_true rfl) rfl ⟨Nat.le_of_ble_eq_true rfl, Nat.le_of_ble_eq_true rfl, Nat.le_of_ble_eq_true rfl, Nat.le_of_ble_eq_true rfl⟩ (fun μ6 hp6 => ?_)
  have o6 := hp6.2.at (by unfold zb; omega) (zu_k zu_s (by omega))
  have r6 : zO (fun q => q = K ∨ zb (K + 47) 3 q) μ5 μ6 := (zO.zu (zO.zu zO.rf (Or.inl rfl)) (Or.inr (by unfold zb; omega))).tr (hp6.2.mo (fun q hq => Or.inr (by unfold zb at hq ⊢; omega)))
  refine s_putF C o6 rfl tyX6 tyX6_ok nmX6 6 (by decide) m_229 inz6 rfl rfl hin rfl (by rfl) (by rfl) (Nat.le_of_ble_eq_true rfl) dX6_init_76 ?_
  refine s_iconst C dX6_init_79 ?_
  refine s_istore_n (L' := [_, _]) C dX6_init_80 rfl ?_
  have w6 : zKO K μ μ6 := (((((w1.tr (r2.mo (fun q hq => by unfold zb at hq ⊢; omega))).tr (r3.mo (fun q hq => by unfold zb at hq ⊢; omega))).tr (r4.mo (fun q hq => by unfold zb at hq ⊢; omega))).tr (r5.mo (fun q hq => by unfold zb at hq ⊢; omega))).tr (r6.mo (fun q hq => by unfold zb at hq ⊢; omega)))
  have t26 : zO (fun q => q = K ∨ (K + 4 ≤ q ∧ q < K + 50)) μ1 μ6 := ((((r2.mo (fun q hq => by unfold zb at hq; omega)).tr (r3.mo (fun q hq => by unfold zb at hq; omega))).tr (r4.mo (fun q hq => by unfold zb at hq; omega))).tr (r5.mo (fun q hq => by unfold zb at hq; omega))).tr (r6.mo (fun q hq => by unfold zb at hq; omega))
  have t36 : zO (fun q => q = K ∨ (K + 8 ≤ q ∧ q < K + 50)) μ2 μ6 := (((r3.mo (fun q hq => by unfold zb at hq; omega)).tr (r4.mo (fun q hq => by unfold zb at hq; omega))).tr (r5.mo (fun q hq => by unfold zb at hq; omega))).tr (r6.mo (fun q hq => by unfold zb at hq; omega))
  have t46 : zO (fun q => q = K ∨ (K + 35 ≤ q ∧ q < K + 50)) μ3 μ6 := ((r4.mo (fun q hq => by unfold zb at hq; omega)).tr (r5.mo (fun q hq => by unfold zb at hq; omega))).tr (r6.mo (fun q hq => by unfold zb at hq; omega))
  have t56 : zO (fun q => q = K ∨ (K + 40 ≤ q ∧ q < K + 50)) μ4 μ6 := (r5.mo (fun q hq => by unfold zb at hq; omega)).tr (r6.mo (fun q hq => by unfold zb at hq; omega))
  have t66 : zO (fun q => q = K ∨ (K + 47 ≤ q ∧ q < K + 50)) μ5 μ6 := r6.mo (fun q hq => by unfold zb at hq; omega)
  have cg := t26.at (by omega) g1
  have cS := hp1.1.o t26 (by omega) (by omega)
  have cP := hp2.1.o t36 (fun q h1 h2 => by omega)
  have cH1 := t46.at (by omega) hp3.1.1
  have cH2 := t46.at (by omega) hp3.1.2.1
  have cH3 := t46.at (by omega) hp3.1.2.2
  have cK := (hp3.2.1 1 (by omega)).o t46 (by omega) (by omega)
  have cF := hp4.1.o t56 (fun q h1 h2 => by omega)
  have cO := hp5.1.o t66 (fun q h1 h2 => by omega)
  have cT := hp6.1
  have loop : ∀ (n i : Nat) (k : Int) (ν : zM) (f : Nat → Option Nat) (sz : Nat), i + n = 8 → k = (i : Int) → sz = K + 50 + 2 * i → ν K = zKobj K → ν (K + 1) = some (zAF D 8 f) → (∀ j, j < i → f j = some (K + 50 + 2 * j)) → (∀ j, j < i → isF D ν (K + 50 + 2 * j) zF) → zO (fun q => q = K ∨ q = K + 1 ∨ (K + 50 ≤ q ∧ q < K + 66)) μ6 ν → ZS X sz ν (49 + 2 * i) (1486 + 65 * i) 81 [some (.ref K), some (zi k)] [] := by
    intro n
    induction n with
    | zero =>
      intro i k ν f sz hn hk hsz ho h1 hf hF hO
      obtain rfl : i = 8 := by omega
      obtain rfl : sz = K + 66 := by omega
      refine s_iload_n C dX6_init_81 rfl ?_
      refine s_aload_n C dX6_init_82 rfl ?_
      refine s_get C ho rfl 0 (by decide) m_223 inz6 rfl rfl dX6_init_83 ?_
      refine s_alen C h1 4 rfl dX6_init_86 ?_
      refine s_icmp_ge (tgt := 109) C dX6_init_87 (by decide) (fun _ => ?_) (fun hno => absurd hno (by omega))
      refine s_canF C h1 (g := fun j => some (K + 50 + 2 * j)) (fun j hj => hf j hj) ?_
      have hO2 : ∀ e, zO (fun q => q = K ∨ q = K + 1 ∨ (K + 50 ≤ q ∧ q < K + 66)) μ6 (zu ν (K + 1) e) := fun e => zO.zu hO (Or.inr (Or.inl rfl))
      exact s_vret C E dX6_init_109 (Nat.le_of_ble_eq_true rfl) (Nat.le_of_ble_eq_true rfl) ⟨⟨zu_k ho (by omega), zu_s, fun j hj => (hF j hj).o (zO.zu (P := fun q => q = K + 1) zO.rf rfl) (by omega) (by omega), cS.o (hO2 _) (by omega) (by omega), by rw [show zw zIz 0 0 = zIz from zw_id rfl]; exact cP.o (hO2 _) (fun q h1 h2 => by omega), ⟨(hO2 _).at (by omega) cH1, (hO2 _).at (by omega) cH2, (hO2 _).at (by omega) cH3⟩, cK.o (hO2 _) (by omega) (by omega), cF.o (hO2 _) (fun q h1 h2 => by omega), cO.o (hO2 _) (fun q h1 h2 => by omega), cT.o (hO2 _) (fun q h1 h2 => by omega)⟩, w6.tr ((hO2 _).mo (fun q hq => by unfold zb; omega))⟩
    | succ n ih =>
      intro i k ν f sz hn hk hsz ho h1 hf hF hO
      refine s_iload_n C dX6_init_81 rfl ?_
      refine s_aload_n C dX6_init_82 rfl ?_
      refine s_get C ho rfl 0 (by decide) m_223 inz6 rfl rfl dX6_init_83 ?_
      refine s_alen C h1 4 rfl dX6_init_86 ?_
      refine s_icmp_ge (tgt := 109) C dX6_init_87 (by decide) (fun hno => absurd hno (by omega)) (fun _ => ?_)
      refine s_aload_n C dX6_init_90 rfl ?_
      refine s_get C ho rfl 0 (by decide) m_223 inz6 rfl rfl dX6_init_91 ?_
      refine s_iload_n C dX6_init_94 rfl ?_
      refine s_new C Rm (ci := 0) (fs := [.null]) rfl inz0 tyX0 tyX0_ok m_62 m_64 m_37 (fun j hj => by rcases (by omega : j = 0) with rfl <;> rfl) dX6_init_95 ⟨by (try dsimp only); omega, by (try dsimp only); omega⟩ (fun hq95 => ?_)
      refine s_dup C dX6_init_98 rfl ?_
      refine s_initN C Rm qi_X0_init nl_65 (i_F zu_s) dX6_init_99 rfl rfl (Nat.le_of_ble_eq_true rfl) rfl ⟨Nat.le_of_ble_eq_true rfl, Nat.le_of_ble_eq_true rfl, by (try dsimp only); omega, by (try dsimp only); omega⟩ (fun ν1 hp1 => ?_)
      have q1 : zO (zb sz 2) ν ν1 := (zO.zu zO.rf (by unfold zb; omega)).tr hp1.2
      have k1 := q1.at (by unfold zb; omega) h1
      refine s_fast C k1 hp1.1.1 (by decide) dX6_init_102 ?_
      refine s_iinc (L' := [_, _]) C dX6_init_103 rfl rfl ?_
      refine s_goto (tgt := 81) C dX6_init_106 (by decide) ?_
      refine s_up (kc' := 49 + 2 * (i + 1)) (kn' := 1486 + 65 * (i + 1)) (by (try dsimp only); omega) (by (try dsimp only); omega) (ih (i + 1) (k + 1) _ (zw f k.toNat (some sz)) (sz + 1 + 1) (by omega) (by omega) (by omega) (zu_k (q1.at (by unfold zb; omega) ho) (by omega)) zu_s (fun j hj => ?_) (fun j hj => ?_) (zO.zu (hO.tr (q1.mo (fun q hq => by unfold zb at hq; omega))) (Or.inr (Or.inl rfl))))
      · by_cases e : j = k.toNat
        · rw [e, zw_s]
          congr 1
          omega
        · rw [zw_n e]
          exact hf j (by omega)
      · by_cases e : j = i
        · rw [show K + 50 + 2 * j = sz by omega]
          exact hp1.1.o (zO.zu (P := fun q => q = K + 1) zO.rf rfl) (by omega) (by omega)
        · exact ((hF j (by omega)).o q1 (by unfold zb; omega) (by unfold zb; omega)).o (zO.zu (P := fun q => q = K + 1) zO.rf rfl) (by omega) (by omega)
  exact loop 8 0 0 _ (fun _ => none) _ (by omega) rfl rfl zu_s (zu_k cg (by omega)) (fun j hj => absurd hj (Nat.not_lt_zero j)) (fun j hj => absurd hj (Nat.not_lt_zero j)) (zO.zu zO.rf (Or.inl rfl))
set_option maxRecDepth 100000 in
set_option maxHeartbeats 4000000 in
theorem i_Mod {l : Launch} {D : va_G} {N0 : Nat} {M : Nat} {μ : zM} (hm : μ M = some (.inr (7, [zi 0, .null, .null, .null, zi 0, zi 0, .null, .null]))) : zMetS l yX7_init cX7_init 1 ({ frames := 1, cells := 13, slots := 32924, locals := 40 } : Room) D N0 [.ref M] μ (M + 1) (zQVS D N0 (M + 14) (fun u => isMo D u M ∧ zO (zb M 14) μ u)) := by
  refine zMetS_of rfl (Nat.le_of_ble_eq_true rfl) (fun X C Rm hin E => ?_)
  refine s_aload_n C dX7_init_0 rfl ?_
  refine s_objInit C Rm m_1006 m_60 m_61 dX7_init_1 rfl ⟨Nat.le_of_ble_eq_true rfl, Nat.le_of_ble_eq_true rfl⟩ ?_
  refine s_aload_n C dX7_init_4 rfl ?_
  refine s_bipush C dX7_init_5 ?_
  refine s_sipush C dX7_init_7 ?_
  refine s_mna C Rm m_1007 m_1035 (N := 8) (K := 4096) rfl rfl (by decide) (by decide) dX7_init_10 (by decide) (fun hq10 => ?_)
  have z1 : ∀ q, (q = M + 1 ∨ M + 1 + 1 ≤ q ∧ q < M + 1 + 1 + 8) ∨ zMna D μ (M + 1) 8 4096 q = μ q := fun q => by
    unfold zMna
    by_cases h : q = M + 1
    · exact Or.inl (Or.inl h)
    · by_cases h2 : M + 1 + 1 ≤ q ∧ q < M + 1 + 1 + 8
      · exact Or.inl (Or.inr h2)
      · rw [if_neg h, if_neg h2]
        exact Or.inr rfl
  have o0 : zMna D μ (M + 1) 8 4096 M = _ := ((z1 M).resolve_left (by omega)).trans hm
  have a0 : zMna D μ (M + 1) 8 4096 (M + 1) = some (zAB D 8 (fun k => if k < 8 then some (M + 2 + k) else none)) := by
    unfold zMna
    rw [if_pos rfl]
  have b0 : ∀ k, k < 8 → zMna D μ (M + 1) 8 4096 (M + 2 + k) = some (zAZ D 4096 zIz) := fun k hk => by
    unfold zMna
    rw [if_neg (by omega), if_pos (by omega)]
  have c0 : zO (zb M 14) μ (zMna D μ (M + 1) 8 4096) := fun q hq => (z1 q).resolve_left (by unfold zb at hq; omega)
  obtain ⟨ν, hν⟩ : ∃ ν, ν = zMna D μ (M + 1) 8 4096 := ⟨_, rfl⟩
  rw [← hν] at o0 a0 c0 ⊢
  simp only [← hν] at b0
  refine s_putF C o0 rfl tyX7 tyX7_ok nmX7 1 (by decide) m_1011 inz7 rfl rfl hin rfl (by rfl) (by rfl) (Nat.le_of_ble_eq_true rfl) dX7_init_14 ?_
  refine s_aload_n C dX7_init_17 rfl ?_
  refine s_bipush C dX7_init_18 ?_
  refine s_newI C Rm (by decide) m_105 dX7_init_20 (by decide) (fun hq20 => ?_)
  refine s_putF C (zu_k zu_s (by omega)) rfl tyX7 tyX7_ok nmX7 2 (by decide) m_1012 inz7 rfl rfl hin rfl (by rfl) (by rfl) (Nat.le_of_ble_eq_true rfl) dX7_init_22 ?_
  refine s_aload_n C dX7_init_25 rfl ?_
  refine s_bipush C dX7_init_26 ?_
  refine s_newI C Rm (by decide) m_105 dX7_init_28 (by decide) (fun hq28 => ?_)
  refine s_putF C (zu_k zu_s (by omega)) rfl tyX7 tyX7_ok nmX7 3 (by decide) m_1013 inz7 rfl rfl hin rfl (by rfl) (by rfl) (Nat.le_of_ble_eq_true rfl) dX7_init_30 ?_
  refine s_aload_n C dX7_init_33 rfl ?_
  refine s_iconst C dX7_init_34 ?_
  refine s_put C zu_s rfl tyX7 tyX7_ok nmX7 4 (by decide) m_1014 inz7 rfl rfl (by rfl) (by rfl) (Nat.le_of_ble_eq_true rfl) dX7_init_35 ?_
  refine s_aload_n C dX7_init_38 rfl ?_
  refine s_bipush C dX7_init_39 ?_
  refine s_newI C Rm (by decide) m_105 dX7_init_41 (by decide) (fun hq41 => ?_)
  refine s_putF C (zu_k zu_s (by omega)) rfl tyX7 tyX7_ok nmX7 6 (by decide) m_1016 inz7 rfl rfl hin rfl (by rfl) (by rfl) (Nat.le_of_ble_eq_true rfl) dX7_init_43 ?_
  refine s_aload_n C dX7_init_46 rfl ?_
  refine s_bipush C dX7_init_47 ?_
  refine s_anewB C Rm (by decide) m_1009 dX7_init_49 (by decide) (fun hq49 => ?_)
  refine s_putF C (zu_k zu_s (by omega)) rfl tyX7 tyX7_ok nmX7 7 (by decide) m_1017 inz7 rfl rfl hin rfl (by rfl) (by rfl) (Nat.le_of_ble_eq_true rfl) dX7_init_52 ?_
  exact s_vret C E dX7_init_55 (Nat.le_of_ble_eq_true rfl) (Nat.le_of_ble_eq_true rfl) ⟨⟨zu_s, zu_k (zu_k (zu_k (zu_k (zu_k (zu_k (zu_k (zu_k (zu_k (zu_k a0 (by omega)) (by omega)) (by omega)) (by omega)) (by omega)) (by omega)) (by omega)) (by omega)) (by omega)) (by omega), fun k hk => zu_k (zu_k (zu_k (zu_k (zu_k (zu_k (zu_k (zu_k (zu_k (zu_k (b0 k hk) (by omega)) (by omega)) (by omega)) (by omega)) (by omega)) (by omega)) (by omega)) (by omega)) (by omega)) (by omega), zu_k (zu_k (zu_k (zu_k (zu_k (zu_k (zu_k (zu_k zu_s (by omega)) (by omega)) (by omega)) (by omega)) (by omega)) (by omega)) (by omega)) (by omega), zu_k (zu_k (zu_k (zu_k (zu_k (zu_k zu_s (by omega)) (by omega)) (by omega)) (by omega)) (by omega)) (by omega), zu_k (zu_k (zu_k zu_s (by omega)) (by omega)) (by omega), zu_k zu_s (by omega)⟩, by repeat (first | exact c0 | refine zO.zu ?_ (by unfold zb; omega))⟩
end
section
/-! the law's script: a cell from before -/
def zScr (X : zX) (b L : Nat) (xs : Nat → Int32) : Prop :=
  match X with
  | (p, l, e, R, s, m, args, below, meth, c, D, N0, Q) => va_X b L xs s s.heap ∧ b < s.heap.size ∧ b < N0
section ZSCR
variable {X : zX} {l : Launch} {D : va_G} {N0 : Nat} {cc : ByteArray} {nL : Nat} {own : String} {Ts : List Cond} {μ : zM} {kc kn pc : Nat} {L : List (Option Value)} {st : List Value} {b n : Nat} {xs : Nat → Int32}
theorem z_sld (C : zC X l D N0 cc nL own Ts) (S : zScr X b n xs) (hn : n < 2147483648) {i : Int} (d : decode cc pc = .ok (.iaload, 1)) (k : Z X μ kc kn (pc + 1) L (zi (xs i.toNat).toInt :: st)) (hi : 0 ≤ i ∧ i < n := by omega) : Z X μ kc kn pc L (zi i :: .ref b :: st) := by
  obtain ⟨p, l', e, R, s, m, args, below, meth, c, D', N', Q⟩ := X
  obtain ⟨rfl, rfl, rfl, hx, hb, hml, hown, hts, hlk, hB⟩ := C
  obtain ⟨s1, s2, s3⟩ := S
  intro H locs cells slots ls hH hS hc1 hs1 hl
  have k2 := k H locs cells slots ls hH hS hc1 hs1 hl
  rw [zi_as] at k2
  refine va_sld hx hb s1 s2 (show ¬ N' ≤ b by omega) hS (zI_in hi hn) d ?_
  rw [zI_nc (a := i) (by omega)]
  exact k2
theorem z_slen (C : zC X l D N0 cc nL own Ts) (S : zScr X b n xs) (d : decode cc pc = .ok (.arraylength, 1)) (k : Z X μ kc kn (pc + 1) L (zi (n : Int) :: st)) : Z X μ kc kn pc L (.ref b :: st) := by
  obtain ⟨p, l', e, R, s, m, args, below, meth, c, D', N', Q⟩ := X
  obtain ⟨rfl, rfl, rfl, hx, hb, hml, hown, hts, hlk, hB⟩ := C
  obtain ⟨s1, s2, s3⟩ := S
  intro H locs cells slots ls hH hS hc1 hs1 hl
  refine va_slen hx hb s1 s2 (show ¬ N' ≤ b by omega) hS d ?_
  exact k H locs cells slots ls hH hS hc1 hs1 hl
end ZSCR
theorem s_newD {X : zX} {l : Launch} {D : va_G} {N0 : Nat} {cc : ByteArray} {nL : Nat} {own : String} {μ : zM} {kc kn pc sz : Nat} {L : List (Option Value)} {st : List Value} (C : zC X l D N0 cc nL own zWS) {rk rn rf rw : Nat} (Rm : zR X rk rn rf rw) {n : Int} (hn : 0 ≤ n ∧ n < 100000) (w : Cond.arrayClass .double ∈ zWS) (d : decode cc pc = .ok (.newarray .double, 2)) (hr : kc + 1 ≤ rk ∧ kn + n.toNat ≤ rn) (k : (∀ (a : Nat) (e : va_E), μ a = some e → a < sz) → ZS X (sz + 1) (zu μ sz (zAD D n.toNat (fun _ => 0))) (kc + 1) (kn + n.toNat) (pc + 2) L (.ref sz :: st)) : ZS X sz μ kc kn pc L (zi n :: st) := by
  obtain ⟨p, l', e, R, s, m, args, below, meth, c, D', N', Q⟩ := X
  obtain ⟨rfl, rfl, rfl, hx, hb, hml, hown, hts, hlk, hB⟩ := C
  obtain ⟨r1, r2, r3, r4⟩ := Rm
  intro H locs cells slots ls hz hH hS hc1 hs1 hl
  subst hz
  have hN : N' ≤ H.size := Nat.le_trans hB.2.2.1 hS.1
  refine va_newaK (atype := .double) hx hb (hts _ w) rfl d rfl (by rw [zI_0, zI_lt (by omega) (by omega)]; omega) (zI_nc (by omega)) (by show n.toNat * 8 ≤ 536870912; omega) (Nat.le_trans (Nat.le_trans (Nat.add_le_add_right hc1 _) hr.1) r1) (Nat.le_trans (Nat.le_trans (Nat.add_le_add_right hs1 _) hr.2) r2) rfl fun H1 cA e1 z1 o1 hAr hNm => ?_
  have hcA : cA = D'.1 103 := Option.some.inj (hNm.symm.trans (hB.1.2 3 _ rfl).2)
  subst hcA
  refine k (fun a e ha => hH.lt ha) H1 locs _ _ ls z1 (hH.new ?_ hN o1) ⟨Nat.le_trans hS.1 (by omega), fun x h1 h2 => (o1 x (Nat.lt_of_lt_of_le h1 hS.1)).trans (hS.2.1 x h1 h2), hS.2.2⟩ (Nat.add_le_add_right hc1 _) (Nat.add_le_add_right hs1 _) hl
  show H1[H.size]? = some (vp_cell _ _)
  rw [e1, vp_cell_d]
  rfl
end
section
/-! from what the Statement gives of the start to the premises of the walk -/
theorem en_flags {l : Launch} (h : l.flags = flags0) : l.stackTraces = false := by
  unfold Launch.stackTraces
  rw [h]
  decide +kernel
theorem en_any {s : State} {b : Addr} (hts : ∀ w ∈ lw_tbl, w.before #[Value.ref b] s = true) : ∀ w ∈ zWS, ∀ a, w.before a s = true := fun w hw a => word_at (State.WarmedH.refl s) (good_of_word (List.mem_filter.mp hw).2) (hts w (List.mem_filter.mp hw).1)
theorem en_prim {s : State} {a : Array Value} {ty : FieldType} (h : (Cond.arrayClass ty).before a s = true) (hp : ∀ C, ty ≠ .object C) : ∃ cA : ClassId, ArrOfT s cA ty ∧ va_RA s cA ty := by
  obtain ⟨c, k, comp, h1, h2, h3⟩ := Cond.arrayClass_spec h
  refine ⟨c, fun n z => ⟨(fun k h => (by cases h)), k, h2, comp, h3⟩, ?_⟩
  cases ty with
  | object C => exact absurd rfl (hp C)
  | _ => exact h1
theorem en_obj {s : State} {C : String} (h : va_AO C s) : ∃ cA : ClassId, ArrOfT s cA (.object C) ∧ va_RA s cA (.object C) := by
  obtain ⟨comp, c, k, h1, -, h2, h3, h4⟩ := Cond.arrayOver_spec h
  exact ⟨c, fun n z => ⟨(fun k h => (by cases h)), k, h2, comp, h3⟩, k, comp, h2, h3, h1, h4⟩
theorem en_arr {s : State} {t : FieldType} (h : va_AOA t s) : ∃ cA : ClassId, ArrOfT s cA (.array t) ∧ va_RA s cA (.array t) := by
  obtain ⟨comp, c, k, h1, -, h2, h3, h4⟩ := arrayOverA_spec h
  exact ⟨c, fun n z => ⟨(fun k h => (by cases h)), k, h2, comp, h3⟩, h4⟩
def enC (c0 c1 c2 c3 c4 c5 c6 c7 a0 a1 a2 a3 a4 a5 : ClassId) : Nat → ClassId := fun k => if k = 0 then c0 else if k = 1 then c1 else if k = 2 then c2 else if k = 3 then c3 else if k = 4 then c4 else if k = 5 then c5 else if k = 6 then c6 else if k = 7 then c7 else if k = 100 then a0 else if k = 101 then a1 else if k = 102 then a2 else if k = 103 then a3 else if k = 104 then a4 else a5
def enI (i0 i1 i2 i3 i4 i5 i6 i7 : Nat → Nat) : Nat → Nat → Nat := fun k => if k = 0 then i0 else if k = 1 then i1 else if k = 2 then i2 else if k = 3 then i3 else if k = 4 then i4 else if k = 5 then i5 else if k = 6 then i6 else i7
theorem en_K {s : State} (hz : ∀ w ∈ zWS, ∀ a, w.before a s = true) (hO : va_AO RX0 s) (hA : va_AOA .boolean s) : ∃ D : va_G, va_K D vwCl (zTY D) s := by
  have hz0 : ∀ w ∈ zWS, w.before #[] s = true := fun w hw => hz w hw #[]
  obtain ⟨c0, i0, k0⟩ := u_known (C := RX0) (T := TX0) (N := 1) (n := 1) hz0 inz0 (hz0 _ m_64)
  obtain ⟨c1, i1, k1⟩ := u_known (C := RX1) (T := TX1) (N := 4) (n := 4) hz0 inz1 (hz0 _ m_128)
  obtain ⟨c2, i2, k2⟩ := u_known (C := RX2) (T := TX2) (N := 4) (n := 4) hz0 inz2 (hz0 _ m_107)
  obtain ⟨c3, i3, k3⟩ := u_known (C := RX3) (T := TX3) (N := 12) (n := 12) hz0 inz3 (hz0 _ m_149)
  obtain ⟨c4, i4, k4⟩ := u_known (C := RX4) (T := TX4) (N := 8) (n := 8) hz0 inz4 (hz0 _ m_75)
  obtain ⟨c5, i5, k5⟩ := u_known (C := RX5) (T := TX5) (N := 7) (n := 7) hz0 inz5 (hz0 _ m_194)
  obtain ⟨c6, i6, k6⟩ := u_known (C := RX6) (T := TX6) (N := 7) (n := 7) hz0 inz6 (hz0 _ m_55)
  obtain ⟨c7, i7, k7⟩ := u_known (C := RX7) (T := TX7) (N := 8) (n := 8) hz0 inz7 (hz0 _ m_1002)
  obtain ⟨a0, e0⟩ := en_prim (hz0 _ m_105) (fun C h => by cases h)
  obtain ⟨a1, e1⟩ := en_prim (hz0 _ m_73) (fun C h => by cases h)
  obtain ⟨a2, e2⟩ := en_prim (hz0 _ m_1035) (fun C h => by cases h)
  obtain ⟨a3, e3⟩ := en_prim (hz0 _ m_1289) (fun C h => by cases h)
  obtain ⟨a4, e4⟩ := en_obj hO
  obtain ⟨a5, e5⟩ := en_arr hA
  refine ⟨(enC c0 c1 c2 c3 c4 c5 c6 c7 a0 a1 a2 a3 a4 a5, enI i0 i1 i2 i3 i4 i5 i6 i7), ?_, ?_⟩
  · intro k q hq
    match k, hq with
    | 0, hq => cases hq; exact k0
    | 1, hq => cases hq; exact k1
    | 2, hq => cases hq; exact k2
    | 3, hq => cases hq; exact k3
    | 4, hq => cases hq; exact k4
    | 5, hq => cases hq; exact k5
    | 6, hq => cases hq; exact k6
    | 7, hq => cases hq; exact k7
    | k + 8, hq => simp [vwCl] at hq
  · intro k q hq
    match k, hq with
    | 0, hq => cases hq; exact e0
    | 1, hq => cases hq; exact e1
    | 2, hq => cases hq; exact e2
    | 3, hq => cases hq; exact e3
    | 4, hq => cases hq; exact e4
    | 5, hq => cases hq; exact e5
    | k + 6, hq => simp [zTY] at hq
theorem en_str {s : State} {a : Array Value} {k : Nat} {tx : String} {cur : ClassId} (hc : s.vm.findClass RX6 = some cur) (h : (Cond.stringRef RX6 k tx).before a s = true) : ∃ sa, vk_R RX6 k tx sa s := by
  obtain ⟨_, _, _, sa, _, _, _, _, _, h6⟩ := Cond.stringRef_spec hc h
  exact ⟨sa, vk_R.of (A := a) h h6⟩
theorem en_ST {s : State} {b : Addr} (hts : ∀ w ∈ lw_tbl, w.before #[Value.ref b] s = true) {cur : ClassId} (hc : s.vm.findClass RX6 = some cur) : ∀ q ∈ zST, ∃ sa, vk_R RX6 q.1 q.2 sa s := by
  intro q hq
  simp only [zST, List.mem_cons, List.not_mem_nil, or_false] at hq
  rcases hq with rfl | rfl | rfl | rfl | rfl | rfl | rfl | rfl | rfl | rfl | rfl | rfl | rfl | rfl | rfl | rfl | rfl
  · exact en_str hc (hts _ (List.mem_of_getElem? m_554))
  · exact en_str hc (hts _ (List.mem_of_getElem? m_605))
  · exact en_str hc (hts _ (List.mem_of_getElem? m_619))
  · exact en_str hc (hts _ (List.mem_of_getElem? m_659))
  · exact en_str hc (hts _ (List.mem_of_getElem? m_669))
  · exact en_str hc (hts _ (List.mem_of_getElem? m_707))
  · exact en_str hc (hts _ (List.mem_of_getElem? m_712))
  · exact en_str hc (hts _ (List.mem_of_getElem? m_723))
  · exact en_str hc (hts _ (List.mem_of_getElem? m_734))
  · exact en_str hc (hts _ (List.mem_of_getElem? m_753))
  · exact en_str hc (hts _ (List.mem_of_getElem? m_780))
  · exact en_str hc (hts _ (List.mem_of_getElem? m_874))
  · exact en_str hc (hts _ (List.mem_of_getElem? m_897))
  · exact en_str hc (hts _ (List.mem_of_getElem? m_898))
  · exact en_str hc (hts _ (List.mem_of_getElem? m_938))
  · exact en_str hc (hts _ (List.mem_of_getElem? m_939))
  · exact en_str hc (hts _ (List.mem_of_getElem? m_950))
theorem en_NG {s : State} {b : Addr} (hts : ∀ w ∈ lw_tbl, w.before #[Value.ref b] s = true) : ∀ w ∈ zNG, va_Nw w s := by
  intro w hw
  simp only [zNG, List.mem_cons, List.not_mem_nil, or_false] at hw
  rcases hw with rfl | rfl | rfl | rfl | rfl | rfl | rfl | rfl | rfl
  · exact va_Nw.of rfl (hts _ (List.mem_of_getElem? m_515))
  · exact va_Nw.of rfl (hts _ (List.mem_of_getElem? m_612))
  · exact va_Nw.of rfl (hts _ (List.mem_of_getElem? m_652))
  · exact va_Nw.of rfl (hts _ (List.mem_of_getElem? m_516))
  · exact va_Nw.of rfl (hts _ (List.mem_of_getElem? m_517))
  · exact va_Nw.of rfl (hts _ (List.mem_of_getElem? m_518))
  · exact va_Nw.of rfl (hts _ (List.mem_of_getElem? m_519))
  · exact va_Nw.of rfl (hts _ (List.mem_of_getElem? m_520))
  · exact va_Nw.of rfl (hts _ (List.mem_of_getElem? m_521))
theorem en_NC {s : State} {b : Addr} (hg : (Jvm.Cond.and given_1 narrow_1).before #[Value.ref b] s = true) : ∀ q ∈ zNC, va_Nc q.1 q.2 s := by
  have hs := flat_of_before _ hg
  intro q hq
  simp only [zNC, List.mem_cons, List.not_mem_nil, or_false] at hq
  rcases hq with rfl | rfl | rfl | rfl | rfl | rfl
  · exact va_Nc.of (hs _ (by decide +kernel))
  · exact va_Nc.of (hs _ (by decide +kernel))
  · exact va_Nc.of (hs _ (by decide +kernel))
  · exact va_Nc.of (hs _ (by decide +kernel))
  · exact va_Nc.of (hs _ (by decide +kernel))
  · exact va_Nc.of (hs _ (by decide +kernel))
theorem en_S {s : State} {b : Addr} (hts : ∀ w ∈ lw_tbl, w.before #[Value.ref b] s = true) (hg : (Jvm.Cond.and given_1 narrow_1).before #[Value.ref b] s = true) : zS s.heap.size s s.heap := by
  have hs := flat_of_before _ hg
  exact ⟨vx_Zqof (hts _ (List.mem_of_getElem? m_540)) (hts _ (List.mem_filter.mp m_44).1) (hs (Jvm.Cond.isRef (Jvm.Term.static "java/lang/Throwable" "UNASSIGNED_STACK" "[Ljava/lang/StackTraceElement;")) (by decide +kernel)) (fun a h1 h2 => absurd h1 (by omega)),
    vx_Zqof (hts _ (List.mem_of_getElem? m_542)) (hts _ (List.mem_filter.mp m_44).1) (hs (Jvm.Cond.isRef (Jvm.Term.static "java/lang/Throwable" "SUPPRESSED_SENTINEL" "Ljava/util/List;")) (by decide +kernel)) (fun a h1 h2 => absurd h1 (by omega))⟩
theorem en_B {s : State} {b : Addr} (hts : ∀ w ∈ lw_tbl, w.before #[Value.ref b] s = true) (hg : (Jvm.Cond.and given_1 narrow_1).before #[Value.ref b] s = true) : ∃ D : va_G, zB D s.heap.size s := by
  have hz := en_any hts
  have hO : va_AO RX0 s := va_AO.of (hts _ (List.mem_of_getElem? m_63))
  have hA : va_AOA .boolean s := hts _ (List.mem_of_getElem? m_1008)
  obtain ⟨D, hK⟩ := en_K hz hO hA
  have hc : s.vm.findClass RX6 = some (D.1 6) := (hK.1 6 (RX6, TX6, 7) rfl).2.1
  exact ⟨D, hK, en_S hts hg, Nat.le_refl _, hz, fun q hq => va_Nw.of rfl (hts _ (zNL_tbl q hq)), en_NG hts, en_ST hts hc, hO, hA, en_NC hg⟩
end
section
/-! the class on an object whose only past is digests -/
def isKf (D : va_G) (μ : zM) (K : Nat) (g : Nat → Int64) (lo hi fy wt sy : Int) : Prop := μ K = some (.inr (6, [.ref (K + 1), .ref (K + 2), .ref (K + 4), .ref (K + 8), .ref (K + 35), .ref (K + 40), .ref (K + 47)])) ∧ μ (K + 1) = some (zAF D 8 (fun k => some (K + 50 + 2 * k))) ∧ (∀ k, k < 8 → isF D μ (K + 50 + 2 * k) zF) ∧ isF D μ (K + 2) zF ∧ isPen D μ (K + 4) 1 0 0 0 0 (zw zIz 0 0) (zw zIz 0 0) zIz ∧ isHi D μ (K + 8) 0 0 zIz ∧ isF D μ (K + 8 + 5) zF ∧ isFl D μ (K + 35) zF g lo hi ∧ isOu D μ (K + 40) fy wt ∧ isSt D μ (K + 47) sy
theorem isKe.kf {D : va_G} {μ : zM} {K : Nat} (h : isKe D μ K) : isKf D μ K zF 0 0 0 0 0 := h
section KF
variable {D : va_G} {μ : zM} {K : Nat} {g : Nat → Int64} {lo hi fy wt sy : Int}
theorem isKf.obj (h : isKf D μ K g lo hi fy wt sy) : μ K = some (.inr (6, [.ref (K + 1), .ref (K + 2), .ref (K + 4), .ref (K + 8), .ref (K + 35), .ref (K + 40), .ref (K + 47)])) := h.1
theorem isKf.regs (h : isKf D μ K g lo hi fy wt sy) : μ (K + 1) = some (zAF D 8 (fun k => some (K + 50 + 2 * k))) := h.2.1
theorem isKf.reg (h : isKf D μ K g lo hi fy wt sy) {k : Nat} (hk : k < 8) : isF D μ (K + 50 + 2 * k) zF := h.2.2.1 k hk
theorem isKf.spare (h : isKf D μ K g lo hi fy wt sy) : isF D μ (K + 2) zF := h.2.2.2.1
theorem isKf.pen (h : isKf D μ K g lo hi fy wt sy) : isPen D μ (K + 4) 1 0 0 0 0 (zw zIz 0 0) (zw zIz 0 0) zIz := h.2.2.2.2.1
theorem isKf.his (h : isKf D μ K g lo hi fy wt sy) : isHi D μ (K + 8) 0 0 zIz := h.2.2.2.2.2.1
theorem isKf.kept (h : isKf D μ K g lo hi fy wt sy) : isF D μ (K + 8 + 5) zF := h.2.2.2.2.2.2.1
theorem isKf.fl (h : isKf D μ K g lo hi fy wt sy) : isFl D μ (K + 35) zF g lo hi := h.2.2.2.2.2.2.2.1
theorem isKf.ou (h : isKf D μ K g lo hi fy wt sy) : isOu D μ (K + 40) fy wt := h.2.2.2.2.2.2.2.2.1
theorem isKf.st (h : isKf D μ K g lo hi fy wt sy) : isSt D μ (K + 47) sy := h.2.2.2.2.2.2.2.2.2
theorem isKf.at (h : isKf D μ K g lo hi fy wt sy) {r : Int} (hr : 0 ≤ r ∧ r < 8) : isF D μ (zReg K r) zF := h.reg (by omega)
theorem isKf.mk2 {u : zM} {g2 : Nat → Int64} {lo2 hi2 fy2 wt2 sy2 : Int} (h : isKf D μ K g lo hi fy wt sy) (hA : isFl D u (K + 35) zF g2 lo2 hi2) (hU : isOu D u (K + 40) fy2 wt2) (hS : isSt D u (K + 47) sy2) (hO : zO (zb (K + 35) 15) μ u) : isKf D u K g2 lo2 hi2 fy2 wt2 sy2 :=
  ⟨hO.at (by unfold zb; omega) h.obj, hO.at (by unfold zb; omega) h.regs, fun k hk => (h.reg hk).o hO (by unfold zb; omega) (by unfold zb; omega), h.spare.o hO (by unfold zb; omega) (by unfold zb; omega), h.pen.o hO (fun q h1 h2 => by unfold zb; omega), ⟨hO.at (by unfold zb; omega) h.his.1, hO.at (by unfold zb; omega) h.his.2.1, hO.at (by unfold zb; omega) h.his.2.2⟩, h.kept.o hO (by unfold zb; omega) (by unfold zb; omega), hA, hU, hS⟩
theorem isF.ex {u : zM} {o : Nat} {f : Nat → Int64} (h : isF D μ o f) (hE : zEx μ u) : isF D u o f := ⟨hE _ _ h.1, hE _ _ h.2⟩
theorem isKf.ex {u : zM} (h : isKf D μ K g lo hi fy wt sy) (hE : zEx μ u) : isKf D u K g lo hi fy wt sy :=
  ⟨hE _ _ h.obj, hE _ _ h.regs, fun k hk => (h.reg hk).ex hE, h.spare.ex hE, ⟨hE _ _ h.pen.1, hE _ _ h.pen.2.1, hE _ _ h.pen.2.2.1, hE _ _ h.pen.2.2.2⟩, ⟨hE _ _ h.his.1, hE _ _ h.his.2.1, hE _ _ h.his.2.2⟩, h.kept.ex hE, ⟨hE _ _ h.fl.1, h.fl.2.1.ex hE, h.fl.2.2.ex hE⟩, ⟨hE _ _ h.ou.1, h.ou.2.1.ex hE, h.ou.2.2.1.ex hE, h.ou.2.2.2.ex hE⟩, hE _ _ h.st.1, h.st.2.ex hE⟩
end KF
set_option maxRecDepth 100000 in
set_option maxHeartbeats 4000000 in
theorem k_digest2 {l : Launch} {D : va_G} {N0 : Nat} {K : Nat} {μ : zM} {g0 : Nat → Int64} {lo0 hi0 fy0 wt0 sy0 : Int} (hK : isKf D μ K g0 lo0 hi0 fy0 wt0 sy0) : zMet l yX6_digest cX6_digest 6 (some .long) ({ frames := 5, cells := 0, slots := 0, locals := 200 } : Room) D N0 [.ref K] μ (zQL D N0 (fun z u => z = zmz (zdg 8) ∧ (∃ (g : Nat → Int64) (lo hi fy wt sy : Int), isKf D u K g lo hi fy wt sy) ∧ zKO K μ u)) := by
  refine zMet_of rfl (Nat.le_of_ble_eq_true rfl) (fun X C Rm hin E => ?_)
  have loop : ∀ (n i : Nat) (k : Int) (d : Int64) (L4 L5 : Option Value) (ν : zM) (g : Nat → Int64) (lo hi fy wt sy : Int), i + n = 8 → k = (i : Int) → d = zdg i → isFl D ν (K + 35) zF g lo hi → isOu D ν (K + 40) fy wt → isSt D ν (K + 47) sy → zO (zb (K + 35) 15) μ ν → Z X ν 0 0 17 [some (.ref K), some (.long d), none, some (zi k), L4, L5] [] := by
    intro n
    induction n with
    | zero =>
      intro i k d L4 L5 ν g lo hi fy wt sy hn hk hd hA hU hS hO
      subst hd
      have hob := hO.at (by unfold zb; omega) hK.obj
      have hrg := hO.at (by unfold zb; omega) hK.regs
      refine z_iload_n C dX6_digest_17 rfl ?_
      refine z_aload_n C dX6_digest_18 rfl ?_
      refine z_get C hob rfl 0 (by decide) m_223 inz6 rfl rfl dX6_digest_19 ?_
      refine z_alen C hrg 4 rfl dX6_digest_22 ?_
      refine z_icmp_ge (tgt := 166) C dX6_digest_23 (by decide) (fun _ => ?_) (fun hno => absurd hno (by omega))
      have hH := hO.at (by unfold zb; omega) hK.his.1
      have hH2 : isHi D ν (K + 8) 0 0 zIz := ⟨hH, hO.at (by unfold zb; omega) hK.his.2.1, hO.at (by unfold zb; omega) hK.his.2.2⟩
      refine z_lload_n C dX6_digest_166 rfl ?_
      refine z_aload_n C dX6_digest_167 rfl ?_
      refine z_get C hob rfl 3 (by decide) m_226 inz6 rfl rfl dX6_digest_168 ?_
      refine z_ci C (z_rV C Rm qv_X2_count m_496 (c_hcount hH2) hH rfl dX6_digest_171 rfl rfl (Nat.le_of_ble_eq_true rfl) rfl ⟨Nat.le_of_ble_eq_true rfl, Nat.le_of_ble_eq_true rfl, Nat.le_of_ble_eq_true rfl, Nat.le_of_ble_eq_true rfl⟩) (fun z μ3 hq3 => ?_)
      obtain ⟨rfl, rfl⟩ := hq3
      refine z_i2l C dX6_digest_174 ?_
      refine z_cl C (z_rS C Rm qs_X6_mixed m_286 (k_mixz) dX6_digest_175 rfl rfl (Nat.le_of_ble_eq_true rfl) rfl ⟨Nat.le_of_ble_eq_true rfl, Nat.le_of_ble_eq_true rfl, Nat.le_of_ble_eq_true rfl, Nat.le_of_ble_eq_true rfl⟩) (fun z μ3 hq3 => ?_)
      obtain ⟨rfl, rfl⟩ := hq3
      exact z_lret C E dX6_digest_178 (Nat.le_of_ble_eq_true rfl) (Nat.le_of_ble_eq_true rfl) ⟨by rw [show i = 8 by omega], ⟨g, lo, hi, fy, wt, sy, hK.mk2 hA hU hS hO⟩, hO.mo (fun q hq => by unfold zb at hq ⊢; omega)⟩
    | succ n ih =>
      intro i k d L4 L5 ν g lo hi fy wt sy hn hk hd hA hU hS hO
      have hob := hO.at (by unfold zb; omega) hK.obj
      have hrg := hO.at (by unfold zb; omega) hK.regs
      have h8 : 0 ≤ k ∧ k < 8 := by omega
      have b8 := zReg_b (K := K) h8
      have hF := (hK.at h8).o hO (by unfold zb; omega) (by unfold zb; omega)
      have hne : ¬ zb (K + 35) 5 (zReg K k) ∧ ¬ zb (K + 35) 5 (zReg K k + 1) := ⟨by unfold zb; omega, by unfold zb; omega⟩
      refine z_iload_n C dX6_digest_17 rfl ?_
      refine z_aload_n C dX6_digest_18 rfl ?_
      refine z_get C hob rfl 0 (by decide) m_223 inz6 rfl rfl dX6_digest_19 ?_
      refine z_alen C hrg 4 rfl dX6_digest_22 ?_
      refine z_icmp_ge (tgt := 166) C dX6_digest_23 (by decide) (fun hno => absurd hno (by omega)) (fun _ => ?_)
      refine z_aload_n C dX6_digest_26 rfl ?_
      refine z_get C hob rfl 0 (by decide) m_223 inz6 rfl rfl dX6_digest_27 ?_
      refine z_iload_n C dX6_digest_30 rfl ?_
      refine z_fald C hrg (by decide) (show _ = some (zReg K k) from rfl) dX6_digest_31 ?_
      refine z_astore (L' := [_, _, _, _, _, _]) C dX6_digest_32 rfl ?_
      refine z_lload_n C dX6_digest_34 rfl ?_
      refine z_aload C dX6_digest_35 rfl ?_
      refine z_ci C (z_rV C Rm qv_X0_count m_290 (c_count hF) hF.1 rfl dX6_digest_37 rfl rfl (Nat.le_of_ble_eq_true rfl) rfl ⟨Nat.le_of_ble_eq_true rfl, Nat.le_of_ble_eq_true rfl, Nat.le_of_ble_eq_true rfl, Nat.le_of_ble_eq_true rfl⟩) (fun z μ3 hq3 => ?_)
      obtain ⟨rfl, rfl⟩ := hq3
      rw [cntF_z]
      refine z_i2l C dX6_digest_40 ?_
      refine z_cl C (z_rS C Rm qs_X6_mixed m_286 (k_mixz) dX6_digest_41 rfl rfl (Nat.le_of_ble_eq_true rfl) rfl ⟨Nat.le_of_ble_eq_true rfl, Nat.le_of_ble_eq_true rfl, Nat.le_of_ble_eq_true rfl, Nat.le_of_ble_eq_true rfl⟩) (fun z μ3 hq3 => ?_)
      obtain ⟨rfl, rfl⟩ := hq3
      refine z_lstore_n (L' := [_, _, _, _, _, _]) C dX6_digest_44 rfl ?_
      refine z_lload_n C dX6_digest_45 rfl ?_
      refine z_aload C dX6_digest_46 rfl ?_
      refine z_ci C (z_rV C Rm qv_X0_countEdges m_300 (c_countEdges0 hF) hF.1 rfl dX6_digest_48 rfl rfl (Nat.le_of_ble_eq_true rfl) rfl ⟨Nat.le_of_ble_eq_true rfl, Nat.le_of_ble_eq_true rfl, Nat.le_of_ble_eq_true rfl, Nat.le_of_ble_eq_true rfl⟩) (fun z μ3 hq3 => ?_)
      obtain ⟨rfl, rfl⟩ := hq3
      refine z_i2l C dX6_digest_51 ?_
      refine z_cl C (z_rS C Rm qs_X6_mixed m_286 (k_mixz) dX6_digest_52 rfl rfl (Nat.le_of_ble_eq_true rfl) rfl ⟨Nat.le_of_ble_eq_true rfl, Nat.le_of_ble_eq_true rfl, Nat.le_of_ble_eq_true rfl, Nat.le_of_ble_eq_true rfl⟩) (fun z μ3 hq3 => ?_)
      obtain ⟨rfl, rfl⟩ := hq3
      refine z_lstore_n (L' := [_, _, _, _, _, _]) C dX6_digest_55 rfl ?_
      refine z_lload_n C dX6_digest_56 rfl ?_
      refine z_aload_n C dX6_digest_57 rfl ?_
      refine z_get C hob rfl 4 (by decide) m_227 inz6 rfl rfl dX6_digest_58 ?_
      refine z_aload C dX6_digest_61 rfl ?_
      refine z_ci C (z_rV C Rm qv_X1_countPieces m_305 (c_pieces0 hA hF (by omega)) hA.1 rfl dX6_digest_63 rfl rfl (Nat.le_of_ble_eq_true rfl) rfl ⟨Nat.le_of_ble_eq_true rfl, Nat.le_of_ble_eq_true rfl, Nat.le_of_ble_eq_true rfl, Nat.le_of_ble_eq_true rfl⟩) (fun z μ3 hq3 => ?_)
      obtain ⟨rfl, rfl⟩ := hq3
      refine z_i2l C dX6_digest_66 ?_
      refine z_cl C (z_rS C Rm qs_X6_mixed m_286 (k_mixz) dX6_digest_67 rfl rfl (Nat.le_of_ble_eq_true rfl) rfl ⟨Nat.le_of_ble_eq_true rfl, Nat.le_of_ble_eq_true rfl, Nat.le_of_ble_eq_true rfl, Nat.le_of_ble_eq_true rfl⟩) (fun z μ3 hq3 => ?_)
      obtain ⟨rfl, rfl⟩ := hq3
      refine z_lstore_n (L' := [_, _, _, _, _, _]) C dX6_digest_70 rfl ?_
      refine z_lload_n C dX6_digest_71 rfl ?_
      refine z_aload_n C dX6_digest_72 rfl ?_
      refine z_get C hob rfl 4 (by decide) m_227 inz6 rfl rfl dX6_digest_73 ?_
      refine z_aload C dX6_digest_76 rfl ?_
      refine z_ci C (z_rV C Rm qv_X1_countHoles m_357 (c_holes0 hA hF hne) hA.1 rfl dX6_digest_78 rfl rfl (Nat.le_of_ble_eq_true rfl) rfl ⟨Nat.le_of_ble_eq_true rfl, Nat.le_of_ble_eq_true rfl, Nat.le_of_ble_eq_true rfl, Nat.le_of_ble_eq_true rfl⟩) (fun z ν2 hq3 => ?_)
      obtain ⟨rfl, hA2, hO2⟩ := hq3
      refine z_i2l C dX6_digest_81 ?_
      refine z_cl C (z_rS C Rm qs_X6_mixed m_286 (k_mixz) dX6_digest_82 rfl rfl (Nat.le_of_ble_eq_true rfl) rfl ⟨Nat.le_of_ble_eq_true rfl, Nat.le_of_ble_eq_true rfl, Nat.le_of_ble_eq_true rfl, Nat.le_of_ble_eq_true rfl⟩) (fun z μ3 hq3 => ?_)
      obtain ⟨rfl, rfl⟩ := hq3
      have hob2 := hO2.at (by unfold zb; omega) hob
      have hF2 := hF.o hO2 hne.1 hne.2
      have hU2 := hU.o hO2 (fun q h1 h2 => by unfold zb; omega)
      have hS2 := hS.o hO2 (fun q h1 h2 => by unfold zb; omega)
      refine z_lstore_n (L' := [_, _, _, _, _, _]) C dX6_digest_85 rfl ?_
      refine z_iconst C dX6_digest_86 ?_
      refine z_istore (L' := [_, _, _, _, _, _]) C dX6_digest_87 rfl ?_
      refine z_iload C dX6_digest_89 rfl ?_
      refine z_iconst C dX6_digest_91 ?_
      refine z_icmp_ge (tgt := 114) C dX6_digest_92 (by decide) (fun hno => absurd hno (by omega)) (fun _ => ?_)
      refine z_lload_n C dX6_digest_95 rfl ?_
      refine z_aload C dX6_digest_96 rfl ?_
      refine z_iload C dX6_digest_98 rfl ?_
      refine z_ci C (z_rS C Rm qs_X6_boundOf m_368 (k_boundOf0 hF2 (by omega)) dX6_digest_100 rfl rfl (Nat.le_of_ble_eq_true rfl) rfl ⟨Nat.le_of_ble_eq_true rfl, Nat.le_of_ble_eq_true rfl, Nat.le_of_ble_eq_true rfl, Nat.le_of_ble_eq_true rfl⟩) (fun z μ3 hq3 => ?_)
      obtain ⟨rfl, rfl⟩ := hq3
      refine z_i2l C dX6_digest_103 ?_
      refine z_cl C (z_rS C Rm qs_X6_mixed m_286 (k_mixz) dX6_digest_104 rfl rfl (Nat.le_of_ble_eq_true rfl) rfl ⟨Nat.le_of_ble_eq_true rfl, Nat.le_of_ble_eq_true rfl, Nat.le_of_ble_eq_true rfl, Nat.le_of_ble_eq_true rfl⟩) (fun z μ3 hq3 => ?_)
      obtain ⟨rfl, rfl⟩ := hq3
      refine z_lstore_n (L' := [_, _, _, _, _, _]) C dX6_digest_107 rfl ?_
      refine z_iinc (L' := [_, _, _, _, _, _]) C dX6_digest_108 rfl rfl ?_
      refine z_goto (tgt := 89) C dX6_digest_111 (by decide) ?_
      refine z_iload C dX6_digest_89 rfl ?_
      refine z_iconst C dX6_digest_91 ?_
      refine z_icmp_ge (tgt := 114) C dX6_digest_92 (by decide) (fun hno => absurd hno (by omega)) (fun _ => ?_)
      refine z_lload_n C dX6_digest_95 rfl ?_
      refine z_aload C dX6_digest_96 rfl ?_
      refine z_iload C dX6_digest_98 rfl ?_
      refine z_ci C (z_rS C Rm qs_X6_boundOf m_368 (k_boundOf0 hF2 (by omega)) dX6_digest_100 rfl rfl (Nat.le_of_ble_eq_true rfl) rfl ⟨Nat.le_of_ble_eq_true rfl, Nat.le_of_ble_eq_true rfl, Nat.le_of_ble_eq_true rfl, Nat.le_of_ble_eq_true rfl⟩) (fun z μ3 hq3 => ?_)
      obtain ⟨rfl, rfl⟩ := hq3
      refine z_i2l C dX6_digest_103 ?_
      refine z_cl C (z_rS C Rm qs_X6_mixed m_286 (k_mixz) dX6_digest_104 rfl rfl (Nat.le_of_ble_eq_true rfl) rfl ⟨Nat.le_of_ble_eq_true rfl, Nat.le_of_ble_eq_true rfl, Nat.le_of_ble_eq_true rfl, Nat.le_of_ble_eq_true rfl⟩) (fun z μ3 hq3 => ?_)
      obtain ⟨rfl, rfl⟩ := hq3
      refine z_lstore_n (L' := [_, _, _, _, _, _]) C dX6_digest_107 rfl ?_
      refine z_iinc (L' := [_, _, _, _, _, _]) C dX6_digest_108 rfl rfl ?_
      refine z_goto (tgt := 89) C dX6_digest_111 (by decide) ?_
      refine z_iload C dX6_digest_89 rfl ?_
      refine z_iconst C dX6_digest_91 ?_
      refine z_icmp_ge (tgt := 114) C dX6_digest_92 (by decide) (fun hno => absurd hno (by omega)) (fun _ => ?_)
      refine z_lload_n C dX6_digest_95 rfl ?_
      refine z_aload C dX6_digest_96 rfl ?_
      refine z_iload C dX6_digest_98 rfl ?_
      refine z_ci C (z_rS C Rm qs_X6_boundOf m_368 (k_boundOf0 hF2 (by omega)) dX6_digest_100 rfl rfl (Nat.le_of_ble_eq_true rfl) rfl ⟨Nat.le_of_ble_eq_true rfl, Nat.le_of_ble_eq_true rfl, Nat.le_of_ble_eq_true rfl, Nat.le_of_ble_eq_true rfl⟩) (fun z μ3 hq3 => ?_)
      obtain ⟨rfl, rfl⟩ := hq3
      refine z_i2l C dX6_digest_103 ?_
      refine z_cl C (z_rS C Rm qs_X6_mixed m_286 (k_mixz) dX6_digest_104 rfl rfl (Nat.le_of_ble_eq_true rfl) rfl ⟨Nat.le_of_ble_eq_true rfl, Nat.le_of_ble_eq_true rfl, Nat.le_of_ble_eq_true rfl, Nat.le_of_ble_eq_true rfl⟩) (fun z μ3 hq3 => ?_)
      obtain ⟨rfl, rfl⟩ := hq3
      refine z_lstore_n (L' := [_, _, _, _, _, _]) C dX6_digest_107 rfl ?_
      refine z_iinc (L' := [_, _, _, _, _, _]) C dX6_digest_108 rfl rfl ?_
      refine z_goto (tgt := 89) C dX6_digest_111 (by decide) ?_
      refine z_iload C dX6_digest_89 rfl ?_
      refine z_iconst C dX6_digest_91 ?_
      refine z_icmp_ge (tgt := 114) C dX6_digest_92 (by decide) (fun hno => absurd hno (by omega)) (fun _ => ?_)
      refine z_lload_n C dX6_digest_95 rfl ?_
      refine z_aload C dX6_digest_96 rfl ?_
      refine z_iload C dX6_digest_98 rfl ?_
      refine z_ci C (z_rS C Rm qs_X6_boundOf m_368 (k_boundOf0 hF2 (by omega)) dX6_digest_100 rfl rfl (Nat.le_of_ble_eq_true rfl) rfl ⟨Nat.le_of_ble_eq_true rfl, Nat.le_of_ble_eq_true rfl, Nat.le_of_ble_eq_true rfl, Nat.le_of_ble_eq_true rfl⟩) (fun z μ3 hq3 => ?_)
      obtain ⟨rfl, rfl⟩ := hq3
      refine z_i2l C dX6_digest_103 ?_
      refine z_cl C (z_rS C Rm qs_X6_mixed m_286 (k_mixz) dX6_digest_104 rfl rfl (Nat.le_of_ble_eq_true rfl) rfl ⟨Nat.le_of_ble_eq_true rfl, Nat.le_of_ble_eq_true rfl, Nat.le_of_ble_eq_true rfl, Nat.le_of_ble_eq_true rfl⟩) (fun z μ3 hq3 => ?_)
      obtain ⟨rfl, rfl⟩ := hq3
      refine z_lstore_n (L' := [_, _, _, _, _, _]) C dX6_digest_107 rfl ?_
      refine z_iinc (L' := [_, _, _, _, _, _]) C dX6_digest_108 rfl rfl ?_
      refine z_goto (tgt := 89) C dX6_digest_111 (by decide) ?_
      refine z_iload C dX6_digest_89 rfl ?_
      refine z_iconst C dX6_digest_91 ?_
      refine z_icmp_ge (tgt := 114) C dX6_digest_92 (by decide) (fun _ => ?_) (fun hno => absurd hno (by omega))
      refine z_lload_n C dX6_digest_114 rfl ?_
      refine z_aload_n C dX6_digest_115 rfl ?_
      refine z_get C hob2 rfl 5 (by decide) m_228 inz6 rfl rfl dX6_digest_116 ?_
      refine z_aload C dX6_digest_119 rfl ?_
      refine z_ci C (z_rV C Rm qv_X3_countContours m_393 (c_contours0 hU2 hF2 (by omega)) hU2.1 rfl dX6_digest_121 rfl rfl (Nat.le_of_ble_eq_true rfl) rfl ⟨Nat.le_of_ble_eq_true rfl, Nat.le_of_ble_eq_true rfl, Nat.le_of_ble_eq_true rfl, Nat.le_of_ble_eq_true rfl⟩) (fun z ν3 hq3 => ?_)
      obtain ⟨rfl, hU3, hO3⟩ := hq3
      have hob3 := hO3.at (by omega) hob2
      have hF3 := hF2.o hO3 (by omega) (by omega)
      have hA3 := hA2.o hO3 (fun q h1 h2 => by omega)
      have hS3 := hS2.o hO3 (fun q h1 h2 => by omega)
      refine z_i2l C dX6_digest_124 ?_
      refine z_cl C (z_rS C Rm qs_X6_mixed m_286 (k_mixz) dX6_digest_125 rfl rfl (Nat.le_of_ble_eq_true rfl) rfl ⟨Nat.le_of_ble_eq_true rfl, Nat.le_of_ble_eq_true rfl, Nat.le_of_ble_eq_true rfl, Nat.le_of_ble_eq_true rfl⟩) (fun z μ3 hq3 => ?_)
      obtain ⟨rfl, rfl⟩ := hq3
      refine z_lstore_n (L' := [_, _, _, _, _, _]) C dX6_digest_128 rfl ?_
      refine z_aload_n C dX6_digest_129 rfl ?_
      refine z_lload_n C dX6_digest_130 rfl ?_
      refine z_aload C dX6_digest_131 rfl ?_
      refine z_cl C (z_rV C Rm qv_X6_digestOfContours m_436 (k_dCont hob3 hU3 hF3 (by omega)) hob3 rfl dX6_digest_133 rfl rfl (Nat.le_of_ble_eq_true rfl) rfl ⟨Nat.le_of_ble_eq_true rfl, Nat.le_of_ble_eq_true rfl, Nat.le_of_ble_eq_true rfl, Nat.le_of_ble_eq_true rfl⟩) (fun z ν4 hq3 => ?_)
      obtain ⟨rfl, hU4, hO4⟩ := hq3
      have hob4 := hO4.at (by omega) hob3
      have hF4 := hF3.o hO4 (by omega) (by omega)
      have hA4 := hA3.o hO4 (fun q h1 h2 => by omega)
      have hS4 := hS3.o hO4 (fun q h1 h2 => by omega)
      refine z_lstore_n (L' := [_, _, _, _, _, _]) C dX6_digest_136 rfl ?_
      refine z_lload_n C dX6_digest_137 rfl ?_
      refine z_aload_n C dX6_digest_138 rfl ?_
      refine z_get C hob4 rfl 6 (by decide) m_229 inz6 rfl rfl dX6_digest_139 ?_
      refine z_aload C dX6_digest_142 rfl ?_
      refine z_ci C (z_rV C Rm qv_X5_countStrips m_458 (c_strips0 hS4 hF4 (by omega)) hS4.1 rfl dX6_digest_144 rfl rfl (Nat.le_of_ble_eq_true rfl) rfl ⟨Nat.le_of_ble_eq_true rfl, Nat.le_of_ble_eq_true rfl, Nat.le_of_ble_eq_true rfl, Nat.le_of_ble_eq_true rfl⟩) (fun z ν5 hq3 => ?_)
      obtain ⟨rfl, hS5, hO5⟩ := hq3
      have hob5 := hO5.at (by omega) hob4
      have hF5 := hF4.o hO5 (by omega) (by omega)
      have hA5 := hA4.o hO5 (fun q h1 h2 => by omega)
      have hU5 := hU4.o hO5 (fun q h1 h2 => by omega)
      refine z_i2l C dX6_digest_147 ?_
      refine z_cl C (z_rS C Rm qs_X6_mixed m_286 (k_mixz) dX6_digest_148 rfl rfl (Nat.le_of_ble_eq_true rfl) rfl ⟨Nat.le_of_ble_eq_true rfl, Nat.le_of_ble_eq_true rfl, Nat.le_of_ble_eq_true rfl, Nat.le_of_ble_eq_true rfl⟩) (fun z μ3 hq3 => ?_)
      obtain ⟨rfl, rfl⟩ := hq3
      refine z_lstore_n (L' := [_, _, _, _, _, _]) C dX6_digest_151 rfl ?_
      refine z_aload_n C dX6_digest_152 rfl ?_
      refine z_lload_n C dX6_digest_153 rfl ?_
      refine z_aload C dX6_digest_154 rfl ?_
      refine z_cl C (z_rV C Rm qv_X6_digestOfStrips m_486 (k_dStr hob5 hS5 hF5 (by omega)) hob5 rfl dX6_digest_156 rfl rfl (Nat.le_of_ble_eq_true rfl) rfl ⟨Nat.le_of_ble_eq_true rfl, Nat.le_of_ble_eq_true rfl, Nat.le_of_ble_eq_true rfl, Nat.le_of_ble_eq_true rfl⟩) (fun z ν6 hq3 => ?_)
      obtain ⟨rfl, hS6, hO6⟩ := hq3
      have hA6 := hA5.o hO6 (fun q h1 h2 => by omega)
      have hU6 := hU5.o hO6 (fun q h1 h2 => by omega)
      refine z_lstore_n (L' := [_, _, _, _, _, _]) C dX6_digest_159 rfl ?_
      refine z_iinc (L' := [_, _, _, _, _, _]) C dX6_digest_160 rfl rfl ?_
      refine z_goto (tgt := 17) C dX6_digest_163 (by decide) ?_
      refine ih (i + 1) (k + 1) _ _ _ _ _ _ _ _ _ _ (by omega) (by omega) ?_ hA6 hU6 hS6 ?_
      · rw [hd]
        rfl
      · exact (((((hO.tr (hO2.mo (fun q hq => by unfold zb at hq ⊢; omega))).tr (hO3.mo (fun q hq => by unfold zb; omega))).tr (hO4.mo (fun q hq => by unfold zb; omega))).tr (hO5.mo (fun q hq => by unfold zb; omega))).tr (hO6.mo (fun q hq => by unfold zb; omega)))
  refine z_ldc2 C m_285 dX6_digest_0 ?_
  refine z_aload_n C dX6_digest_3 rfl ?_
  refine z_get C hK.obj rfl 2 (by decide) m_225 inz6 rfl rfl dX6_digest_4 ?_
  refine z_ci C (z_rV C Rm qv_X4_length m_249 (c_plen hK.pen) hK.pen.1 rfl dX6_digest_7 rfl rfl (Nat.le_of_ble_eq_true rfl) rfl ⟨Nat.le_of_ble_eq_true rfl, Nat.le_of_ble_eq_true rfl, Nat.le_of_ble_eq_true rfl, Nat.le_of_ble_eq_true rfl⟩) (fun z μ3 hq3 => ?_)
  obtain ⟨rfl, rfl⟩ := hq3
  refine z_i2l C dX6_digest_10 ?_
  refine z_cl C (z_rS C Rm qs_X6_mixed m_286 (k_mixed) dX6_digest_11 rfl rfl (Nat.le_of_ble_eq_true rfl) rfl ⟨Nat.le_of_ble_eq_true rfl, Nat.le_of_ble_eq_true rfl, Nat.le_of_ble_eq_true rfl, Nat.le_of_ble_eq_true rfl⟩) (fun z μ3 hq3 => ?_)
  obtain ⟨rfl, rfl⟩ := hq3
  refine z_lstore_n (L' := [_, _, _, _, _, _]) C dX6_digest_14 rfl ?_
  refine z_iconst C dX6_digest_15 ?_
  refine z_istore_n (L' := [_, _, _, _, _, _]) C dX6_digest_16 rfl ?_
  exact loop 8 0 0 _ _ _ _ _ _ _ _ _ _ (by omega) rfl rfl hK.fl hK.ou hK.st zO.rf
end
section
/-! the reference's digest, that tells of the arrays which it makes: (place, length) -/
def zKn (D : va_G) (u : zM) (a n : Nat) : Prop := (∃ g : Nat → Int, u a = some (zAI D n g)) ∨ (∃ g : Nat → Int, u a = some (zAZ D n g))
theorem zKn.ex {D : va_G} {ν u : zM} {a n : Nat} (h : zKn D ν a n) (hE : zEx ν u) : zKn D u a n := h.elim (fun ⟨g, h⟩ => Or.inl ⟨g, hE _ _ h⟩) (fun ⟨g, h⟩ => Or.inr ⟨g, hE _ _ h⟩)
theorem zKn.lt {D : va_G} {ν : zM} {a n q : Nat} (h : zKn D ν a n) (hq : ∀ (b : Nat) (e : va_E), ν b = some e → b < q) : a < q := h.elim (fun ⟨_, h⟩ => hq _ _ h) (fun ⟨_, h⟩ => hq _ _ h)
def zWt (ps : List (Nat × Nat)) : Nat := (ps.map (fun p => p.2)).sum
theorem zWt_cons {p : Nat × Nat} {ps : List (Nat × Nat)} : zWt (p :: ps) = p.2 + zWt ps := by simp [zWt]
theorem zWt_app {ps qs : List (Nat × Nat)} : zWt (ps ++ qs) = zWt ps + zWt qs := by simp [zWt]
def zNw (D : va_G) (μ u : zM) (ps : List (Nat × Nat)) : Prop := (ps.map (fun p => p.1)).Nodup ∧ ∀ p, p ∈ ps → (∀ (b : Nat) (e : va_E), μ b = some e → b < p.1) ∧ zKn D u p.1 p.2
theorem zNw.nil {D : va_G} {μ u : zM} : zNw D μ u [] := ⟨List.nodup_nil, fun a h => absurd h List.not_mem_nil⟩
theorem zNw.up {D : va_G} {μ ν u : zM} {ps : List (Nat × Nat)} (h : zNw D μ ν ps) (hE : zEx ν u) : zNw D μ u ps := ⟨h.1, fun a ha => ⟨(h.2 a ha).1, (h.2 a ha).2.ex hE⟩⟩
theorem zNw.cons {D : va_G} {μ u : zM} {ps : List (Nat × Nat)} {a n : Nat} (h : zNw D μ u ps) (ha : ∀ (b : Nat) (e : va_E), μ b = some e → b < a) (hne : ∀ p, p ∈ ps → p.1 < a) (hu : zKn D u a n) : zNw D μ u ((a, n) :: ps) := by
  refine ⟨List.nodup_cons.mpr ⟨fun hm => ?_, h.1⟩, fun x hx => ?_⟩
  · obtain ⟨p, hp, he⟩ := List.mem_map.mp hm
    have h1 := hne p hp
    have h2 : p.1 = a := he
    omega
  · rcases List.mem_cons.mp hx with e | hx
    · subst e
      exact ⟨ha, hu⟩
    · exact h.2 x hx
/-- a new array behind all that is known -/
theorem zNw.put {D : va_G} {μ ν u : zM} {ps : List (Nat × Nat)} {a n : Nat} (h : zNw D μ ν ps) (hE : zEx μ ν) (hE2 : zEx ν u) (ha : ∀ (b : Nat) (e : va_E), ν b = some e → b < a) (hu : zKn D u a n) : zNw D μ u ((a, n) :: ps) := (h.up hE2).cons (hE.lt ha) (fun p hp => (h.2 p hp).2.lt ha) hu
/-- two of them -/
theorem zNw.put2 {D : va_G} {μ ν u : zM} {ps : List (Nat × Nat)} {a c n k : Nat} (h : zNw D μ ν ps) (hE : zEx μ ν) (hE2 : zEx ν u) (ha : ∀ (b : Nat) (e : va_E), ν b = some e → b < a) (hac : a < c) (hu : zKn D u a n) (hv : zKn D u c k) : zNw D μ u ((c, k) :: (a, n) :: ps) := by
  refine (h.put hE hE2 ha hu).cons (fun b e hb => Nat.lt_trans (ha b e (hE _ _ hb)) hac) (fun p hp => ?_) hv
  rcases List.mem_cons.mp hp with e | hp
  · subst e
    exact hac
  · exact Nat.lt_trans ((h.2 p hp).2.lt ha) hac
set_option maxRecDepth 100000 in
set_option maxHeartbeats 4000000 in
theorem m_parts1b {l : Launch} {D : va_G} {N0 : Nat} {a : Nat} {μ : zM} (hA : μ a = some (zAZ D 4096 zIz)) : zMet l yX7_parts cX7_parts 17 (some (.array .int)) ({ frames := 4, cells := 2, slots := 8712, locals := 160 } : Room) D N0 [.ref a, zi 1] μ (zQR D N0 (fun q u => u q = some (zAI D 4356 zIz) ∧ zEx μ u ∧ (∀ (b : Nat) (e : va_E), μ b = some e → b < q) ∧ ∃ c, q < c ∧ u c = some (zAI D 4356 zIz))) := by
  refine zMet_of rfl (Nat.le_of_ble_eq_true rfl) (fun X C Rm hin E => ?_)
  refine z_bipush C dX7_parts_0 ?_
  refine z_istore_n (L' := [_, _, _, _, _, _, _, _, _, _, _, _, _, _, _, _, _]) C dX7_parts_2 rfl ?_
  refine z_iload_n C dX7_parts_3 rfl ?_
  refine z_iload_n C dX7_parts_4 rfl ?_
  refine z_imul C dX7_parts_5 ?_
  refine z_newI C Rm (by decide) m_105 dX7_parts_6 (by decide) (fun q1 hNq1 hqq1 => ?_)
  refine z_astore_n (L' := [_, _, _, _, _, _, _, _, _, _, _, _, _, _, _, _, _]) C dX7_parts_8 rfl ?_
  refine z_iload_n C dX7_parts_9 rfl ?_
  refine z_iload_n C dX7_parts_10 rfl ?_
  refine z_imul C dX7_parts_11 ?_
  refine z_newI C Rm (by decide) m_105 dX7_parts_12 (by decide) (fun q2 hNq2 hqq2 => ?_)
  obtain ⟨ν, hν⟩ : ∃ ν, ν = zu (zu μ q1 (zAI D 4356 zIz)) q2 (zAI D 4356 zIz) := ⟨_, rfl⟩
  have hE : zEx μ ν := by rw [hν]; exact (zEx.rf.own hqq1).own (fun b e hb => hqq2 b e (zu_k hb (by have := hqq1 b e hb; omega)))
  have h12 : q1 < q2 := hqq2 q1 _ zu_s
  have h1 : ν q1 = some (zAI D 4356 zIz) := by rw [hν]; exact zu_k zu_s (by omega)
  have h2 : ν q2 = some (zAI D 4356 zIz) := by rw [hν]; exact zu_s
  refine (show Z X ν 2 8712 (8 + 1 + 1 + 1 + 1 + 2) [some (.ref a), some (zi 1), some (zi 66), some (.ref q1), none, none, none, none, none, none, none, none, none, none, none, none, none] [.ref q2] → _ from fun h => by rw [hν] at h; exact h) ?_
  have loop : ∀ (n : Nat) (k : Int) (L7 : Option Value), k + n = 4356 → 0 ≤ k → Z X ν 2 8712 22 [some (.ref a), some (zi 1), some (zi 66), some (.ref q1), some (.ref q2), some (zi 0), some (zi k), L7, none, none, none, none, none, none, none, none, none] [] := by
    intro n
    induction n with
    | zero =>
      intro k L7 hn h0
      refine z_iload C dX7_parts_22 rfl ?_
      refine z_aload_n C dX7_parts_24 rfl ?_
      refine z_alen C h1 0 rfl dX7_parts_25 ?_
      refine z_icmp_ge (tgt := 279) C dX7_parts_26 (by decide) (fun _ => ?_) (fun hno => absurd hno (by omega))
      refine z_aload_n C dX7_parts_279 rfl ?_
      exact z_aret C E (Or.inr ⟨_, rfl⟩) dX7_parts_280 (Nat.le_of_ble_eq_true rfl) (Nat.le_of_ble_eq_true rfl) ⟨h1, hE, hqq1, q2, h12, h2⟩
    | succ n ih =>
      intro k L7 hn h0
      refine z_iload C dX7_parts_22 rfl ?_
      refine z_aload_n C dX7_parts_24 rfl ?_
      refine z_alen C h1 0 rfl dX7_parts_25 ?_
      refine z_icmp_ge (tgt := 279) C dX7_parts_26 (by decide) (fun hno => absurd hno (by omega)) (fun _ => ?_)
      refine z_aload_n C dX7_parts_29 rfl ?_
      refine z_iload C dX7_parts_30 rfl ?_
      refine z_iload_n C dX7_parts_32 rfl ?_
      refine z_iremP C dX7_parts_33 ?_
      refine z_bipush C dX7_parts_34 ?_
      refine z_iadd C dX7_parts_36 ?_
      refine z_iconst C dX7_parts_37 ?_
      refine z_isub C dX7_parts_38 ?_
      refine z_iload C dX7_parts_39 rfl ?_
      refine z_iload_n C dX7_parts_41 rfl ?_
      refine z_idivP C dX7_parts_42 ?_
      refine z_bipush C dX7_parts_43 ?_
      refine z_iadd C dX7_parts_45 ?_
      refine z_iconst C dX7_parts_46 ?_
      refine z_isub C dX7_parts_47 ?_
      refine z_ci C (z_rS C Rm qs_X7_has m_1129 (m_has0 (hE _ _ hA) (x := k % 66 + -32 - 1) (y := k / 66 + -32 - 1) (by omega) (by omega)) dX7_parts_48 rfl rfl (Nat.le_of_ble_eq_true rfl) rfl ⟨Nat.le_of_ble_eq_true rfl, Nat.le_of_ble_eq_true rfl, Nat.le_of_ble_eq_true rfl, Nat.le_of_ble_eq_true rfl⟩) (fun z μ5 hq5 => ?_)
      obtain ⟨rfl, rfl⟩ := hq5
      refine z_iload_n C dX7_parts_51 rfl ?_
      refine z_icmp_ne (tgt := 59) C dX7_parts_52 (by decide) (fun _ => ?_) (fun hno => absurd hno (by decide))
      refine z_iconst C dX7_parts_59 ?_
      refine z_istore (L' := [_, _, _, _, _, _, _, _, _, _, _, _, _, _, _, _, _]) C dX7_parts_60 rfl ?_
      refine z_iload C dX7_parts_62 rfl ?_
      refine z_if_eq (tgt := 273) C dX7_parts_64 (by decide) (fun _ => ?_) (fun hno => absurd hno (fun h => h rfl))
      refine z_iinc (L' := [_, _, _, _, _, _, _, _, _, _, _, _, _, _, _, _, _]) C dX7_parts_273 rfl rfl ?_
      refine z_goto (tgt := 22) C dX7_parts_276 (by decide) ?_
      exact ih (k + 1) _ (by omega) (by omega)
  refine z_astore (L' := [_, _, _, _, _, _, _, _, _, _, _, _, _, _, _, _, _]) C dX7_parts_14 rfl ?_
  refine z_iconst C dX7_parts_16 ?_
  refine z_istore (L' := [_, _, _, _, _, _, _, _, _, _, _, _, _, _, _, _, _]) C dX7_parts_17 rfl ?_
  refine z_iconst C dX7_parts_19 ?_
  refine z_istore (L' := [_, _, _, _, _, _, _, _, _, _, _, _, _, _, _, _, _]) C dX7_parts_20 rfl ?_
  exact loop 4356 0 _ (by omega) (by omega)
set_option maxRecDepth 100000 in
set_option maxHeartbeats 4000000 in
theorem m_parts0b {l : Launch} {D : va_G} {N0 : Nat} {a : Nat} {μ : zM} (hA : μ a = some (zAZ D 4096 zIz)) : zMet l yX7_parts cX7_parts 17 (some (.array .int)) ({ frames := 4, cells := 2, slots := 8712, locals := 160 } : Room) D N0 [.ref a, zi 0] μ (zQR D N0 (fun q u => (∃ g : Nat → Int, u q = some (zAI D 4356 g) ∧ ∀ j, j < 4356 → g j = 1) ∧ (∀ (b : Nat) (e : va_E), μ b = some e → b < q) ∧ zEx μ u ∧ ∃ c, q < c ∧ ∃ w : Nat → Int, u c = some (zAI D 4356 w))) := by
  refine zMet_of rfl (Nat.le_of_ble_eq_true rfl) (fun X C Rm hin E => ?_)
  refine z_bipush C dX7_parts_0 ?_
  refine z_istore_n (L' := [_, _, _, _, _, _, _, _, _, _, _, _, _, _, _, _, _]) C dX7_parts_2 rfl ?_
  refine z_iload_n C dX7_parts_3 rfl ?_
  refine z_iload_n C dX7_parts_4 rfl ?_
  refine z_imul C dX7_parts_5 ?_
  refine z_newI C Rm (by decide) m_105 dX7_parts_6 (by decide) (fun q1 hNq1 hqq1 => ?_)
  refine z_astore_n (L' := [_, _, _, _, _, _, _, _, _, _, _, _, _, _, _, _, _]) C dX7_parts_8 rfl ?_
  refine z_iload_n C dX7_parts_9 rfl ?_
  refine z_iload_n C dX7_parts_10 rfl ?_
  refine z_imul C dX7_parts_11 ?_
  refine z_newI C Rm (by decide) m_105 dX7_parts_12 (by decide) (fun q2 hNq2 hqq2 => ?_)
  obtain ⟨ν0, hν⟩ : ∃ ν0, ν0 = zu (zu μ q1 (zAI D 4356 zIz)) q2 (zAI D 4356 zIz) := ⟨_, rfl⟩
  have hlt2 : ∀ (b : Nat) (e : va_E), μ b = some e → b < q2 := fun b e hb => hqq2 b e (zu_k hb (by have := hqq1 b e hb; omega))
  have hE0 : zEx μ ν0 := by rw [hν]; exact (zEx.rf.own hqq1).own hlt2
  have h12 : q1 < q2 := hqq2 q1 _ zu_s
  have h1 : ν0 q1 = some (zAI D 4356 zIz) := by rw [hν]; exact zu_k zu_s (by omega)
  have h2 : ν0 q2 = some (zAI D 4356 zIz) := by rw [hν]; exact zu_s
  refine (show Z X ν0 2 8712 (8 + 1 + 1 + 1 + 1 + 2) [some (.ref a), some (zi 0), some (zi 66), some (.ref q1), none, none, none, none, none, none, none, none, none, none, none, none, none] [.ref q2] → _ from fun h => by rw [hν] at h; exact h) ?_
  have rest : ∀ (g : Nat → Int) (ν : zM) (L8 L9 L10 L11 L12 L13 L14 L15 L16 : Option Value), (∀ j, j < 4356 → g j = 1) → ν q1 = some (zAI D 4356 g) → (∃ w : Nat → Int, ν q2 = some (zAI D 4356 w)) → zEx μ ν → ∀ (n : Nat) (k : Int), k + n = 4356 → 0 ≤ k → Z X ν 2 8712 22 [some (.ref a), some (zi 0), some (zi 66), some (.ref q1), some (.ref q2), some (zi 1), some (zi k), some (zi 1), L8, L9, L10, L11, L12, L13, L14, L15, L16] [] := by
    intro g ν L8 L9 L10 L11 L12 L13 L14 L15 L16 hg hg1 hw2 hE n
    induction n with
    | zero =>
      intro k hn h0
      refine z_iload C dX7_parts_22 rfl ?_
      refine z_aload_n C dX7_parts_24 rfl ?_
      refine z_alen C hg1 0 rfl dX7_parts_25 ?_
      refine z_icmp_ge (tgt := 279) C dX7_parts_26 (by decide) (fun _ => ?_) (fun hno => absurd hno (by omega))
      refine z_aload_n C dX7_parts_279 rfl ?_
      exact z_aret C E (Or.inr ⟨_, rfl⟩) dX7_parts_280 (Nat.le_of_ble_eq_true rfl) (Nat.le_of_ble_eq_true rfl) ⟨⟨g, hg1, hg⟩, hqq1, hE, q2, h12, hw2⟩
    | succ n ih =>
      intro k hn h0
      have hgk := hg k.toNat (by omega)
      refine z_iload C dX7_parts_22 rfl ?_
      refine z_aload_n C dX7_parts_24 rfl ?_
      refine z_alen C hg1 0 rfl dX7_parts_25 ?_
      refine z_icmp_ge (tgt := 279) C dX7_parts_26 (by decide) (fun hno => absurd hno (by omega)) (fun _ => ?_)
      refine z_aload_n C dX7_parts_29 rfl ?_
      refine z_iload C dX7_parts_30 rfl ?_
      refine z_iload_n C dX7_parts_32 rfl ?_
      refine z_iremP C dX7_parts_33 ?_
      refine z_bipush C dX7_parts_34 ?_
      refine z_iadd C dX7_parts_36 ?_
      refine z_iconst C dX7_parts_37 ?_
      refine z_isub C dX7_parts_38 ?_
      refine z_iload C dX7_parts_39 rfl ?_
      refine z_iload_n C dX7_parts_41 rfl ?_
      refine z_idivP C dX7_parts_42 ?_
      refine z_bipush C dX7_parts_43 ?_
      refine z_iadd C dX7_parts_45 ?_
      refine z_iconst C dX7_parts_46 ?_
      refine z_isub C dX7_parts_47 ?_
      refine z_ci C (z_rS C Rm qs_X7_has m_1129 (m_has0 (hE _ _ hA) (x := k % 66 + -32 - 1) (y := k / 66 + -32 - 1) (by omega) (by omega)) dX7_parts_48 rfl rfl (Nat.le_of_ble_eq_true rfl) rfl ⟨Nat.le_of_ble_eq_true rfl, Nat.le_of_ble_eq_true rfl, Nat.le_of_ble_eq_true rfl, Nat.le_of_ble_eq_true rfl⟩) (fun z μ5 hq5 => ?_)
      obtain ⟨rfl, rfl⟩ := hq5
      refine z_iload_n C dX7_parts_51 rfl ?_
      refine z_icmp_ne (tgt := 59) C dX7_parts_52 (by decide) (fun hno => absurd hno (fun h => h rfl)) (fun _ => ?_)
      refine z_iconst C dX7_parts_55 ?_
      refine z_goto (tgt := 60) C dX7_parts_56 (by decide) ?_
      refine z_istore (L' := [_, _, _, _, _, _, _, _, _, _, _, _, _, _, _, _, _]) C dX7_parts_60 rfl ?_
      refine z_iload C dX7_parts_62 rfl ?_
      refine z_if_eq (tgt := 273) C dX7_parts_64 (by decide) (fun hno => absurd hno (by decide)) (fun _ => ?_)
      refine z_aload_n C dX7_parts_67 rfl ?_
      refine z_iload C dX7_parts_68 rfl ?_
      refine z_iald C hg1 (by decide) dX7_parts_70 ?_
      rw [hgk]
      refine z_if_eq (tgt := 77) C dX7_parts_71 (by decide) (fun hno => absurd hno (by decide)) (fun _ => ?_)
      refine z_goto (tgt := 273) C dX7_parts_74 (by decide) ?_
      refine z_iinc (L' := [_, _, _, _, _, _, _, _, _, _, _, _, _, _, _, _, _]) C dX7_parts_273 rfl rfl ?_
      refine z_goto (tgt := 22) C dX7_parts_276 (by decide) ?_
      exact ih (k + 1) (by omega) (by omega)
  have bfs : ∀ (n : Nat) (f e : Int) (g w : Nat → Int) (ν : zM) (L10 L11 L12 L13 L14 L15 L16 : Option Value), f + n = 4356 → 0 ≤ f → f ≤ e → bfI g w e → bfD g w f → ν q1 = some (zAI D 4356 g) → ν q2 = some (zAI D 4356 w) → zEx μ ν → Z X ν 2 8712 102 [some (.ref a), some (zi 0), some (zi 66), some (.ref q1), some (.ref q2), some (zi 1), some (zi 0), some (zi 1), some (zi f), some (zi e), L10, L11, L12, L13, L14, L15, L16] [] := by
    intro n
    induction n with
    | zero =>
      intro f e g w ν L10 L11 L12 L13 L14 L15 L16 hn h0 hfe hI hD hg hw hE
      have hb := cntZ_b g 4356
      have hb2 := hI.2.1
      have hef : f = e := by omega
      subst hef
      refine z_iload C dX7_parts_102 rfl ?_
      refine z_iload C dX7_parts_104 rfl ?_
      refine z_icmp_ge (tgt := 273) C dX7_parts_106 (by decide) (fun _ => ?_) (fun hno => absurd hno (by omega))
      refine z_iinc (L' := [_, _, _, _, _, _, _, _, _, _, _, _, _, _, _, _, _]) C dX7_parts_273 rfl rfl ?_
      refine z_goto (tgt := 22) C dX7_parts_276 (by decide) ?_
      exact rest g ν _ _ _ _ _ _ _ _ _ (bf_fin hI hD) hg ⟨w, hw⟩ hE 4355 (0 + 1) (by omega) (by omega)
    | succ n ih =>
      intro f e g w ν L10 L11 L12 L13 L14 L15 L16 hn h0 hfe hI hD hg hw hE
      have hb := cntZ_b g 4356
      have hb2 := hI.2.1
      refine z_iload C dX7_parts_102 rfl ?_
      refine z_iload C dX7_parts_104 rfl ?_
      refine z_icmp_ge (tgt := 273) C dX7_parts_106 (by decide) (fun hx => ?_) (fun hx => ?_)
      · have hef : f = e := by omega
        subst hef
        refine z_iinc (L' := [_, _, _, _, _, _, _, _, _, _, _, _, _, _, _, _, _]) C dX7_parts_273 rfl rfl ?_
        refine z_goto (tgt := 22) C dX7_parts_276 (by decide) ?_
        exact rest g ν _ _ _ _ _ _ _ _ _ (bf_fin hI hD) hg ⟨w, hw⟩ hE 4355 (0 + 1) (by omega) (by omega)
      have hwf := (hI.2.2.1 f.toNat (by omega)).1
      obtain ⟨c, hc⟩ : ∃ c, c = w f.toNat := ⟨_, rfl⟩
      rw [← hc] at hwf
      refine z_aload C dX7_parts_109 rfl ?_
      refine z_iload C dX7_parts_111 rfl ?_
      refine z_iinc (L' := [_, _, _, _, _, _, _, _, _, _, _, _, _, _, _, _, _]) C dX7_parts_113 rfl rfl ?_
      refine z_iald C hw (by decide) dX7_parts_116 ?_
      rw [← hc]
      refine z_istore (L' := [_, _, _, _, _, _, _, _, _, _, _, _, _, _, _, _, _]) C dX7_parts_117 rfl ?_
      refine z_iconst C dX7_parts_119 ?_
      refine z_istore (L' := [_, _, _, _, _, _, _, _, _, _, _, _, _, _, _, _, _]) C dX7_parts_120 rfl ?_
      have dirs : ∀ (m : Nat) (d e : Int) (g w : Nat → Int) (ν : zM) (L12 L13 L14 L15 L16 : Option Value), d + m = 9 → 0 ≤ d → f + 1 ≤ e → bfI g w e → bfD g w f → w f.toNat = c → (∀ (d2 : Int) (j : Nat), 0 ≤ d2 ∧ d2 < d → j < 4356 → bfN c j d2 → g j = 1) → ν q1 = some (zAI D 4356 g) → ν q2 = some (zAI D 4356 w) → zEx μ ν → Z X ν 2 8712 122 [some (.ref a), some (zi 0), some (zi 66), some (.ref q1), some (.ref q2), some (zi 1), some (zi 0), some (zi 1), some (zi (f + 1)), some (zi e), some (zi c), some (zi d), L12, L13, L14, L15, L16] [] := by
        intro m
        induction m with
        | zero =>
          intro d e g w ν L12 L13 L14 L15 L16 hm hd he hI hD hwc hdn hg hw hE
          refine z_iload C dX7_parts_122 rfl ?_
          refine z_bipush C dX7_parts_124 ?_
          refine z_icmp_ge (tgt := 270) C dX7_parts_126 (by decide) (fun _ => ?_) (fun hno => absurd hno (by omega))
          refine z_goto (tgt := 102) C dX7_parts_270 (by decide) ?_
          refine ih (f + 1) e g w ν _ _ _ _ _ _ _ (by omega) (by omega) he hI ?_ hg hw hE
          intro i hi d2 j hd2 hj hnb
          by_cases hif : (i : Int) < f
          · exact hD i hif d2 j hd2 hj hnb
          · have : i = f.toNat := by omega
            subst this
            rw [hwc] at hnb
            exact hdn d2 j (by omega) hj hnb
        | succ m ihm =>
          intro d e g w ν L12 L13 L14 L15 L16 hm hd he hI hD hwc hdn hg hw hE
          have hb := cntZ_b g 4356
          have hb2 := hI.2.1
          refine z_iload C dX7_parts_122 rfl ?_
          refine z_bipush C dX7_parts_124 ?_
          refine z_icmp_ge (tgt := 270) C dX7_parts_126 (by decide) (fun hno => absurd hno (by omega)) (fun _ => ?_)
          refine z_iload C dX7_parts_129 rfl ?_
          refine z_iconst C dX7_parts_131 ?_
          refine z_iremP C dX7_parts_132 ?_
          refine z_iconst C dX7_parts_133 ?_
          refine z_isub C dX7_parts_134 ?_
          refine z_istore (L' := [_, _, _, _, _, _, _, _, _, _, _, _, _, _, _, _, _]) C dX7_parts_135 rfl ?_
          refine z_iload C dX7_parts_137 rfl ?_
          refine z_iconst C dX7_parts_139 ?_
          refine z_idivP C dX7_parts_140 ?_
          refine z_iconst C dX7_parts_141 ?_
          refine z_isub C dX7_parts_142 ?_
          refine z_istore (L' := [_, _, _, _, _, _, _, _, _, _, _, _, _, _, _, _, _]) C dX7_parts_143 rfl ?_
          refine z_iload_n C dX7_parts_145 rfl ?_
          refine z_if_eq (tgt := 162) C dX7_parts_146 (by decide) (fun _ => ?_) (fun hno => absurd hno (fun h => h rfl))
          obtain ⟨x, hxx⟩ : ∃ x, x = c % 66 + (d % 3 - 1) := ⟨_, rfl⟩
          obtain ⟨y, hyy⟩ : ∃ y, y = c / 66 + (d / 3 - 1) := ⟨_, rfl⟩
          refine z_iload C dX7_parts_162 rfl ?_
          refine z_iload_n C dX7_parts_164 rfl ?_
          refine z_iremP C dX7_parts_165 ?_
          refine z_iload C dX7_parts_166 rfl ?_
          refine z_iadd C dX7_parts_168 ?_
          rw [← hxx]
          refine z_istore (L' := [_, _, _, _, _, _, _, _, _, _, _, _, _, _, _, _, _]) C dX7_parts_169 rfl ?_
          refine z_iload C dX7_parts_171 rfl ?_
          refine z_iload_n C dX7_parts_173 rfl ?_
          refine z_idivP C dX7_parts_174 ?_
          refine z_iload C dX7_parts_175 rfl ?_
          refine z_iadd C dX7_parts_177 ?_
          rw [← hyy]
          refine z_istore (L' := [_, _, _, _, _, _, _, _, _, _, _, _, _, _, _, _, _]) C dX7_parts_178 rfl ?_
          have skip : ∀ (L16 : Option Value), (∀ j : Nat, j < 4356 → bfN c j d → g j = 1) → Z X ν 2 8712 264 [some (.ref a), some (zi 0), some (zi 66), some (.ref q1), some (.ref q2), some (zi 1), some (zi 0), some (zi 1), some (zi (f + 1)), some (zi e), some (zi c), some (zi d), some (zi (d % 3 - 1)), some (zi (d / 3 - 1)), some (zi x), some (zi y), L16] [] := by
            intro L16 hs
            refine z_iinc (L' := [_, _, _, _, _, _, _, _, _, _, _, _, _, _, _, _, _]) C dX7_parts_264 rfl rfl ?_
            refine z_goto (tgt := 122) C dX7_parts_267 (by decide) ?_
            refine ihm (d + 1) e g w ν _ _ _ _ _ (by omega) (by omega) he hI hD hwc (fun d2 j hd2 hj hnb => ?_) hg hw hE
            by_cases hdd : d2 = d
            · subst hdd; exact hs j hj hnb
            · exact hdn d2 j (by omega) hj hnb
          refine z_iload C dX7_parts_180 rfl ?_
          refine z_iconst C dX7_parts_182 ?_
          refine z_iload_n C dX7_parts_183 rfl ?_
          refine z_iconst C dX7_parts_184 ?_
          refine z_isub C dX7_parts_185 ?_
          refine z_ci C (z_rS C Rm qs_X7_isIn m_1044 (m_isIn (x := x) (by omega) (by decide) (by decide)) dX7_parts_186 rfl rfl (Nat.le_of_ble_eq_true rfl) rfl ⟨Nat.le_of_ble_eq_true rfl, Nat.le_of_ble_eq_true rfl, Nat.le_of_ble_eq_true rfl, Nat.le_of_ble_eq_true rfl⟩) (fun z1 μ5 hq5 => ?_)
          obtain ⟨hz1, rfl⟩ := hq5
          refine z_if_eq (tgt := 264) C dX7_parts_189 (by decide) (fun h3 => ?_) (fun h3 => ?_)
          · exact skip _ (fun j hj hnb => by unfold bfN at hnb; omega)
          refine z_iload C dX7_parts_192 rfl ?_
          refine z_iconst C dX7_parts_194 ?_
          refine z_iload_n C dX7_parts_195 rfl ?_
          refine z_iconst C dX7_parts_196 ?_
          refine z_isub C dX7_parts_197 ?_
          refine z_ci C (z_rS C Rm qs_X7_isIn m_1044 (m_isIn (x := y) (by omega) (by decide) (by decide)) dX7_parts_198 rfl rfl (Nat.le_of_ble_eq_true rfl) rfl ⟨Nat.le_of_ble_eq_true rfl, Nat.le_of_ble_eq_true rfl, Nat.le_of_ble_eq_true rfl, Nat.le_of_ble_eq_true rfl⟩) (fun z2 μ5 hq5 => ?_)
          obtain ⟨hz2, rfl⟩ := hq5
          refine z_if_ne (tgt := 207) C dX7_parts_201 (by decide) (fun h4 => ?_) (fun h4 => ?_)
          rotate_left
          · refine z_goto (tgt := 264) C dX7_parts_204 (by decide) ?_
            exact skip _ (fun j hj hnb => by unfold bfN at hnb; omega)
          have hx6 : 0 ≤ x ∧ x ≤ 65 := by omega
          have hy6 : 0 ≤ y ∧ y ≤ 65 := by omega
          obtain ⟨k, hk⟩ : ∃ k : Nat, (k : Int) = y * 66 + x := ⟨(y * 66 + x).toNat, by omega⟩
          have hk6 : k < 4356 := by omega
          refine z_iload C dX7_parts_207 rfl ?_
          refine z_iload_n C dX7_parts_209 rfl ?_
          refine z_imul C dX7_parts_210 ?_
          refine z_iload C dX7_parts_211 rfl ?_
          refine z_iadd C dX7_parts_213 ?_
          rw [← hk]
          refine z_istore (L' := [_, _, _, _, _, _, _, _, _, _, _, _, _, _, _, _, _]) C dX7_parts_214 rfl ?_
          refine z_aload_n C dX7_parts_216 rfl ?_
          refine z_iload C dX7_parts_217 rfl ?_
          refine z_iald C hg (by decide) dX7_parts_219 ?_
          rw [show ((k : Int)).toNat = k by omega]
          have hgk := hI.1 k hk6
          refine z_if_ne (tgt := 264) C dX7_parts_220 (by decide) (fun h5 => ?_) (fun h5 => ?_)
          · exact skip _ (fun j hj hnb => by
              have : j = k := by unfold bfN at hnb; omega
              subst this
              omega)
          have hgk0 : g k = 0 := by omega
          refine z_aload_n C dX7_parts_223 rfl ?_
          refine z_iload C dX7_parts_224 rfl ?_
          refine z_bipush C dX7_parts_226 ?_
          refine z_iadd C dX7_parts_228 ?_
          refine z_iconst C dX7_parts_229 ?_
          refine z_isub C dX7_parts_230 ?_
          refine z_iload C dX7_parts_231 rfl ?_
          refine z_bipush C dX7_parts_233 ?_
          refine z_iadd C dX7_parts_235 ?_
          refine z_iconst C dX7_parts_236 ?_
          refine z_isub C dX7_parts_237 ?_
          refine z_ci C (z_rS C Rm qs_X7_has m_1129 (m_has0 (hE _ _ hA) (x := x + -32 - 1) (y := y + -32 - 1) (by omega) (by omega)) dX7_parts_238 rfl rfl (Nat.le_of_ble_eq_true rfl) rfl ⟨Nat.le_of_ble_eq_true rfl, Nat.le_of_ble_eq_true rfl, Nat.le_of_ble_eq_true rfl, Nat.le_of_ble_eq_true rfl⟩) (fun z3 μ5 hq5 => ?_)
          obtain ⟨rfl, rfl⟩ := hq5
          refine z_iload_n C dX7_parts_241 rfl ?_
          refine z_icmp_eq (tgt := 248) C dX7_parts_242 (by decide) (fun _ => ?_) (fun hno => absurd hno (fun h => h rfl))
          obtain ⟨i1, i2⟩ := bf_add hI hk6 hgk0
          refine z_aload_n C dX7_parts_248 rfl ?_
          refine z_iload C dX7_parts_249 rfl ?_
          refine z_iload C dX7_parts_251 rfl ?_
          refine z_iast C hg (by decide) dX7_parts_253 ?_
          refine z_aload C dX7_parts_254 rfl ?_
          refine z_iload C dX7_parts_256 rfl ?_
          refine z_iinc (L' := [_, _, _, _, _, _, _, _, _, _, _, _, _, _, _, _, _]) C dX7_parts_258 rfl rfl ?_
          refine z_iload C dX7_parts_261 rfl ?_
          refine z_iast C (zu_k hw (by omega)) (by decide) dX7_parts_263 ?_
          rw [show ((k : Int)).toNat = k by omega]
          refine z_iinc (L' := [_, _, _, _, _, _, _, _, _, _, _, _, _, _, _, _, _]) C dX7_parts_264 rfl rfl ?_
          refine z_goto (tgt := 122) C dX7_parts_267 (by decide) ?_
          refine ihm (d + 1) (e + 1) (zw g k 1) (zw w e.toNat (k : Int)) _ _ _ _ _ _ (by omega) (by omega) (by omega) i1 (bf_keep hD (by omega)) (by rw [zw_n (show f.toNat ≠ e.toNat by omega)]; exact hwc) (fun d2 j hd2 hj hnb => ?_) (zu_k zu_s (by omega)) zu_s ((hE.own hqq1).own hlt2)
          by_cases hdd : d2 = d
          · subst hdd
            have : j = k := by unfold bfN at hnb; omega
            subst this
            exact zw_s
          · exact bf_mo (hdn d2 j (by omega) hj hnb)
      exact dirs 9 0 e g w ν _ _ _ _ _ (by omega) (by omega) (by omega) hI hD hc.symm (fun d2 j hd2 => by omega) hg hw hE
  refine z_astore (L' := [_, _, _, _, _, _, _, _, _, _, _, _, _, _, _, _, _]) C dX7_parts_14 rfl ?_
  refine z_iconst C dX7_parts_16 ?_
  refine z_istore (L' := [_, _, _, _, _, _, _, _, _, _, _, _, _, _, _, _, _]) C dX7_parts_17 rfl ?_
  refine z_iconst C dX7_parts_19 ?_
  refine z_istore (L' := [_, _, _, _, _, _, _, _, _, _, _, _, _, _, _, _, _]) C dX7_parts_20 rfl ?_
  refine z_iload C dX7_parts_22 rfl ?_
  refine z_aload_n C dX7_parts_24 rfl ?_
  refine z_alen C h1 0 rfl dX7_parts_25 ?_
  refine z_icmp_ge (tgt := 279) C dX7_parts_26 (by decide) (fun hno => absurd hno (by omega)) (fun _ => ?_)
  refine z_aload_n C dX7_parts_29 rfl ?_
  refine z_iload C dX7_parts_30 rfl ?_
  refine z_iload_n C dX7_parts_32 rfl ?_
  refine z_iremP C dX7_parts_33 ?_
  refine z_bipush C dX7_parts_34 ?_
  refine z_iadd C dX7_parts_36 ?_
  refine z_iconst C dX7_parts_37 ?_
  refine z_isub C dX7_parts_38 ?_
  refine z_iload C dX7_parts_39 rfl ?_
  refine z_iload_n C dX7_parts_41 rfl ?_
  refine z_idivP C dX7_parts_42 ?_
  refine z_bipush C dX7_parts_43 ?_
  refine z_iadd C dX7_parts_45 ?_
  refine z_iconst C dX7_parts_46 ?_
  refine z_isub C dX7_parts_47 ?_
  refine z_ci C (z_rS C Rm qs_X7_has m_1129 (m_has0 (hE0 _ _ hA) (x := 0 % 66 + -32 - 1) (y := 0 / 66 + -32 - 1) (by decide) (by decide)) dX7_parts_48 rfl rfl (Nat.le_of_ble_eq_true rfl) rfl ⟨Nat.le_of_ble_eq_true rfl, Nat.le_of_ble_eq_true rfl, Nat.le_of_ble_eq_true rfl, Nat.le_of_ble_eq_true rfl⟩) (fun z μ5 hq5 => ?_)
  obtain ⟨rfl, rfl⟩ := hq5
  refine z_iload_n C dX7_parts_51 rfl ?_
  refine z_icmp_ne (tgt := 59) C dX7_parts_52 (by decide) (fun hno => absurd hno (fun h => h rfl)) (fun _ => ?_)
  refine z_iconst C dX7_parts_55 ?_
  refine z_goto (tgt := 60) C dX7_parts_56 (by decide) ?_
  refine z_istore (L' := [_, _, _, _, _, _, _, _, _, _, _, _, _, _, _, _, _]) C dX7_parts_60 rfl ?_
  refine z_iload C dX7_parts_62 rfl ?_
  refine z_if_eq (tgt := 273) C dX7_parts_64 (by decide) (fun hno => absurd hno (by decide)) (fun _ => ?_)
  refine z_aload_n C dX7_parts_67 rfl ?_
  refine z_iload C dX7_parts_68 rfl ?_
  refine z_iald C h1 (by decide) dX7_parts_70 ?_
  rw [show zIz (0 : Int).toNat = 0 from rfl]
  refine z_if_eq (tgt := 77) C dX7_parts_71 (by decide) (fun _ => ?_) (fun hno => absurd hno (fun h => h rfl))
  refine z_aload_n C dX7_parts_77 rfl ?_
  refine z_iload C dX7_parts_78 rfl ?_
  refine z_iinc (L' := [_, _, _, _, _, _, _, _, _, _, _, _, _, _, _, _, _]) C dX7_parts_80 rfl rfl ?_
  refine z_iload C dX7_parts_83 rfl ?_
  refine z_iast C h1 (by decide) dX7_parts_85 ?_
  refine z_iconst C dX7_parts_86 ?_
  refine z_istore (L' := [_, _, _, _, _, _, _, _, _, _, _, _, _, _, _, _, _]) C dX7_parts_87 rfl ?_
  refine z_iconst C dX7_parts_89 ?_
  refine z_istore (L' := [_, _, _, _, _, _, _, _, _, _, _, _, _, _, _, _, _]) C dX7_parts_90 rfl ?_
  refine z_aload C dX7_parts_92 rfl ?_
  refine z_iload C dX7_parts_94 rfl ?_
  refine z_iinc (L' := [_, _, _, _, _, _, _, _, _, _, _, _, _, _, _, _, _]) C dX7_parts_96 rfl rfl ?_
  refine z_iload C dX7_parts_99 rfl ?_
  refine z_iast C (zu_k h2 (by omega)) (by decide) dX7_parts_101 ?_
  refine bfs 4356 0 1 (zw zIz 0 1) (zw zIz 0 0) _ _ _ _ _ _ _ _ (by omega) (by omega) (by omega) ⟨fun j hj => ?_, ?_, fun i hi => ?_, fun j hj h9 => ?_, zw_s⟩ (fun i hi => by omega) (zu_k zu_s (by omega)) zu_s ((hE0.own hqq1).own hlt2)
  · by_cases q : j = 0
    · subst q; exact Or.inr zw_s
    · rw [zw_n q]; exact Or.inl rfl
  · rw [cntZ_add (g := zIz) rfl 4356 (by decide), cntZ_z]; rfl
  · have : i = 0 := by omega
    subst this
    rw [zw_s]
    exact ⟨by decide, zw_s⟩
  · by_cases q : j = 0
    · subst q; exact ⟨0, by decide, zw_s⟩
    · rw [zw_n q] at h9
      exact absurd (show (0 : Int) = 1 from h9) (by decide)
set_option maxRecDepth 100000 in
set_option maxHeartbeats 4000000 in
theorem m_holesNowb {l : Launch} {D : va_G} {N0 : Nat} {M : Nat} {μ : zM} (hM : isMo D μ M) {r : Int} (h8 : 0 ≤ r ∧ r < 8) : zMet l yX7_holesNow cX7_holesNow 2 (some .int) ({ frames := 5, cells := 2, slots := 8712, locals := 200 } : Room) D N0 [.ref M, zi r] μ (zQI D N0 (fun z u => z = 0 ∧ zEx μ u ∧ ∃ a c, (∀ (b : Nat) (e : va_E), μ b = some e → b < a) ∧ a < c ∧ zKn D u a 4356 ∧ zKn D u c 4356)) := by
  refine zMet_of rfl (Nat.le_of_ble_eq_true rfl) (fun X C Rm hin E => ?_)
  refine z_aload_n C dX7_holesNow_0 rfl ?_
  refine z_get C hM.obj rfl 1 (by decide) m_1011 inz7 rfl rfl dX7_holesNow_1 ?_
  refine z_iload_n C dX7_holesNow_4 rfl ?_
  refine z_bald C hM.rows (by decide) (isMo.row_eq h8) dX7_holesNow_5 ?_
  refine z_iconst C dX7_holesNow_6 ?_
  refine z_cr C (z_rS C Rm qs_X7_parts m_1136 (m_parts0b (hM.row h8)) dX7_holesNow_7 rfl rfl (Nat.le_of_ble_eq_true rfl) rfl ⟨Nat.le_of_ble_eq_true rfl, Nat.le_of_ble_eq_true rfl, Nat.le_of_ble_eq_true rfl, Nat.le_of_ble_eq_true rfl⟩) (fun q μ2 hq => ?_)
  obtain ⟨⟨g, hg1, hg⟩, hlt, hE, c, hc, w, hw⟩ := hq
  refine z_ci C (z_rS C Rm qs_X7_most m_1142 (m_most hg1 hg (Or.inr rfl)) dX7_holesNow_10 rfl rfl (Nat.le_of_ble_eq_true rfl) rfl ⟨Nat.le_of_ble_eq_true rfl, Nat.le_of_ble_eq_true rfl, Nat.le_of_ble_eq_true rfl, Nat.le_of_ble_eq_true rfl⟩) (fun z3 μ3 hq3 => ?_)
  refine z_iconst C dX7_holesNow_13 ?_
  refine z_isub C dX7_holesNow_14 ?_
  obtain ⟨rfl, rfl⟩ := hq3
  exact z_iret C E dX7_holesNow_15 (Nat.le_of_ble_eq_true rfl) (Nat.le_of_ble_eq_true rfl) ⟨rfl, hE, q, c, hlt, hc, Or.inl ⟨g, hg1⟩, Or.inl ⟨w, hw⟩⟩
set_option maxRecDepth 100000 in
set_option maxHeartbeats 4000000 in
theorem m_contoursNow2 {l : Launch} {D : va_G} {N0 : Nat} {M : Nat} {μ : zM} (hM : isMo D μ M) {r : Int} (h8 : 0 ≤ r ∧ r < 8) : zMet l yX7_contoursNow cX7_contoursNow 21 (some (.array .int)) ({ frames := 4, cells := 2, slots := 16964, locals := 160 } : Room) D N0 [.ref M, zi r] μ (zQR D N0 (fun q u => u q = some (zAI D 64 zIz) ∧ zEx μ u ∧ ∃ a, (∀ (b : Nat) (e : va_E), μ b = some e → b < a) ∧ u a = some (zAZ D 16900 zIz))) := by
  refine zMet_of rfl (Nat.le_of_ble_eq_true rfl) (fun X C Rm hin E => ?_)
  refine z_aload_n C dX7_contoursNow_0 rfl ?_
  refine z_get C hM.obj rfl 1 (by decide) m_1011 inz7 rfl rfl dX7_contoursNow_1 ?_
  refine z_iload_n C dX7_contoursNow_4 rfl ?_
  refine z_bald C hM.rows (by decide) (isMo.row_eq h8) dX7_contoursNow_5 ?_
  refine z_astore_n (L' := [_, _, _, _, _, _, _, _, _, _, _, _, _, _, _, _, _, _, _, _, _]) C dX7_contoursNow_6 rfl ?_
  refine z_sipush C dX7_contoursNow_7 ?_
  refine z_newZ C Rm (by decide) m_1035 dX7_contoursNow_10 (by decide) (fun q1 hNq1 hqq1 => ?_)
  refine z_astore_n (L' := [_, _, _, _, _, _, _, _, _, _, _, _, _, _, _, _, _, _, _, _, _]) C dX7_contoursNow_12 rfl ?_
  refine z_bipush C dX7_contoursNow_13 ?_
  refine z_newI C Rm (by decide) m_105 dX7_contoursNow_15 (by decide) (fun q2 hNq2 hqq2 => ?_)
  obtain ⟨ν, hν⟩ : ∃ ν, ν = zu (zu μ q1 (zAZ D 16900 zIz)) q2 (zAI D 64 zIz) := ⟨_, rfl⟩
  have hE : zEx μ ν := by rw [hν]; exact (zEx.rf.own hqq1).own (fun b e hb => hqq2 b e (zu_k hb (by have := hqq1 b e hb; omega)))
  have h2 : ν q2 = some (zAI D 64 zIz) := by rw [hν]; exact zu_s
  have h1 : ν q1 = some (zAZ D 16900 zIz) := by rw [hν]; exact zu_k zu_s (by have := hqq2 _ _ zu_s; omega)
  have hA : ν (M + 2 + r.toNat) = some (zAZ D 4096 zIz) := hE _ _ (hM.row h8)
  refine (show Z X ν 2 16964 (12 + 1 + 2 + 2) [some (.ref M), some (zi r), some (.ref (M + 2 + r.toNat)), some (.ref q1), none, none, none, none, none, none, none, none, none, none, none, none, none, none, none, none, none] [.ref q2] → _ from fun h => by rw [hν] at h; exact h) ?_
  have grid : ∀ (n : Nat) (y : Int) (Lx L8 L9 : Option Value), y + n = 33 → -32 ≤ y → Z X ν 2 16964 26 [some (.ref M), some (zi r), some (.ref (M + 2 + r.toNat)), some (.ref q1), some (.ref q2), some (zi 1), some (zi y), Lx, L8, L9, none, none, none, none, none, none, none, none, none, none, none] [] := by
    intro n
    induction n with
    | zero =>
      intro y Lx L8 L9 hn h0
      refine z_iload C dX7_contoursNow_26 rfl ?_
      refine z_bipush C dX7_contoursNow_28 ?_
      refine z_icmp_gt (tgt := 432) C dX7_contoursNow_30 (by decide) (fun _ => ?_) (fun hno => absurd hno (by omega))
      refine z_aload C dX7_contoursNow_432 rfl ?_
      exact z_aret C E (Or.inr ⟨_, rfl⟩) dX7_contoursNow_434 (Nat.le_of_ble_eq_true rfl) (Nat.le_of_ble_eq_true rfl) ⟨h2, hE, q1, hqq1, h1⟩
    | succ n ih =>
      intro y Lx L8 L9 hn h0
      have row : ∀ (j : Nat) (x : Int) (L8 L9 : Option Value), x + j = 33 → -32 ≤ x → Z X ν 2 16964 37 [some (.ref M), some (zi r), some (.ref (M + 2 + r.toNat)), some (.ref q1), some (.ref q2), some (zi 1), some (zi y), some (zi x), L8, L9, none, none, none, none, none, none, none, none, none, none, none] [] := by
        intro j
        induction j with
        | zero =>
          intro x L8 L9 hj hx
          refine z_iload C dX7_contoursNow_37 rfl ?_
          refine z_bipush C dX7_contoursNow_39 ?_
          refine z_icmp_gt (tgt := 426) C dX7_contoursNow_41 (by decide) (fun _ => ?_) (fun hno => absurd hno (by omega))
          refine z_iinc (L' := [_, _, _, _, _, _, _, _, _, _, _, _, _, _, _, _, _, _, _, _, _]) C dX7_contoursNow_426 rfl rfl ?_
          refine z_goto (tgt := 26) C dX7_contoursNow_429 (by decide) ?_
          exact ih (y + 1) _ _ _ (by omega) (by omega)
        | succ j ih2 =>
          intro x L8 L9 hj hx
          refine z_iload C dX7_contoursNow_37 rfl ?_
          refine z_bipush C dX7_contoursNow_39 ?_
          refine z_icmp_gt (tgt := 426) C dX7_contoursNow_41 (by decide) (fun hno => absurd hno (by omega)) (fun _ => ?_)
          refine z_iconst C dX7_contoursNow_44 ?_
          refine z_istore (L' := [_, _, _, _, _, _, _, _, _, _, _, _, _, _, _, _, _, _, _, _, _]) C dX7_contoursNow_45 rfl ?_
          refine z_iload C dX7_contoursNow_47 rfl ?_
          refine z_iconst C dX7_contoursNow_49 ?_
          refine z_icmp_ge (tgt := 420) C dX7_contoursNow_50 (by decide) (fun hno => absurd hno (by omega)) (fun _ => ?_)
          refine z_iload C dX7_contoursNow_53 rfl ?_
          refine z_bipush C dX7_contoursNow_55 ?_
          refine z_isub C dX7_contoursNow_57 ?_
          refine z_bipush C dX7_contoursNow_58 ?_
          refine z_imul C dX7_contoursNow_60 ?_
          refine z_iload C dX7_contoursNow_61 rfl ?_
          refine z_iadd C dX7_contoursNow_63 ?_
          refine z_bipush C dX7_contoursNow_64 ?_
          refine z_isub C dX7_contoursNow_66 ?_
          refine z_iconst C dX7_contoursNow_67 ?_
          refine z_imul C dX7_contoursNow_68 ?_
          refine z_iload C dX7_contoursNow_69 rfl ?_
          refine z_iadd C dX7_contoursNow_71 ?_
          refine z_istore (L' := [_, _, _, _, _, _, _, _, _, _, _, _, _, _, _, _, _, _, _, _, _]) C dX7_contoursNow_72 rfl ?_
          refine z_aload_n C dX7_contoursNow_74 rfl ?_
          refine z_iload C dX7_contoursNow_75 rfl ?_
          refine z_iload C dX7_contoursNow_77 rfl ?_
          refine z_iload C dX7_contoursNow_79 rfl ?_
          refine z_ci C (z_rS C Rm qs_X7_isEdge m_1201 (m_isEdge0 hA (x := x) (y := y) (by omega) (by omega) (Or.inl rfl)) dX7_contoursNow_81 rfl rfl (Nat.le_of_ble_eq_true rfl) rfl ⟨Nat.le_of_ble_eq_true rfl, Nat.le_of_ble_eq_true rfl, Nat.le_of_ble_eq_true rfl, Nat.le_of_ble_eq_true rfl⟩) (fun z μ5 hq5 => ?_)
          obtain ⟨rfl, rfl⟩ := hq5
          refine z_if_eq (tgt := 414) C dX7_contoursNow_84 (by decide) (fun _ => ?_) (fun hno => absurd hno (fun h => h rfl))
          refine z_iinc (L' := [_, _, _, _, _, _, _, _, _, _, _, _, _, _, _, _, _, _, _, _, _]) C dX7_contoursNow_414 rfl rfl ?_
          refine z_goto (tgt := 47) C dX7_contoursNow_417 (by decide) ?_
          refine z_iload C dX7_contoursNow_47 rfl ?_
          refine z_iconst C dX7_contoursNow_49 ?_
          refine z_icmp_ge (tgt := 420) C dX7_contoursNow_50 (by decide) (fun hno => absurd hno (by omega)) (fun _ => ?_)
          refine z_iload C dX7_contoursNow_53 rfl ?_
          refine z_bipush C dX7_contoursNow_55 ?_
          refine z_isub C dX7_contoursNow_57 ?_
          refine z_bipush C dX7_contoursNow_58 ?_
          refine z_imul C dX7_contoursNow_60 ?_
          refine z_iload C dX7_contoursNow_61 rfl ?_
          refine z_iadd C dX7_contoursNow_63 ?_
          refine z_bipush C dX7_contoursNow_64 ?_
          refine z_isub C dX7_contoursNow_66 ?_
          refine z_iconst C dX7_contoursNow_67 ?_
          refine z_imul C dX7_contoursNow_68 ?_
          refine z_iload C dX7_contoursNow_69 rfl ?_
          refine z_iadd C dX7_contoursNow_71 ?_
          refine z_istore (L' := [_, _, _, _, _, _, _, _, _, _, _, _, _, _, _, _, _, _, _, _, _]) C dX7_contoursNow_72 rfl ?_
          refine z_aload_n C dX7_contoursNow_74 rfl ?_
          refine z_iload C dX7_contoursNow_75 rfl ?_
          refine z_iload C dX7_contoursNow_77 rfl ?_
          refine z_iload C dX7_contoursNow_79 rfl ?_
          refine z_ci C (z_rS C Rm qs_X7_isEdge m_1201 (m_isEdge0 hA (x := x) (y := y) (by omega) (by omega) (Or.inr rfl)) dX7_contoursNow_81 rfl rfl (Nat.le_of_ble_eq_true rfl) rfl ⟨Nat.le_of_ble_eq_true rfl, Nat.le_of_ble_eq_true rfl, Nat.le_of_ble_eq_true rfl, Nat.le_of_ble_eq_true rfl⟩) (fun z μ5 hq5 => ?_)
          obtain ⟨rfl, rfl⟩ := hq5
          refine z_if_eq (tgt := 414) C dX7_contoursNow_84 (by decide) (fun _ => ?_) (fun hno => absurd hno (fun h => h rfl))
          refine z_iinc (L' := [_, _, _, _, _, _, _, _, _, _, _, _, _, _, _, _, _, _, _, _, _]) C dX7_contoursNow_414 rfl rfl ?_
          refine z_goto (tgt := 47) C dX7_contoursNow_417 (by decide) ?_
          refine z_iload C dX7_contoursNow_47 rfl ?_
          refine z_iconst C dX7_contoursNow_49 ?_
          refine z_icmp_ge (tgt := 420) C dX7_contoursNow_50 (by decide) (fun _ => ?_) (fun hno => absurd hno (by omega))
          refine z_iinc (L' := [_, _, _, _, _, _, _, _, _, _, _, _, _, _, _, _, _, _, _, _, _]) C dX7_contoursNow_420 rfl rfl ?_
          refine z_goto (tgt := 37) C dX7_contoursNow_423 (by decide) ?_
          exact ih2 (x + 1) _ _ (by omega) (by omega)
      refine z_iload C dX7_contoursNow_26 rfl ?_
      refine z_bipush C dX7_contoursNow_28 ?_
      refine z_icmp_gt (tgt := 432) C dX7_contoursNow_30 (by decide) (fun hno => absurd hno (by omega)) (fun _ => ?_)
      refine z_bipush C dX7_contoursNow_33 ?_
      refine z_istore (L' := [_, _, _, _, _, _, _, _, _, _, _, _, _, _, _, _, _, _, _, _, _]) C dX7_contoursNow_35 rfl ?_
      exact row 65 (-32) _ _ (by omega) (by omega)
  refine z_astore (L' := [_, _, _, _, _, _, _, _, _, _, _, _, _, _, _, _, _, _, _, _, _]) C dX7_contoursNow_17 rfl ?_
  refine z_iconst C dX7_contoursNow_19 ?_
  refine z_istore (L' := [_, _, _, _, _, _, _, _, _, _, _, _, _, _, _, _, _, _, _, _, _]) C dX7_contoursNow_20 rfl ?_
  refine z_bipush C dX7_contoursNow_22 ?_
  refine z_istore (L' := [_, _, _, _, _, _, _, _, _, _, _, _, _, _, _, _, _, _, _, _, _]) C dX7_contoursNow_24 rfl ?_
  exact grid 65 (-32) _ _ _ (by omega) (by omega)
set_option maxRecDepth 100000 in
set_option maxHeartbeats 4000000 in
theorem m_digest2 {l : Launch} {D : va_G} {N0 : Nat} {M : Nat} {μ : zM} (hM : isMo D μ M) : zMet l yX7_digest cX7_digest 7 (some .long) ({ frames := 6, cells := 56, slots := 275616, locals := 240 } : Room) D N0 [.ref M] μ (zQL D N0 (fun z u => z = zmz (zdg 8) ∧ zEx μ u ∧ ∃ ps : List (Nat × Nat), zWt ps = 274592 ∧ zNw D μ u ps)) := by
  refine zMet_of rfl (Nat.le_of_ble_eq_true rfl) (fun X C Rm hin E => ?_)
  refine z_aload_n C dX7_digest_0 rfl ?_
  refine z_iconst C dX7_digest_1 ?_
  refine z_put C hM.obj rfl tyX7 tyX7_ok nmX7 0 (by decide) m_1010 inz7 rfl rfl (by rfl) (by rfl) (Nat.le_of_ble_eq_true rfl) dX7_digest_2 ?_
  refine z_same hM.obj ?_
  refine z_ldc2 C m_1287 dX7_digest_5 ?_
  refine z_aload_n C dX7_digest_8 rfl ?_
  refine z_get C hM.obj rfl 4 (by decide) m_1014 inz7 rfl rfl dX7_digest_9 ?_
  refine z_i2l C dX7_digest_12 ?_
  refine z_ladd C dX7_digest_13 ?_
  refine z_lstore_n (L' := [_, _, _, _, _, _, _]) C dX7_digest_14 rfl ?_
  refine z_iconst C dX7_digest_15 ?_
  refine z_istore_n (L' := [_, _, _, _, _, _, _]) C dX7_digest_16 rfl ?_
  have loop : ∀ (n i : Nat) (k : Int) (d : Int64) (L4 L5 L6 : Option Value) (ν : zM), i + n = 8 → k = (i : Int) → d = zdg i → isMo D ν M → zEx μ ν → (∃ ps : List (Nat × Nat), zWt ps = 34324 * i ∧ zNw D μ ν ps) → Z X ν (7 * i) (34452 * i) 17 [some (.ref M), some (.long d), none, some (zi k), L4, L5, L6] [] := by
    intro n
    induction n with
    | zero =>
      intro i k d L4 L5 L6 ν hn hk hd hM1 hE hW
      refine z_iload_n C dX7_digest_17 rfl ?_
      refine z_bipush C dX7_digest_18 ?_
      refine z_icmp_ge (tgt := 255) C dX7_digest_20 (by decide) (fun _ => ?_) (fun hno => absurd hno (by omega))
      refine z_lload_n C dX7_digest_255 rfl ?_
      refine z_ldc2 C m_1288 dX7_digest_256 ?_
      refine z_lmul C dX7_digest_259 ?_
      refine z_aload_n C dX7_digest_260 rfl ?_
      refine z_get C hM1.obj rfl 5 (by decide) m_1015 inz7 rfl rfl dX7_digest_261 ?_
      refine z_i2l C dX7_digest_264 ?_
      refine z_ladd C dX7_digest_265 ?_
      refine z_up (kc' := 56) (kn' := 275616) (by omega) (by omega) ?_
      exact z_lret C E dX7_digest_266 (Nat.le_of_ble_eq_true rfl) (Nat.le_of_ble_eq_true rfl) ⟨by rw [hd, show i = 8 by omega]; rfl, hE, by obtain ⟨ps, h1, h2⟩ := hW; exact ⟨ps, by omega, h2⟩⟩
    | succ n ih =>
      intro i k d L4 L5 L6 ν hn hk hd hM1 hE hW
      have h8 : 0 ≤ k ∧ k < 8 := by omega
      refine z_iload_n C dX7_digest_17 rfl ?_
      refine z_bipush C dX7_digest_18 ?_
      refine z_icmp_ge (tgt := 255) C dX7_digest_20 (by decide) (fun hno => absurd hno (by omega)) (fun _ => ?_)
      refine z_lload_n C dX7_digest_23 rfl ?_
      refine z_ldc2 C m_1288 dX7_digest_24 ?_
      refine z_lmul C dX7_digest_27 ?_
      refine z_aload_n C dX7_digest_28 rfl ?_
      refine z_get C hM1.obj rfl 1 (by decide) m_1011 inz7 rfl rfl dX7_digest_29 ?_
      refine z_iload_n C dX7_digest_32 rfl ?_
      refine z_bald C hM1.rows (by decide) (isMo.row_eq h8) dX7_digest_33 ?_
      refine z_ci C (z_rS C Rm qs_X7_areaOf m_1085 (m_area (hM1.row h8) (fun i => Or.inl rfl)) dX7_digest_34 rfl rfl (Nat.le_of_ble_eq_true rfl) rfl ⟨Nat.le_of_ble_eq_true rfl, Nat.le_of_ble_eq_true rfl, by (try dsimp only); omega, by (try dsimp only); omega⟩) (fun z μ3 hq3 => ?_)
      obtain ⟨rfl, rfl⟩ := hq3
      rw [cntZ_z]
      refine z_i2l C dX7_digest_37 ?_
      refine z_ladd C dX7_digest_38 ?_
      refine z_ldc2 C m_1288 dX7_digest_39 ?_
      refine z_lmul C dX7_digest_42 ?_
      refine z_aload_n C dX7_digest_43 rfl ?_
      refine z_iload_n C dX7_digest_44 rfl ?_
      refine z_ci C (z_rV C Rm qv_X7_edgesNow m_1165 (m_edgesNow hM1 h8) hM1.obj rfl dX7_digest_45 rfl rfl (Nat.le_of_ble_eq_true rfl) rfl ⟨Nat.le_of_ble_eq_true rfl, Nat.le_of_ble_eq_true rfl, by (try dsimp only); omega, by (try dsimp only); omega⟩) (fun z μ3 hq3 => ?_)
      obtain ⟨rfl, rfl⟩ := hq3
      refine z_i2l C dX7_digest_48 ?_
      refine z_ladd C dX7_digest_49 ?_
      refine z_ldc2 C m_1288 dX7_digest_50 ?_
      refine z_lmul C dX7_digest_53 ?_
      refine z_aload_n C dX7_digest_54 rfl ?_
      refine z_get C hM1.obj rfl 1 (by decide) m_1011 inz7 rfl rfl dX7_digest_55 ?_
      refine z_iload_n C dX7_digest_58 rfl ?_
      refine z_bald C hM1.rows (by decide) (isMo.row_eq h8) dX7_digest_59 ?_
      refine z_iconst C dX7_digest_60 ?_
      refine z_cr C (z_rS C Rm qs_X7_parts m_1136 (m_parts1b (hM1.row h8)) dX7_digest_61 rfl rfl (Nat.le_of_ble_eq_true rfl) rfl ⟨Nat.le_of_ble_eq_true rfl, Nat.le_of_ble_eq_true rfl, by (try dsimp only); omega, by (try dsimp only); omega⟩) (fun q ν2 hq2 => ?_)
      have hM2 := hq2.2.1.mo hM1
      refine z_ci C (z_rS C Rm qs_X7_most m_1142 (m_most hq2.1 (fun i hi => rfl) (Or.inl rfl)) dX7_digest_64 rfl rfl (Nat.le_of_ble_eq_true rfl) rfl ⟨Nat.le_of_ble_eq_true rfl, Nat.le_of_ble_eq_true rfl, by (try dsimp only); omega, by (try dsimp only); omega⟩) (fun z μ3 hq3 => ?_)
      obtain ⟨rfl, rfl⟩ := hq3
      refine z_i2l C dX7_digest_67 ?_
      refine z_ladd C dX7_digest_68 ?_
      refine z_ldc2 C m_1288 dX7_digest_69 ?_
      refine z_lmul C dX7_digest_72 ?_
      refine z_aload_n C dX7_digest_73 rfl ?_
      refine z_iload_n C dX7_digest_74 rfl ?_
      refine z_ci C (z_rV C Rm qv_X7_holesNow m_1177 (m_holesNowb hM2 h8) hM2.obj rfl dX7_digest_75 rfl rfl (Nat.le_of_ble_eq_true rfl) rfl ⟨Nat.le_of_ble_eq_true rfl, Nat.le_of_ble_eq_true rfl, by (try dsimp only); omega, by (try dsimp only); omega⟩) (fun z ν3 hq3 => ?_)
      obtain ⟨rfl, hE3, a3, c3, hl3, hc3, ka3, kc3⟩ := hq3
      have hM3 := hE3.mo hM2
      refine z_i2l C dX7_digest_78 ?_
      refine z_ladd C dX7_digest_79 ?_
      refine z_lstore_n (L' := [_, _, _, _, _, _, _]) C dX7_digest_80 rfl ?_
      refine z_iconst C dX7_digest_81 ?_
      refine z_istore (L' := [_, _, _, _, _, _, _]) C dX7_digest_82 rfl ?_
      refine z_iload C dX7_digest_84 rfl ?_
      refine z_iconst C dX7_digest_86 ?_
      refine z_icmp_ge (tgt := 111) C dX7_digest_87 (by decide) (fun hno => absurd hno (by omega)) (fun _ => ?_)
      refine z_lload_n C dX7_digest_90 rfl ?_
      refine z_ldc2 C m_1288 dX7_digest_91 ?_
      refine z_lmul C dX7_digest_94 ?_
      refine z_aload_n C dX7_digest_95 rfl ?_
      refine z_iload_n C dX7_digest_96 rfl ?_
      refine z_iload C dX7_digest_97 rfl ?_
      refine z_ci C (z_rV C Rm qv_X7_boundNow m_1189 (m_boundNow hM3 h8) hM3.obj rfl dX7_digest_99 rfl rfl (Nat.le_of_ble_eq_true rfl) rfl ⟨Nat.le_of_ble_eq_true rfl, Nat.le_of_ble_eq_true rfl, by (try dsimp only); omega, by (try dsimp only); omega⟩) (fun z μ3 hq3 => ?_)
      obtain ⟨rfl, rfl⟩ := hq3
      refine z_i2l C dX7_digest_102 ?_
      refine z_ladd C dX7_digest_103 ?_
      refine z_lstore_n (L' := [_, _, _, _, _, _, _]) C dX7_digest_104 rfl ?_
      refine z_iinc (L' := [_, _, _, _, _, _, _]) C dX7_digest_105 rfl rfl ?_
      refine z_goto (tgt := 84) C dX7_digest_108 (by decide) ?_
      refine z_iload C dX7_digest_84 rfl ?_
      refine z_iconst C dX7_digest_86 ?_
      refine z_icmp_ge (tgt := 111) C dX7_digest_87 (by decide) (fun hno => absurd hno (by omega)) (fun _ => ?_)
      refine z_lload_n C dX7_digest_90 rfl ?_
      refine z_ldc2 C m_1288 dX7_digest_91 ?_
      refine z_lmul C dX7_digest_94 ?_
      refine z_aload_n C dX7_digest_95 rfl ?_
      refine z_iload_n C dX7_digest_96 rfl ?_
      refine z_iload C dX7_digest_97 rfl ?_
      refine z_ci C (z_rV C Rm qv_X7_boundNow m_1189 (m_boundNow hM3 h8) hM3.obj rfl dX7_digest_99 rfl rfl (Nat.le_of_ble_eq_true rfl) rfl ⟨Nat.le_of_ble_eq_true rfl, Nat.le_of_ble_eq_true rfl, by (try dsimp only); omega, by (try dsimp only); omega⟩) (fun z μ3 hq3 => ?_)
      obtain ⟨rfl, rfl⟩ := hq3
      refine z_i2l C dX7_digest_102 ?_
      refine z_ladd C dX7_digest_103 ?_
      refine z_lstore_n (L' := [_, _, _, _, _, _, _]) C dX7_digest_104 rfl ?_
      refine z_iinc (L' := [_, _, _, _, _, _, _]) C dX7_digest_105 rfl rfl ?_
      refine z_goto (tgt := 84) C dX7_digest_108 (by decide) ?_
      refine z_iload C dX7_digest_84 rfl ?_
      refine z_iconst C dX7_digest_86 ?_
      refine z_icmp_ge (tgt := 111) C dX7_digest_87 (by decide) (fun hno => absurd hno (by omega)) (fun _ => ?_)
      refine z_lload_n C dX7_digest_90 rfl ?_
      refine z_ldc2 C m_1288 dX7_digest_91 ?_
      refine z_lmul C dX7_digest_94 ?_
      refine z_aload_n C dX7_digest_95 rfl ?_
      refine z_iload_n C dX7_digest_96 rfl ?_
      refine z_iload C dX7_digest_97 rfl ?_
      refine z_ci C (z_rV C Rm qv_X7_boundNow m_1189 (m_boundNow hM3 h8) hM3.obj rfl dX7_digest_99 rfl rfl (Nat.le_of_ble_eq_true rfl) rfl ⟨Nat.le_of_ble_eq_true rfl, Nat.le_of_ble_eq_true rfl, by (try dsimp only); omega, by (try dsimp only); omega⟩) (fun z μ3 hq3 => ?_)
      obtain ⟨rfl, rfl⟩ := hq3
      refine z_i2l C dX7_digest_102 ?_
      refine z_ladd C dX7_digest_103 ?_
      refine z_lstore_n (L' := [_, _, _, _, _, _, _]) C dX7_digest_104 rfl ?_
      refine z_iinc (L' := [_, _, _, _, _, _, _]) C dX7_digest_105 rfl rfl ?_
      refine z_goto (tgt := 84) C dX7_digest_108 (by decide) ?_
      refine z_iload C dX7_digest_84 rfl ?_
      refine z_iconst C dX7_digest_86 ?_
      refine z_icmp_ge (tgt := 111) C dX7_digest_87 (by decide) (fun hno => absurd hno (by omega)) (fun _ => ?_)
      refine z_lload_n C dX7_digest_90 rfl ?_
      refine z_ldc2 C m_1288 dX7_digest_91 ?_
      refine z_lmul C dX7_digest_94 ?_
      refine z_aload_n C dX7_digest_95 rfl ?_
      refine z_iload_n C dX7_digest_96 rfl ?_
      refine z_iload C dX7_digest_97 rfl ?_
      refine z_ci C (z_rV C Rm qv_X7_boundNow m_1189 (m_boundNow hM3 h8) hM3.obj rfl dX7_digest_99 rfl rfl (Nat.le_of_ble_eq_true rfl) rfl ⟨Nat.le_of_ble_eq_true rfl, Nat.le_of_ble_eq_true rfl, by (try dsimp only); omega, by (try dsimp only); omega⟩) (fun z μ3 hq3 => ?_)
      obtain ⟨rfl, rfl⟩ := hq3
      refine z_i2l C dX7_digest_102 ?_
      refine z_ladd C dX7_digest_103 ?_
      refine z_lstore_n (L' := [_, _, _, _, _, _, _]) C dX7_digest_104 rfl ?_
      refine z_iinc (L' := [_, _, _, _, _, _, _]) C dX7_digest_105 rfl rfl ?_
      refine z_goto (tgt := 84) C dX7_digest_108 (by decide) ?_
      refine z_iload C dX7_digest_84 rfl ?_
      refine z_iconst C dX7_digest_86 ?_
      refine z_icmp_ge (tgt := 111) C dX7_digest_87 (by decide) (fun _ => ?_) (fun hno => absurd hno (by omega))
      refine z_aload_n C dX7_digest_111 rfl ?_
      refine z_iload_n C dX7_digest_112 rfl ?_
      refine z_cr C (z_rV C Rm qv_X7_contoursNow m_1197 (m_contoursNow2 hM3 h8) hM3.obj rfl dX7_digest_113 rfl rfl (Nat.le_of_ble_eq_true rfl) rfl ⟨Nat.le_of_ble_eq_true rfl, Nat.le_of_ble_eq_true rfl, by (try dsimp only); omega, by (try dsimp only); omega⟩) (fun q4 ν4 hq4 => ?_)
      refine z_astore (L' := [_, _, _, _, _, _, _]) C dX7_digest_116 rfl ?_
      refine z_lload_n C dX7_digest_118 rfl ?_
      refine z_ldc2 C m_1288 dX7_digest_119 ?_
      refine z_lmul C dX7_digest_122 ?_
      refine z_aload C dX7_digest_123 rfl ?_
      refine z_iconst C dX7_digest_125 ?_
      refine z_iald C hq4.1 (by decide) dX7_digest_126 ?_
      rw [show zIz (0 : Int).toNat = 0 from rfl]
      have hM4 := hq4.2.1.mo hM3
      refine z_i2l C dX7_digest_127 ?_
      refine z_ladd C dX7_digest_128 ?_
      refine z_lstore_n (L' := [_, _, _, _, _, _, _]) C dX7_digest_129 rfl ?_
      refine z_iconst C dX7_digest_130 ?_
      refine z_istore (L' := [_, _, _, _, _, _, _]) C dX7_digest_131 rfl ?_
      refine z_iload C dX7_digest_133 rfl ?_
      refine z_aload C dX7_digest_135 rfl ?_
      refine z_iconst C dX7_digest_137 ?_
      refine z_iald C hq4.1 (by decide) dX7_digest_138 ?_
      rw [show zIz (0 : Int).toNat = 0 from rfl]
      refine z_icmp_ge (tgt := 209) C dX7_digest_139 (by decide) (fun _ => ?_) (fun hno => absurd hno (by omega))
      refine z_aload_n C dX7_digest_209 rfl ?_
      refine z_iload_n C dX7_digest_210 rfl ?_
      refine z_cr C (z_rV C Rm qv_X7_stripsNow m_1245 (m_stripsNow hM4 h8) hM4.obj rfl dX7_digest_211 rfl rfl (Nat.le_of_ble_eq_true rfl) rfl ⟨Nat.le_of_ble_eq_true rfl, Nat.le_of_ble_eq_true rfl, by (try dsimp only); omega, by (try dsimp only); omega⟩) (fun q5 ν5 hq5 => ?_)
      refine z_astore (L' := [_, _, _, _, _, _, _]) C dX7_digest_214 rfl ?_
      refine z_iconst C dX7_digest_216 ?_
      refine z_istore (L' := [_, _, _, _, _, _, _]) C dX7_digest_217 rfl ?_
      refine z_iload C dX7_digest_219 rfl ?_
      refine z_iconst C dX7_digest_221 ?_
      refine z_aload C dX7_digest_222 rfl ?_
      refine z_iconst C dX7_digest_224 ?_
      refine z_iald C hq5.1 (by decide) dX7_digest_225 ?_
      rw [show zIz (0 : Int).toNat = 0 from rfl]
      have hM5 := hq5.2.mo hM4
      refine z_imul C dX7_digest_226 ?_
      refine z_icmp_gt (tgt := 249) C dX7_digest_227 (by decide) (fun hno => absurd hno (by omega)) (fun _ => ?_)
      refine z_lload_n C dX7_digest_230 rfl ?_
      refine z_ldc2 C m_1288 dX7_digest_231 ?_
      refine z_lmul C dX7_digest_234 ?_
      refine z_aload C dX7_digest_235 rfl ?_
      refine z_iload C dX7_digest_237 rfl ?_
      refine z_iald C hq5.1 (by decide) dX7_digest_239 ?_
      rw [show zIz (0 : Int).toNat = 0 from rfl]
      refine z_i2l C dX7_digest_240 ?_
      refine z_ladd C dX7_digest_241 ?_
      refine z_lstore_n (L' := [_, _, _, _, _, _, _]) C dX7_digest_242 rfl ?_
      refine z_iinc (L' := [_, _, _, _, _, _, _]) C dX7_digest_243 rfl rfl ?_
      refine z_goto (tgt := 219) C dX7_digest_246 (by decide) ?_
      refine z_iload C dX7_digest_219 rfl ?_
      refine z_iconst C dX7_digest_221 ?_
      refine z_aload C dX7_digest_222 rfl ?_
      refine z_iconst C dX7_digest_224 ?_
      refine z_iald C hq5.1 (by decide) dX7_digest_225 ?_
      rw [show zIz (0 : Int).toNat = 0 from rfl]
      refine z_imul C dX7_digest_226 ?_
      refine z_icmp_gt (tgt := 249) C dX7_digest_227 (by decide) (fun _ => ?_) (fun hno => absurd hno (by omega))
      refine z_iinc (L' := [_, _, _, _, _, _, _]) C dX7_digest_249 rfl rfl ?_
      refine z_goto (tgt := 17) C dX7_digest_252 (by decide) ?_
      refine z_up (kc' := 7 * (i + 1)) (kn' := 34452 * (i + 1)) (by (try dsimp only); omega) (by (try dsimp only); omega) (ih (i + 1) (k + 1) _ _ _ _ _ (by omega) (by omega) ?_ hM5 (hE.tr (((hq2.2.1.tr hE3).tr hq4.2.1).tr hq5.2)) ?_)
      · rw [hd]
        rfl
      · obtain ⟨ps, h1, h2⟩ := hW
        obtain ⟨c2, hc2, hw2⟩ := hq2.2.2.2
        obtain ⟨a4, hl4, hu4⟩ := hq4.2.2
        have n2 := h2.put2 hE hq2.2.1 hq2.2.2.1 hc2 (Or.inl ⟨_, hq2.1⟩) (Or.inl ⟨_, hw2⟩)
        have n3 := n2.put2 (hE.tr hq2.2.1) hE3 hl3 hc3 ka3 kc3
        have n4 := n3.put ((hE.tr hq2.2.1).tr hE3) hq4.2.1 hl4 (Or.inr ⟨_, hu4⟩)
        exact ⟨_, by simp only [zWt_cons, h1]; omega, n4.up hq5.2⟩
  exact loop 8 0 0 _ _ _ _ _ (by omega) rfl (by decide) hM zEx.rf ⟨[], rfl, zNw.nil⟩
  
end
section
/-! the law's loop over a script of digests alone -/
theorem isMo.o {D : va_G} {μ u : zM} {M : Nat} {P : Nat → Prop} (h : isMo D μ M) (hO : zO P μ u) (hP : ∀ q, M ≤ q → q < M + 14 → ¬ P q) : isMo D u M := ⟨hO.at (hP _ (by omega) (by omega)) h.1, hO.at (hP _ (by omega) (by omega)) h.2.1, fun j hj => hO.at (hP _ (by omega) (by omega)) (h.2.2.1 j hj), hO.at (hP _ (by omega) (by omega)) h.px, hO.at (hP _ (by omega) (by omega)) h.py, hO.at (hP _ (by omega) (by omega)) h.kr, hO.at (hP _ (by omega) (by omega)) h.kf⟩
theorem isKe.o {D : va_G} {μ u : zM} {K : Nat} {P : Nat → Prop} (h : isKe D μ K) (hO : zO P μ u) (hP : ∀ q, K ≤ q → q < K + 66 → ¬ P q) : isKe D u K := ⟨hO.at (hP _ (by omega) (by omega)) h.obj, hO.at (hP _ (by omega) (by omega)) h.regs, fun k hk => (h.reg hk).o hO (hP _ (by omega) (by omega)) (hP _ (by omega) (by omega)), h.spare.o hO (hP _ (by omega) (by omega)) (hP _ (by omega) (by omega)), h.pen.o hO (fun q h1 h2 => hP _ (by omega) (by omega)), ⟨hO.at (hP _ (by omega) (by omega)) h.his.1, hO.at (hP _ (by omega) (by omega)) h.his.2.1, hO.at (hP _ (by omega) (by omega)) h.his.2.2⟩, h.kept.o hO (hP _ (by omega) (by omega)) (hP _ (by omega) (by omega)), h.fl.o hO (fun q h1 h2 => hP _ (by omega) (by omega)), h.ou.o hO (fun q h1 h2 => hP _ (by omega) (by omega)), h.st.o hO (fun q h1 h2 => hP _ (by omega) (by omega))⟩
theorem z_pop2 {X : zX} {l : Launch} {D : va_G} {N0 : Nat} {cc : ByteArray} {nL : Nat} {own : String} {Ts : List Cond} {μ : zM} {kc kn pc : Nat} {L : List (Option Value)} {st : List Value} (C : zC X l D N0 cc nL own Ts) {v : Value} (d : decode cc pc = .ok (.pop2, 1)) (hv : v.category = 2) (k : Z X μ kc kn (pc + 1) L st) : Z X μ kc kn pc L (v :: st) := by
  obtain ⟨p, l', e, R, s, m, args, below, meth, c, D', N', Q⟩ := X
  obtain ⟨rfl, rfl, rfl, hx, hb, hml, hown, hts, hlk, hB⟩ := C
  intro H locs cells slots ls hH hS hc1 hs1 hl
  exact lv_pop2_2 hx hb d hv (k H locs cells slots ls hH hS hc1 hs1 hl)
def zBg (D : va_G) (K : Nat) (μ : zM) (ps : List (Nat × Nat)) : Prop := (ps.map (fun p => p.1)).Nodup ∧ ∀ p, p ∈ ps → K + 81 < p.1 ∧ zKn D μ p.1 p.2
theorem zKn.o {D : va_G} {μ u : zM} {P : Nat → Prop} {a n : Nat} (h : zKn D μ a n) (hO : zO P μ u) (hP : ¬ P a) : zKn D u a n := h.elim (fun ⟨g, h⟩ => Or.inl ⟨g, hO.at hP h⟩) (fun ⟨g, h⟩ => Or.inr ⟨g, hO.at hP h⟩)
set_option maxRecDepth 100000 in
set_option maxHeartbeats 4000000 in
theorem lr_loop {X : zX} {l : Launch} {D : va_G} {N0 : Nat} {b K M O OD : Nat} {xs : Nat → Int32} (C : zC X l D N0 cL_law 9 RL zWS) (Rm : zR X 100000 9200000 12 446) (S : zScr X b 198 xs) (hxs : ∀ j : Nat, j < 33 → xs (6 * j) = 34) (eM : M = K + 66) (eO : O = K + 80) (eD : OD = K + 81) (fin : ∀ (ν : zM) (ps : List (Nat × Nat)) (k : Int) (L6 L7 L8 : Option Value), zWt ps = 9061536 → zBg D K ν ps → Z X ν 4000 9200000 1614 [some (.ref b), some (.ref K), some (.ref M), some (.ref O), some (.ref OD), some (zi k), L6, L7, L8] []) :
    ∀ (n j : Nat) (ν : zM) (ps : List (Nat × Nat)) (k : Int) (g : Nat → Int64) (lo hi fy wt sy : Int) (L6 L7 L8 : Option Value), j + n = 33 → k = 6 * (j : Int) → isKf D ν K g lo hi fy wt sy → isMo D ν M → ν OD = some (zAD D 1 (fun _ => 0)) → zWt ps = 274592 * j → zBg D K ν ps → Z X ν (82 + 56 * j) (34947 + 275616 * j) 28 [some (.ref b), some (.ref K), some (.ref M), some (.ref O), some (.ref OD), some (zi k), L6, L7, L8] [] := by
  intro n
  induction n with
  | zero =>
    intro j ν ps k g lo hi fy wt sy L6 L7 L8 hn hk hK hM hoD hl hB
    refine z_iload C dL_law_28 rfl ?_
    refine z_aload_n C dL_law_30 rfl ?_
    refine z_slen C S dL_law_31 ?_
    refine z_bipush C dL_law_32 ?_
    refine z_isub C dL_law_34 ?_
    refine z_icmp_gt (tgt := 1614) C dL_law_35 (by decide) (fun _ => ?_) (fun hno => absurd hno (by omega))
    exact z_up (by omega) (by omega) (fin ν ps k L6 L7 L8 (by omega) hB)
  | succ n ih =>
    intro j ν ps k g lo hi fy wt sy L6 L7 L8 hn hk hK hM hoD hl hB
    refine z_iload C dL_law_28 rfl ?_
    refine z_aload_n C dL_law_30 rfl ?_
    refine z_slen C S dL_law_31 ?_
    refine z_bipush C dL_law_32 ?_
    refine z_isub C dL_law_34 ?_
    refine z_icmp_gt (tgt := 1614) C dL_law_35 (by decide) (fun hno => absurd hno (by omega)) (fun _ => ?_)
    refine z_aload_n C dL_law_38 rfl ?_
    refine z_iload C dL_law_39 rfl ?_
    refine z_sld C S (by decide) dL_law_41 ?_
    refine z_bipush C dL_law_42 ?_
    refine z_iand C dL_law_44 (zI_as _).symm ?_
    have hv : (Int32.ofInt (xs k.toNat).toInt &&& Int32.ofInt 63).toInt = 34 := by
      rw [show k.toNat = 6 * j by omega, hxs j (by omega)]
      decide
    rw [hv]
    refine z_tableIn (tgt := 1595) C dL_law_45 (by decide) (by decide) rfl (by decide) ?_
    refine z_aload_n C dL_law_1595 rfl ?_
    refine z_cl C (z_rV C Rm qv_X6_digest m_281 (k_digest2 hK) hK.obj rfl dL_law_1596 rfl rfl (Nat.le_of_ble_eq_true rfl) rfl ⟨Nat.le_of_ble_eq_true rfl, Nat.le_of_ble_eq_true rfl, by (try dsimp only); omega, by (try dsimp only); omega⟩) (fun z μ1 hp => ?_)
    obtain ⟨rfl, ⟨g1, lo1, hi1, fy1, wt1, sy1, hK1⟩, hO⟩ := hp
    have hM1 := hM.o hO (fun q h1 h2 => by unfold zb; omega)
    have hD1 := hO.at (by unfold zb; omega) hoD
    refine z_pop2 C dL_law_1599 rfl ?_
    refine z_aload_n C dL_law_1600 rfl ?_
    refine z_cl C (z_rV C Rm qv_X7_digest m_1283 (m_digest2 hM1) hM1.obj rfl dL_law_1601 rfl rfl (Nat.le_of_ble_eq_true rfl) rfl ⟨Nat.le_of_ble_eq_true rfl, Nat.le_of_ble_eq_true rfl, by (try dsimp only); omega, by (try dsimp only); omega⟩) (fun z2 μ2 hq => ?_)
    obtain ⟨rfl, hE, p8, hl8, hN8⟩ := hq
    refine z_pop2 C dL_law_1604 rfl ?_
    refine z_goto (tgt := 1608) C dL_law_1605 (by decide) ?_
    refine z_iinc (L' := [_, _, _, _, _, _, _, _, _]) C dL_law_1608 rfl rfl ?_
    refine z_goto (tgt := 28) C dL_law_1611 (by decide) ?_
    have hB1 : ∀ p, p ∈ ps → zKn D μ1 p.1 p.2 := fun p hp => (hB.2 p hp).2.o hO (by have := (hB.2 p hp).1; unfold zb; omega)
    have hnd : ((p8 ++ ps).map (fun p => p.1)).Nodup := by
      rw [List.map_append]
      refine List.nodup_append.mpr ⟨hN8.1, hB.1, fun a ha c hc h => ?_⟩
      obtain ⟨p, hp, e1⟩ := List.mem_map.mp ha
      obtain ⟨q, hq, e2⟩ := List.mem_map.mp hc
      have h1 := (hB1 q hq).lt (hN8.2 p hp).1
      have e3 : p.1 = a := e1
      have e4 : q.1 = c := e2
      omega
    refine z_up (kc' := 82 + 56 * (j + 1)) (kn' := 34947 + 275616 * (j + 1)) (by (try dsimp only); omega) (by (try dsimp only); omega) (ih (j + 1) μ2 (p8 ++ ps) _ _ _ _ _ _ _ _ _ _ (by omega) (by omega) (hK1.ex hE) (hE.mo hM1) (hE _ _ hD1) (by rw [zWt_app]; omega) ⟨hnd, fun p hp => ?_⟩)
    rcases List.mem_append.mp hp with h | h
    · have h1 := (hN8.2 p h).1 _ _ hD1
      exact ⟨by omega, (hN8.2 p h).2⟩
    · exact ⟨(hB.2 p h).1, (hB1 p h).ex hE⟩
set_option maxRecDepth 100000 in
set_option maxHeartbeats 4000000 in
theorem lr_begin {X : zX} {l : Launch} {D : va_G} {N0 : Nat} {b sz : Nat} {xs : Nat → Int32} (C : zC X l D N0 cL_law 9 RL zWS) (Rm : zR X 100000 9200000 12 446) (S : zScr X b 198 xs) (hxs : ∀ j : Nat, j < 33 → xs (6 * j) = 34) (fin : ∀ (K M O OD : Nat) (ν : zM) (ps : List (Nat × Nat)) (k : Int) (L6 L7 L8 : Option Value), zWt ps = 9061536 → zBg D K ν ps → Z X ν 4000 9200000 1614 [some (.ref b), some (.ref K), some (.ref M), some (.ref O), some (.ref OD), some (zi k), L6, L7, L8] []) : ZS X sz (fun _ => none) 0 0 0 [some (.ref b), none, none, none, none, none, none, none, none] [] := by
  refine s_new C Rm (ci := 6) (fs := [.null, .null, .null, .null, .null, .null, .null]) rfl inz6 tyX6 tyX6_ok m_54 m_55 m_36 (fun j hj => by rcases (by omega : j = 0 ∨ j = 1 ∨ j = 2 ∨ j = 3 ∨ j = 4 ∨ j = 5 ∨ j = 6) with rfl | rfl | rfl | rfl | rfl | rfl | rfl <;> rfl) dL_law_0 (by decide) (fun hq0 => ?_)
  refine s_dup C dL_law_3 rfl ?_
  refine s_init C Rm qi_X6_init m_56 (i_Ker zu_s) dL_law_4 rfl rfl (Nat.le_of_ble_eq_true rfl) rfl ⟨Nat.le_of_ble_eq_true rfl, Nat.le_of_ble_eq_true rfl, Nat.le_of_ble_eq_true rfl, Nat.le_of_ble_eq_true rfl⟩ (fun μ1 hp1 => ?_)
  refine s_astore_n (L' := [_, _, _, _, _, _, _, _, _]) C dL_law_7 rfl ?_
  refine s_new C Rm (ci := 7) (fs := [zi 0, .null, .null, .null, zi 0, zi 0, .null, .null]) rfl inz7 tyX7 tyX7_ok m_1001 m_1002 m_43 (fun j hj => by rcases (by omega : j = 0 ∨ j = 1 ∨ j = 2 ∨ j = 3 ∨ j = 4 ∨ j = 5 ∨ j = 6 ∨ j = 7) with rfl | rfl | rfl | rfl | rfl | rfl | rfl | rfl <;> rfl) dL_law_8 (by decide) (fun hq8 => ?_)
  refine s_dup C dL_law_11 rfl ?_
  refine s_init C Rm qi_X7_init m_1003 (i_Mod zu_s) dL_law_12 rfl rfl (Nat.le_of_ble_eq_true rfl) rfl ⟨Nat.le_of_ble_eq_true rfl, Nat.le_of_ble_eq_true rfl, Nat.le_of_ble_eq_true rfl, Nat.le_of_ble_eq_true rfl⟩ (fun μ2 hp2 => ?_)
  refine s_astore_n (L' := [_, _, _, _, _, _, _, _, _]) C dL_law_15 rfl ?_
  refine s_iconst C dL_law_16 ?_
  refine s_newJ C Rm (by decide) m_73 dL_law_17 (by decide) (fun hq17 => ?_)
  refine s_astore_n (L' := [_, _, _, _, _, _, _, _, _]) C dL_law_19 rfl ?_
  refine s_iconst C dL_law_20 ?_
  refine s_newD C Rm (by decide) m_1289 dL_law_21 (by decide) (fun hq21 => ?_)
  refine s_astore (L' := [_, _, _, _, _, _, _, _, _]) C dL_law_23 rfl ?_
  refine ZS.of ?_
  refine z_iconst C dL_law_25 ?_
  refine z_istore (L' := [_, _, _, _, _, _, _, _, _]) C dL_law_26 rfl ?_
  have q1 : zO (zb (sz + 66) 14) μ1 μ2 := (zO.zu zO.rf (by unfold zb; omega)).tr hp2.2
  have q2 : zO (fun q => sz + 66 ≤ q) μ1 (zu (zu μ2 (sz + 66 + 14) (zAL D (1 : Int).toNat zF)) (sz + 66 + 14 + 1) (zAD D (1 : Int).toNat (fun _ => 0))) := zO.zu (zO.zu (q1.mo (fun q hq => by unfold zb at hq; omega)) (by omega)) (by omega)
  have q3 : zO (fun q => sz + 80 ≤ q) μ2 (zu (zu μ2 (sz + 66 + 14) (zAL D (1 : Int).toNat zF)) (sz + 66 + 14 + 1) (zAD D (1 : Int).toNat (fun _ => 0))) := zO.zu (zO.zu zO.rf (by omega)) (by omega)
  have hK : isKe D _ sz := hp1.1.o q2 (fun q h1 h2 => by omega)
  exact lr_loop C Rm S hxs (by omega) (by omega) (by omega) (fin _ _ _ _) 33 0 _ [] 0 _ _ _ _ _ _ _ _ _ (by omega) (by decide) hK.kf (hp2.1.o q3 (fun q h1 h2 => by omega)) zu_s rfl ⟨List.nodup_nil, fun a h => absurd h List.not_mem_nil⟩
end
section
/-! what a run of 33 digests leaves behind: 1320 arrays of 9,061,536 slots in all (other than the few of 64) -/
def R_law : String := "ScrimshawKernelLaw"
abbrev lr_room : Room := { frames := 12, cells := 100000, slots := 9200000, locals := 446 }
def lr_many (s : State) (H : Heap) : Prop := ∃ ps : List (Nat × Nat), (ps.map (fun p => p.1)).Nodup ∧ zWt ps = 9061536 ∧ ∀ p, p ∈ ps → s.heap.size ≤ p.1 ∧ ∃ c : Cell, H[p.1]? = some c ∧ c.slots.size = p.2
def lr_Q (_ : Array Value) (s : State) (_ : Outcome) (t : State) : Prop := lr_many s t.heap
def lr_Z (below : List Frame) (a : Array Value) (s : State) : State → Prop := fun t => ∃ o, t.status = .running ∧ Ended t below o ∧ lr_Q a s o t
theorem lr_ret {p : Program} {l : Launch} {e : Env} {s : State} {m : MethodId} {below : List Frame} {meth : Method} {c : Code} {b : Nat} (hx : p.tables.exec = Jvm.exec) (hb : c.code = code) (hr : meth.sig.returnType = ret) (hlocks : meth.locks = false) {pc : Nat} {H : Heap} {locs : List Loc} {cells slots : Nat} {ls : Array Slot} (hbig : lr_many s H) (hdg : decode code pc = .ok (.ireturn, 1)) : W p l e lr_room s m #[Value.ref b] below meth c H locs cells slots (lr_Z below #[Value.ref b] s) (F0 m pc ls [.int 1]) := by
  intro T hT X
  obtain ⟨fs, hret, hrun, hended, hW, hframe⟩ := X.leave (v := some (.int 1)) (hlocks := hlocks) (fun h => by rw [hr] at h; cases h)
  have hmeth' : T.vm.method? m = some meth := X.method'
  have hTf : (T.setFrames fs).heap = H := hT
  refine ⟨T.setFrames fs, ?_, .returned (some (.int 1)), hrun, hended, ?_⟩
  · jvm_step X.here [X.here.top, hx, hb, hdg, hmeth', hr, ret, narrow_b1]
    (try refine ⟨rfl, ?_⟩); (try refine ⟨rfl, ?_⟩)
    first | (intro acts; rw [hret _ acts rfl rfl rfl]) | rw [hret _ _ rfl rfl rfl]
    exact Steps.refl _
  · show lr_many s (T.setFrames fs).heap
    rw [hTf]
    exact hbig
theorem lr_cell {D : va_G} {N0 : Nat} {μ : zM} {H : Heap} {a n : Nat} (hH : zH D N0 μ H) (ha : zKn D μ a n) : N0 ≤ a ∧ ∃ c : Cell, H[a]? = some c ∧ c.slots.size = n := by
  rcases ha with ⟨g, ha⟩ | ⟨g, ha⟩
  · obtain ⟨h1, h2⟩ := hH _ _ ha
    refine ⟨h2, _, h1, ?_⟩
    show (vp_cell (D.1 100) (n, .inl (fun j => Int32.ofInt (g j)))).slots.size = n
    rw [vp_cell_i]
    exact arrV_size _ _ _
  · obtain ⟨h1, h2⟩ := hH _ _ ha
    refine ⟨h2, _, h1, ?_⟩
    show (vp_cell (D.1 102) (n, .inl (fun j => Int32.ofInt (g j)))).slots.size = n
    rw [vp_cell_i]
    exact arrV_size _ _ _
def lr_At (p : Program) (s : State) (m : MethodId) (meth : Method) (c : Code) (b : Nat) (xs : Nat → Int32) : Prop :=
  p.tables.exec = Jvm.exec ∧ c.code = code ∧ meth.sig.returnType = ret ∧ c.maxLocals = 9 ∧ s.vm.findClass R_law = some m.cls ∧ (∀ w ∈ lw_tbl, w.before #[Value.ref b] s = true) ∧ va_X b 198 xs s s.heap ∧ b < s.heap.size ∧ meth.locks = false ∧ (Jvm.Cond.and given_1 narrow_1).before #[Value.ref b] s = true
set_option maxRecDepth 100000 in
set_option maxHeartbeats 4000000 in
theorem lr_start {p : Program} {e : Env} {s : State} {m : MethodId} {below : List Frame} {meth : Method} {c : Code} (l : Launch) {b : Nat} {xs : Nat → Int32} (hxs : ∀ j : Nat, j < 33 → xs (6 * j) = 34) (C0 : lr_At p s m meth c b xs) : W p l e lr_room s m #[Value.ref b] below meth c s.heap [] 0 0 (lr_Z below #[Value.ref b] s) (entryFrame m ([Value.ref b] : List Value).toArray 9) := by
  obtain ⟨hx, hb, hr, hml, hown, hts, hX, hbl, hlocks, hgv⟩ := id C0
  obtain ⟨D, hB⟩ := en_B hts hgv
  have hl := lv_entry ([.ref b]) (n := 9) (Nat.le_of_ble_eq_true rfl)
  rw [lg_entry_eq]
  generalize (lg_sl ([.ref b]) ++ List.replicate (9 - (lg_sl ([.ref b])).length) Slot.unset).toArray = ls at hl ⊢
  have hl : lv_has ls 9 [(0, .ref b)] := hl
  have hzl : zL ls [some (.ref b), none, none, none, none, none, none, none, none] := zL.of hl rfl (fun i v hv => by
    match i, hv with
    | 0, hv => cases hv; exact List.mem_cons_self
    | 1, hv => cases hv
    | 2, hv => cases hv
    | 3, hv => cases hv
    | 4, hv => cases hv
    | 5, hv => cases hv
    | 6, hv => cases hv
    | 7, hv => cases hv
    | 8, hv => cases hv
    | i + 9, hv => simp at hv)
  have C : zC (p, l, e, lr_room, s, m, #[Value.ref b], below, meth, c, D, s.heap.size, lr_Z below #[Value.ref b] s) l D s.heap.size cL_law 9 RL zWS := ⟨rfl, rfl, rfl, hx, hb, hml, hown, fun w hw => hts w (List.mem_filter.mp hw).1, hlocks, hB⟩
  refine lr_begin (sz := s.heap.size) C ⟨Nat.le_refl _, Nat.le_refl _, Nat.le_refl _, Nat.le_refl _⟩ (b := b) (xs := xs) ⟨hX, hbl, hbl⟩ hxs (fun K M O OD ν ps k L6 L7 L8 hlen hBg => ?_) s.heap [] 0 0 ls rfl (fun a e h => nomatch h) va_S.rf (Nat.le_refl 0) (Nat.le_refl 0) hzl
  refine z_iconst C dL_law_1614 ?_
  intro H locs cells slots ls hH hS hc1 hs1 hl
  rw [show zi 1 = Value.int 1 from rfl]
  exact lr_ret hx hb hr hlocks ⟨ps, hBg.1, hlen, fun p hp => lr_cell hH (hBg.2 p hp).2⟩ dL_law_1615
def lr_P (b : Addr) (xs : List Int32) (args : Array Value) (s : State) : Prop := args = #[.ref b] ∧ s.IntsAt b xs ∧ (Jvm.Cond.and given_1 narrow_1).before args s = true
set_option maxHeartbeats 4000000 in
theorem lr_walk (l : Launch) (b : Addr) (xs : List Int32) (hlen : xs.length = 198) (h34 : ∀ j : Nat, j < 33 → xs.getD (6 * j) 0 = 34) : MetFree l x (headSpec (Jvm.Cond.code x code maxLocals ret :: tables_1) lr_room) (lr_P b xs) (fun _ _ _ _ _ => True) lr_Q := by
  refine MetFree.of_bodyS (code := code) (maxLocals := maxLocals) (ret := ret) (by decide) ?_ ?_
  · intro args s m h hn
    obtain ⟨meth, c, h1, h2, h3, h4, h5, h6, -, -⟩ := Cond.code_spec hn (atoms_spec (ws := Jvm.Cond.code x code maxLocals ret :: tables_1) h _ List.mem_cons_self)
    exact ⟨meth, c, h1, h2, h3, h4, h5, h6⟩
  · intro p e s m args below meth c s₁ B hml0 hP _
    obtain ⟨rfl, hx, hgv⟩ := hP
    obtain ⟨scr, harrAt, hlist, hof, hsmall⟩ := hx
    obtain ⟨hcb, hkn, -, -⟩ := State.arrayAt?_spec harrAt
    have hown : s.vm.findClass R_law = some m.cls := findClass_of_methodNamed B.named
    have hts0 : ∀ c ∈ (Jvm.Cond.code x code maxLocals ret :: tables_1), c.before #[Value.ref b] s = true := atoms_spec (ws := Jvm.Cond.code x code maxLocals ret :: tables_1) B.pre
    have hts : ∀ w ∈ lw_tbl, w.before #[Value.ref b] s = true := k2_hts_sels lw_privs (fun w hw => hts0 w (List.mem_cons_of_mem _ hw)) lw_privs_ok
    have hml : c.maxLocals = 9 := B.maxLocals_eq (hts0 _ List.mem_cons_self)
    have X₀ : Stand p l e lr_room s m #[Value.ref b] below meth c s₁ [] 0 0 := Stand.of_body B
    have hh0 : s₁.heap = s.heap := by rw [B.state]; rfl
    have hsz : scr.slots.size = 198 := by rw [← Array.length_toList, hlist, List.length_map, hlen]
    have hval : ∀ j : Nat, j < 198 → scr.slots[j]? = some (.int (xs.getD j 0)) := fun j hj => by
      have hj : j < xs.length := by omega
      rw [← Array.getElem?_toList, hlist]
      simp [hj]
    have hbl : b < s.heap.size := (Array.getElem?_eq_some_iff.mp hcb).1
    have hX : va_X b 198 (fun j => xs.getD j 0) s s.heap := ⟨scr, hcb, hof, hkn, hsz, hval⟩
    have K : W p l e lr_room s m #[Value.ref b] below meth c s₁.heap [] 0 0 (lr_Z below #[Value.ref b] s) (entryFrame m ([Value.ref b] : List Value).toArray 9) := by
      rw [hh0]
      exact lr_start l h34 ⟨B.exec, B.bytes, B.returns, hml, hown, hts, hX, hbl, B.notSynchronized, hgv⟩
    obtain ⟨t, a1, o, b1, b2, b3⟩ := K s₁ rfl X₀
    exact ⟨t, o, a1, b1, b2, b3⟩
theorem lr_comes (l : Launch) (xs : List Int32) (hlen : xs.length = 198) (h34 : ∀ j : Nat, j < 33 → xs.getD (6 * j) 0 = 34) (b : Addr) : Comes l x (Jvm.Cond.code x code maxLocals ret :: tables_1) lr_room (fun _ _ args s => lr_P b xs args s) (fun _ _ args s o t => lr_Q args s o t) := by
  intro p e ha hc hk s m args below hf hfit hheap happ hpre
  obtain ⟨k, o, h1, h2, h3, hQ⟩ := lr_walk l b xs hlen h34 p e ha hc hk s m args below hf ((Spec.applies_iff_loose hf).mp happ).1 hpre trivial
  exact ⟨k, o, h1, h2, h3, hQ⟩
theorem wt_filter {d w : Nat} : ∀ ps : List (Nat × Nat), (ps.map (fun p => p.1)).Nodup → (∀ p, p ∈ ps → p.1 = d → p.2 = w) → zWt ps ≤ w + zWt (ps.filter (fun p => !(p.1 == d)))
  | [], _, _ => by simp [zWt]
  | p :: ps, hn, h => by
    rw [List.map_cons] at hn
    obtain ⟨h1, h2⟩ := List.nodup_cons.mp hn
    by_cases hd : p.1 = d
    · have hf : ps.filter (fun p => !(p.1 == d)) = ps := List.filter_eq_self.mpr (fun q hq => by
        have : q.1 ≠ d := fun e => h1 (List.mem_map.mpr ⟨q, hq, by rw [e, hd]⟩)
        simpa using this)
      rw [List.filter_cons_of_neg (by simp [hd]), hf, zWt_cons, h p List.mem_cons_self hd]
      exact Nat.le_refl _
    · rw [List.filter_cons_of_pos (by simpa using hd), zWt_cons, zWt_cons]
      have := wt_filter ps h2 (fun q hq => h q (List.mem_cons_of_mem _ hq))
      omega
/-- cells at apart places weigh at most what the list weighs -/
theorem lr_weigh : ∀ (H : List Cell) (d : Nat) (ps : List (Nat × Nat)), (ps.map (fun p => p.1)).Nodup → (∀ p, p ∈ ps → d ≤ p.1 ∧ ∃ c : Cell, H[p.1 - d]? = some c ∧ c.slots.size = p.2) → zWt ps ≤ (H.map (fun c => c.slots.size)).sum
  | [], d, ps, hn, h => by
    cases ps with
    | nil => simp [zWt]
    | cons p ps =>
      obtain ⟨-, c, h1, -⟩ := h p List.mem_cons_self
      simp at h1
  | x :: H, d, ps, hn, h => by
    have h1 := wt_filter (d := d) (w := x.slots.size) ps hn (fun p hp e => by
      obtain ⟨-, c, h2, h3⟩ := h p hp
      rw [e, Nat.sub_self, List.getElem?_cons_zero] at h2
      cases h2
      exact h3.symm)
    have h2 := lr_weigh H (d + 1) (ps.filter (fun p => !(p.1 == d))) (List.Nodup.sublist (List.Sublist.map _ List.filter_sublist) hn) (fun p hp => by
      obtain ⟨hp1, hp2⟩ := List.mem_filter.mp hp
      obtain ⟨h3, c, h4, h5⟩ := h p hp1
      have hne : p.1 ≠ d := by simpa using hp2
      refine ⟨by omega, c, ?_, h5⟩
      rw [show p.1 - d = (p.1 - (d + 1)) + 1 by omega, List.getElem?_cons_succ] at h4
      exact h4)
    rw [List.map_cons, List.sum_cons]
    omega
/-- such a run is outside every frame of fewer slots -/
theorem lr_over {s t : State} {L : List Loc} {k n : Nat} (h : lr_many s t.heap) (hn : n < 9061536) : ¬ s.sameButNew t L k n := by
  rintro ⟨-, -, -, -, h5, -⟩
  obtain ⟨ps, h1, h2, h3⟩ := h
  have := lr_weigh (t.heap.toList.drop s.heap.size) s.heap.size ps h1 (fun p hp => by
    obtain ⟨h4, c, h6, h7⟩ := h3 p hp
    refine ⟨h4, c, ?_, h7⟩
    rw [List.getElem?_drop, show s.heap.size + (p.1 - s.heap.size) = p.1 by omega, Array.getElem?_toList]
    exact h6)
  rw [h2] at this
  omega
end
section
/-! THE STATEMENT IS FALSE AS PRINTED: at the printed start, on the least machine of its launch, with a script of 33 digests (198 ints) in the place of its script -/
def rf_xs : List Int32 := (List.range 198).map (fun i => if i % 6 = 0 then 34 else 0)
def rf_cells : Array Value := (rf_xs.map Value.int).toArray
def rf_s : State := start1.aboutOf rf_cells
def rf_e : Env := launch0.env 0 0 0
theorem rf_len : rf_xs.length = 198 := by simp [rf_xs]
theorem rf_34 : ∀ j : Nat, j < 33 → rf_xs.getD (6 * j) 0 = 34 := by decide +kernel
set_option maxRecDepth 100000 in
theorem rf_rest_words : (tables_1.filter (fun c => !c.onTables)).all (fun c => c.before start1.args0 rf_s) = true := by decide +kernel
theorem rf_words : ∀ c ∈ (Jvm.Cond.code x code maxLocals ret :: tables_1), c.before start1.args0 rf_s = true := by
  intro c hc
  by_cases h : c.onTables = true
  · exact va_tabs h (show start1.about.vm = rf_s.vm from rfl) (start1.words c hc)
  · rcases List.mem_cons.mp hc with e | hm
    · subst e
      exact absurd rfl h
    · exact List.all_eq_true.mp rf_rest_words c (List.mem_filter.mpr ⟨hm, by simpa using h⟩)
set_option maxRecDepth 100000 in
theorem rf_fit : argsFit rf_s.vm ⟨0, 0⟩ start1.args0 = true := by decide +kernel
set_option maxRecDepth 100000 in
theorem rf_heap : heapFits rf_s = true := by decide +kernel
set_option maxRecDepth 100000 in
theorem rf_rest : rest_1_c.before start1.args0 rf_s = true := by decide +kernel
set_option maxRecDepth 100000 in
theorem rf_pre : (Jvm.Cond.and given_1 narrow_1).before start1.args0 rf_s = true := by decide +kernel
theorem rf_cell : rf_s.heap[0]? = some ({ cls := 23, slots := rf_cells, vm := .none } : Cell) := rfl
set_option maxRecDepth 100000 in
theorem rf_ap1 : (headSpec (Jvm.Cond.code x code maxLocals ret :: tables_1) room_1).applies x rf_e.platform rf_s = true :=
  (Spec.applies_iff (s := rf_s) (m := ⟨0, 0⟩) (args := start1.args0) (below := Lib.HandBits.below0) rfl).mpr ⟨rfl, rfl, rfl, by decide +kernel, by decide +kernel, by decide +kernel, State.hasRoom_of rfl (by decide +kernel) (by decide +kernel) (by decide +kernel) (by decide +kernel) (by decide +kernel) (by decide +kernel), atoms_intro rf_words⟩
set_option maxRecDepth 100000 in
theorem rf_ap2 : (headSpec (Jvm.Cond.code x code maxLocals ret :: tables_1) lr_room).applies x rf_e.platform rf_s = true :=
  (Spec.applies_iff (s := rf_s) (m := ⟨0, 0⟩) (args := start1.args0) (below := Lib.HandBits.below0) rfl).mpr ⟨rfl, rfl, rfl, by decide +kernel, by decide +kernel, by decide +kernel, State.hasRoom_of rfl (by decide +kernel) (by decide +kernel) (by decide +kernel) (by decide +kernel) (by decide +kernel) (by decide +kernel), atoms_intro rf_words⟩
theorem rf_ints : rf_s.IntsAt 0 rf_xs := by
  have hs := flat_of_before _ rf_pre
  have hq := flat_of_before _ rf_rest
  have harr : (Cond.arrayOf (.arg 0) .int).before start1.args0 rf_s = true := hs _ (by decide +kernel)
  have hlen : (Cond.isInt (.length (.arg 0))).before start1.args0 rf_s = true := hq _ (by decide +kernel)
  have hall : (Cond.all (.arg 0) (.isInt (.elem (.arg 0) (.index 0)))).before start1.args0 rf_s = true := hq _ (by decide +kernel)
  obtain ⟨b, xs, hb, hx⟩ := State.ints_of_pre rfl harr hlen hall
  have hb0 : b = 0 := by
    have h1 : some (Value.ref 0) = some (Value.ref b) := hb
    cases h1
    rfl
  subst hb0
  obtain ⟨cell, h1, h2, h3, h4⟩ := hx
  obtain ⟨hcb, -, -, -⟩ := State.arrayAt?_spec h1
  rw [rf_cell] at hcb
  cases hcb
  exact ⟨_, h1, rfl, h3, by rw [rf_len]; decide⟩
/-- what the run from this start comes to -/
theorem rf_run : ∃ (n : Nat) (o : Outcome), (∀ k, k < n → Within (stepsAlone start1.p0.tables rf_e k rf_s) Lib.HandBits.below0) ∧ (stepsAlone start1.p0.tables rf_e n rf_s).status = Status.running ∧ Ended (stepsAlone start1.p0.tables rf_e n rf_s) Lib.HandBits.below0 o ∧ lr_many rf_s (stepsAlone start1.p0.tables rf_e n rf_s).heap := by
  obtain ⟨n, o, hin, hrun, hend, hQ⟩ := lr_comes launch0 rf_xs rf_len rf_34 0 start1.p0 rf_e (launch0.admits_env 0 0 0) fairChoices_fair.cas fairChoices_fair.clock rf_s ⟨0, 0⟩ start1.args0 Lib.HandBits.below0 rfl rf_fit rf_heap rf_ap2 ⟨rfl, rf_ints, rf_pre⟩
  exact ⟨n, o, hin, hrun, hend, hQ⟩
/-- an arm whose end keeps a frame of fewer than 9,061,536 slots falls there -/
theorem rf_falls {Post : Tables → Env → Array Value → State → Outcome → State → Prop} {L : Array Value → State → List Loc} {k n : Nat} (hn : n < 9061536) (hPost : ∀ tb e a s o t, Post tb e a s o t → State.butDraws s t [Jvm.Choice.named "NaN.bits"] (fun t1 => Framed s o t1 (L a s) k n)) :
    FallsFor flags0 classFile x code maxLocals ret World_1 tables_1 room_1 Calls_1 rest_1 Pre_1 Post := by
  obtain ⟨i, o, hin, hrun, hend, hQ⟩ := rf_run
  refine ⟨launch0, start1.p0, rf_e, rf_s, ⟨0, 0⟩, start1.args0, Lib.HandBits.below0, rfl, ⟨lists_1, trivial, launch0.admits_env 0 0 0, launch0.least_env, fairChoices_fair.cas, fairChoices_fair.clock, rfl, rf_fit, rf_heap, rf_ap1, trivial, rf_rest, rf_pre⟩, i, o, hin, hrun, hend, fun hpost => ?_⟩
  obtain ⟨hF, -, -⟩ := hPost _ _ _ _ _ _ hpost
  obtain ⟨-, -, hsame⟩ := hF
  refine absurd hsame (lr_over ?_ hn)
  exact hQ
theorem refuted_1_1 : RefutedClaimed_1_1 := rf_falls (by decide) (fun _ _ _ _ _ _ h => h.2)
theorem refuted_1_2 : RefutedClaimed_1_2 := rf_falls (by decide) (fun _ _ _ _ _ _ h => h.2)
theorem rf_not {Post : Tables → Env → Array Value → State → Outcome → State → Prop} (hF : FallsFor flags0 classFile x code maxLocals ret World_1 tables_1 room_1 Calls_1 rest_1 Pre_1 Post) : ¬ ArmFor flags0 classFile x code maxLocals ret World_1 tables_1 room_1 Calls_1 rest_1 Pre_1 Post := by
  intro hA
  obtain ⟨l, p, e, s, m, args, below, hfl, ⟨hL, hW, had, -, hcas, hclk, hfr, hfit, hheap, happ, hcalls, hrest, hpre⟩, i, o, hin, -, hend, hnot⟩ := hF
  obtain ⟨j, q, hin', -, hend', hpost⟩ := hA l hfl hL hW p e had hcas hclk s m args below hfr hfit hheap happ ⟨hcalls, hrest, hpre⟩
  have hij : i = j := by
    rcases Nat.lt_trichotomy i j with h | h | h
    · exact absurd (hin' i h) hend.not_within
    · exact h
    · exact absurd (hin j h) hend'.not_within
  subst hij
  have hoq := hend.outcome_unique hend'
  subst hoq
  exact hnot hpost
theorem not_claimed_1_1 : ¬ Claimed_1_1 := rf_not refuted_1_1
theorem not_claimed_1_2 : ¬ Claimed_1_2 := rf_not refuted_1_2
end
