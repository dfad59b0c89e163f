/-! methods that throw, and that catch -/
abbrev eIAE : String := "java/lang/IllegalArgumentException"
abbrev eISE : String := "java/lang/IllegalStateException"
abbrev eIOB : String := "java/lang/IndexOutOfBoundsException"
def zxN : List String := ["java/lang/RuntimeException", "java/lang/Exception"]
def zThr (cls : String) (ik ic : Nat) : Prop := Cond.classLink RX6 ik cls ∈ zWS ∧ Cond.initialized cls ∈ zWS ∧ Bundle.fit cls = true ∧ (∀ w ∈ vx_atS RX6 ic cls zxN, w ∈ zWS ∨ w ∈ zNG) ∧ (∀ w ∈ Cond.classLink RX6 ik cls :: Cond.initialized cls :: vx_atS RX6 ic cls zxN, vx_ot w = true)
theorem zat_of {ic : Nat} {cls : String} (h1 : ∀ w ∈ (vx_atS RX6 ic cls zxN).filter goodWord, w ∈ lw_tbl) (h2 : ∀ w ∈ (vx_atS RX6 ic cls zxN).filter (fun w => !goodWord w), w ∈ zNG) : ∀ w ∈ vx_atS RX6 ic cls zxN, w ∈ zWS ∨ w ∈ zNG := by
  intro w hw
  by_cases hg : goodWord w = true
  · exact Or.inl (List.mem_filter.mpr ⟨h1 w (List.mem_filter.mpr ⟨hw, hg⟩), hg⟩)
  · exact Or.inr (h2 w (List.mem_filter.mpr ⟨hw, by simpa using hg⟩))
set_option maxRecDepth 100000 in
theorem thr_A : zThr eIAE 59 63 := ⟨m_513, m_47, by decide +kernel, zat_of (by decide +kernel) (by decide +kernel), by decide +kernel⟩
set_option maxRecDepth 100000 in
theorem thr_S : zThr eISE 297 301 := ⟨m_610, m_48, by decide +kernel, zat_of (by decide +kernel) (by decide +kernel), by decide +kernel⟩
set_option maxRecDepth 100000 in
theorem thr_B : zThr eIOB 238 242 := ⟨m_650, m_49, by decide +kernel, zat_of (by decide +kernel) (by decide +kernel), by decide +kernel⟩
theorem zxN_fit : ∀ n ∈ zxN, Bundle.fit n = true := by decide +kernel
abbrev zXC (D : va_G) (N0 : Nat) (pX : String → zM → Prop) : String → State → State → Prop := vx_X (S := String × zM) (fun u => pX u.1 u.2) (fun E u t => u.1 = E ∧ zH D N0 u.2 t.heap) (fun q => N0 ≤ q)
abbrev zxMet (l : Launch) (y : MethodName) (cc : ByteArray) (maxL : Nat) (ret : Option FieldType) (rm : Room) (D : va_G) (N0 : Nat) (av : List Value) (μ : zM) (Qc : Array Value → State → Outcome → State → Prop) (pX : String → zM → Prop) : Prop := vx_Met l y [Cond.code y cc maxL ret] rm (zPre D N0 av μ) Qc (zXC D N0 pX) rm.cells rm.slots (fun q => N0 ≤ q)
abbrev zwMet (l : Launch) (y : MethodName) (cc : ByteArray) (maxL : Nat) (ret : Option FieldType) (hh : List (Nat × Nat × Nat × Nat)) (rm : Room) (D : va_G) (N0 : Nat) (av : List Value) (μ : zM) (Qc : Array Value → State → Outcome → State → Prop) : Prop := vx_Met l y [Cond.codeWith y cc maxL ret hh] rm (zPre D N0 av μ) Qc (zXC D N0 (fun _ _ => False)) rm.cells rm.slots (fun q => N0 ≤ q)
def zxEnd (X : zX) (ret : Option FieldType) (k0 n0 : Nat) (Qc : Array Value → State → Outcome → State → Prop) (pX : String → zM → Prop) : Prop :=
  match X with
  | (p, l, e, R, s, m, args, below, meth, c, D, N0, Q) => meth.sig.returnType = ret ∧ Q = vx_MQ below Qc (zXC D N0 pX) args s k0 n0 (fun q => N0 ≤ q)
def zTab (X : zX) (hh : List (Nat × Nat × Nat × Nat)) : Prop :=
  match X with
  | (p, l, e, R, s, m, args, below, meth, c, D, N0, Q) => c.exceptionTable.toList = tableOf hh
theorem zent_ok {ls : Array Slot} {av : List Value} {maxL : Nat} (hfit : (zarg av).length ≤ maxL) (hle : lv_has ls maxL (lv_args 0 av)) : zL ls (zent av maxL) := by
  refine zL.of hle ?_ ?_
  · unfold zent
    simp
    omega
  · intro i v hv
    unfold zent at hv
    have h1 : i < (zarg av).length := by
      rcases Nat.lt_or_ge i (zarg av).length with q | q
      · exact q
      · rw [List.getElem?_append_right q] at hv
        rw [List.getElem?_replicate] at hv
        split at hv <;> simp at hv
    rw [List.getElem?_append_left h1] at hv
    have := zarg_in av 0 i v hv
    rwa [Nat.zero_add] at this
theorem zxMet_of {l : Launch} {y : MethodName} {cc : ByteArray} {maxL : Nat} {ret : Option FieldType} {rm : Room} {D : va_G} {N0 : Nat} {av : List Value} {μ : zM} {Qc : Array Value → State → Outcome → State → Prop} {pX : String → zM → Prop} (hy : plainName y.cls = true) (hfit : (zarg av).length ≤ maxL)
    (body : ∀ X : zX, zC X l D N0 cc maxL y.cls zWS → zR X rm.cells rm.slots rm.frames rm.locals → zTab X [] → zxEnd X ret rm.cells rm.slots Qc pX → Z X μ 0 0 0 (zent av maxL) []) : zxMet l y cc maxL ret rm D N0 av μ Qc pX := by
  refine vx_ofW (cc := cc) (maxL := maxL) (ret := ret) hy rfl ?_
  intro p e s m args below meth c s₁ B hml htab hv
  obtain ⟨rfl, hH, hB⟩ := hv
  have hown : s.vm.findClass y.cls = some m.cls := findClass_of_methodNamed B.named
  have ht0 : c.exceptionTable.toList = [] := by
    cases h : c.exceptionTable.toList with
    | nil => rfl
    | cons a t => exact (htab a (by rw [h]; exact List.mem_cons_self)).elim
  have h := body (p, l, e, (headSpec [Cond.code y cc maxL ret] rm).room, s, m, av.toArray, below, meth, c, D, N0, vx_MQ below Qc (zXC D N0 pX) av.toArray s rm.cells rm.slots (fun q => N0 ≤ q)) ⟨rfl, rfl, rfl, B.exec, B.bytes, hml, hown, fun w hw => hB.2.2.2.1 w hw _, B.notSynchronized, hB⟩ ⟨Nat.le_refl _, Nat.le_refl _, Nat.le_refl _, Nat.le_refl _⟩ ht0 ⟨B.returns, rfl⟩
  have hle := lv_entry av (n := maxL) (by rw [← zarg_len]; exact hfit)
  rw [lg_entry_eq]
  exact h s.heap [] 0 0 _ hH va_S.rf (Nat.le_refl _) (Nat.le_refl _) (zent_ok hfit hle)
theorem zwMet_of {l : Launch} {y : MethodName} {cc : ByteArray} {maxL : Nat} {ret : Option FieldType} {hh : List (Nat × Nat × Nat × Nat)} {rm : Room} {D : va_G} {N0 : Nat} {av : List Value} {μ : zM} {Qc : Array Value → State → Outcome → State → Prop} (hy : plainName y.cls = true) (hfit : (zarg av).length ≤ maxL) (hw : Cond.codeWith y cc maxL ret hh ∈ zWS)
    (body : ∀ X : zX, zC X l D N0 cc maxL y.cls zWS → zR X rm.cells rm.slots rm.frames rm.locals → zTab X hh → zxEnd X ret rm.cells rm.slots Qc (fun _ _ => False) → Z X μ 0 0 0 (zent av maxL) []) : zwMet l y cc maxL ret hh rm D N0 av μ Qc := by
  refine vx_ofWH (cc := cc) (maxL := maxL) (ret := ret) (hh := hh) hy rfl ?_
  intro p e s m args below meth c s₁ B hml hv
  obtain ⟨rfl, hH, hB⟩ := hv
  have hown : s.vm.findClass y.cls = some m.cls := findClass_of_methodNamed B.named
  have ht0 : c.exceptionTable.toList = tableOf hh := vx_table (x := y) B (hB.2.2.2.1 _ hw _)
  have h := body (p, l, e, (headSpec [Cond.codeWith y cc maxL ret hh] rm).room, s, m, av.toArray, below, meth, c, D, N0, vx_MQ below Qc (zXC D N0 (fun _ _ => False)) av.toArray s rm.cells rm.slots (fun q => N0 ≤ q)) ⟨rfl, rfl, rfl, B.exec, B.bytes, hml, hown, fun w hw => hB.2.2.2.1 w hw _, B.notSynchronized, hB⟩ ⟨Nat.le_refl _, Nat.le_refl _, Nat.le_refl _, Nat.le_refl _⟩ ht0 ⟨B.returns, rfl⟩
  have hle := lv_entry av (n := maxL) (by rw [← zarg_len]; exact hfit)
  rw [lg_entry_eq]
  exact h s.heap [] 0 0 _ hH va_S.rf (Nat.le_refl _) (Nat.le_refl _) (zent_ok hfit hle)
/-- an exception of the class En is under way at a place of the code -/
def ZX (X : zX) (μ : zM) (k n pc : Nat) (L : List (Option Value)) (En : String) : Prop :=
  match X with
  | (p, l, e, R, s, m, args, below, meth, c, D, N0, Q) => ∀ (H : Heap) (locs : List Loc) (cells slots : Nat) (ls : Array Slot) (ce : Cell) (q9 : Addr) (rest : List Value), zH D N0 μ H → va_S (fun q => N0 ≤ q) s.heap H locs → cells ≤ k → slots ≤ n → zL ls L → H[q9]? = some ce → ce.vm = .none → s.vm.findClass En = some ce.cls → vx_W p l e R s m args below meth c H locs cells slots Q (F0 m pc ls rest) q9
def zxRun (X : zX) (μ : zM) (kc kn mc ms pc : Nat) (L : List (Option Value)) (st rest : List Value) (Qa : State → Outcome → State → Prop) (XC : String → State → State → Prop) : Prop :=
  match X with
  | (p, l, e, R, s, m, args, below, meth, c, D, N0, Q) => ∀ (H : Heap) (locs : List Loc) (cells slots : Nat) (ls : Array Slot), zH D N0 μ H → va_S (fun q => N0 ≤ q) s.heap H locs → cells ≤ kc → slots ≤ kn → zL ls L → vx_Run p l e R s m args below meth c H locs cells slots mc ms (F0 m pc ls st) rest Qa XC (fun q => N0 ≤ q)
section ZXROWS
variable {X : zX} {l : Launch} {D : va_G} {N0 : Nat} {cc : ByteArray} {nL : Nat} {own : String} {Ts : List Cond} {μ : zM} {kc kn pc : Nat} {L L' : List (Option Value)} {st : List Value} {ret : Option FieldType} {k0 n0 : Nat} {Qc : Array Value → State → Outcome → State → Prop} {pX pX1 : String → zM → Prop}
variable {rk rn rf rw : Nat} {y : MethodName} {bytes : ByteArray} {maxL n index : Nat} {rm : Room} {b ci : Nat} {fs As rest : List Value} {CN : String} {T : u_T} {N : Nat} {ret1 : Option FieldType} {Qc1 : Array Value → State → Outcome → State → Prop}
/-- a plain end of a method that might have thrown -/
theorem zx_ret (C : zC X l D N0 cc nL own Ts) (E : zxEnd X ret k0 n0 Qc pX) (k : ∀ X2 : zX, zC X2 l D N0 cc nL own Ts → zEnd X2 ret k0 n0 Qc → Z X2 μ kc kn pc L st) : Z X μ kc kn pc L st := by
  obtain ⟨p, l', e, R, s, m, args, below, meth, c, D', N', Q⟩ := X
  obtain ⟨rfl, rfl, rfl, hx, hb, hml, hown, hts, hlk, hB⟩ := C
  obtain ⟨hr, rfl⟩ := E
  intro H locs cells slots ls hH hS hc1 hs1 hl
  exact vx_ret (k (p, l', e, R, s, m, args, below, meth, c, D', N', MQ below Qc args s k0 n0 (fun q => N' ≤ q)) ⟨rfl, rfl, rfl, hx, hb, hml, hown, hts, hlk, hB⟩ ⟨hr, rfl⟩ H locs cells slots ls hH hS hc1 hs1 hl)
theorem zx_throwW (C : zC X l D N0 cc nL RX6 zWS) (Rm : zR X rk rn rf rw) (Tb : zTab X []) (E : zxEnd X ret k0 n0 Qc pX) (hl0 : l.stackTraces = false) {cls text : String} {ik ic is : Nat} (t : zThr cls ik ic) (hst : (is, text) ∈ zST) (d0 : decode cc pc = .ok (.new ik, 3)) (d3 : decode cc (pc + 3) = .ok (.dup, 1)) (d4 : decode cc (pc + 4) = .ok (.ldc_w is, 3)) (d7 : decode cc (pc + 7) = .ok (.invokespecial ic, 3)) (d10 : decode cc (pc + 10) = .ok (.athrow, 1)) (hLn : L.length = nL) (hroom : 5 < rf ∧ (st.map fun v => v.category).sum + 82 ≤ rw ∧ kc + 1 ≤ rk ∧ kn + 6 ≤ rn) (hroom2 : kc + 1 ≤ k0 ∧ kn + 6 ≤ n0) (hp : pX cls μ) : Z X μ kc kn pc L st := by
  obtain ⟨p, l', e, R, s, m, args, below, meth, c, D', N', Q⟩ := X
  obtain ⟨rfl, rfl, rfl, hx, hb, hml, hown, hts, hlk, hB⟩ := C
  obtain ⟨hr, rfl⟩ := E
  obtain ⟨r1, r2, r3, r4⟩ := Rm
  obtain ⟨g1, g2, g3, g4⟩ := hroom
  obtain ⟨t1, t2, t3, t4, t5⟩ := t
  obtain ⟨sa, hsa⟩ := hB.2.2.2.2.2.2.1 _ hst
  have htab : c.exceptionTable.toList = [] := Tb
  intro H locs cells slots ls hH hS hc1 hs1 hl
  refine vx_throwSW hx hb hl0 hown t3 zxN_fit (hts _ t1) (hts _ t2) hsa (fun w hw => (t4 w hw).elim (fun h => hts _ h) (fun h => ?_)) t5 hB.2.1.1 hB.2.1.2 hS (hl.1.trans (hLn.trans hml.symm)) d0 d3 d4 d7 d10 (fun x hx9 => by rw [htab] at hx9; cases hx9) (Nat.lt_of_lt_of_le g1 r3) (Nat.le_trans g2 r4) (Nat.le_trans (Nat.le_trans (Nat.add_le_add_right hc1 _) g3) r1) (Nat.le_trans (Nat.le_trans (Nat.add_le_add_right hs1 _) g4) r2) hlk (fun t9 hal hz hk => ?_) hS.2.2 (Nat.le_trans (Nat.add_le_add_right hc1 _) hroom2.1) (Nat.le_trans (Nat.add_le_add_right hs1 _) hroom2.2)
  · have h9 := hB.2.2.2.2.2.1 _ h
    simp only [zNG, List.mem_cons, List.not_mem_nil, or_false] at h
    rcases h with rfl | rfl | rfl | rfl | rfl | rfl | rfl | rfl | rfl <;> exact va_Nw.use rfl h9
  · refine ⟨(cls, μ), hp, ⟨rfl, hH.kept (fun a e9 ha => hk a (hH.lt ha))⟩, ⟨Nat.le_trans hS.1 hz, fun q h1 h2 => (hk q (Nat.lt_of_lt_of_le h1 hS.1)).trans (hS.2.1 q h1 h2)⟩⟩
theorem zx_throwS (C : zC X l D N0 cc nL RX6 zWS) (Rm : zR X rk rn rf rw) (Tb : zTab X []) (E : zxEnd X ret k0 n0 Qc pX) (hl0 : l.stackTraces = false) {cls text : String} {ik ic is : Nat} (t : zThr cls ik ic) (hst : (is, text) ∈ zST) (d0 : decode cc pc = .ok (.new ik, 3)) (d3 : decode cc (pc + 3) = .ok (.dup, 1)) (d4 : decode cc (pc + 4) = .ok (.ldc is, 2)) (d6 : decode cc (pc + 6) = .ok (.invokespecial ic, 3)) (d9 : decode cc (pc + 9) = .ok (.athrow, 1)) (hLn : L.length = nL) (hroom : 5 < rf ∧ (st.map fun v => v.category).sum + 82 ≤ rw ∧ kc + 1 ≤ rk ∧ kn + 6 ≤ rn) (hroom2 : kc + 1 ≤ k0 ∧ kn + 6 ≤ n0) (hp : pX cls μ) : Z X μ kc kn pc L st := by
  obtain ⟨p, l', e, R, s, m, args, below, meth, c, D', N', Q⟩ := X
  obtain ⟨rfl, rfl, rfl, hx, hb, hml, hown, hts, hlk, hB⟩ := C
  obtain ⟨hr, rfl⟩ := E
  obtain ⟨r1, r2, r3, r4⟩ := Rm
  obtain ⟨g1, g2, g3, g4⟩ := hroom
  obtain ⟨t1, t2, t3, t4, t5⟩ := t
  obtain ⟨sa, hsa⟩ := hB.2.2.2.2.2.2.1 _ hst
  have htab : c.exceptionTable.toList = [] := Tb
  intro H locs cells slots ls hH hS hc1 hs1 hl
  refine vx_throwS hx hb hl0 hown t3 zxN_fit (hts _ t1) (hts _ t2) hsa (fun w hw => (t4 w hw).elim (fun h => hts _ h) (fun h => ?_)) t5 hB.2.1.1 hB.2.1.2 hS (hl.1.trans (hLn.trans hml.symm)) d0 d3 d4 d6 d9 (fun x hx9 => by rw [htab] at hx9; cases hx9) (Nat.lt_of_lt_of_le g1 r3) (Nat.le_trans g2 r4) (Nat.le_trans (Nat.le_trans (Nat.add_le_add_right hc1 _) g3) r1) (Nat.le_trans (Nat.le_trans (Nat.add_le_add_right hs1 _) g4) r2) hlk (fun t9 hal hz hk => ?_) hS.2.2 (Nat.le_trans (Nat.add_le_add_right hc1 _) hroom2.1) (Nat.le_trans (Nat.add_le_add_right hs1 _) hroom2.2)
  · have h9 := hB.2.2.2.2.2.1 _ h
    simp only [zNG, List.mem_cons, List.not_mem_nil, or_false] at h
    rcases h with rfl | rfl | rfl | rfl | rfl | rfl | rfl | rfl | rfl <;> exact va_Nw.use rfl h9
  · refine ⟨(cls, μ), hp, ⟨rfl, hH.kept (fun a e9 ha => hk a (hH.lt ha))⟩, ⟨Nat.le_trans hS.1 hz, fun q h1 h2 => (hk q (Nat.lt_of_lt_of_le h1 hS.1)).trans (hS.2.1 q h1 h2)⟩⟩
/-- an exception that goes on to the caller -/
theorem zx_prop (C : zC X l D N0 cc nL own Ts) (Tb : zTab X []) (E : zxEnd X ret k0 n0 Qc pX) {En : String} (hroom : kc ≤ k0 ∧ kn ≤ n0) (hp : pX En μ) : ZX X μ kc kn pc L En := by
  obtain ⟨p, l', e, R, s, m, args, below, meth, c, D', N', Q⟩ := X
  obtain ⟨rfl, rfl, rfl, hx, hb, hml, hown, hts, hlk, hB⟩ := C
  obtain ⟨hr, rfl⟩ := E
  have htab : c.exceptionTable.toList = [] := Tb
  intro H locs cells slots ls ce q9 rest hH hS hc1 hs1 hl hce hv hcl
  exact vx_out (fun x hx9 => by rw [htab] at hx9; cases hx9) hlk hce hv hcl (fun t9 ht hal => ⟨(En, μ), hp, ⟨rfl, by show zH _ _ μ t9.heap; rw [ht]; exact hH⟩, hS.F ht⟩) hS.2.2 (Nat.le_trans hc1 hroom.1) (Nat.le_trans hs1 hroom.2)
/-- an exception that is caught -/
theorem zx_catch (C : zC X l D N0 cc nL own zWS) {hh : List (Nat × Nat × Nat × Nat)} (Tb : zTab X hh) {En : String} (pre : List (Nat × Nat × Nat × Nat)) (x : Nat × Nat × Nat × Nat) (suf : List (Nat × Nat × Nat × Nat)) (hsp : hh = pre ++ x :: suf) (hpass : ∀ z ∈ pre, z.2.2.2 ≠ 0 ∧ ∃ nm, Cond.classLink own z.2.2.2 nm ∈ zWS ∧ (En, nm) ∈ zNC) (hcov : x.1 ≤ pc ∧ pc < x.2.1) (h0 : x.2.2.2 ≠ 0) (hlink : Cond.classLink own x.2.2.2 En ∈ zWS) (hcast : Cond.castable En En ∈ zNG) (k : ∀ q : Nat, Z X μ kc kn x.2.2.1 L [.ref q]) : ZX X μ kc kn pc L En := by
  obtain ⟨p, l', e, R, s, m, args, below, meth, c, D', N', Q⟩ := X
  obtain ⟨rfl, rfl, rfl, hx, hb, hml, hown, hts, hlk, hB⟩ := C
  have htab : c.exceptionTable.toList = tableOf hh := Tb
  intro H locs cells slots ls ce q9 rest hH hS hc1 hs1 hl hce hv hcl
  refine vx_catch hown (tableOf pre) ⟨x.1, x.2.1, x.2.2.1, x.2.2.2⟩ (tableOf suf) (by rw [htab, hsp]; unfold tableOf; rw [List.map_append, List.map_cons]) (fun z hz => ?_) (by simp [covers, hcov.1, hcov.2]) h0 (hts _ hlink) (va_Nw.use rfl (hB.2.2.2.2.2.1 _ hcast)) hce hv hcl (k q9 H locs cells slots ls hH hS hc1 hs1 hl)
  obtain ⟨z0, hz0, rfl⟩ := List.mem_map.mp hz
  obtain ⟨g1, nm, g2, g3⟩ := hpass z0 hz0
  exact Or.inr ⟨g1, nm, hts _ g2, hB.2.2.2.2.2.2.2.2.2 _ g3⟩
theorem zx_rV (C : zC X l D N0 cc nL own zWS) (Rm : zR X rk rn rf rw) (q : zCalV CN y bytes maxL ret1 n) (w1 : Cond.methodLink own index y ∈ zWS) (hM : zxMet l y bytes maxL ret1 rm D N0 (.ref b :: As) μ Qc1 pX1) (hob : μ b = some (.inr (ci, fs))) (hcl : vwCl[ci]? = some (CN, T, N)) (d : decode cc pc = .ok (.invokevirtual index, 3)) (hst : st = As.reverse ++ .ref b :: rest) (hn : As.length = n) (hcat : (rest.map fun v => v.category).sum ≤ 8) (hLn : L.length = nL) (hroom : rm.frames + 1 ≤ rf ∧ 8 + (maxL + 11) + rm.locals ≤ rw ∧ kc + rm.cells ≤ rk ∧ kn + rm.slots ≤ rn) : zxRun X μ kc kn rm.cells rm.slots pc L st rest (Qc1 (Value.ref b :: As).toArray) (zXC D N0 pX1) := by
  obtain ⟨p, l', e, R, s, m, args, below, meth, c, D', N', Q⟩ := X
  obtain ⟨rfl, rfl, rfl, hx, hb, hml, hown, hts, hlk, hB⟩ := C
  obtain ⟨r1, r2, r3, r4⟩ := Rm
  obtain ⟨g1, g2, g3, g4⟩ := hroom
  obtain ⟨q1, q2, q3, q4, q5, q6, q7⟩ := q
  intro H locs cells slots ls hH hS hc1 hs1 hl
  exact vx_runV (C := CN) (As := As) (rest := rest) ⟨hx, hb, hml, hown, hts⟩ hM ⟨⟨rfl, rfl, Nat.le_trans g1 r3, Nat.le_trans g2 r4, zpay hB q4, List.mem_singleton.mpr rfl, hts _ q4, hts _ q3, ⟨q5, q6⟩, zn q7, hts _ w1⟩, hts _ q1, hts _ q2⟩ ⟨zPre_blind, va_recv hB.1 (hH.one hob) (ci := ci) (q0 := 0) hcl rfl, fun U hU hW => ⟨rfl, by rw [hU]; exact hH, hB.moved hW (by rw [hU]; exact hS)⟩⟩ rfl hn (hl.1.trans hLn) hst (lv_room hcat) d ⟨Nat.le_trans (Nat.le_trans (Nat.add_le_add_right hc1 _) g3) r1, Nat.le_trans (Nat.le_trans (Nat.add_le_add_right hs1 _) g4) r2⟩
theorem zx_rS (C : zC X l D N0 cc nL own zWS) (Rm : zR X rk rn rf rw) (q : zCalS y bytes maxL ret1 n) (w1 : Cond.methodLink own index y ∈ zWS) (hM : zxMet l y bytes maxL ret1 rm D N0 As μ Qc1 pX1) (d : decode cc pc = .ok (.invokestatic index, 3)) (hst : st = As.reverse ++ rest) (hn : As.length = n) (hcat : (rest.map fun v => v.category).sum ≤ 8) (hLn : L.length = nL) (hroom : rm.frames + 1 ≤ rf ∧ 8 + (maxL + 11) + rm.locals ≤ rw ∧ kc + rm.cells ≤ rk ∧ kn + rm.slots ≤ rn) : zxRun X μ kc kn rm.cells rm.slots pc L st rest (Qc1 As.toArray) (zXC D N0 pX1) := by
  obtain ⟨p, l', e, R, s, m, args, below, meth, c, D', N', Q⟩ := X
  obtain ⟨rfl, rfl, rfl, hx, hb, hml, hown, hts, hlk, hB⟩ := C
  obtain ⟨r1, r2, r3, r4⟩ := Rm
  obtain ⟨g1, g2, g3, g4⟩ := hroom
  obtain ⟨q1, q3, q4, q5, q6, q7⟩ := q
  intro H locs cells slots ls hH hS hc1 hs1 hl
  exact vx_runS (As := As) (rest := rest) ⟨hx, hb, hml, hown, hts⟩ hM ⟨⟨rfl, rfl, Nat.le_trans g1 r3, Nat.le_trans g2 r4, zpay hB q4, List.mem_singleton.mpr rfl, hts _ q4, hts _ q3, ⟨q5, q6⟩, zn q7, hts _ w1⟩, hts _ q1⟩ ⟨zPre_blind, fun U hU hW => ⟨rfl, by rw [hU]; exact hH, hB.moved hW (by rw [hU]; exact hS)⟩⟩ rfl hn (hl.1.trans hLn) hst (lv_room hcat) d ⟨Nat.le_trans (Nat.le_trans (Nat.add_le_add_right hc1 _) g3) r1, Nat.le_trans (Nat.le_trans (Nat.add_le_add_right hs1 _) g4) r2⟩
/-- a static method with a table of its own -/
def zCalW (y : MethodName) (bytes : ByteArray) (maxL : Nat) (ret : Option FieldType) (hh : List (Nat × Nat × Nat × Nat)) (n : Nat) : Prop := Cond.static y ∈ zWS ∧ Cond.initialized y.cls ∈ zWS ∧ Cond.codeWith y bytes maxL ret hh ∈ zWS ∧ (y.cls ≠ "java/lang/invoke/MethodHandle" ∧ y.cls ≠ "java/lang/invoke/VarHandle" ∧ (parseMethodDescriptor y.desc).map (fun d => d.parameters.length) = some n)
theorem zx_rW {hh : List (Nat × Nat × Nat × Nat)} (C : zC X l D N0 cc nL own zWS) (Rm : zR X rk rn rf rw) (q : zCalW y bytes maxL ret1 hh n) (w1 : Cond.methodLink own index y ∈ zWS) (hM : zwMet l y bytes maxL ret1 hh rm D N0 As μ Qc1) (d : decode cc pc = .ok (.invokestatic index, 3)) (hst : st = As.reverse ++ rest) (hn : As.length = n) (hcat : (rest.map fun v => v.category).sum ≤ 8) (hLn : L.length = nL) (hroom : rm.frames + 1 ≤ rf ∧ 8 + (maxL + 11) + rm.locals ≤ rw ∧ kc + rm.cells ≤ rk ∧ kn + rm.slots ≤ rn) : zxRun X μ kc kn rm.cells rm.slots pc L st rest (Qc1 As.toArray) (zXC D N0 (fun _ _ => False)) := by
  obtain ⟨p, l', e, R, s, m, args, below, meth, c, D', N', Q⟩ := X
  obtain ⟨rfl, rfl, rfl, hx, hb, hml, hown, hts, hlk, hB⟩ := C
  obtain ⟨r1, r2, r3, r4⟩ := Rm
  obtain ⟨g1, g2, g3, g4⟩ := hroom
  obtain ⟨q1, q3, q4, q5, q6, q7⟩ := q
  intro H locs cells slots ls hH hS hc1 hs1 hl
  exact vx_runSX (As := As) (rest := rest) ⟨hx, hb, hml, hown, hts⟩ hM ⟨⟨rfl, rfl, Nat.le_trans g1 r3, Nat.le_trans g2 r4, fun w h a' U hW => by
      rw [List.mem_singleton] at h
      subst h
      exact word_at hW (good_of_word (List.mem_filter.mp q4).2) (hB.2.2.2.1 _ q4 #[]), List.mem_singleton.mpr rfl⟩, hts _ q4, hts _ q3, ⟨q5, q6⟩, zn q7, hts _ w1, hts _ q1⟩ ⟨zPre_blind, fun U hU hW => ⟨rfl, by rw [hU]; exact hH, hB.moved hW (by rw [hU]; exact hS)⟩⟩ rfl hn (hl.1.trans hLn) hst (lv_room hcat) d ⟨Nat.le_trans (Nat.le_trans (Nat.add_le_add_right hc1 _) g3) r1, Nat.le_trans (Nat.le_trans (Nat.add_le_add_right hs1 _) g4) r2⟩
variable {mc ms : Nat}
theorem zx_ci (C : zC X l D N0 cc nL own Ts) {post : Int → zM → Prop} {a : Array Value} (hr : zxRun X μ kc kn mc ms pc L st rest (zQI D N0 post a) (zXC D N0 pX1)) (kx : ∀ (En : String) (μ' : zM), pX1 En μ' → ZX X μ' (kc + mc) (kn + ms) pc L En) (kk : ∀ (z : Int) (μ' : zM), post z μ' → Z X μ' (kc + mc) (kn + ms) (pc + 3) L (zi z :: rest)) : Z X μ kc kn pc L st := by
  obtain ⟨p, l', e, R, s, m, args, below, meth, c, D', N', Q⟩ := X
  obtain ⟨rfl, rfl, rfl, hx, hb, hml, hown, hts, hlk, hB⟩ := C
  intro H locs cells slots ls hH hS hc1 hs1 hl
  refine vx_calli (hr H locs cells slots ls hH hS hc1 hs1 hl) hS (fun q _ h => h) (fun q h => h) (fun q _ h => h) (fun En ce q9 u t H1 locs1 ht hvm hpx hBX hz1 hk1 hS1 hce hv hcl => ?_) (fun r u t H1 locs1 ht hvm hw hB1 hz1 hk1 hS1 => ?_)
  · obtain ⟨rfl, hB2⟩ := hBX
    exact kx u.1 u.2 hpx H1 locs1 _ _ ls ce q9 rest (by rw [← ht]; exact hB2) hS1 (Nat.add_le_add_right hc1 _) (Nat.add_le_add_right hs1 _) hl hce hv hcl
  · obtain ⟨z, rfl, hp⟩ := hw
    exact kk z u hp H1 locs1 _ _ ls (by rw [← ht]; exact hB1) hS1 (Nat.add_le_add_right hc1 _) (Nat.add_le_add_right hs1 _) hl
theorem zx_cd (C : zC X l D N0 cc nL own Ts) {post : UInt64 → zM → Prop} {a : Array Value} (hr : zxRun X μ kc kn mc ms pc L st rest (zQD D N0 post a) (zXC D N0 pX1)) (kx : ∀ (En : String) (μ' : zM), pX1 En μ' → ZX X μ' (kc + mc) (kn + ms) pc L En) (kk : ∀ (z : UInt64) (μ' : zM), post z μ' → Z X μ' (kc + mc) (kn + ms) (pc + 3) L (.double z :: rest)) : Z X μ kc kn pc L st := by
  obtain ⟨p, l', e, R, s, m, args, below, meth, c, D', N', Q⟩ := X
  obtain ⟨rfl, rfl, rfl, hx, hb, hml, hown, hts, hlk, hB⟩ := C
  intro H locs cells slots ls hH hS hc1 hs1 hl
  refine vx_calld (hr H locs cells slots ls hH hS hc1 hs1 hl) hS (fun q _ h => h) (fun q h => h) (fun q _ h => h) (fun En ce q9 u t H1 locs1 ht hvm hpx hBX hz1 hk1 hS1 hce hv hcl => ?_) (fun r u t H1 locs1 ht hvm hp hB1 hz1 hk1 hS1 => ?_)
  · obtain ⟨rfl, hB2⟩ := hBX
    exact kx u.1 u.2 hpx H1 locs1 _ _ ls ce q9 rest (by rw [← ht]; exact hB2) hS1 (Nat.add_le_add_right hc1 _) (Nat.add_le_add_right hs1 _) hl hce hv hcl
  · exact kk r u hp H1 locs1 _ _ ls (by rw [← ht]; exact hB1) hS1 (Nat.add_le_add_right hc1 _) (Nat.add_le_add_right hs1 _) hl
theorem zx_cv (C : zC X l D N0 cc nL own Ts) {post : zM → Prop} {a : Array Value} (hr : zxRun X μ kc kn mc ms pc L st rest (zQV D N0 post a) (zXC D N0 pX1)) (kx : ∀ (En : String) (μ' : zM), pX1 En μ' → ZX X μ' (kc + mc) (kn + ms) pc L En) (kk : ∀ (μ' : zM), post μ' → Z X μ' (kc + mc) (kn + ms) (pc + 3) L rest) : Z X μ kc kn pc L st := by
  obtain ⟨p, l', e, R, s, m, args, below, meth, c, D', N', Q⟩ := X
  obtain ⟨rfl, rfl, rfl, hx, hb, hml, hown, hts, hlk, hB⟩ := C
  intro H locs cells slots ls hH hS hc1 hs1 hl
  refine vx_callv (hr H locs cells slots ls hH hS hc1 hs1 hl) hS (fun q _ h => h) (fun q h => h) (fun q _ h => h) (fun En ce q9 u t H1 locs1 ht hvm hpx hBX hz1 hk1 hS1 hce hv hcl => ?_) (fun u t H1 locs1 ht hvm hp hB1 hz1 hk1 hS1 => ?_)
  · obtain ⟨rfl, hB2⟩ := hBX
    exact kx u.1 u.2 hpx H1 locs1 _ _ ls ce q9 rest (by rw [← ht]; exact hB2) hS1 (Nat.add_le_add_right hc1 _) (Nat.add_le_add_right hs1 _) hl hce hv hcl
  · exact kk u hp H1 locs1 _ _ ls (by rw [← ht]; exact hB1) hS1 (Nat.add_le_add_right hc1 _) (Nat.add_le_add_right hs1 _) hl
theorem zx_cr (C : zC X l D N0 cc nL own Ts) {post : Nat → zM → Prop} {a : Array Value} (hr : zxRun X μ kc kn mc ms pc L st rest (zQR D N0 post a) (zXC D N0 pX1)) (kx : ∀ (En : String) (μ' : zM), pX1 En μ' → ZX X μ' (kc + mc) (kn + ms) pc L En) (kk : ∀ (q : Nat) (μ' : zM), post q μ' → Z X μ' (kc + mc) (kn + ms) (pc + 3) L (.ref q :: rest)) : Z X μ kc kn pc L st := by
  obtain ⟨p, l', e, R, s, m, args, below, meth, c, D', N', Q⟩ := X
  obtain ⟨rfl, rfl, rfl, hx, hb, hml, hown, hts, hlk, hB⟩ := C
  intro H locs cells slots ls hH hS hc1 hs1 hl T hT Xs
  rcases hr H locs cells slots ls hH hS hc1 hs1 hl T hT Xs with ⟨v, st₀, t, T', L9, h0, X', hL, e1, e2, ⟨⟨u, ra, hv, hp, hb9⟩, hF⟩, st9⟩ | ⟨q, st₀, t, T', L9, E, ce, h0, X', hL, e1, e2, ⟨u, hp, hb9, hF⟩, hce, hcv, hcl, st9⟩
  · cases hv
    obtain ⟨k1, k2, k3⟩ := vx_keep h0 e1 hS (fun q _ h => h) (fun q h => h) hL hF
    obtain ⟨h9, hB2⟩ := hb9
    rw [← h9] at st9
    obtain ⟨t2, a1, b1⟩ := kk u.1 u.2 hp T'.heap (locs ++ L9) _ _ ls (by rw [e1]; exact hB2) k3 (Nat.add_le_add_right hc1 _) (Nat.add_le_add_right hs1 _) hl T' rfl X'
    exact ⟨t2, st9 t2 a1, b1⟩
  · obtain ⟨k1, k2, k3⟩ := vx_keep h0 e1 hS (fun q _ h => h) (fun q h => h) hL hF
    obtain ⟨h9, hB2⟩ := hb9
    subst h9
    obtain ⟨t2, a1, b1⟩ := kx u.1 u.2 hp T'.heap (locs ++ L9) _ _ ls ce q rest (by rw [e1]; exact hB2) k3 (Nat.add_le_add_right hc1 _) (Nat.add_le_add_right hs1 _) hl (by rw [e1]; exact hce) hcv hcl T' rfl X'
    exact ⟨t2, st9.trans a1, b1⟩
end ZXROWS
