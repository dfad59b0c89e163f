/-! contracts over the whole memory, their entries, ends and calls -/
def zPre (D : va_G) (N0 : Nat) (av : List Value) (μ : zM) : Array Value → State → Prop := fun v U => v = av.toArray ∧ zH D N0 μ U.heap ∧ zB D N0 U
theorem zPre_blind {D : va_G} {N0 : Nat} {av : List Value} {μ : zM} : FrameBlind (zPre D N0 av μ) := fun a U g mk h => ⟨h.1, h.2.1, h.2.2.moved (U := U.calling g mk a) (State.WarmedH.refl U) va_S.rf⟩
abbrev zQI (D : va_G) (N0 : Nat) (post : Int → zM → Prop) : Array Value → State → Outcome → State → Prop := va_Qi (S := zM) (fun r u => ∃ z, r = Int32.ofInt z ∧ post z u) (fun u t => zH D N0 u t.heap) (fun q => N0 ≤ q)
abbrev zQL (D : va_G) (N0 : Nat) (post : Int64 → zM → Prop) : Array Value → State → Outcome → State → Prop := va_Ql (S := zM) post (fun u t => zH D N0 u t.heap) (fun q => N0 ≤ q)
abbrev zQD (D : va_G) (N0 : Nat) (post : UInt64 → zM → Prop) : Array Value → State → Outcome → State → Prop := va_Qd (S := zM) post (fun u t => zH D N0 u t.heap) (fun q => N0 ≤ q)
abbrev zQV (D : va_G) (N0 : Nat) (post : zM → Prop) : Array Value → State → Outcome → State → Prop := va_Qv (S := zM) post (fun u t => zH D N0 u t.heap) (fun q => N0 ≤ q)
abbrev zQR (D : va_G) (N0 : Nat) (post : Nat → zM → Prop) : Array Value → State → Outcome → State → Prop := va_Qr (S := Nat × zM) (fun u => post u.1 u.2) (fun u a t => u.1 = a ∧ zH D N0 u.2 t.heap) (fun q => N0 ≤ q)
/-- the contract of a method: y with its code, its room, its arguments, the memory ahead, what it answers -/
abbrev zMet (l : Launch) (y : MethodName) (cc : ByteArray) (maxL : Nat) (ret : Option FieldType) (rm : Room) (D : va_G) (N0 : Nat) (av : List Value) (μ : zM) (Qc : Array Value → State → Outcome → State → Prop) : Prop := Met l y [Cond.code y cc maxL ret] rm (zPre D N0 av μ) Qc rm.cells rm.slots (fun q => N0 ≤ q)
def zarg : List Value → List (Option Value)
  | [] => []
  | v :: vs => if v.category = 2 then some v :: none :: zarg vs else some v :: zarg vs
def zent (av : List Value) (n : Nat) : List (Option Value) := zarg av ++ List.replicate (n - (zarg av).length) none
theorem zarg_len : ∀ (vs : List Value), (zarg vs).length = (lg_sl vs).length
  | [] => rfl
  | v :: vs => by
    unfold zarg lg_sl
    rw [List.flatMap_cons]
    by_cases h : v.category = 2
    · rw [if_pos h, if_pos h]
      have := zarg_len vs
      unfold lg_sl at this
      simp [this]
    · rw [if_neg h, if_neg h]
      have := zarg_len vs
      unfold lg_sl at this
      simp [this]
theorem zarg_in : ∀ (vs : List Value) (i j : Nat) (v : Value), (zarg vs)[j]? = some (some v) → (i + j, v) ∈ lv_args i vs
  | [], i, j, v, h => by simp [zarg] at h
  | w :: vs, i, j, v, h => by
    unfold zarg at h
    unfold lv_args
    by_cases hc : w.category = 2
    · rw [if_pos hc] at h
      rw [if_pos hc]
      match j, h with
      | 0, h =>
        simp at h
        subst h
        exact List.mem_cons_self
      | 1, h => simp at h
      | j + 2, h =>
        have := zarg_in vs (i + 2) j v (by simpa using h)
        rw [show i + (j + 2) = i + 2 + j by omega]
        exact List.mem_cons_of_mem _ this
    · rw [if_neg hc] at h
      rw [if_neg hc]
      match j, h with
      | 0, h =>
        simp at h
        subst h
        exact List.mem_cons_self
      | j + 1, h =>
        have := zarg_in vs (i + 1) j v (by simpa using h)
        rw [show i + (j + 1) = i + 1 + j by omega]
        exact List.mem_cons_of_mem _ this
def zEnd (X : zX) (ret : Option FieldType) (k0 n0 : Nat) (Qc : Array Value → State → Outcome → State → Prop) : Prop :=
  match X with
  | (p, l, e, R, s, m, args, below, meth, c, D, N0, Q) => meth.sig.returnType = ret ∧ Q = MQ below Qc args s k0 n0 (fun q => N0 ≤ q)
def zName (X : zX) (y : MethodName) : Prop :=
  match X with
  | (p, l, e, R, s, m, args, below, meth, c, D, N0, Q) => meth.name = y.name
/-- a method's proof: from its first instruction to its end -/
theorem zMet_of {l : Launch} {y : MethodName} {cc : ByteArray} {maxL : Nat} {ret : Option FieldType} {rm : Room} {D : va_G} {N0 : Nat} {av : List Value} {μ : zM} {Qc : Array Value → State → Outcome → State → Prop} (hy : plainName y.cls = true) (hfit : (zarg av).length ≤ maxL)
    (body : ∀ X : zX, zC X l D N0 cc maxL y.cls zWS → zR X rm.cells rm.slots rm.frames rm.locals → zName X y → zEnd X ret rm.cells rm.slots Qc → Z X μ 0 0 0 (zent av maxL) []) : zMet l y cc maxL ret rm D N0 av μ Qc := by
  refine Met.ofW (cc := cc) (maxL := maxL) (ret := ret) hy rfl ?_
  intro p e s m args below meth c s₁ B hml hv
  obtain ⟨rfl, hH, hB⟩ := hv
  have hown : s.vm.findClass y.cls = some m.cls := findClass_of_methodNamed B.named
  have hin : meth.name = y.name := (name_of_methodNamed B.named B.method).1
  have h := body (p, l, e, (headSpec [Cond.code y cc maxL ret] rm).room, s, m, av.toArray, below, meth, c, D, N0, MQ below Qc av.toArray s rm.cells rm.slots (fun q => N0 ≤ q)) ⟨rfl, rfl, rfl, B.exec, B.bytes, hml, hown, fun w hw => hB.2.2.2.1 w hw _, B.notSynchronized, hB⟩ ⟨Nat.le_refl _, Nat.le_refl _, Nat.le_refl _, Nat.le_refl _⟩ hin ⟨B.returns, rfl⟩
  have hle := lv_entry av (n := maxL) (by rw [← zarg_len]; exact hfit)
  rw [lg_entry_eq]
  refine h s.heap [] 0 0 _ hH va_S.rf (Nat.le_refl _) (Nat.le_refl _) (zL.of hle ?_ ?_)
  · unfold zent
    simp
    omega
  · intro i v hv
    unfold zent at hv
    have h1 : i < (zarg av).length := by
      rcases Nat.lt_or_ge i (zarg av).length with q | q
      · exact q
      · rw [List.getElem?_append_right q] at hv
        rw [List.getElem?_replicate] at hv
        split at hv <;> simp at hv
    rw [List.getElem?_append_left h1] at hv
    have := zarg_in av 0 i v hv
    rwa [Nat.zero_add] at this
section ZENDS
variable {X : zX} {l : Launch} {D : va_G} {N0 : Nat} {cc : ByteArray} {nL : Nat} {own : String} {Ts : List Cond} {μ : zM} {kc kn pc : Nat} {L L' : List (Option Value)} {st : List Value}
theorem z_iret (C : zC X l D N0 cc nL own Ts) {k0 n0 : Nat} {post : Int → zM → Prop} {z : Int} (E : zEnd X (some .int) k0 n0 (zQI D N0 post)) (d : decode cc pc = .ok (.ireturn, 1)) (hk : kc ≤ k0) (hn : kn ≤ n0) (hp : post z μ) : Z X μ kc kn pc L [zi z] := by
  obtain ⟨p, l', e, R, s, m, args, below, meth, c, D', N', Q⟩ := X
  obtain ⟨rfl, rfl, rfl, hx, hb, hml, hown, hts, hlk, hB⟩ := C
  obtain ⟨hr, rfl⟩ := E
  intro H locs cells slots ls hH hS hc1 hs1 hl
  refine W.widen (Nat.le_trans hc1 hk) (Nat.le_trans hs1 hn) ?_
  exact W.iret hx hb hr (fun t ht hW => ⟨⟨_, μ, rfl, ⟨z, rfl, hp⟩, by show zH _ _ μ t.heap; rw [ht]; exact hH⟩, hS.F ht⟩) hS.2.2 d hlk
theorem z_zret (C : zC X l D N0 cc nL own Ts) {k0 n0 : Nat} {post : Int → zM → Prop} {z : Int} (E : zEnd X (some .boolean) k0 n0 (zQI D N0 post)) (hz : z = 0 ∨ z = 1) (d : decode cc pc = .ok (.ireturn, 1)) (hk : kc ≤ k0) (hn : kn ≤ n0) (hp : post z μ) : Z X μ kc kn pc L [zi z] := by
  obtain ⟨p, l', e, R, s, m, args, below, meth, c, D', N', Q⟩ := X
  obtain ⟨rfl, rfl, rfl, hx, hb, hml, hown, hts, hlk, hB⟩ := C
  obtain ⟨hr, rfl⟩ := E
  intro H locs cells slots ls hH hS hc1 hs1 hl
  refine W.widen (Nat.le_trans hc1 hk) (Nat.le_trans hs1 hn) ?_
  exact W.zret hx hb hr (by rcases hz with q | q <;> subst q <;> rfl) (fun t ht hW => ⟨⟨_, μ, rfl, ⟨z, rfl, hp⟩, by show zH _ _ μ t.heap; rw [ht]; exact hH⟩, hS.F ht⟩) hS.2.2 d hlk
theorem z_lret (C : zC X l D N0 cc nL own Ts) {k0 n0 : Nat} {post : Int64 → zM → Prop} {z : Int64} (E : zEnd X (some .long) k0 n0 (zQL D N0 post)) (d : decode cc pc = .ok (.lreturn, 1)) (hk : kc ≤ k0) (hn : kn ≤ n0) (hp : post z μ) : Z X μ kc kn pc L [.long z] := by
  obtain ⟨p, l', e, R, s, m, args, below, meth, c, D', N', Q⟩ := X
  obtain ⟨rfl, rfl, rfl, hx, hb, hml, hown, hts, hlk, hB⟩ := C
  obtain ⟨hr, rfl⟩ := E
  intro H locs cells slots ls hH hS hc1 hs1 hl
  refine W.widen (Nat.le_trans hc1 hk) (Nat.le_trans hs1 hn) ?_
  exact W.lret hx hb hr (fun t ht hW => ⟨⟨_, μ, rfl, hp, by show zH _ _ μ t.heap; rw [ht]; exact hH⟩, hS.F ht⟩) hS.2.2 d hlk
theorem z_dret (C : zC X l D N0 cc nL own Ts) {k0 n0 : Nat} {post : UInt64 → zM → Prop} {z : UInt64} (E : zEnd X (some .double) k0 n0 (zQD D N0 post)) (d : decode cc pc = .ok (.dreturn, 1)) (hk : kc ≤ k0) (hn : kn ≤ n0) (hp : post z μ) : Z X μ kc kn pc L [.double z] := by
  obtain ⟨p, l', e, R, s, m, args, below, meth, c, D', N', Q⟩ := X
  obtain ⟨rfl, rfl, rfl, hx, hb, hml, hown, hts, hlk, hB⟩ := C
  obtain ⟨hr, rfl⟩ := E
  intro H locs cells slots ls hH hS hc1 hs1 hl
  refine W.widen (Nat.le_trans hc1 hk) (Nat.le_trans hs1 hn) ?_
  exact W.dret hx hb hr (fun t ht hW => ⟨⟨_, μ, rfl, hp, by show zH _ _ μ t.heap; rw [ht]; exact hH⟩, hS.F ht⟩) hS.2.2 d hlk
theorem z_vret (C : zC X l D N0 cc nL own Ts) {k0 n0 : Nat} {post : zM → Prop} (E : zEnd X none k0 n0 (zQV D N0 post)) (d : decode cc pc = .ok (.return_, 1)) (hk : kc ≤ k0) (hn : kn ≤ n0) (hp : post μ) : Z X μ kc kn pc L [] := by
  obtain ⟨p, l', e, R, s, m, args, below, meth, c, D', N', Q⟩ := X
  obtain ⟨rfl, rfl, rfl, hx, hb, hml, hown, hts, hlk, hB⟩ := C
  obtain ⟨hr, rfl⟩ := E
  intro H locs cells slots ls hH hS hc1 hs1 hl
  refine W.widen (Nat.le_trans hc1 hk) (Nat.le_trans hs1 hn) ?_
  exact W.vret hx hb hr (fun t ht hW => ⟨⟨μ, rfl, hp, by show zH _ _ μ t.heap; rw [ht]; exact hH⟩, hS.F ht⟩) hS.2.2 d hlk
theorem z_aret (C : zC X l D N0 cc nL own Ts) {k0 n0 : Nat} {rt : FieldType} {post : Nat → zM → Prop} {a : Nat} (E : zEnd X (some rt) k0 n0 (zQR D N0 post)) (hrt : (∃ n, rt = .object n) ∨ ∃ t, rt = .array t) (d : decode cc pc = .ok (.areturn, 1)) (hk : kc ≤ k0) (hn : kn ≤ n0) (hp : post a μ) : Z X μ kc kn pc L [.ref a] := by
  obtain ⟨p, l', e, R, s, m, args, below, meth, c, D', N', Q⟩ := X
  obtain ⟨rfl, rfl, rfl, hx, hb, hml, hown, hts, hlk, hB⟩ := C
  obtain ⟨hr, rfl⟩ := E
  intro H locs cells slots ls hH hS hc1 hs1 hl
  refine W.widen (Nat.le_trans hc1 hk) (Nat.le_trans hs1 hn) ?_
  exact W.aret hx hb hr hrt (Or.inr ⟨a, rfl⟩) (fun t ht hW => ⟨⟨(a, μ), a, rfl, hp, rfl, by show zH _ _ μ t.heap; rw [ht]; exact hH⟩, hS.F ht⟩) hS.2.2 d hlk
end ZENDS
/-- what the tables say of a method: by kind of call -/
def zCalV (CN : String) (y : MethodName) (bytes : ByteArray) (maxL : Nat) (ret : Option FieldType) (n : Nat) : Prop := Cond.instanceMethod y ∈ zWS ∧ Cond.selects CN y y ∈ zWS ∧ Cond.initialized y.cls ∈ zWS ∧ Cond.code y bytes maxL ret ∈ zWS ∧ (y.cls ≠ "java/lang/invoke/MethodHandle" ∧ y.cls ≠ "java/lang/invoke/VarHandle" ∧ (parseMethodDescriptor y.desc).map (fun d => d.parameters.length) = some n)
def zCalS (y : MethodName) (bytes : ByteArray) (maxL : Nat) (ret : Option FieldType) (n : Nat) : Prop := Cond.static y ∈ zWS ∧ Cond.initialized y.cls ∈ zWS ∧ Cond.code y bytes maxL ret ∈ zWS ∧ (y.cls ≠ "java/lang/invoke/MethodHandle" ∧ y.cls ≠ "java/lang/invoke/VarHandle" ∧ (parseMethodDescriptor y.desc).map (fun d => d.parameters.length) = some n)
def zCalI (y : MethodName) (bytes : ByteArray) (maxL : Nat) (n : Nat) : Prop := Cond.instanceMethod y ∈ zWS ∧ Cond.initialized y.cls ∈ zWS ∧ Cond.code y bytes maxL none ∈ zWS ∧ y.name = "<init>" ∧ (y.cls ≠ "java/lang/invoke/MethodHandle" ∧ y.cls ≠ "java/lang/invoke/VarHandle" ∧ (parseMethodDescriptor y.desc).map (fun d => d.parameters.length) = some n)
def zRun (X : zX) (μ : zM) (kc kn mc ms pc : Nat) (L : List (Option Value)) (st rest : List Value) (Qa : State → Outcome → State → Prop) : Prop :=
  match X with
  | (p, l, e, R, s, m, args, below, meth, c, D, N0, Q) => ∀ (H : Heap) (locs : List Loc) (cells slots : Nat) (ls : Array Slot), zH D N0 μ H → va_S (fun q => N0 ≤ q) s.heap H locs → cells ≤ kc → slots ≤ kn → zL ls L → va_Run p l e R s m args below meth c H locs cells slots mc ms (F0 m pc ls st) rest Qa (fun q => N0 ≤ q)
section ZCALLS
variable {X : zX} {l : Launch} {D : va_G} {N0 : Nat} {cc : ByteArray} {nL : Nat} {own : String} {μ : zM} {kc kn pc : Nat} {L L' : List (Option Value)} {st : List Value}
variable {rk rn rf rw : Nat} {y : MethodName} {bytes : ByteArray} {maxL n index : Nat} {ret : Option FieldType} {rm : Room} {Qc : Array Value → State → Outcome → State → Prop} {b ci : Nat} {fs As rest : List Value} {CN : String} {T : u_T} {N : Nat}
theorem zpay {s : State} {D : va_G} {N0 : Nat} (hB : zB D N0 s) {y : MethodName} {bytes : ByteArray} {maxL : Nat} {ret : Option FieldType} (hw : Cond.code y bytes maxL ret ∈ zWS) : ∀ w ∈ [Cond.code y bytes maxL ret], ∀ (a' : Array Value) (U : State), s.WarmedH U.vm → w.before a' U = true := by
  intro w h a' U hW
  rw [List.mem_singleton] at h
  subst h
  exact word_at hW (good_of_word (List.mem_filter.mp hw).2) (hB.2.2.2.1 _ hw #[])
theorem zn {y : MethodName} {n : Nat} (h : (parseMethodDescriptor y.desc).map (fun d => d.parameters.length) = some n) : ∀ sig, parseMethodDescriptor y.desc = some sig → n = sig.parameters.length := by
  intro sig hs
  rw [hs] at h
  exact (Option.some.inj h).symm
theorem z_rV (C : zC X l D N0 cc nL own zWS) (Rm : zR X rk rn rf rw) (q : zCalV CN y bytes maxL ret n) (w1 : Cond.methodLink own index y ∈ zWS) (hM : zMet l y bytes maxL ret rm D N0 (.ref b :: As) μ Qc) (hob : μ b = some (.inr (ci, fs))) (hcl : vwCl[ci]? = some (CN, T, N)) (d : decode cc pc = .ok (.invokevirtual index, 3)) (hst : st = As.reverse ++ .ref b :: rest) (hn : As.length = n) (hcat : (rest.map fun v => v.category).sum ≤ 8) (hLn : L.length = nL) (hroom : rm.frames + 1 ≤ rf ∧ 8 + (maxL + 11) + rm.locals ≤ rw ∧ kc + rm.cells ≤ rk ∧ kn + rm.slots ≤ rn) : zRun X μ kc kn rm.cells rm.slots pc L st rest (Qc (Value.ref b :: As).toArray) := by
  obtain ⟨p, l', e, R, s, m, args, below, meth, c, D', N', Q⟩ := X
  obtain ⟨rfl, rfl, rfl, hx, hb, hml, hown, hts, hlk, hB⟩ := C
  obtain ⟨r1, r2, r3, r4⟩ := Rm
  obtain ⟨g1, g2, g3, g4⟩ := hroom
  obtain ⟨q1, q2, q3, q4, q5, q6, q7⟩ := q
  intro H locs cells slots ls hH hS hc1 hs1 hl
  exact va_runV (C := CN) (As := As) (rest := rest) ⟨hx, hb, hml, hown, hts⟩ hM ⟨⟨rfl, rfl, Nat.le_trans g1 r3, Nat.le_trans g2 r4, zpay hB q4, List.mem_singleton.mpr rfl, hts _ q4, hts _ q3, ⟨q5, q6⟩, zn q7, hts _ w1⟩, hts _ q1, hts _ q2⟩ ⟨zPre_blind, va_recv hB.1 (hH.one hob) (ci := ci) (q0 := 0) hcl rfl, fun U hU hW => ⟨rfl, by rw [hU]; exact hH, hB.moved hW (by rw [hU]; exact hS)⟩⟩ rfl hn (hl.1.trans hLn) hst (lv_room hcat) d ⟨Nat.le_trans (Nat.le_trans (Nat.add_le_add_right hc1 _) g3) r1, Nat.le_trans (Nat.le_trans (Nat.add_le_add_right hs1 _) g4) r2⟩
theorem z_rS (C : zC X l D N0 cc nL own zWS) (Rm : zR X rk rn rf rw) (q : zCalS y bytes maxL ret n) (w1 : Cond.methodLink own index y ∈ zWS) (hM : zMet l y bytes maxL ret rm D N0 As μ Qc) (d : decode cc pc = .ok (.invokestatic index, 3)) (hst : st = As.reverse ++ rest) (hn : As.length = n) (hcat : (rest.map fun v => v.category).sum ≤ 8) (hLn : L.length = nL) (hroom : rm.frames + 1 ≤ rf ∧ 8 + (maxL + 11) + rm.locals ≤ rw ∧ kc + rm.cells ≤ rk ∧ kn + rm.slots ≤ rn) : zRun X μ kc kn rm.cells rm.slots pc L st rest (Qc As.toArray) := by
  obtain ⟨p, l', e, R, s, m, args, below, meth, c, D', N', Q⟩ := X
  obtain ⟨rfl, rfl, rfl, hx, hb, hml, hown, hts, hlk, hB⟩ := C
  obtain ⟨r1, r2, r3, r4⟩ := Rm
  obtain ⟨g1, g2, g3, g4⟩ := hroom
  obtain ⟨q1, q3, q4, q5, q6, q7⟩ := q
  intro H locs cells slots ls hH hS hc1 hs1 hl
  exact va_runS (As := As) (rest := rest) ⟨hx, hb, hml, hown, hts⟩ hM ⟨⟨rfl, rfl, Nat.le_trans g1 r3, Nat.le_trans g2 r4, zpay hB q4, List.mem_singleton.mpr rfl, hts _ q4, hts _ q3, ⟨q5, q6⟩, zn q7, hts _ w1⟩, hts _ q1⟩ ⟨zPre_blind, fun U hU hW => ⟨rfl, by rw [hU]; exact hH, hB.moved hW (by rw [hU]; exact hS)⟩⟩ rfl hn (hl.1.trans hLn) hst (lv_room hcat) d ⟨Nat.le_trans (Nat.le_trans (Nat.add_le_add_right hc1 _) g3) r1, Nat.le_trans (Nat.le_trans (Nat.add_le_add_right hs1 _) g4) r2⟩
theorem z_rSN {host : String} (C : zC X l D N0 cc nL own zWS) (Rm : zR X rk rn rf rw) (q : zCalS y bytes maxL ret n) (w1 : (own, index, y, host) ∈ zNL) (hM : zMet l y bytes maxL ret rm D N0 As μ Qc) (d : decode cc pc = .ok (.invokestatic index, 3)) (hst : st = As.reverse ++ rest) (hn : As.length = n) (hcat : (rest.map fun v => v.category).sum ≤ 8) (hLn : L.length = nL) (hroom : rm.frames + 1 ≤ rf ∧ 8 + (maxL + 11) + rm.locals ≤ rw ∧ kc + rm.cells ≤ rk ∧ kn + rm.slots ≤ rn) : zRun X μ kc kn rm.cells rm.slots pc L st rest (Qc As.toArray) := by
  obtain ⟨p, l', e, R, s, m, args, below, meth, c, D', N', Q⟩ := X
  obtain ⟨rfl, rfl, rfl, hx, hb, hml, hown, hts, hlk, hB⟩ := C
  obtain ⟨r1, r2, r3, r4⟩ := Rm
  obtain ⟨g1, g2, g3, g4⟩ := hroom
  obtain ⟨q1, q3, q4, q5, q6, q7⟩ := q
  intro H locs cells slots ls hH hS hc1 hs1 hl
  exact va_runSN (host := host) (As := As) (rest := rest) ⟨hx, hb, hml, hown, hts⟩ hM ⟨⟨⟨rfl, rfl, Nat.le_trans g1 r3, Nat.le_trans g2 r4, zpay hB q4, List.mem_singleton.mpr rfl⟩, hts _ q4, hts _ q3, ⟨q5, q6⟩, zn q7, va_Nw.use rfl (hB.2.2.2.2.1 _ w1)⟩, hts _ q1, trivial⟩ ⟨zPre_blind, fun U hU hW => ⟨rfl, by rw [hU]; exact hH, hB.moved hW (by rw [hU]; exact hS)⟩⟩ rfl hn (hl.1.trans hLn) hst (lv_room hcat) d ⟨Nat.le_trans (Nat.le_trans (Nat.add_le_add_right hc1 _) g3) r1, Nat.le_trans (Nat.le_trans (Nat.add_le_add_right hs1 _) g4) r2⟩
theorem z_rI (C : zC X l D N0 cc nL own zWS) (Rm : zR X rk rn rf rw) (q : zCalI y bytes maxL n) (w1 : Cond.methodLink own index y ∈ zWS) (hM : zMet l y bytes maxL none rm D N0 (.ref b :: As) μ Qc) (d : decode cc pc = .ok (.invokespecial index, 3)) (hst : st = As.reverse ++ .ref b :: rest) (hn : As.length = n) (hcat : (rest.map fun v => v.category).sum ≤ 8) (hLn : L.length = nL) (hroom : rm.frames + 1 ≤ rf ∧ 8 + (maxL + 11) + rm.locals ≤ rw ∧ kc + rm.cells ≤ rk ∧ kn + rm.slots ≤ rn) : zRun X μ kc kn rm.cells rm.slots pc L st rest (Qc (Value.ref b :: As).toArray) := by
  obtain ⟨p, l', e, R, s, m, args, below, meth, c, D', N', Q⟩ := X
  obtain ⟨rfl, rfl, rfl, hx, hb, hml, hown, hts, hlk, hB⟩ := C
  obtain ⟨r1, r2, r3, r4⟩ := Rm
  obtain ⟨g1, g2, g3, g4⟩ := hroom
  obtain ⟨q1, q3, q4, q8, q5, q6, q7⟩ := q
  intro H locs cells slots ls hH hS hc1 hs1 hl
  exact va_runI (As := As) (rest := rest) ⟨hx, hb, hml, hown, hts⟩ hM ⟨⟨rfl, rfl, Nat.le_trans g1 r3, Nat.le_trans g2 r4, zpay hB q4, List.mem_singleton.mpr rfl, hts _ q4, hts _ q3, ⟨q5, q6⟩, zn q7, hts _ w1⟩, q8, hts _ q1⟩ ⟨zPre_blind, fun U hU hW => ⟨rfl, by rw [hU]; exact hH, hB.moved hW (by rw [hU]; exact hS)⟩⟩ rfl hn (hl.1.trans hLn) hst (lv_room hcat) d ⟨Nat.le_trans (Nat.le_trans (Nat.add_le_add_right hc1 _) g3) r1, Nat.le_trans (Nat.le_trans (Nat.add_le_add_right hs1 _) g4) r2⟩
theorem z_rIN {host : String} (C : zC X l D N0 cc nL own zWS) (Rm : zR X rk rn rf rw) (q : zCalI y bytes maxL n) (w1 : (own, index, y, host) ∈ zNL) (hM : zMet l y bytes maxL none rm D N0 (.ref b :: As) μ Qc) (d : decode cc pc = .ok (.invokespecial index, 3)) (hst : st = As.reverse ++ .ref b :: rest) (hn : As.length = n) (hcat : (rest.map fun v => v.category).sum ≤ 8) (hLn : L.length = nL) (hroom : rm.frames + 1 ≤ rf ∧ 8 + (maxL + 11) + rm.locals ≤ rw ∧ kc + rm.cells ≤ rk ∧ kn + rm.slots ≤ rn) : zRun X μ kc kn rm.cells rm.slots pc L st rest (Qc (Value.ref b :: As).toArray) := by
  obtain ⟨p, l', e, R, s, m, args, below, meth, c, D', N', Q⟩ := X
  obtain ⟨rfl, rfl, rfl, hx, hb, hml, hown, hts, hlk, hB⟩ := C
  obtain ⟨r1, r2, r3, r4⟩ := Rm
  obtain ⟨g1, g2, g3, g4⟩ := hroom
  obtain ⟨q1, q3, q4, q8, q5, q6, q7⟩ := q
  intro H locs cells slots ls hH hS hc1 hs1 hl
  exact va_runIN (host := host) (As := As) (rest := rest) ⟨hx, hb, hml, hown, hts⟩ hM ⟨⟨⟨rfl, rfl, Nat.le_trans g1 r3, Nat.le_trans g2 r4, zpay hB q4, List.mem_singleton.mpr rfl⟩, hts _ q4, hts _ q3, ⟨q5, q6⟩, zn q7, va_Nw.use rfl (hB.2.2.2.2.1 _ w1)⟩, q8, hts _ q1⟩ ⟨zPre_blind, fun U hU hW => ⟨rfl, by rw [hU]; exact hH, hB.moved hW (by rw [hU]; exact hS)⟩⟩ rfl hn (hl.1.trans hLn) hst (lv_room hcat) d ⟨Nat.le_trans (Nat.le_trans (Nat.add_le_add_right hc1 _) g3) r1, Nat.le_trans (Nat.le_trans (Nat.add_le_add_right hs1 _) g4) r2⟩
variable {mc ms : Nat} {Ts : List Cond}
theorem z_ci (C : zC X l D N0 cc nL own Ts) {post : Int → zM → Prop} {a : Array Value} (hr : zRun X μ kc kn mc ms pc L st rest (zQI D N0 post a)) (kk : ∀ (z : Int) (μ' : zM), post z μ' → Z X μ' (kc + mc) (kn + ms) (pc + 3) L (zi z :: rest)) : Z X μ kc kn pc L st := by
  obtain ⟨p, l', e, R, s, m, args, below, meth, c, D', N', Q⟩ := X
  obtain ⟨rfl, rfl, rfl, hx, hb, hml, hown, hts, hlk, hB⟩ := C
  intro H locs cells slots ls hH hS hc1 hs1 hl
  refine va_calli (hr H locs cells slots ls hH hS hc1 hs1 hl) hS (fun q _ h => h) (fun q h => h) (fun r u t H1 locs1 ht hvm hw hB1 hz1 hk1 hS1 => ?_)
  obtain ⟨z, rfl, hp⟩ := hw
  exact kk z u hp H1 locs1 _ _ ls (by rw [← ht]; exact hB1) hS1 (Nat.add_le_add_right hc1 _) (Nat.add_le_add_right hs1 _) hl
theorem z_cl (C : zC X l D N0 cc nL own Ts) {post : Int64 → zM → Prop} {a : Array Value} (hr : zRun X μ kc kn mc ms pc L st rest (zQL D N0 post a)) (kk : ∀ (z : Int64) (μ' : zM), post z μ' → Z X μ' (kc + mc) (kn + ms) (pc + 3) L (.long z :: rest)) : Z X μ kc kn pc L st := by
  obtain ⟨p, l', e, R, s, m, args, below, meth, c, D', N', Q⟩ := X
  obtain ⟨rfl, rfl, rfl, hx, hb, hml, hown, hts, hlk, hB⟩ := C
  intro H locs cells slots ls hH hS hc1 hs1 hl
  refine va_calll (hr H locs cells slots ls hH hS hc1 hs1 hl) hS (fun q _ h => h) (fun q h => h) (fun r u t H1 locs1 ht hvm hp hB1 hz1 hk1 hS1 => ?_)
  exact kk r u hp H1 locs1 _ _ ls (by rw [← ht]; exact hB1) hS1 (Nat.add_le_add_right hc1 _) (Nat.add_le_add_right hs1 _) hl
theorem z_cd (C : zC X l D N0 cc nL own Ts) {post : UInt64 → zM → Prop} {a : Array Value} (hr : zRun X μ kc kn mc ms pc L st rest (zQD D N0 post a)) (kk : ∀ (z : UInt64) (μ' : zM), post z μ' → Z X μ' (kc + mc) (kn + ms) (pc + 3) L (.double z :: rest)) : Z X μ kc kn pc L st := by
  obtain ⟨p, l', e, R, s, m, args, below, meth, c, D', N', Q⟩ := X
  obtain ⟨rfl, rfl, rfl, hx, hb, hml, hown, hts, hlk, hB⟩ := C
  intro H locs cells slots ls hH hS hc1 hs1 hl
  refine va_calld (hr H locs cells slots ls hH hS hc1 hs1 hl) hS (fun q _ h => h) (fun q h => h) (fun r u t H1 locs1 ht hvm hp hB1 hz1 hk1 hS1 => ?_)
  exact kk r u hp H1 locs1 _ _ ls (by rw [← ht]; exact hB1) hS1 (Nat.add_le_add_right hc1 _) (Nat.add_le_add_right hs1 _) hl
theorem z_cv (C : zC X l D N0 cc nL own Ts) {post : zM → Prop} {a : Array Value} (hr : zRun X μ kc kn mc ms pc L st rest (zQV D N0 post a)) (kk : ∀ (μ' : zM), post μ' → Z X μ' (kc + mc) (kn + ms) (pc + 3) L rest) : Z X μ kc kn pc L st := by
  obtain ⟨p, l', e, R, s, m, args, below, meth, c, D', N', Q⟩ := X
  obtain ⟨rfl, rfl, rfl, hx, hb, hml, hown, hts, hlk, hB⟩ := C
  intro H locs cells slots ls hH hS hc1 hs1 hl
  refine va_callv (hr H locs cells slots ls hH hS hc1 hs1 hl) hS (fun q _ h => h) (fun q h => h) (fun u t H1 locs1 ht hvm hp hB1 hz1 hk1 hS1 => ?_)
  exact kk u hp H1 locs1 _ _ ls (by rw [← ht]; exact hB1) hS1 (Nat.add_le_add_right hc1 _) (Nat.add_le_add_right hs1 _) hl
theorem z_cr (C : zC X l D N0 cc nL own Ts) {post : Nat → zM → Prop} {a : Array Value} (hr : zRun X μ kc kn mc ms pc L st rest (zQR D N0 post a)) (kk : ∀ (q : Nat) (μ' : zM), post q μ' → Z X μ' (kc + mc) (kn + ms) (pc + 3) L (.ref q :: rest)) : Z X μ kc kn pc L st := by
  obtain ⟨p, l', e, R, s, m, args, below, meth, c, D', N', Q⟩ := X
  obtain ⟨rfl, rfl, rfl, hx, hb, hml, hown, hts, hlk, hB⟩ := C
  intro H locs cells slots ls hH hS hc1 hs1 hl
  refine va_callr (hr H locs cells slots ls hH hS hc1 hs1 hl) hS (fun q _ h => h) (fun q h => h) (fun u ra t H1 locs1 ht hvm hp hB1 hz1 hk1 hS1 => ?_)
  obtain ⟨rfl, hB2⟩ := hB1
  exact kk u.1 u.2 hp H1 locs1 _ _ ls (by rw [← ht]; exact hB2) hS1 (Nat.add_le_add_right hc1 _) (Nat.add_le_add_right hs1 _) hl
end ZCALLS
