/-! contracts of constructors, with the heap's size; new T[n][m] -/
def zPreS (D : va_G) (N0 : Nat) (av : List Value) (μ : zM) (sz : Nat) : Array Value → State → Prop := fun v U => v = av.toArray ∧ (zH D N0 μ U.heap ∧ U.heap.size = sz) ∧ zB D N0 U
theorem zPreS_blind {D : va_G} {N0 : Nat} {av : List Value} {μ : zM} {sz : Nat} : FrameBlind (zPreS D N0 av μ sz) := fun a U g mk h => ⟨h.1, h.2.1, h.2.2.moved (U := U.calling g mk a) (State.WarmedH.refl U) va_S.rf⟩
abbrev zQVS (D : va_G) (N0 : Nat) (sz : Nat) (post : zM → Prop) : Array Value → State → Outcome → State → Prop := va_Qv (S := zM) post (fun u t => zH D N0 u t.heap ∧ t.heap.size = sz) (fun q => N0 ≤ q)
abbrev zMetS (l : Launch) (y : MethodName) (cc : ByteArray) (maxL : Nat) (rm : Room) (D : va_G) (N0 : Nat) (av : List Value) (μ : zM) (sz : Nat) (Qc : Array Value → State → Outcome → State → Prop) : Prop := Met l y [Cond.code y cc maxL none] rm (zPreS D N0 av μ sz) Qc rm.cells rm.slots (fun q => N0 ≤ q)
theorem zMetS_of {l : Launch} {y : MethodName} {cc : ByteArray} {maxL : Nat} {rm : Room} {D : va_G} {N0 : Nat} {av : List Value} {μ : zM} {sz : Nat} {Qc : Array Value → State → Outcome → State → Prop} (hy : plainName y.cls = true) (hfit : (zarg av).length ≤ maxL)
    (body : ∀ X : zX, zC X l D N0 cc maxL y.cls zWS → zR X rm.cells rm.slots rm.frames rm.locals → zName X y → zEnd X none rm.cells rm.slots Qc → ZS X sz μ 0 0 0 (zent av maxL) []) : zMetS l y cc maxL rm D N0 av μ sz Qc := by
  refine Met.ofW (cc := cc) (maxL := maxL) (ret := none) hy rfl ?_
  intro p e s m args below meth c s₁ B hml hv
  obtain ⟨rfl, hH, hB⟩ := hv
  have hown : s.vm.findClass y.cls = some m.cls := findClass_of_methodNamed B.named
  have hin : meth.name = y.name := (name_of_methodNamed B.named B.method).1
  have h := body (p, l, e, (headSpec [Cond.code y cc maxL none] rm).room, s, m, av.toArray, below, meth, c, D, N0, MQ below Qc av.toArray s rm.cells rm.slots (fun q => N0 ≤ q)) ⟨rfl, rfl, rfl, B.exec, B.bytes, hml, hown, fun w hw => hB.2.2.2.1 w hw _, B.notSynchronized, hB⟩ ⟨Nat.le_refl _, Nat.le_refl _, Nat.le_refl _, Nat.le_refl _⟩ hin ⟨B.returns, rfl⟩
  have hle := lv_entry av (n := maxL) (by rw [← zarg_len]; exact hfit)
  rw [lg_entry_eq]
  exact h s.heap [] 0 0 _ hH.2 hH.1 va_S.rf (Nat.le_refl _) (Nat.le_refl _) (zent_ok hfit hle)
section ZSC
variable {X : zX} {l : Launch} {D : va_G} {N0 : Nat} {cc : ByteArray} {nL : Nat} {own : String} {μ : zM} {kc kn pc : Nat} {L : List (Option Value)} {st : List Value} {sz : Nat}
variable {rk rn rf rw : Nat} {y : MethodName} {bytes : ByteArray} {maxL n index : Nat} {rm : Room} {b : Nat} {As rest : List Value}
theorem s_vret {Ts : List Cond} (C : zC X l D N0 cc nL own Ts) {k0 n0 : Nat} {post : zM → Prop} (E : zEnd X none k0 n0 (zQVS D N0 sz post)) (d : decode cc pc = .ok (.return_, 1)) (hk : kc ≤ k0) (hn : kn ≤ n0) (hp : post μ) : ZS X sz μ kc kn pc L [] := by
  obtain ⟨p, l', e, R, s, m, args, below, meth, c, D', N', Q⟩ := X
  obtain ⟨rfl, rfl, rfl, hx, hb, hml, hown, hts, hlk, hB⟩ := C
  obtain ⟨hr, rfl⟩ := E
  intro H locs cells slots ls hz hH hS hc1 hs1 hl
  refine W.widen (Nat.le_trans hc1 hk) (Nat.le_trans hs1 hn) ?_
  exact W.vret hx hb hr (fun t ht hW => ⟨⟨μ, rfl, hp, by show zH _ _ μ t.heap; rw [ht]; exact hH, by rw [ht]; exact hz⟩, hS.F ht⟩) hS.2.2 d hlk
theorem s_init (C : zC X l D N0 cc nL own zWS) (Rm : zR X rk rn rf rw) (q : zCalI y bytes maxL n) (w1 : Cond.methodLink own index y ∈ zWS) {sz2 : Nat} {post : zM → Prop} (hM : zMetS l y bytes maxL rm D N0 (.ref b :: As) μ sz (zQVS D N0 sz2 post)) (d : decode cc pc = .ok (.invokespecial index, 3)) (hst : st = As.reverse ++ .ref b :: rest) (hn : As.length = n) (hcat : (rest.map fun v => v.category).sum ≤ 8) (hLn : L.length = nL) (hroom : rm.frames + 1 ≤ rf ∧ 8 + (maxL + 11) + rm.locals ≤ rw ∧ kc + rm.cells ≤ rk ∧ kn + rm.slots ≤ rn) (kk : ∀ μ', post μ' → ZS X sz2 μ' (kc + rm.cells) (kn + rm.slots) (pc + 3) L rest) : ZS X sz μ kc kn pc L st := by
  obtain ⟨p, l', e, R, s, m, args, below, meth, c, D', N', Q⟩ := X
  obtain ⟨rfl, rfl, rfl, hx, hb, hml, hown, hts, hlk, hB⟩ := C
  obtain ⟨r1, r2, r3, r4⟩ := Rm
  obtain ⟨g1, g2, g3, g4⟩ := hroom
  obtain ⟨q1, q3, q4, q8, q5, q6, q7⟩ := q
  intro H locs cells slots ls hz hH hS hc1 hs1 hl
  have hr := va_runI (p := p) (e := e) (R := R) (below := below) (meth := meth) (locs := locs) (cells := cells) (slots := slots) (g := F0 m pc ls st) (As := As) (rest := rest) ⟨hx, hb, hml, hown, hts⟩ hM ⟨⟨rfl, rfl, Nat.le_trans g1 r3, Nat.le_trans g2 r4, zpay hB q4, List.mem_singleton.mpr rfl, hts _ q4, hts _ q3, ⟨q5, q6⟩, zn q7, hts _ w1⟩, q8, hts _ q1⟩ ⟨zPreS_blind, fun U hU hW => ⟨rfl, ⟨by rw [hU]; exact hH, by rw [hU]; exact hz⟩, hB.moved hW (by rw [hU]; exact hS)⟩⟩ rfl hn (hl.1.trans hLn) hst (lv_room hcat) d ⟨Nat.le_trans (Nat.le_trans (Nat.add_le_add_right hc1 _) g3) r1, Nat.le_trans (Nat.le_trans (Nat.add_le_add_right hs1 _) g4) r2⟩
  refine va_callv hr hS (fun q _ h => h) (fun q h => h) (fun u t H1 locs1 ht hvm hp hB1 hz1 hk1 hS1 => ?_)
  exact kk u hp H1 locs1 _ _ ls (by rw [← ht]; exact hB1.2) (by rw [← ht]; exact hB1.1) hS1 (Nat.add_le_add_right hc1 _) (Nat.add_le_add_right hs1 _) hl
theorem s_initN {host : String} (C : zC X l D N0 cc nL own zWS) (Rm : zR X rk rn rf rw) (q : zCalI y bytes maxL n) (w1 : (own, index, y, host) ∈ zNL) {sz2 : Nat} {post : zM → Prop} (hM : zMetS l y bytes maxL rm D N0 (.ref b :: As) μ sz (zQVS D N0 sz2 post)) (d : decode cc pc = .ok (.invokespecial index, 3)) (hst : st = As.reverse ++ .ref b :: rest) (hn : As.length = n) (hcat : (rest.map fun v => v.category).sum ≤ 8) (hLn : L.length = nL) (hroom : rm.frames + 1 ≤ rf ∧ 8 + (maxL + 11) + rm.locals ≤ rw ∧ kc + rm.cells ≤ rk ∧ kn + rm.slots ≤ rn) (kk : ∀ μ', post μ' → ZS X sz2 μ' (kc + rm.cells) (kn + rm.slots) (pc + 3) L rest) : ZS X sz μ kc kn pc L st := by
  obtain ⟨p, l', e, R, s, m, args, below, meth, c, D', N', Q⟩ := X
  obtain ⟨rfl, rfl, rfl, hx, hb, hml, hown, hts, hlk, hB⟩ := C
  obtain ⟨r1, r2, r3, r4⟩ := Rm
  obtain ⟨g1, g2, g3, g4⟩ := hroom
  obtain ⟨q1, q3, q4, q8, q5, q6, q7⟩ := q
  intro H locs cells slots ls hz hH hS hc1 hs1 hl
  have hr := va_runIN (host := host) (p := p) (e := e) (R := R) (below := below) (meth := meth) (locs := locs) (cells := cells) (slots := slots) (g := F0 m pc ls st) (As := As) (rest := rest) ⟨hx, hb, hml, hown, hts⟩ hM ⟨⟨⟨rfl, rfl, Nat.le_trans g1 r3, Nat.le_trans g2 r4, zpay hB q4, List.mem_singleton.mpr rfl⟩, hts _ q4, hts _ q3, ⟨q5, q6⟩, zn q7, va_Nw.use rfl (hB.2.2.2.2.1 _ w1)⟩, q8, hts _ q1⟩ ⟨zPreS_blind, fun U hU hW => ⟨rfl, ⟨by rw [hU]; exact hH, by rw [hU]; exact hz⟩, hB.moved hW (by rw [hU]; exact hS)⟩⟩ rfl hn (hl.1.trans hLn) hst (lv_room hcat) d ⟨Nat.le_trans (Nat.le_trans (Nat.add_le_add_right hc1 _) g3) r1, Nat.le_trans (Nat.le_trans (Nat.add_le_add_right hs1 _) g4) r2⟩
  refine va_callv hr hS (fun q _ h => h) (fun q h => h) (fun u t H1 locs1 ht hvm hp hB1 hz1 hk1 hS1 => ?_)
  exact kk u hp H1 locs1 _ _ ls (by rw [← ht]; exact hB1.2) (by rw [← ht]; exact hB1.1) hS1 (Nat.add_le_add_right hc1 _) (Nat.add_le_add_right hs1 _) hl
/-- memory behind new boolean[N][K] -/
def zMna (D : va_G) (μ : zM) (sz N K : Nat) : zM := fun a => if a = sz then some (zAB D N (fun i => if i < N then some (sz + 1 + i) else none)) else if sz + 1 ≤ a ∧ a < sz + 1 + N then some (zAZ D K zIz) else μ a
theorem s_mna (C : zC X l D N0 cc nL own zWS) (Rm : zR X rk rn rf rw) (w1 : Cond.classLink own index ("[" ++ (FieldType.array .boolean).toString) ∈ zWS) (w2 : Cond.arrayClass .boolean ∈ zWS) {a b : Int} {N K : Nat} (ha : a = (N : Int)) (hb0 : b = (K : Int)) (hN1 : N < 100000) (hK1 : K < 100000) (d : decode cc pc = .ok (.multianewarray index 2, 4)) (hr : kc + (1 + N) ≤ rk ∧ kn + (N + N * K) ≤ rn) (k : (∀ (a : Nat) (e : va_E), μ a = some e → a < sz) → ZS X (sz + 1 + N) (zMna D μ sz N K) (kc + (1 + N)) (kn + (N + N * K)) (pc + 4) L (.ref sz :: st)) : ZS X sz μ kc kn pc L (zi b :: zi a :: st) := by
  subst ha
  subst hb0
  obtain ⟨p, l', e, R, s, m, args, below, meth, c, D', N', Q⟩ := X
  obtain ⟨rfl, rfl, rfl, hx, hb, hml, hown, hts, hlk, hB⟩ := C
  obtain ⟨r1, r2, r3, r4⟩ := Rm
  intro H locs cells slots ls hz hH hS hc1 hs1 hl T hT Xs
  subst hz
  have hNN : N' ≤ H.size := Nat.le_trans hB.2.2.1 hS.1
  have hn2 : (Int32.ofInt (N : Int)).toNatClampNeg = N := by rw [zI_nc (by omega)]; omega
  have hk2 : (Int32.ofInt (K : Int)).toNatClampNeg = K := by rw [zI_nc (by omega)]; omega
  obtain ⟨vm₁, cA, comp, -, fA, fC, hO, -, X', step⟩ := Xs.multianewarray2F hx hown (hts _ w1) (va_AOA.use hB.2.2.2.2.2.2.2.2.1) (hts _ w2) (g := F0 m pc ls (zi (K : Int) :: zi (N : Int) :: st)) rfl (by rw [hb]; exact d) rfl (by rw [zI_0, zI_lt (by omega) (by omega)]; omega) (by rw [zI_0, zI_lt (by omega) (by omega)]; omega) (by rw [hn2]; omega) (by rw [hk2]; show K * 1 ≤ 536870912; omega) (by rw [hk2]; omega) rfl rfl (by rw [hn2]; exact Nat.le_trans (Nat.le_trans (Nat.add_le_add_right hc1 _) hr.1) r1) (by rw [hn2, hk2]; exact Nat.le_trans (Nat.le_trans (Nat.add_le_add_right hs1 _) hr.2) r2)
  have ec : some (D'.1 102) = some comp := ((hB.1.2 2 _ rfl).2 : s.vm.findClass (FieldType.array .boolean).toString = some (D'.1 102)).symm.trans fC
  cases ec
  have eA : some (D'.1 105) = some cA := ((hB.1.2 5 _ rfl).2 : s.vm.findClass ("[" ++ (FieldType.array .boolean).toString) = some (D'.1 105)).symm.trans fA
  cases eA
  rw [hn2, hk2] at X' step
  generalize hF : Jvm.Free.Multi.fill (T.setVm vm₁) (D'.1 105) (D'.1 102) N K (defaultValue .boolean) N = F at X' step
  have hTh : (T.setVm vm₁).heap = H := hT
  obtain ⟨f1, f2, -, -⟩ := Jvm.Free.Multi.fill_facts (T.setVm vm₁) (D'.1 105) (D'.1 102) N K (defaultValue .boolean) N
  rw [hF, hTh] at f1 f2
  have hold : ∀ x : Nat, x < H.size → F.heap[x]? = H[x]? := fun x hx => by
    have := Jvm.Free.Multi.fill_old (T.setVm vm₁) (D'.1 105) (D'.1 102) N K (defaultValue .boolean) (a := x) (by rw [hTh]; exact hx) N
    rw [hF, hTh] at this
    exact this
  have hrow : ∀ j : Nat, j < N → F.heap[H.size + 1 + j]? = some (vp_cell (D'.1 102) (K, .inl (fun _ => Int32.ofInt 0))) := fun j hj => by
    have := Jvm.Free.Multi.fill_inner (T.setVm vm₁) (D'.1 105) (D'.1 102) N K (defaultValue .boolean) N j hj
    rw [hF, hTh] at this
    rw [this]
    show some (Jvm.Free.Multi.innerC _ _ _) = _
    rw [vp_cell_i]
    exact congrArg some (arrV_new _ _ (.int (Int32.ofInt 0)))
  have hout : Jvm.Free.Multi.outerC (D'.1 105) N H.size N = vp_cell (D'.1 105) (N, .inr (.inr (.inr (.inr (fun i => if i < N then some (H.size + 1 + i) else none))))) := by
    rw [vp_cell_q]
    exact vr_outer (D'.1 105) N H.size N
  rw [hout] at f2
  have hH2 : zH D' N' (zMna D' μ H.size N K) F.heap := by
    intro q e hq
    unfold zMna at hq
    by_cases q1 : q = H.size
    · rw [if_pos q1] at hq
      cases hq
      rw [q1]
      exact ⟨f2, hNN⟩
    · rw [if_neg q1] at hq
      by_cases q2 : H.size + 1 ≤ q ∧ q < H.size + 1 + N
      · rw [if_pos q2] at hq
        cases hq
        refine ⟨?_, by omega⟩
        have := hrow (q - (H.size + 1)) (by omega)
        rw [show H.size + 1 + (q - (H.size + 1)) = q by omega] at this
        exact this
      · rw [if_neg q2] at hq
        exact ⟨(hH q e hq).1.kept (hold q (hH.lt hq)), (hH q e hq).2⟩
  obtain ⟨t, a1, b1⟩ := k (fun a e ha => hH.lt ha) F.heap _ (cells + 1 + N) (slots + N + N * K) ls (by rw [f1]) hH2 ⟨by rw [f1]; have := hS.1; omega, fun x h1 h2 => (hold x (Nat.lt_of_lt_of_le h1 hS.1)).trans (hS.2.1 x h1 h2), hS.2.2⟩ (by omega) (by omega) hl F rfl X'
  refine ⟨t, step t ?_, b1⟩
  have e : T.heap.size = H.size := by rw [hT]
  rw [e]
  exact a1
end ZSC
