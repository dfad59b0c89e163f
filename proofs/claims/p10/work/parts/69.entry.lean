/-! from what the Statement gives of the start to the premises of the walk -/
theorem en_flags {l : Launch} (h : l.flags = flags0) : l.stackTraces = false := by
  unfold Launch.stackTraces
  rw [h]
  decide +kernel
theorem en_any {s : State} {b : Addr} (hts : ∀ w ∈ lw_tbl, w.before #[Value.ref b] s = true) : ∀ w ∈ zWS, ∀ a, w.before a s = true := fun w hw a => word_at (State.WarmedH.refl s) (good_of_word (List.mem_filter.mp hw).2) (hts w (List.mem_filter.mp hw).1)
theorem en_prim {s : State} {a : Array Value} {ty : FieldType} (h : (Cond.arrayClass ty).before a s = true) (hp : ∀ C, ty ≠ .object C) : ∃ cA : ClassId, ArrOfT s cA ty ∧ va_RA s cA ty := by
  obtain ⟨c, k, comp, h1, h2, h3⟩ := Cond.arrayClass_spec h
  refine ⟨c, fun n z => ⟨(fun k h => (by cases h)), k, h2, comp, h3⟩, ?_⟩
  cases ty with
  | object C => exact absurd rfl (hp C)
  | _ => exact h1
theorem en_obj {s : State} {C : String} (h : va_AO C s) : ∃ cA : ClassId, ArrOfT s cA (.object C) ∧ va_RA s cA (.object C) := by
  obtain ⟨comp, c, k, h1, -, h2, h3, h4⟩ := Cond.arrayOver_spec h
  exact ⟨c, fun n z => ⟨(fun k h => (by cases h)), k, h2, comp, h3⟩, k, comp, h2, h3, h1, h4⟩
theorem en_arr {s : State} {t : FieldType} (h : va_AOA t s) : ∃ cA : ClassId, ArrOfT s cA (.array t) ∧ va_RA s cA (.array t) := by
  obtain ⟨comp, c, k, h1, -, h2, h3, h4⟩ := arrayOverA_spec h
  exact ⟨c, fun n z => ⟨(fun k h => (by cases h)), k, h2, comp, h3⟩, h4⟩
def enC (c0 c1 c2 c3 c4 c5 c6 c7 a0 a1 a2 a3 a4 a5 : ClassId) : Nat → ClassId := fun k => if k = 0 then c0 else if k = 1 then c1 else if k = 2 then c2 else if k = 3 then c3 else if k = 4 then c4 else if k = 5 then c5 else if k = 6 then c6 else if k = 7 then c7 else if k = 100 then a0 else if k = 101 then a1 else if k = 102 then a2 else if k = 103 then a3 else if k = 104 then a4 else a5
def enI (i0 i1 i2 i3 i4 i5 i6 i7 : Nat → Nat) : Nat → Nat → Nat := fun k => if k = 0 then i0 else if k = 1 then i1 else if k = 2 then i2 else if k = 3 then i3 else if k = 4 then i4 else if k = 5 then i5 else if k = 6 then i6 else i7
theorem en_K {s : State} (hz : ∀ w ∈ zWS, ∀ a, w.before a s = true) (hO : va_AO RX0 s) (hA : va_AOA .boolean s) : ∃ D : va_G, va_K D vwCl (zTY D) s := by
  have hz0 : ∀ w ∈ zWS, w.before #[] s = true := fun w hw => hz w hw #[]
  obtain ⟨c0, i0, k0⟩ := u_known (C := RX0) (T := TX0) (N := 1) (n := 1) hz0 inz0 (hz0 _ m_64)
  obtain ⟨c1, i1, k1⟩ := u_known (C := RX1) (T := TX1) (N := 4) (n := 4) hz0 inz1 (hz0 _ m_128)
  obtain ⟨c2, i2, k2⟩ := u_known (C := RX2) (T := TX2) (N := 4) (n := 4) hz0 inz2 (hz0 _ m_107)
  obtain ⟨c3, i3, k3⟩ := u_known (C := RX3) (T := TX3) (N := 12) (n := 12) hz0 inz3 (hz0 _ m_149)
  obtain ⟨c4, i4, k4⟩ := u_known (C := RX4) (T := TX4) (N := 8) (n := 8) hz0 inz4 (hz0 _ m_75)
  obtain ⟨c5, i5, k5⟩ := u_known (C := RX5) (T := TX5) (N := 7) (n := 7) hz0 inz5 (hz0 _ m_194)
  obtain ⟨c6, i6, k6⟩ := u_known (C := RX6) (T := TX6) (N := 7) (n := 7) hz0 inz6 (hz0 _ m_55)
  obtain ⟨c7, i7, k7⟩ := u_known (C := RX7) (T := TX7) (N := 8) (n := 8) hz0 inz7 (hz0 _ m_1002)
  obtain ⟨a0, e0⟩ := en_prim (hz0 _ m_105) (fun C h => by cases h)
  obtain ⟨a1, e1⟩ := en_prim (hz0 _ m_73) (fun C h => by cases h)
  obtain ⟨a2, e2⟩ := en_prim (hz0 _ m_1035) (fun C h => by cases h)
  obtain ⟨a3, e3⟩ := en_prim (hz0 _ m_1289) (fun C h => by cases h)
  obtain ⟨a4, e4⟩ := en_obj hO
  obtain ⟨a5, e5⟩ := en_arr hA
  refine ⟨(enC c0 c1 c2 c3 c4 c5 c6 c7 a0 a1 a2 a3 a4 a5, enI i0 i1 i2 i3 i4 i5 i6 i7), ?_, ?_⟩
  · intro k q hq
    match k, hq with
    | 0, hq => cases hq; exact k0
    | 1, hq => cases hq; exact k1
    | 2, hq => cases hq; exact k2
    | 3, hq => cases hq; exact k3
    | 4, hq => cases hq; exact k4
    | 5, hq => cases hq; exact k5
    | 6, hq => cases hq; exact k6
    | 7, hq => cases hq; exact k7
    | k + 8, hq => simp [vwCl] at hq
  · intro k q hq
    match k, hq with
    | 0, hq => cases hq; exact e0
    | 1, hq => cases hq; exact e1
    | 2, hq => cases hq; exact e2
    | 3, hq => cases hq; exact e3
    | 4, hq => cases hq; exact e4
    | 5, hq => cases hq; exact e5
    | k + 6, hq => simp [zTY] at hq
theorem en_str {s : State} {a : Array Value} {k : Nat} {tx : String} {cur : ClassId} (hc : s.vm.findClass RX6 = some cur) (h : (Cond.stringRef RX6 k tx).before a s = true) : ∃ sa, vk_R RX6 k tx sa s := by
  obtain ⟨_, _, _, sa, _, _, _, _, _, h6⟩ := Cond.stringRef_spec hc h
  exact ⟨sa, vk_R.of (A := a) h h6⟩
theorem en_ST {s : State} {b : Addr} (hts : ∀ w ∈ lw_tbl, w.before #[Value.ref b] s = true) {cur : ClassId} (hc : s.vm.findClass RX6 = some cur) : ∀ q ∈ zST, ∃ sa, vk_R RX6 q.1 q.2 sa s := by
  intro q hq
  simp only [zST, List.mem_cons, List.not_mem_nil, or_false] at hq
  rcases hq with rfl | rfl | rfl | rfl | rfl | rfl | rfl | rfl | rfl | rfl | rfl | rfl | rfl | rfl | rfl | rfl | rfl
  · exact en_str hc (hts _ (List.mem_of_getElem? m_554))
  · exact en_str hc (hts _ (List.mem_of_getElem? m_605))
  · exact en_str hc (hts _ (List.mem_of_getElem? m_619))
  · exact en_str hc (hts _ (List.mem_of_getElem? m_659))
  · exact en_str hc (hts _ (List.mem_of_getElem? m_669))
  · exact en_str hc (hts _ (List.mem_of_getElem? m_707))
  · exact en_str hc (hts _ (List.mem_of_getElem? m_712))
  · exact en_str hc (hts _ (List.mem_of_getElem? m_723))
  · exact en_str hc (hts _ (List.mem_of_getElem? m_734))
  · exact en_str hc (hts _ (List.mem_of_getElem? m_753))
  · exact en_str hc (hts _ (List.mem_of_getElem? m_780))
  · exact en_str hc (hts _ (List.mem_of_getElem? m_874))
  · exact en_str hc (hts _ (List.mem_of_getElem? m_897))
  · exact en_str hc (hts _ (List.mem_of_getElem? m_898))
  · exact en_str hc (hts _ (List.mem_of_getElem? m_938))
  · exact en_str hc (hts _ (List.mem_of_getElem? m_939))
  · exact en_str hc (hts _ (List.mem_of_getElem? m_950))
theorem en_NG {s : State} {b : Addr} (hts : ∀ w ∈ lw_tbl, w.before #[Value.ref b] s = true) : ∀ w ∈ zNG, va_Nw w s := by
  intro w hw
  simp only [zNG, List.mem_cons, List.not_mem_nil, or_false] at hw
  rcases hw with rfl | rfl | rfl | rfl | rfl | rfl | rfl | rfl | rfl
  · exact va_Nw.of rfl (hts _ (List.mem_of_getElem? m_515))
  · exact va_Nw.of rfl (hts _ (List.mem_of_getElem? m_612))
  · exact va_Nw.of rfl (hts _ (List.mem_of_getElem? m_652))
  · exact va_Nw.of rfl (hts _ (List.mem_of_getElem? m_516))
  · exact va_Nw.of rfl (hts _ (List.mem_of_getElem? m_517))
  · exact va_Nw.of rfl (hts _ (List.mem_of_getElem? m_518))
  · exact va_Nw.of rfl (hts _ (List.mem_of_getElem? m_519))
  · exact va_Nw.of rfl (hts _ (List.mem_of_getElem? m_520))
  · exact va_Nw.of rfl (hts _ (List.mem_of_getElem? m_521))
theorem en_NC {s : State} {b : Addr} (hg : (Jvm.Cond.and given_1 narrow_1).before #[Value.ref b] s = true) : ∀ q ∈ zNC, va_Nc q.1 q.2 s := by
  have hs := flat_of_before _ hg
  intro q hq
  simp only [zNC, List.mem_cons, List.not_mem_nil, or_false] at hq
  rcases hq with rfl | rfl | rfl | rfl | rfl | rfl
  · exact va_Nc.of (hs _ (by decide +kernel))
  · exact va_Nc.of (hs _ (by decide +kernel))
  · exact va_Nc.of (hs _ (by decide +kernel))
  · exact va_Nc.of (hs _ (by decide +kernel))
  · exact va_Nc.of (hs _ (by decide +kernel))
  · exact va_Nc.of (hs _ (by decide +kernel))
theorem en_S {s : State} {b : Addr} (hts : ∀ w ∈ lw_tbl, w.before #[Value.ref b] s = true) (hg : (Jvm.Cond.and given_1 narrow_1).before #[Value.ref b] s = true) : zS s.heap.size s s.heap := by
  have hs := flat_of_before _ hg
  exact ⟨vx_Zqof (hts _ (List.mem_of_getElem? m_540)) (hts _ (List.mem_filter.mp m_44).1) (hs (Jvm.Cond.isRef (Jvm.Term.static "java/lang/Throwable" "UNASSIGNED_STACK" "[Ljava/lang/StackTraceElement;")) (by decide +kernel)) (fun a h1 h2 => absurd h1 (by omega)),
    vx_Zqof (hts _ (List.mem_of_getElem? m_542)) (hts _ (List.mem_filter.mp m_44).1) (hs (Jvm.Cond.isRef (Jvm.Term.static "java/lang/Throwable" "SUPPRESSED_SENTINEL" "Ljava/util/List;")) (by decide +kernel)) (fun a h1 h2 => absurd h1 (by omega))⟩
theorem en_B {s : State} {b : Addr} (hts : ∀ w ∈ lw_tbl, w.before #[Value.ref b] s = true) (hg : (Jvm.Cond.and given_1 narrow_1).before #[Value.ref b] s = true) : ∃ D : va_G, zB D s.heap.size s := by
  have hz := en_any hts
  have hO : va_AO RX0 s := va_AO.of (hts _ (List.mem_of_getElem? m_63))
  have hA : va_AOA .boolean s := hts _ (List.mem_of_getElem? m_1008)
  obtain ⟨D, hK⟩ := en_K hz hO hA
  have hc : s.vm.findClass RX6 = some (D.1 6) := (hK.1 6 (RX6, TX6, 7) rfl).2.1
  exact ⟨D, hK, en_S hts hg, Nat.le_refl _, hz, fun q hq => va_Nw.of rfl (hts _ (zNL_tbl q hq)), en_NG hts, en_ST hts hc, hO, hA, en_NC hg⟩
