/-! MY OWN LAYER over the kit's walk: memory as a function of the address, ints as whole numbers, the surroundings bundled. -/
abbrev zM : Type := Nat → Option va_E
abbrev zX : Type := Program × Launch × Env × Room × State × MethodId × Array Value × List Frame × Method × Code × va_G × Nat × (State → Prop)
def zi (z : Int) : Value := .int (Int32.ofInt z)
/-- memory with one cell written -/
def zu (μ : zM) (a : Nat) (e : va_E) : zM := fun q => if q = a then some e else μ q
theorem zu_s {μ : zM} {a : Nat} {e : va_E} : zu μ a e a = some e := if_pos rfl
theorem zu_n {μ : zM} {a q : Nat} {e : va_E} (h : q ≠ a) : zu μ a e q = μ q := if_neg h
theorem zu_k {μ : zM} {a q : Nat} {e : va_E} {x : Option va_E} (hq : μ q = x) (h : q ≠ a) : zu μ a e q = x := (if_neg h).trans hq
theorem zu_u (μ : zM) (a : Nat) (e f : va_E) : zu (zu μ a e) a f = zu μ a f := by
  funext q
  unfold zu
  by_cases h : q = a <;> simp [h]
theorem zu_c (μ : zM) {a b : Nat} (e f : va_E) (h : a ≠ b) : zu (zu μ a e) b f = zu (zu μ b f) a e := by
  funext q
  unfold zu
  by_cases h1 : q = a <;> by_cases h2 : q = b <;> simp_all
theorem zu_i {μ : zM} {a : Nat} {e : va_E} (h : μ a = some e) : zu μ a e = μ := by
  funext q
  unfold zu
  by_cases h1 : q = a <;> simp_all
/-- the heap holds the memory, all of it from N0 on -/
def zH (D : va_G) (N0 : Nat) (μ : zM) (H : Heap) : Prop := ∀ (a : Nat) (e : va_E), μ a = some e → va_at D vwCl (a, e) H ∧ N0 ≤ a
/-- the array classes, by numbers of their own -/
def zTY (D : va_G) : List (ClassId × FieldType) := [(D.1 100, .int), (D.1 101, .long), (D.1 102, .boolean), (D.1 103, .double), (D.1 104, .object RX0), (D.1 105, .array .boolean)]
def zS (N0 : Nat) (s : State) (H : Heap) : Prop := vx_Zq Bundle.tN "UNASSIGNED_STACK" Bundle.steD (fun q => N0 ≤ q) s H ∧ vx_Zq Bundle.tN "SUPPRESSED_SENTINEL" Bundle.listD (fun q => N0 ≤ q) s H
/-- words that are not on the tables alone: what a throw asks for -/
def zNG : List Cond := [.castable "java/lang/IllegalArgumentException" "java/lang/IllegalArgumentException", .castable "java/lang/IllegalStateException" "java/lang/IllegalStateException", .castable "java/lang/IndexOutOfBoundsException" "java/lang/IndexOutOfBoundsException",
  .declares ⟨"java/lang/RuntimeException", "<init>", "()V"⟩, .declares ⟨"java/lang/RuntimeException", "<init>", "(Ljava/lang/String;)V"⟩, .declares ⟨"java/lang/Exception", "<init>", "()V"⟩, .declares ⟨"java/lang/Exception", "<init>", "(Ljava/lang/String;)V"⟩, .declares ⟨"java/lang/Throwable", "<init>", "()V"⟩, .declares ⟨"java/lang/Throwable", "<init>", "(Ljava/lang/String;)V"⟩]
theorem zNG_moved {s U : State} (hW : s.WarmedH U.vm) (h : ∀ w ∈ zNG, va_Nw w s) : ∀ w ∈ zNG, va_Nw w U := by
  intro w hw
  have h1 := h w hw
  simp only [zNG, List.mem_cons, List.not_mem_nil, or_false] at hw
  rcases hw with rfl | rfl | rfl | rfl | rfl | rfl | rfl | rfl | rfl
  · exact va_Nw.warmC hW h1
  · exact va_Nw.warmC hW h1
  · exact va_Nw.warmC hW h1
  · exact va_Nw.warmD hW h1
  · exact va_Nw.warmD hW h1
  · exact va_Nw.warmD hW h1
  · exact va_Nw.warmD hW h1
  · exact va_Nw.warmD hW h1
  · exact va_Nw.warmD hW h1
theorem va_AOA.moved {ty : FieldType} {u U : State} (hvm : u.vm.Alike U.vm) (h : va_AOA ty u) : va_AOA ty U := arrayOver_alikeB hvm h
/-- which exceptions are none of another class -/
def zNC : List (String × String) := [("java/lang/IllegalArgumentException", "java/lang/IndexOutOfBoundsException"), ("java/lang/IllegalStateException", "java/lang/IndexOutOfBoundsException"), ("java/lang/IllegalStateException", "java/lang/IllegalArgumentException"), ("java/lang/IllegalArgumentException", "java/lang/IllegalStateException"), ("java/lang/IndexOutOfBoundsException", "java/lang/IllegalStateException"), ("java/lang/IndexOutOfBoundsException", "java/lang/IllegalArgumentException")]
/-- what is asked of every state that a method starts at -/
def zB (D : va_G) (N0 : Nat) (U : State) : Prop := va_K D vwCl (zTY D) U ∧ zS N0 U U.heap ∧ N0 ≤ U.heap.size ∧ (∀ w ∈ zWS, ∀ a, w.before a U = true) ∧ (∀ q ∈ zNL, va_Nw (.methodLinkNest q.1 q.2.1 q.2.2.1 q.2.2.2) U) ∧ (∀ w ∈ zNG, va_Nw w U) ∧ (∀ q ∈ zST, ∃ sa, vk_R RX6 q.1 q.2 sa U) ∧ va_AO RX0 U ∧ va_AOA .boolean U ∧ (∀ q ∈ zNC, va_Nc q.1 q.2 U)
theorem zB.moved {D : va_G} {N0 : Nat} {s U : State} {locs : List Loc} (h : zB D N0 s) (hW : s.WarmedH U.vm) (hS : va_S (fun q => N0 ≤ q) s.heap U.heap locs) : zB D N0 U := by
  obtain ⟨h1, h2, h3, h4, h5, h6, h7, h8, h9, h10⟩ := h
  exact ⟨va_K.moved hW.alike h1, ⟨(h2.1.moved hW.alike).kept hS.2.1, (h2.2.moved hW.alike).kept hS.2.1⟩, Nat.le_trans h3 hS.1, fun w hw a => word_at hW (good_of_word (List.mem_filter.mp hw).2) (h4 w hw #[]), fun q hq => (h5 q hq).warmM hW, zNG_moved hW h6, fun q hq => (h7 q hq).imp (fun sa h => vk_R.warm hW h), h8.moved hW.alike, h9.moved hW.alike, fun q hq => (h10 q hq).moved hW.alike⟩
/-- the locals, by their places -/
def zL (ls : Array Slot) (L : List (Option Value)) : Prop := ls.size = L.length ∧ lv_wf ls ∧ ∀ (i : Nat) (v : Value), L[i]? = some (some v) → ls[i]? = some (.val v)
def zal (L : List (Option Value)) : List (Nat × Value) := (List.range L.length).filterMap (fun i => (L[i]?.join).map (fun v => (i, v)))
theorem zal_mem {L : List (Option Value)} {i : Nat} {v : Value} : (i, v) ∈ zal L ↔ L[i]? = some (some v) := by
  unfold zal
  rw [List.mem_filterMap]
  constructor
  · rintro ⟨j, -, h⟩
    cases hj : L[j]? with
    | none => rw [hj] at h; simp at h
    | some o =>
      rw [hj] at h
      cases o with
      | none => simp at h
      | some w =>
        simp at h
        obtain ⟨rfl, rfl⟩ := h
        exact hj
  · intro h
    refine ⟨i, List.mem_range.mpr (List.getElem?_eq_some_iff.mp h).1, ?_⟩
    rw [h]
    rfl
theorem zL.has {ls : Array Slot} {L : List (Option Value)} (h : zL ls L) : lv_has ls L.length (zal L) := ⟨h.1, h.2.1, fun q hq => h.2.2 q.1 q.2 (zal_mem.mp hq)⟩
theorem zL.of {ls : Array Slot} {n : Nat} {l : List (Nat × Value)} (h : lv_has ls n l) {L : List (Option Value)} (hn : n = L.length) (hl : ∀ (i : Nat) (v : Value), L[i]? = some (some v) → (i, v) ∈ l) : zL ls L := ⟨h.1.trans hn, h.2.1, fun i v hv => h.2.2 (i, v) (hl i v hv)⟩
theorem zL.less {ls : Array Slot} {L L' : List (Option Value)} (h : zL ls L) (hn : L'.length = L.length) (hl : ∀ (i : Nat) (v : Value), L'[i]? = some (some v) → L[i]? = some (some v)) : zL ls L' := ⟨h.1.trans hn.symm, h.2.1, fun i v hv => h.2.2 i v (hl i v hv)⟩
/-- no long or double stands just ahead -/
def zok (L : List (Option Value)) (i : Nat) : Bool := match i with
  | 0 => true
  | j + 1 => match L[j]? with
    | some (some v) => v.category == 1
    | _ => true
theorem zok_use {L : List (Option Value)} {i j : Nat} {v : Value} (h : zok L i = true) (e : j + 1 = i) (hv : L[j]? = some (some v)) : v.category = 1 := by
  subst e
  simp only [zok, hv] at h
  simpa using h
theorem zL.set1 {ls : Array Slot} {L : List (Option Value)} {i : Nat} {v : Value} (hok : zok L i = true) (h : lv_has ls L.length ((i, v) :: (zal L).filter (fun q => !(q.1 == i) && !(q.1 + 1 == i && q.2.category == 2)))) : zL ls (L.set i (some v)) := by
  refine zL.of h (by simp) (fun j w hj => ?_)
  by_cases e : i = j
  · subst e
    have hl : i < L.length := by
      have := (List.getElem?_eq_some_iff.mp hj).1
      simpa using this
    rw [List.getElem?_set_self hl] at hj
    cases hj
    exact List.mem_cons_self
  · rw [List.getElem?_set_ne e] at hj
    refine List.mem_cons_of_mem _ (List.mem_filter.mpr ⟨zal_mem.mpr hj, ?_⟩)
    have e1 : (j == i) = false := by simpa using fun q : j = i => e q.symm
    have e2 : (j + 1 == i && w.category == 2) = false := by
      by_cases q : j + 1 = i
      · have := zok_use hok q hj
        simp [this]
      · simp [q]
    simp only [e1, e2]
    rfl
theorem zL.set2 {ls : Array Slot} {L : List (Option Value)} {i : Nat} {v : Value} (hok : zok L i = true) (h : lv_has ls L.length ((i, v) :: (zal L).filter (fun q => !(q.1 == i) && (!(q.1 == i + 1) && !(q.1 + 1 == i && q.2.category == 2))))) : zL ls ((L.set i (some v)).set (i + 1) none) := by
  refine zL.of h (by simp) (fun j w hj => ?_)
  by_cases e0 : i + 1 = j
  · subst e0
    have hl : i + 1 < L.length := by
      have := (List.getElem?_eq_some_iff.mp hj).1
      simpa using this
    rw [List.getElem?_set_self (by simpa using hl)] at hj
    cases hj
  · rw [List.getElem?_set_ne e0] at hj
    by_cases e : i = j
    · subst e
      have hl : i < L.length := by
        have := (List.getElem?_eq_some_iff.mp hj).1
        simpa using this
      rw [List.getElem?_set_self hl] at hj
      cases hj
      exact List.mem_cons_self
    · rw [List.getElem?_set_ne e] at hj
      refine List.mem_cons_of_mem _ (List.mem_filter.mpr ⟨zal_mem.mpr hj, ?_⟩)
      have e1 : (j == i) = false := by simpa using fun q : j = i => e q.symm
      have e3 : (j == i + 1) = false := by simpa using fun q : j = i + 1 => e0 q.symm
      have e2 : (j + 1 == i && w.category == 2) = false := by
        by_cases q : j + 1 = i
        · have := zok_use hok q hj
          simp [this]
        · simp [q]
      simp only [e1, e2, e3]
      rfl
/-- the machine at a place of the code, with a memory, with locals and a stack: it comes to Q; at most k cells of n slots are made so far -/
def Z (X : zX) (μ : zM) (k n pc : Nat) (L : List (Option Value)) (st : List Value) : Prop :=
  match X with
  | (p, l, e, R, s, m, args, below, meth, c, D, N0, Q) => ∀ (H : Heap) (locs : List Loc) (cells slots : Nat) (ls : Array Slot), zH D N0 μ H → va_S (fun q => N0 ≤ q) s.heap H locs → cells ≤ k → slots ≤ n → zL ls L → W p l e R s m args below meth c H locs cells slots Q (F0 m pc ls st)
/-- what stands fast in one method -/
def zC (X : zX) (l0 : Launch) (D0 : va_G) (n0 : Nat) (cc : ByteArray) (nL : Nat) (own : String) (Ts : List Cond) : Prop :=
  match X with
  | (p, l, e, R, s, m, args, below, meth, c, D, N0, Q) => l = l0 ∧ D = D0 ∧ N0 = n0 ∧ p.tables.exec = Jvm.exec ∧ c.code = cc ∧ c.maxLocals = nL ∧ s.vm.findClass own = some m.cls ∧ (∀ w ∈ Ts, w.before args s = true) ∧ meth.locks = false ∧ zB D N0 s
/-- the room left -/
def zR (X : zX) (k n f w : Nat) : Prop :=
  match X with
  | (p, l, e, R, s, m, args, below, meth, c, D, N0, Q) => k ≤ R.cells ∧ n ≤ R.slots ∧ f ≤ R.frames ∧ w ≤ R.locals
/-- the method is a constructor -/
def zInit (X : zX) : Prop :=
  match X with
  | (p, l, e, R, s, m, args, below, meth, c, D, N0, Q) => meth.name = "<init>"
theorem zH.seta {D : va_G} {N0 : Nat} {μ : zM} {H H1 : Heap} (h : zH D N0 μ H) {a : Nat} {e : va_E} (hP : va_at D vwCl (a, e) H1) (hN : N0 ≤ a) (hq : ∀ q : Nat, q ≠ a → H1[q]? = H[q]?) : zH D N0 (zu μ a e) H1 := by
  intro b f hb
  by_cases hba : b = a
  · subst hba
    rw [zu_s] at hb
    cases hb
    exact ⟨hP, hN⟩
  · rw [zu_n hba] at hb
    exact ⟨(h b f hb).1.kept (hq b hba), (h b f hb).2⟩
abbrev zX.D (X : zX) : va_G := X.2.2.2.2.2.2.2.2.2.2.1
abbrev zX.N (X : zX) : Nat := X.2.2.2.2.2.2.2.2.2.2.2.1
theorem zH.lt {D : va_G} {N0 : Nat} {μ : zM} {H : Heap} (h : zH D N0 μ H) {a : Nat} {e : va_E} (ha : μ a = some e) : a < H.size := (h a e ha).1.lt
theorem zH.one {D : va_G} {N0 : Nat} {μ : zM} {H : Heap} (h : zH D N0 μ H) {a : Nat} {e : va_E} (ha : μ a = some e) : va_P D vwCl [(a, e)] H := by
  intro k q hk
  have hz : k < 1 := (List.getElem?_eq_some_iff.mp hk).1
  rw [show k = 0 by omega] at hk
  cases hk
  exact (h a e ha).1
theorem zH.oneD {D : va_G} {N0 : Nat} {μ : zM} {H : Heap} (h : zH D N0 μ H) {a : Nat} {e : va_E} (ha : μ a = some e) : va_D (fun q => N0 ≤ q) [(a, e)] := by
  refine ⟨fun i j p q hi hj _ => ?_, fun k q hk => ?_⟩
  · have h1 : i < 1 := (List.getElem?_eq_some_iff.mp hi).1
    have h2 : j < 1 := (List.getElem?_eq_some_iff.mp hj).1
    omega
  · have hz : k < 1 := (List.getElem?_eq_some_iff.mp hk).1
    rw [show k = 0 by omega] at hk
    cases hk
    exact (h a e ha).2
theorem zH.kept {D : va_G} {N0 : Nat} {μ : zM} {H H1 : Heap} (h : zH D N0 μ H) (hq : ∀ (a : Nat) (e : va_E), μ a = some e → H1[a]? = H[a]?) : zH D N0 μ H1 := fun a e ha => ⟨(h a e ha).1.kept (hq a e ha), (h a e ha).2⟩
theorem zH.set {D : va_G} {N0 : Nat} {μ : zM} {H H1 : Heap} (h : zH D N0 μ H) {a : Nat} {e : va_E} (hP : va_P D vwCl [(a, e)] H1) (hN : N0 ≤ a) (hq : ∀ q : Nat, q ≠ a → H1[q]? = H[q]?) : zH D N0 (zu μ a e) H1 := by
  intro b f hb
  by_cases hba : b = a
  · subst hba
    rw [zu_s] at hb
    cases hb
    exact ⟨hP 0 _ rfl, hN⟩
  · rw [zu_n hba] at hb
    exact ⟨(h b f hb).1.kept (hq b hba), (h b f hb).2⟩


theorem zI {a : Int} (h : -2147483648 ≤ a ∧ a < 2147483648) : (Int32.ofInt a).toInt = a := Int32.toInt_ofInt_of_le (by omega) (by omega)
theorem zI_le {a b : Int} (ha : -2147483648 ≤ a ∧ a < 2147483648) (hb : -2147483648 ≤ b ∧ b < 2147483648) : Int32.ofInt a ≤ Int32.ofInt b ↔ a ≤ b := by rw [Int32.le_iff_toInt_le, zI ha, zI hb]
theorem zI_lt {a b : Int} (ha : -2147483648 ≤ a ∧ a < 2147483648) (hb : -2147483648 ≤ b ∧ b < 2147483648) : Int32.ofInt a < Int32.ofInt b ↔ a < b := by rw [Int32.lt_iff_toInt_lt, zI ha, zI hb]
theorem zI_eq {a b : Int} (ha : -2147483648 ≤ a ∧ a < 2147483648) (hb : -2147483648 ≤ b ∧ b < 2147483648) : Int32.ofInt a = Int32.ofInt b ↔ a = b := by
  constructor
  · intro h
    have := congrArg Int32.toInt h
    rwa [zI ha, zI hb] at this
  · intro h
    rw [h]
theorem zI_0 : (0 : Int32) = Int32.ofInt 0 := rfl
theorem zI_rng (x : Int32) : -2147483648 ≤ x.toInt ∧ x.toInt < 2147483648 := by
  have h1 := x.le_toInt
  have h2 := x.toInt_lt
  omega
theorem zI_as (x : Int32) : Int32.ofInt x.toInt = x := by simp
theorem zi_as (x : Int32) : zi x.toInt = .int x := by unfold zi; rw [zI_as]
theorem zI_add (a b : Int) : Int32.ofInt a + Int32.ofInt b = Int32.ofInt (a + b) := (Int32.ofInt_add _ _).symm
theorem zI_sub (a b : Int) : Int32.ofInt a - Int32.ofInt b = Int32.ofInt (a - b) := (Int32.ofInt_sub _ _).symm
theorem zI_mul (a b : Int) : Int32.ofInt a * Int32.ofInt b = Int32.ofInt (a * b) := (Int32.ofInt_mul _ _).symm
theorem zI_neg (a : Int) : -Int32.ofInt a = Int32.ofInt (-a) := (Int32.ofInt_neg _).symm
theorem zI_nc {a : Int} (h : 0 ≤ a ∧ a < 2147483648) : (Int32.ofInt a).toNatClampNeg = a.toNat := by
  show (Int32.ofInt a).toInt.toNat = a.toNat
  rw [zI (by omega)]
theorem zI_in {a : Int} {n : Nat} (h : 0 ≤ a ∧ a < n) (hn : n < 2147483648) : vp_in (Int32.ofInt a) n := by
  unfold vp_in
  rw [zI_0, zI_lt (by omega) (by omega), zI_nc (by omega)]
  omega
/-- two contents of an array that agree on its places are one cell -/
theorem vp_cell_cong_i {cA : ClassId} {n : Nat} {f g : Nat → Int32} (h : ∀ j, j < n → f j = g j) : vp_cell cA (n, .inl f) = vp_cell cA (n, .inl g) := by
  rw [vp_cell_i, vp_cell_i]
  unfold arrV
  congr 2
  funext j
  exact congrArg Value.int (h j.val j.isLt)
theorem vp_cell_cong_l {cA : ClassId} {n : Nat} {f g : Nat → Int64} (h : ∀ j, j < n → f j = g j) : vp_cell cA (n, .inr (.inl f)) = vp_cell cA (n, .inr (.inl g)) := by
  rw [vp_cell_l, vp_cell_l]
  unfold arrV
  congr 2
  funext j
  exact congrArg Value.long (h j.val j.isLt)
theorem vp_cell_cong_q {cA : ClassId} {n : Nat} {f g : Nat → Option Nat} (h : ∀ j, j < n → f j = g j) : vp_cell cA (n, .inr (.inr (.inr (.inr f)))) = vp_cell cA (n, .inr (.inr (.inr (.inr g)))) := by
  rw [vp_cell_q, vp_cell_q]
  unfold arrV
  congr 2
  funext j
  exact congrArg va_rf (h j.val j.isLt)
/-- arrays: of ints, of booleans (0, 1), of longs, of references -/
def zAI (D : va_G) (n : Nat) (g : Nat → Int) : va_E := .inl (D.1 100, n, .inl (fun j => Int32.ofInt (g j)))
def zAZ (D : va_G) (n : Nat) (g : Nat → Int) : va_E := .inl (D.1 102, n, .inl (fun j => Int32.ofInt (g j)))
def zAL (D : va_G) (n : Nat) (f : Nat → Int64) : va_E := .inl (D.1 101, n, .inr (.inl f))
def zAD (D : va_G) (n : Nat) (f : Nat → UInt64) : va_E := .inl (D.1 103, n, .inr (.inr (.inr (.inl f))))
def zAF (D : va_G) (n : Nat) (f : Nat → Option Nat) : va_E := .inl (D.1 104, n, .inr (.inr (.inr (.inr f))))
def zAB (D : va_G) (n : Nat) (f : Nat → Option Nat) : va_E := .inl (D.1 105, n, .inr (.inr (.inr (.inr f))))
def zw {α : Type} (g : Nat → α) (k : Nat) (x : α) : Nat → α := fun j => if j = k then x else g j
theorem zw_s {α : Type} {g : Nat → α} {k : Nat} {x : α} : zw g k x k = x := if_pos rfl
theorem zw_n {α : Type} {g : Nat → α} {k j : Nat} {x : α} (h : j ≠ k) : zw g k x j = g j := if_neg h
theorem zAI_eq {D : va_G} {N0 : Nat} {μ : zM} {H : Heap} {a n : Nat} {f g : Nat → Int} (h : ∀ j, j < n → f j = g j) (hH : zH D N0 (zu μ a (zAI D n f)) H) : zH D N0 (zu μ a (zAI D n g)) H := by
  intro b e hb
  by_cases q : b = a
  · subst q
    rw [zu_s] at hb
    cases hb
    refine ⟨?_, (hH b _ zu_s).2⟩
    have := (hH b _ zu_s).1
    show H[b]? = some (vp_cell _ _)
    rw [← vp_cell_cong_i (f := fun j => Int32.ofInt (f j)) (fun j hj => by rw [h j hj])]
    exact this
  · rw [zu_n q] at hb
    exact hH b e (by rw [zu_n q]; exact hb)
theorem zAZ_eq {D : va_G} {N0 : Nat} {μ : zM} {H : Heap} {a n : Nat} {f g : Nat → Int} (h : ∀ j, j < n → f j = g j) (hH : zH D N0 (zu μ a (zAZ D n f)) H) : zH D N0 (zu μ a (zAZ D n g)) H := by
  intro b e hb
  by_cases q : b = a
  · subst q
    rw [zu_s] at hb
    cases hb
    refine ⟨?_, (hH b _ zu_s).2⟩
    have := (hH b _ zu_s).1
    show H[b]? = some (vp_cell _ _)
    rw [← vp_cell_cong_i (f := fun j => Int32.ofInt (f j)) (fun j hj => by rw [h j hj])]
    exact this
  · rw [zu_n q] at hb
    exact hH b e (by rw [zu_n q]; exact hb)
theorem zAL_eq {D : va_G} {N0 : Nat} {μ : zM} {H : Heap} {a n : Nat} {f g : Nat → Int64} (h : ∀ j, j < n → f j = g j) (hH : zH D N0 (zu μ a (zAL D n f)) H) : zH D N0 (zu μ a (zAL D n g)) H := by
  intro b e hb
  by_cases q : b = a
  · subst q
    rw [zu_s] at hb
    cases hb
    refine ⟨?_, (hH b _ zu_s).2⟩
    have := (hH b _ zu_s).1
    show H[b]? = some (vp_cell _ _)
    rw [← vp_cell_cong_l (f := f) (fun j hj => h j hj)]
    exact this
  · rw [zu_n q] at hb
    exact hH b e (by rw [zu_n q]; exact hb)
section ZROWS
variable {X : zX} {l : Launch} {D : va_G} {N0 : Nat} {cc : ByteArray} {nL : Nat} {own : String} {Ts : List Cond} {μ : zM} {kc kn pc : Nat} {L L' : List (Option Value)} {st : List Value}

theorem z_iconst (C : zC X l D N0 cc nL own Ts) {n : Int} (d : decode cc pc = .ok (.iconst n, 1)) (k : Z X μ kc kn (pc + 1) L (zi n :: st)) : Z X μ kc kn pc L (st) := by
  obtain ⟨p, l', e, R, s, m, args, below, meth, c, D', N', Q⟩ := X
  obtain ⟨rfl, rfl, rfl, hx, hb, hml, hown, hts, hlk, hB⟩ := C
  intro H locs cells slots ls hH hS hc1 hs1 hl
  exact lv_iconst hx hb d rfl (k H locs cells slots ls hH hS hc1 hs1 hl)
theorem z_bipush (C : zC X l D N0 cc nL own Ts) {n : Int} (d : decode cc pc = .ok (.bipush n, 2)) (k : Z X μ kc kn (pc + 2) L (zi n :: st)) (hv : (Int8.ofInt n).toInt32 = Int32.ofInt n := by decide) : Z X μ kc kn pc L st := by
  obtain ⟨p, l', e, R, s, m, args, below, meth, c, D', N', Q⟩ := X
  obtain ⟨rfl, rfl, rfl, hx, hb, hml, hown, hts, hlk, hB⟩ := C
  intro H locs cells slots ls hH hS hc1 hs1 hl
  exact lv_bipush hx hb d hv (k H locs cells slots ls hH hS hc1 hs1 hl)
theorem z_sipush (C : zC X l D N0 cc nL own Ts) {n : Int} (d : decode cc pc = .ok (.sipush n, 3)) (k : Z X μ kc kn (pc + 3) L (zi n :: st)) (hv : (Int16.ofInt n).toInt32 = Int32.ofInt n := by decide) : Z X μ kc kn pc L st := by
  obtain ⟨p, l', e, R, s, m, args, below, meth, c, D', N', Q⟩ := X
  obtain ⟨rfl, rfl, rfl, hx, hb, hml, hown, hts, hlk, hB⟩ := C
  intro H locs cells slots ls hH hS hc1 hs1 hl
  exact lv_sipush hx hb d hv (k H locs cells slots ls hH hS hc1 hs1 hl)
theorem z_lconst_0 (C : zC X l D N0 cc nL own Ts) (d : decode cc pc = .ok (.lconst 0, 1)) (k : Z X μ kc kn (pc + 1) L (.long 0 :: st)) : Z X μ kc kn pc L (st) := by
  obtain ⟨p, l', e, R, s, m, args, below, meth, c, D', N', Q⟩ := X
  obtain ⟨rfl, rfl, rfl, hx, hb, hml, hown, hts, hlk, hB⟩ := C
  intro H locs cells slots ls hH hS hc1 hs1 hl
  exact lv_lconst hx hb d (v := 0) rfl (k H locs cells slots ls hH hS hc1 hs1 hl)
theorem z_lconst_1 (C : zC X l D N0 cc nL own Ts) (d : decode cc pc = .ok (.lconst 1, 1)) (k : Z X μ kc kn (pc + 1) L (.long 1 :: st)) : Z X μ kc kn pc L (st) := by
  obtain ⟨p, l', e, R, s, m, args, below, meth, c, D', N', Q⟩ := X
  obtain ⟨rfl, rfl, rfl, hx, hb, hml, hown, hts, hlk, hB⟩ := C
  intro H locs cells slots ls hH hS hc1 hs1 hl
  exact lv_lconst hx hb d (v := 1) rfl (k H locs cells slots ls hH hS hc1 hs1 hl)
theorem z_dconst0 (C : zC X l D N0 cc nL own Ts) (d : decode cc pc = .ok (.dconst 0, 1)) (k : Z X μ kc kn (pc + 1) L (.double FP.dconst0 :: st)) : Z X μ kc kn pc L (st) := by
  obtain ⟨p, l', e, R, s, m, args, below, meth, c, D', N', Q⟩ := X
  obtain ⟨rfl, rfl, rfl, hx, hb, hml, hown, hts, hlk, hB⟩ := C
  intro H locs cells slots ls hH hS hc1 hs1 hl
  exact lv_dconst0 hx hb d (k H locs cells slots ls hH hS hc1 hs1 hl)
theorem z_ldc2 (C : zC X l D N0 cc nL own Ts) {i : Nat} {v : Int64} (hc : Cond.constantLong own i v ∈ Ts) (d : decode cc pc = .ok (.ldc2_w i, 3)) (k : Z X μ kc kn (pc + 3) L (.long v :: st)) : Z X μ kc kn pc L (st) := by
  obtain ⟨p, l', e, R, s, m, args, below, meth, c, D', N', Q⟩ := X
  obtain ⟨rfl, rfl, rfl, hx, hb, hml, hown, hts, hlk, hB⟩ := C
  intro H locs cells slots ls hH hS hc1 hs1 hl
  exact lv_ldc2 hx hb hown (hts _ hc) d (k H locs cells slots ls hH hS hc1 hs1 hl)
theorem z_iload_n (C : zC X l D N0 cc nL own Ts) {i : Fin 4} {x : Int} (d : decode cc pc = .ok (.iload_n i, 1)) (h : L[i.val]? = some (some (zi x))) (k : Z X μ kc kn (pc + 1) L (zi x :: st)) : Z X μ kc kn pc L (st) := by
  obtain ⟨p, l', e, R, s, m, args, below, meth, c, D', N', Q⟩ := X
  obtain ⟨rfl, rfl, rfl, hx, hb, hml, hown, hts, hlk, hB⟩ := C
  intro H locs cells slots ls hH hS hc1 hs1 hl
  exact lv_iload_n hx hb d rfl (hl.2.2 _ _ h) (k H locs cells slots ls hH hS hc1 hs1 hl)
theorem z_iload (C : zC X l D N0 cc nL own Ts) {i : Nat} {x : Int} (d : decode cc pc = .ok (.iload i, 2)) (h : L[i]? = some (some (zi x))) (k : Z X μ kc kn (pc + 2) L (zi x :: st)) : Z X μ kc kn pc L (st) := by
  obtain ⟨p, l', e, R, s, m, args, below, meth, c, D', N', Q⟩ := X
  obtain ⟨rfl, rfl, rfl, hx, hb, hml, hown, hts, hlk, hB⟩ := C
  intro H locs cells slots ls hH hS hc1 hs1 hl
  exact lv_iload hx hb d (hl.2.2 _ _ h) (k H locs cells slots ls hH hS hc1 hs1 hl)
theorem z_lload_n (C : zC X l D N0 cc nL own Ts) {i : Fin 4} {x : Int64} (d : decode cc pc = .ok (.lload_n i, 1)) (h : L[i.val]? = some (some (.long x))) (k : Z X μ kc kn (pc + 1) L (.long x :: st)) : Z X μ kc kn pc L (st) := by
  obtain ⟨p, l', e, R, s, m, args, below, meth, c, D', N', Q⟩ := X
  obtain ⟨rfl, rfl, rfl, hx, hb, hml, hown, hts, hlk, hB⟩ := C
  intro H locs cells slots ls hH hS hc1 hs1 hl
  exact lv_lload_n hx hb d rfl (hl.2.2 _ _ h) (k H locs cells slots ls hH hS hc1 hs1 hl)
theorem z_lload (C : zC X l D N0 cc nL own Ts) {i : Nat} {x : Int64} (d : decode cc pc = .ok (.lload i, 2)) (h : L[i]? = some (some (.long x))) (k : Z X μ kc kn (pc + 2) L (.long x :: st)) : Z X μ kc kn pc L (st) := by
  obtain ⟨p, l', e, R, s, m, args, below, meth, c, D', N', Q⟩ := X
  obtain ⟨rfl, rfl, rfl, hx, hb, hml, hown, hts, hlk, hB⟩ := C
  intro H locs cells slots ls hH hS hc1 hs1 hl
  exact lv_lload hx hb d (hl.2.2 _ _ h) (k H locs cells slots ls hH hS hc1 hs1 hl)
theorem z_aload_n (C : zC X l D N0 cc nL own Ts) {i : Fin 4} {x : Nat} (d : decode cc pc = .ok (.aload_n i, 1)) (h : L[i.val]? = some (some (.ref x))) (k : Z X μ kc kn (pc + 1) L (.ref x :: st)) : Z X μ kc kn pc L (st) := by
  obtain ⟨p, l', e, R, s, m, args, below, meth, c, D', N', Q⟩ := X
  obtain ⟨rfl, rfl, rfl, hx, hb, hml, hown, hts, hlk, hB⟩ := C
  intro H locs cells slots ls hH hS hc1 hs1 hl
  exact lv_aload_n hx hb d rfl (hl.2.2 _ _ h) (k H locs cells slots ls hH hS hc1 hs1 hl)
theorem z_aload (C : zC X l D N0 cc nL own Ts) {i : Nat} {x : Nat} (d : decode cc pc = .ok (.aload i, 2)) (h : L[i]? = some (some (.ref x))) (k : Z X μ kc kn (pc + 2) L (.ref x :: st)) : Z X μ kc kn pc L (st) := by
  obtain ⟨p, l', e, R, s, m, args, below, meth, c, D', N', Q⟩ := X
  obtain ⟨rfl, rfl, rfl, hx, hb, hml, hown, hts, hlk, hB⟩ := C
  intro H locs cells slots ls hH hS hc1 hs1 hl
  exact lv_aload hx hb d (hl.2.2 _ _ h) (k H locs cells slots ls hH hS hc1 hs1 hl)
theorem z_dload_n (C : zC X l D N0 cc nL own Ts) {i : Fin 4} {x : UInt64} (d : decode cc pc = .ok (.dload_n i, 1)) (h : L[i.val]? = some (some (.double x))) (k : Z X μ kc kn (pc + 1) L (.double x :: st)) : Z X μ kc kn pc L (st) := by
  obtain ⟨p, l', e, R, s, m, args, below, meth, c, D', N', Q⟩ := X
  obtain ⟨rfl, rfl, rfl, hx, hb, hml, hown, hts, hlk, hB⟩ := C
  intro H locs cells slots ls hH hS hc1 hs1 hl
  exact lv_dload_n hx hb d rfl (hl.2.2 _ _ h) (k H locs cells slots ls hH hS hc1 hs1 hl)
theorem z_dload (C : zC X l D N0 cc nL own Ts) {i : Nat} {x : UInt64} (d : decode cc pc = .ok (.dload i, 2)) (h : L[i]? = some (some (.double x))) (k : Z X μ kc kn (pc + 2) L (.double x :: st)) : Z X μ kc kn pc L (st) := by
  obtain ⟨p, l', e, R, s, m, args, below, meth, c, D', N', Q⟩ := X
  obtain ⟨rfl, rfl, rfl, hx, hb, hml, hown, hts, hlk, hB⟩ := C
  intro H locs cells slots ls hH hS hc1 hs1 hl
  exact lv_dload hx hb d (hl.2.2 _ _ h) (k H locs cells slots ls hH hS hc1 hs1 hl)
theorem z_istore_n (C : zC X l D N0 cc nL own Ts) {i : Fin 4} {x : Int} (d : decode cc pc = .ok (.istore_n i, 1)) (h : L.set i.val (some (zi x)) = L') (k : Z X μ kc kn (pc + 1) L' st) (hi : i.val < L.length := by exact Nat.le_of_ble_eq_true rfl) (hok : zok L i.val = true := by rfl) : Z X μ kc kn pc L (zi x :: st) := by
  obtain ⟨p, l', e, R, s, m, args, below, meth, c, D', N', Q⟩ := X
  obtain ⟨rfl, rfl, rfl, hx, hb, hml, hown, hts, hlk, hB⟩ := C
  intro H locs cells slots ls hH hS hc1 hs1 hl
  subst h
  exact lv_istore_n hx hb d rfl hl.has hi rfl (fun ls1 h1 => k H locs cells slots ls1 hH hS hc1 hs1 (zL.set1 hok h1))
theorem z_istore (C : zC X l D N0 cc nL own Ts) {i : Nat} {x : Int} (d : decode cc pc = .ok (.istore i, 2)) (h : L.set i (some (zi x)) = L') (k : Z X μ kc kn (pc + 2) L' st) (hi : i < L.length := by exact Nat.le_of_ble_eq_true rfl) (hok : zok L i = true := by rfl) : Z X μ kc kn pc L (zi x :: st) := by
  obtain ⟨p, l', e, R, s, m, args, below, meth, c, D', N', Q⟩ := X
  obtain ⟨rfl, rfl, rfl, hx, hb, hml, hown, hts, hlk, hB⟩ := C
  intro H locs cells slots ls hH hS hc1 hs1 hl
  subst h
  exact lv_istore hx hb d hl.has hi rfl (fun ls1 h1 => k H locs cells slots ls1 hH hS hc1 hs1 (zL.set1 hok h1))
theorem z_lstore_n (C : zC X l D N0 cc nL own Ts) {i : Fin 4} {x : Int64} (d : decode cc pc = .ok (.lstore_n i, 1)) (h : (L.set i.val (some (.long x))).set (i.val + 1) none = L') (k : Z X μ kc kn (pc + 1) L' st) (hi : i.val + 1 < L.length := by exact Nat.le_of_ble_eq_true rfl) (hok : zok L i.val = true := by rfl) : Z X μ kc kn pc L (.long x :: st) := by
  obtain ⟨p, l', e, R, s, m, args, below, meth, c, D', N', Q⟩ := X
  obtain ⟨rfl, rfl, rfl, hx, hb, hml, hown, hts, hlk, hB⟩ := C
  intro H locs cells slots ls hH hS hc1 hs1 hl
  subst h
  exact lv_lstore_n hx hb d rfl hl.has hi rfl (fun ls1 h1 => k H locs cells slots ls1 hH hS hc1 hs1 (zL.set2 hok h1))
theorem z_lstore (C : zC X l D N0 cc nL own Ts) {i : Nat} {x : Int64} (d : decode cc pc = .ok (.lstore i, 2)) (h : (L.set i (some (.long x))).set (i + 1) none = L') (k : Z X μ kc kn (pc + 2) L' st) (hi : i + 1 < L.length := by exact Nat.le_of_ble_eq_true rfl) (hok : zok L i = true := by rfl) : Z X μ kc kn pc L (.long x :: st) := by
  obtain ⟨p, l', e, R, s, m, args, below, meth, c, D', N', Q⟩ := X
  obtain ⟨rfl, rfl, rfl, hx, hb, hml, hown, hts, hlk, hB⟩ := C
  intro H locs cells slots ls hH hS hc1 hs1 hl
  subst h
  exact lv_lstore hx hb d hl.has hi rfl (fun ls1 h1 => k H locs cells slots ls1 hH hS hc1 hs1 (zL.set2 hok h1))
theorem z_astore_n (C : zC X l D N0 cc nL own Ts) {i : Fin 4} {x : Nat} (d : decode cc pc = .ok (.astore_n i, 1)) (h : L.set i.val (some (.ref x)) = L') (k : Z X μ kc kn (pc + 1) L' st) (hi : i.val < L.length := by exact Nat.le_of_ble_eq_true rfl) (hok : zok L i.val = true := by rfl) : Z X μ kc kn pc L (.ref x :: st) := by
  obtain ⟨p, l', e, R, s, m, args, below, meth, c, D', N', Q⟩ := X
  obtain ⟨rfl, rfl, rfl, hx, hb, hml, hown, hts, hlk, hB⟩ := C
  intro H locs cells slots ls hH hS hc1 hs1 hl
  subst h
  exact lv_astore_n hx hb d rfl hl.has hi rfl (fun ls1 h1 => k H locs cells slots ls1 hH hS hc1 hs1 (zL.set1 hok h1))
theorem z_astore (C : zC X l D N0 cc nL own Ts) {i : Nat} {x : Nat} (d : decode cc pc = .ok (.astore i, 2)) (h : L.set i (some (.ref x)) = L') (k : Z X μ kc kn (pc + 2) L' st) (hi : i < L.length := by exact Nat.le_of_ble_eq_true rfl) (hok : zok L i = true := by rfl) : Z X μ kc kn pc L (.ref x :: st) := by
  obtain ⟨p, l', e, R, s, m, args, below, meth, c, D', N', Q⟩ := X
  obtain ⟨rfl, rfl, rfl, hx, hb, hml, hown, hts, hlk, hB⟩ := C
  intro H locs cells slots ls hH hS hc1 hs1 hl
  subst h
  exact lv_astore hx hb d hl.has hi rfl (fun ls1 h1 => k H locs cells slots ls1 hH hS hc1 hs1 (zL.set1 hok h1))
theorem z_iinc (C : zC X l D N0 cc nL own Ts) {i : Nat} {n x : Int} (d : decode cc pc = .ok (.iinc i n, 3)) (h : L[i]? = some (some (zi x))) (h2 : L.set i (some (zi (x + n))) = L') (k : Z X μ kc kn (pc + 3) L' st) (hok : zok L i = true := by rfl) : Z X μ kc kn pc L st := by
  obtain ⟨p, l', e, R, s, m, args, below, meth, c, D', N', Q⟩ := X
  obtain ⟨rfl, rfl, rfl, hx, hb, hml, hown, hts, hlk, hB⟩ := C
  intro H locs cells slots ls hH hS hc1 hs1 hl
  subst h2
  obtain ⟨k0, hk0⟩ := List.getElem?_of_mem (zal_mem.mpr h)
  exact lv_iinc hx hb d hl.has hk0 (zI_add x n) (List.getElem?_eq_some_iff.mp h).1 rfl (fun ls1 h1 => k H locs cells slots ls1 hH hS hc1 hs1 (zL.set1 hok h1))
theorem z_less (hn : L'.length = L.length) (hl : ∀ (i : Nat) (v : Value), L'[i]? = some (some v) → L[i]? = some (some v)) (k : Z X μ kc kn pc L' st) : Z X μ kc kn pc L st := by
  obtain ⟨p, l', e, R, s, m, args, below, meth, c, D', N', Q⟩ := X
  intro H locs cells slots ls hH hS hc1 hs1 hls
  exact k H locs cells slots ls hH hS hc1 hs1 (hls.less hn hl)
def zle : List (Option Value) → List (Option Value) → Prop
  | [], [] => True
  | a :: s, b :: t => (a = none ∨ a = b) ∧ zle s t
  | _, _ => False
theorem zle_use : ∀ {L' L : List (Option Value)}, zle L' L → L'.length = L.length ∧ ∀ (i : Nat) (v : Value), L'[i]? = some (some v) → L[i]? = some (some v)
  | [], [], _ => ⟨rfl, fun i v h => by simp at h⟩
  | a :: s, b :: t, h => by
    obtain ⟨h1, h2⟩ := zle_use h.2
    refine ⟨by simp [h1], fun i v hv => ?_⟩
    cases i with
    | zero =>
      rcases h.1 with q | q
      · subst q; simp at hv
      · subst q; exact hv
    | succ i => exact h2 i v hv
  | [], b :: t, h => h.elim
  | a :: s, [], h => h.elim
theorem z_fewer (h : zle L' L) (k : Z X μ kc kn pc L' st) : Z X μ kc kn pc L st := z_less (zle_use h).1 (zle_use h).2 k
theorem z_more {k1 n1 : Nat} (h1 : kc ≤ k1) (h2 : kn ≤ n1) (k : Z X μ k1 n1 pc L st) : Z X μ kc kn pc L st := by
  obtain ⟨p, l', e, R, s, m, args, below, meth, c, D', N', Q⟩ := X
  intro H locs cells slots ls hH hS hc1 hs1 hls
  exact k H locs cells slots ls hH hS (Nat.le_trans hc1 h1) (Nat.le_trans hs1 h2) hls
/-- less need be known of the memory -/
theorem z_mem {μ' : zM} (h : ∀ (a : Nat) (e : va_E), μ' a = some e → μ a = some e) (k : Z X μ' kc kn pc L st) : Z X μ kc kn pc L st := by
  obtain ⟨p, l', e, R, s, m, args, below, meth, c, D', N', Q⟩ := X
  intro H locs cells slots ls hH hS hc1 hs1 hls
  exact k H locs cells slots ls (fun a e ha => hH a e (h a e ha)) hS hc1 hs1 hls
theorem z_eqI (C : zC X l D N0 cc nL own Ts) {a n : Nat} {f g : Nat → Int} (h : ∀ j, j < n → f j = g j) (k : Z X (zu μ a (zAI D n g)) kc kn pc L st) : Z X (zu μ a (zAI D n f)) kc kn pc L st := by
  obtain ⟨p, l', e, R, s, m, args, below, meth, c, D', N', Q⟩ := X
  obtain ⟨rfl, rfl, rfl, hx, hb, hml, hown, hts, hlk, hB⟩ := C
  intro H locs cells slots ls hH hS hc1 hs1 hl
  exact k H locs cells slots ls (zAI_eq h hH) hS hc1 hs1 hl
theorem z_eqZ (C : zC X l D N0 cc nL own Ts) {a n : Nat} {f g : Nat → Int} (h : ∀ j, j < n → f j = g j) (k : Z X (zu μ a (zAZ D n g)) kc kn pc L st) : Z X (zu μ a (zAZ D n f)) kc kn pc L st := by
  obtain ⟨p, l', e, R, s, m, args, below, meth, c, D', N', Q⟩ := X
  obtain ⟨rfl, rfl, rfl, hx, hb, hml, hown, hts, hlk, hB⟩ := C
  intro H locs cells slots ls hH hS hc1 hs1 hl
  exact k H locs cells slots ls (zAZ_eq h hH) hS hc1 hs1 hl
theorem z_eqL (C : zC X l D N0 cc nL own Ts) {a n : Nat} {f g : Nat → Int64} (h : ∀ j, j < n → f j = g j) (k : Z X (zu μ a (zAL D n g)) kc kn pc L st) : Z X (zu μ a (zAL D n f)) kc kn pc L st := by
  obtain ⟨p, l', e, R, s, m, args, below, meth, c, D', N', Q⟩ := X
  obtain ⟨rfl, rfl, rfl, hx, hb, hml, hown, hts, hlk, hB⟩ := C
  intro H locs cells slots ls hH hS hc1 hs1 hl
  exact k H locs cells slots ls (zAL_eq h hH) hS hc1 hs1 hl
theorem z_iadd (C : zC X l D N0 cc nL own Ts) {x y : Int} (d : decode cc pc = .ok (.iadd, 1)) (k : Z X μ kc kn (pc + 1) L (zi (x + y) :: st)) : Z X μ kc kn pc L (zi y :: zi x :: st) := by
  obtain ⟨p, l', e, R, s, m, args, below, meth, c, D', N', Q⟩ := X
  obtain ⟨rfl, rfl, rfl, hx, hb, hml, hown, hts, hlk, hB⟩ := C
  intro H locs cells slots ls hH hS hc1 hs1 hl
  have k2 := k H locs cells slots ls hH hS hc1 hs1 hl
  unfold zi at k2 ⊢
  rw [← zI_add] at k2
  exact lv_iadd hx hb d k2
theorem z_isub (C : zC X l D N0 cc nL own Ts) {x y : Int} (d : decode cc pc = .ok (.isub, 1)) (k : Z X μ kc kn (pc + 1) L (zi (x - y) :: st)) : Z X μ kc kn pc L (zi y :: zi x :: st) := by
  obtain ⟨p, l', e, R, s, m, args, below, meth, c, D', N', Q⟩ := X
  obtain ⟨rfl, rfl, rfl, hx, hb, hml, hown, hts, hlk, hB⟩ := C
  intro H locs cells slots ls hH hS hc1 hs1 hl
  have k2 := k H locs cells slots ls hH hS hc1 hs1 hl
  unfold zi at k2 ⊢
  rw [← zI_sub] at k2
  exact lv_isub hx hb d k2
theorem z_imul (C : zC X l D N0 cc nL own Ts) {x y : Int} (d : decode cc pc = .ok (.imul, 1)) (k : Z X μ kc kn (pc + 1) L (zi (x * y) :: st)) : Z X μ kc kn pc L (zi y :: zi x :: st) := by
  obtain ⟨p, l', e, R, s, m, args, below, meth, c, D', N', Q⟩ := X
  obtain ⟨rfl, rfl, rfl, hx, hb, hml, hown, hts, hlk, hB⟩ := C
  intro H locs cells slots ls hH hS hc1 hs1 hl
  have k2 := k H locs cells slots ls hH hS hc1 hs1 hl
  unfold zi at k2 ⊢
  rw [← zI_mul] at k2
  exact lv_imul hx hb d k2
theorem z_ineg (C : zC X l D N0 cc nL own Ts) {x : Int} (d : decode cc pc = .ok (.ineg, 1)) (k : Z X μ kc kn (pc + 1) L (zi (-x) :: st)) : Z X μ kc kn pc L (zi x :: st) := by
  obtain ⟨p, l', e, R, s, m, args, below, meth, c, D', N', Q⟩ := X
  obtain ⟨rfl, rfl, rfl, hx, hb, hml, hown, hts, hlk, hB⟩ := C
  intro H locs cells slots ls hH hS hc1 hs1 hl
  have k2 := k H locs cells slots ls hH hS hc1 hs1 hl
  unfold zi at k2 ⊢
  rw [← zI_neg] at k2
  exact lv_ineg hx hb d k2
theorem z_iand (C : zC X l D N0 cc nL own Ts) {x y v : Int} (d : decode cc pc = .ok (.iand, 1)) (hv : Int32.ofInt x &&& Int32.ofInt y = Int32.ofInt v) (k : Z X μ kc kn (pc + 1) L (zi v :: st)) : Z X μ kc kn pc L (zi y :: zi x :: st) := by
  obtain ⟨p, l', e, R, s, m, args, below, meth, c, D', N', Q⟩ := X
  obtain ⟨rfl, rfl, rfl, hx, hb, hml, hown, hts, hlk, hB⟩ := C
  intro H locs cells slots ls hH hS hc1 hs1 hl
  have k2 := k H locs cells slots ls hH hS hc1 hs1 hl
  unfold zi at k2 ⊢
  rw [← hv] at k2
  exact lv_iand hx hb d k2
theorem z_ior (C : zC X l D N0 cc nL own Ts) {x y v : Int} (d : decode cc pc = .ok (.ior, 1)) (hv : Int32.ofInt x ||| Int32.ofInt y = Int32.ofInt v) (k : Z X μ kc kn (pc + 1) L (zi v :: st)) : Z X μ kc kn pc L (zi y :: zi x :: st) := by
  obtain ⟨p, l', e, R, s, m, args, below, meth, c, D', N', Q⟩ := X
  obtain ⟨rfl, rfl, rfl, hx, hb, hml, hown, hts, hlk, hB⟩ := C
  intro H locs cells slots ls hH hS hc1 hs1 hl
  have k2 := k H locs cells slots ls hH hS hc1 hs1 hl
  unfold zi at k2 ⊢
  rw [← hv] at k2
  exact lv_ior hx hb d k2
theorem z_ixor (C : zC X l D N0 cc nL own Ts) {x y v : Int} (d : decode cc pc = .ok (.ixor, 1)) (hv : Int32.ofInt x ^^^ Int32.ofInt y = Int32.ofInt v) (k : Z X μ kc kn (pc + 1) L (zi v :: st)) : Z X μ kc kn pc L (zi y :: zi x :: st) := by
  obtain ⟨p, l', e, R, s, m, args, below, meth, c, D', N', Q⟩ := X
  obtain ⟨rfl, rfl, rfl, hx, hb, hml, hown, hts, hlk, hB⟩ := C
  intro H locs cells slots ls hH hS hc1 hs1 hl
  have k2 := k H locs cells slots ls hH hS hc1 hs1 hl
  unfold zi at k2 ⊢
  rw [← hv] at k2
  exact lv_ixor hx hb d k2
theorem z_idiv (C : zC X l D N0 cc nL own Ts) {x y v : Int} (d : decode cc pc = .ok (.idiv, 1)) (hne : ¬ Int32.ofInt y = 0) (hv : Int32.ofInt x / Int32.ofInt y = Int32.ofInt v) (k : Z X μ kc kn (pc + 1) L (zi v :: st)) : Z X μ kc kn pc L (zi y :: zi x :: st) := by
  obtain ⟨p, l', e, R, s, m, args, below, meth, c, D', N', Q⟩ := X
  obtain ⟨rfl, rfl, rfl, hx, hb, hml, hown, hts, hlk, hB⟩ := C
  intro H locs cells slots ls hH hS hc1 hs1 hl
  have k2 := k H locs cells slots ls hH hS hc1 hs1 hl
  unfold zi at k2 ⊢
  rw [← hv] at k2
  exact lv_idiv hx hb d hne k2
theorem z_irem (C : zC X l D N0 cc nL own Ts) {x y v : Int} (d : decode cc pc = .ok (.irem, 1)) (hne : ¬ Int32.ofInt y = 0) (hv : Int32.ofInt x - Int32.ofInt x / Int32.ofInt y * Int32.ofInt y = Int32.ofInt v) (k : Z X μ kc kn (pc + 1) L (zi v :: st)) : Z X μ kc kn pc L (zi y :: zi x :: st) := by
  obtain ⟨p, l', e, R, s, m, args, below, meth, c, D', N', Q⟩ := X
  obtain ⟨rfl, rfl, rfl, hx, hb, hml, hown, hts, hlk, hB⟩ := C
  intro H locs cells slots ls hH hS hc1 hs1 hl
  have k2 := k H locs cells slots ls hH hS hc1 hs1 hl
  unfold zi at k2 ⊢
  rw [← hv] at k2
  exact lv_irem hx hb d hne k2
theorem zI_div {a b : Int} (ha : 0 ≤ a ∧ a < 2147483648) (hb : 0 < b ∧ b < 2147483648) : Int32.ofInt a / Int32.ofInt b = Int32.ofInt (a / b) := by
  have h0 : 0 ≤ a / b := Int.ediv_nonneg ha.1 (by omega)
  have h1 : a / b ≤ a := Int.ediv_le_self _ ha.1
  apply Int32.toInt_inj.mp
  rw [Int32.toInt_div, zI (by omega), zI (by omega), zI (by omega), Int.tdiv_eq_ediv_of_nonneg ha.1]
  exact Int.bmod_eq_of_le (by omega) (by omega)
theorem zI_rem {a b : Int} (ha : 0 ≤ a ∧ a < 2147483648) (hb : 0 < b ∧ b < 2147483648) : Int32.ofInt a - Int32.ofInt a / Int32.ofInt b * Int32.ofInt b = Int32.ofInt (a % b) := by
  rw [zI_div ha hb, zI_mul, zI_sub]
  congr 1
  have := Int.emod_add_mul_ediv a b
  rw [Int.mul_comm] at this
  omega
theorem zI_ne0 {b : Int} (hb : -2147483648 ≤ b ∧ b < 2147483648) (h0 : b ≠ 0) : ¬ Int32.ofInt b = 0 := by
  rw [zI_0, zI_eq hb (by omega)]
  exact h0
theorem z_idivP (C : zC X l D N0 cc nL own Ts) {x y : Int} (d : decode cc pc = .ok (.idiv, 1)) (k : Z X μ kc kn (pc + 1) L (zi (x / y) :: st)) (hx0 : 0 ≤ x ∧ x < 2147483648 := by omega) (hy0 : 0 < y ∧ y < 2147483648 := by omega) : Z X μ kc kn pc L (zi y :: zi x :: st) := z_idiv C d (zI_ne0 (by omega) (by omega)) (zI_div hx0 hy0) k
theorem z_iremP (C : zC X l D N0 cc nL own Ts) {x y : Int} (d : decode cc pc = .ok (.irem, 1)) (k : Z X μ kc kn (pc + 1) L (zi (x % y) :: st)) (hx0 : 0 ≤ x ∧ x < 2147483648 := by omega) (hy0 : 0 < y ∧ y < 2147483648 := by omega) : Z X μ kc kn pc L (zi y :: zi x :: st) := z_irem C d (zI_ne0 (by omega) (by omega)) (zI_rem hx0 hy0) k
/-- a remainder of which nothing is said -/
theorem z_iremA (C : zC X l D N0 cc nL own Ts) {x y : Int} (d : decode cc pc = .ok (.irem, 1)) (hy : -2147483648 ≤ y ∧ y < 2147483648) (h0 : y ≠ 0) (k : ∀ v : Int, -2147483648 ≤ v ∧ v < 2147483648 → Z X μ kc kn (pc + 1) L (zi v :: st)) : Z X μ kc kn pc L (zi y :: zi x :: st) := z_irem C d (zI_ne0 hy h0) (zI_as _).symm (k _ (zI_rng _))
theorem z_ladd (C : zC X l D N0 cc nL own Ts) {x y : Int64} (d : decode cc pc = .ok (.ladd, 1)) (k : Z X μ kc kn (pc + 1) L (.long (x + y) :: st)) : Z X μ kc kn pc L (.long y :: .long x :: st) := by
  obtain ⟨p, l', e, R, s, m, args, below, meth, c, D', N', Q⟩ := X
  obtain ⟨rfl, rfl, rfl, hx, hb, hml, hown, hts, hlk, hB⟩ := C
  intro H locs cells slots ls hH hS hc1 hs1 hl
  exact lv_ladd hx hb d (k H locs cells slots ls hH hS hc1 hs1 hl)
theorem z_lsub (C : zC X l D N0 cc nL own Ts) {x y : Int64} (d : decode cc pc = .ok (.lsub, 1)) (k : Z X μ kc kn (pc + 1) L (.long (x - y) :: st)) : Z X μ kc kn pc L (.long y :: .long x :: st) := by
  obtain ⟨p, l', e, R, s, m, args, below, meth, c, D', N', Q⟩ := X
  obtain ⟨rfl, rfl, rfl, hx, hb, hml, hown, hts, hlk, hB⟩ := C
  intro H locs cells slots ls hH hS hc1 hs1 hl
  exact lv_lsub hx hb d (k H locs cells slots ls hH hS hc1 hs1 hl)
theorem z_lmul (C : zC X l D N0 cc nL own Ts) {x y : Int64} (d : decode cc pc = .ok (.lmul, 1)) (k : Z X μ kc kn (pc + 1) L (.long (x * y) :: st)) : Z X μ kc kn pc L (.long y :: .long x :: st) := by
  obtain ⟨p, l', e, R, s, m, args, below, meth, c, D', N', Q⟩ := X
  obtain ⟨rfl, rfl, rfl, hx, hb, hml, hown, hts, hlk, hB⟩ := C
  intro H locs cells slots ls hH hS hc1 hs1 hl
  exact lv_lmul hx hb d (k H locs cells slots ls hH hS hc1 hs1 hl)
theorem z_land (C : zC X l D N0 cc nL own Ts) {x y : Int64} (d : decode cc pc = .ok (.land, 1)) (k : Z X μ kc kn (pc + 1) L (.long (x &&& y) :: st)) : Z X μ kc kn pc L (.long y :: .long x :: st) := by
  obtain ⟨p, l', e, R, s, m, args, below, meth, c, D', N', Q⟩ := X
  obtain ⟨rfl, rfl, rfl, hx, hb, hml, hown, hts, hlk, hB⟩ := C
  intro H locs cells slots ls hH hS hc1 hs1 hl
  exact lv_land hx hb d (k H locs cells slots ls hH hS hc1 hs1 hl)
theorem z_lor (C : zC X l D N0 cc nL own Ts) {x y : Int64} (d : decode cc pc = .ok (.lor, 1)) (k : Z X μ kc kn (pc + 1) L (.long (x ||| y) :: st)) : Z X μ kc kn pc L (.long y :: .long x :: st) := by
  obtain ⟨p, l', e, R, s, m, args, below, meth, c, D', N', Q⟩ := X
  obtain ⟨rfl, rfl, rfl, hx, hb, hml, hown, hts, hlk, hB⟩ := C
  intro H locs cells slots ls hH hS hc1 hs1 hl
  exact lv_lor hx hb d (k H locs cells slots ls hH hS hc1 hs1 hl)
theorem z_lxor (C : zC X l D N0 cc nL own Ts) {x y : Int64} (d : decode cc pc = .ok (.lxor, 1)) (k : Z X μ kc kn (pc + 1) L (.long (x ^^^ y) :: st)) : Z X μ kc kn pc L (.long y :: .long x :: st) := by
  obtain ⟨p, l', e, R, s, m, args, below, meth, c, D', N', Q⟩ := X
  obtain ⟨rfl, rfl, rfl, hx, hb, hml, hown, hts, hlk, hB⟩ := C
  intro H locs cells slots ls hH hS hc1 hs1 hl
  exact lv_lxor hx hb d (k H locs cells slots ls hH hS hc1 hs1 hl)
theorem z_lneg (C : zC X l D N0 cc nL own Ts) {x : Int64} (d : decode cc pc = .ok (.lneg, 1)) (k : Z X μ kc kn (pc + 1) L (.long (-x) :: st)) : Z X μ kc kn pc L (.long x :: st) := by
  obtain ⟨p, l', e, R, s, m, args, below, meth, c, D', N', Q⟩ := X
  obtain ⟨rfl, rfl, rfl, hx, hb, hml, hown, hts, hlk, hB⟩ := C
  intro H locs cells slots ls hH hS hc1 hs1 hl
  exact lv_lneg hx hb d (k H locs cells slots ls hH hS hc1 hs1 hl)
theorem z_i2l (C : zC X l D N0 cc nL own Ts) {x : Int} (d : decode cc pc = .ok (.i2l, 1)) (k : Z X μ kc kn (pc + 1) L (.long (Int32.ofInt x).toInt64 :: st)) : Z X μ kc kn pc L (zi x :: st) := by
  obtain ⟨p, l', e, R, s, m, args, below, meth, c, D', N', Q⟩ := X
  obtain ⟨rfl, rfl, rfl, hx, hb, hml, hown, hts, hlk, hB⟩ := C
  intro H locs cells slots ls hH hS hc1 hs1 hl
  exact lv_i2l hx hb d rfl (k H locs cells slots ls hH hS hc1 hs1 hl)
theorem z_l2i (C : zC X l D N0 cc nL own Ts) {x : Int64} (d : decode cc pc = .ok (.l2i, 1)) (k : Z X μ kc kn (pc + 1) L (zi x.toInt32.toInt :: st)) : Z X μ kc kn pc L (.long x :: st) := by
  obtain ⟨p, l', e, R, s, m, args, below, meth, c, D', N', Q⟩ := X
  obtain ⟨rfl, rfl, rfl, hx, hb, hml, hown, hts, hlk, hB⟩ := C
  intro H locs cells slots ls hH hS hc1 hs1 hl
  exact lv_l2i hx hb d (zI_as _).symm (k H locs cells slots ls hH hS hc1 hs1 hl)
/-- the shifts of longs by an int: by its six lowest bits -/
def zshl (x : Int64) (y : Int) : Int64 := x <<< ((Int32.ofInt y).toInt64 &&& 63)
def zushr (x : Int64) (y : Int) : Int64 := (x.toUInt64 >>> ((Int32.ofInt y).toInt64.toUInt64 &&& Int64.toUInt64 63)).toInt64
theorem z_lshl (C : zC X l D N0 cc nL own Ts) {x : Int64} {y : Int} (d : decode cc pc = .ok (.lshl, 1)) (k : Z X μ kc kn (pc + 1) L (.long (zshl x y) :: st)) : Z X μ kc kn pc L (zi y :: .long x :: st) := by
  obtain ⟨p, l', e, R, s, m, args, below, meth, c, D', N', Q⟩ := X
  obtain ⟨rfl, rfl, rfl, hx, hb, hml, hown, hts, hlk, hB⟩ := C
  intro H locs cells slots ls hH hS hc1 hs1 hl
  exact lv_lshl hx hb d rfl (k H locs cells slots ls hH hS hc1 hs1 hl)
theorem z_lushr (C : zC X l D N0 cc nL own Ts) {x : Int64} {y : Int} (d : decode cc pc = .ok (.lushr, 1)) (k : Z X μ kc kn (pc + 1) L (.long (zushr x y) :: st)) : Z X μ kc kn pc L (zi y :: .long x :: st) := by
  obtain ⟨p, l', e, R, s, m, args, below, meth, c, D', N', Q⟩ := X
  obtain ⟨rfl, rfl, rfl, hx, hb, hml, hown, hts, hlk, hB⟩ := C
  intro H locs cells slots ls hH hS hc1 hs1 hl
  exact lv_lushr hx hb d rfl (k H locs cells slots ls hH hS hc1 hs1 hl)
def zcmp (x y : Int64) : Int := if x > y then 1 else if x = y then 0 else -1
theorem zcmp_eq (x y : Int64) : lg_cmp x y = Int32.ofInt (zcmp x y) := by
  unfold lg_cmp zcmp
  by_cases h : x > y
  · rw [if_pos h, if_pos h]; rfl
  · rw [if_neg h, if_neg h]
    by_cases h2 : x = y
    · rw [if_pos h2, if_pos h2]; rfl
    · rw [if_neg h2, if_neg h2]; rfl
theorem zcmp_rng (x y : Int64) : -1 ≤ zcmp x y ∧ zcmp x y ≤ 1 := by
  unfold zcmp
  by_cases h : x > y
  · rw [if_pos h]; omega
  · rw [if_neg h]
    by_cases h2 : x = y
    · rw [if_pos h2]; omega
    · rw [if_neg h2]; omega
theorem zcmp_0 (x y : Int64) : zcmp x y = 0 ↔ x = y := by
  unfold zcmp
  by_cases h : x > y
  · rw [if_pos h]
    constructor
    · intro q; omega
    · intro q; subst q; exact absurd h (Int64.lt_irrefl)
  · rw [if_neg h]
    by_cases h2 : x = y
    · rw [if_pos h2]; simp [h2]
    · rw [if_neg h2]; simp [h2]
theorem zcmp_lt (x y : Int64) : zcmp x y < 0 ↔ x < y := by
  unfold zcmp
  by_cases h : x > y
  · rw [if_pos h]
    constructor
    · intro q; omega
    · intro q; exact absurd (Int64.lt_trans q h) (Int64.lt_irrefl)
  · rw [if_neg h]
    by_cases h2 : x = y
    · rw [if_pos h2]
      constructor
      · intro q; omega
      · intro q; rw [h2] at q; exact absurd q (Int64.lt_irrefl)
    · rw [if_neg h2]
      constructor
      · intro _
        rcases Int64.lt_or_eq_of_le (Int64.not_lt.mp h) with q | q
        · exact q
        · exact absurd q h2
      · intro _; omega
theorem zcmp_gt (x y : Int64) : 0 < zcmp x y ↔ y < x := by
  unfold zcmp
  by_cases h : x > y
  · rw [if_pos h]
    constructor
    · intro _; exact h
    · intro _; omega
  · rw [if_neg h]
    by_cases h2 : x = y
    · rw [if_pos h2]
      constructor
      · intro q; omega
      · intro q; exact absurd q h
    · rw [if_neg h2]
      constructor
      · intro q; omega
      · intro q; exact absurd q h
theorem z_lcmp (C : zC X l D N0 cc nL own Ts) {x y : Int64} (d : decode cc pc = .ok (.lcmp, 1)) (k : Z X μ kc kn (pc + 1) L (zi (zcmp x y) :: st)) : Z X μ kc kn pc L (.long y :: .long x :: st) := by
  obtain ⟨p, l', e, R, s, m, args, below, meth, c, D', N', Q⟩ := X
  obtain ⟨rfl, rfl, rfl, hx, hb, hml, hown, hts, hlk, hB⟩ := C
  intro H locs cells slots ls hH hS hc1 hs1 hl
  have k2 := k H locs cells slots ls hH hS hc1 hs1 hl
  unfold zi at k2
  rw [← zcmp_eq] at k2
  exact W.lcmp hx hb d k2
theorem z_dcmp (C : zC X l D N0 cc nL own Ts) {x y : UInt64} {op : CmpOp} (d : decode cc pc = .ok (.dcmp op, 1)) (k : Z X μ kc kn (pc + 1) L (.int (Op.cmpValue (FP.dcmp x y) op) :: st)) : Z X μ kc kn pc L (.double y :: .double x :: st) := by
  obtain ⟨p, l', e, R, s, m, args, below, meth, c, D', N', Q⟩ := X
  obtain ⟨rfl, rfl, rfl, hx, hb, hml, hown, hts, hlk, hB⟩ := C
  intro H locs cells slots ls hH hS hc1 hs1 hl
  exact lv_dcmp hx hb d (k H locs cells slots ls hH hS hc1 hs1 hl)
theorem z_dup (C : zC X l D N0 cc nL own Ts) {v : Value} (d : decode cc pc = .ok (.dup, 1)) (hv : v.category = 1) (k : Z X μ kc kn (pc + 1) L (v :: v :: st)) : Z X μ kc kn pc L (v :: st) := by
  obtain ⟨p, l', e, R, s, m, args, below, meth, c, D', N', Q⟩ := X
  obtain ⟨rfl, rfl, rfl, hx, hb, hml, hown, hts, hlk, hB⟩ := C
  intro H locs cells slots ls hH hS hc1 hs1 hl
  exact lv_dup hx hb d hv (k H locs cells slots ls hH hS hc1 hs1 hl)
theorem z_pop (C : zC X l D N0 cc nL own Ts) {v : Value} (d : decode cc pc = .ok (.pop, 1)) (hv : v.category = 1) (k : Z X μ kc kn (pc + 1) L (st)) : Z X μ kc kn pc L (v :: st) := by
  obtain ⟨p, l', e, R, s, m, args, below, meth, c, D', N', Q⟩ := X
  obtain ⟨rfl, rfl, rfl, hx, hb, hml, hown, hts, hlk, hB⟩ := C
  intro H locs cells slots ls hH hS hc1 hs1 hl
  exact lv_pop hx hb d hv (k H locs cells slots ls hH hS hc1 hs1 hl)
theorem z_dup_x1 (C : zC X l D N0 cc nL own Ts) {v w : Value} (d : decode cc pc = .ok (.dup_x1, 1)) (hv : v.category = 1) (hw : w.category = 1) (k : Z X μ kc kn (pc + 1) L (v :: w :: v :: st)) : Z X μ kc kn pc L (v :: w :: st) := by
  obtain ⟨p, l', e, R, s, m, args, below, meth, c, D', N', Q⟩ := X
  obtain ⟨rfl, rfl, rfl, hx, hb, hml, hown, hts, hlk, hB⟩ := C
  intro H locs cells slots ls hH hS hc1 hs1 hl
  exact lv_dup_x1 hx hb d hv hw (k H locs cells slots ls hH hS hc1 hs1 hl)
theorem z_dup2 (C : zC X l D N0 cc nL own Ts) {v w : Value} (d : decode cc pc = .ok (.dup2, 1)) (hv : v.category = 1) (hw : w.category = 1) (k : Z X μ kc kn (pc + 1) L (v :: w :: v :: w :: st)) : Z X μ kc kn pc L (v :: w :: st) := by
  obtain ⟨p, l', e, R, s, m, args, below, meth, c, D', N', Q⟩ := X
  obtain ⟨rfl, rfl, rfl, hx, hb, hml, hown, hts, hlk, hB⟩ := C
  intro H locs cells slots ls hH hS hc1 hs1 hl
  exact lv_dup2_11 hx hb d hv hw (k H locs cells slots ls hH hS hc1 hs1 hl)
theorem z_icmp_eq (C : zC X l D N0 cc nL own Ts) {x y : Int} {off : Int} {tgt : Nat} (d : decode cc pc = .ok (.if_icmp .eq off, 3)) (ht : (pc : Int) + off = (tgt : Int)) (kt : x = y → Z X μ kc kn tgt L st) (kf : ¬ x = y → Z X μ kc kn (pc + 3) L st) (hxr : -2147483648 ≤ x ∧ x < 2147483648 := by omega) (hyr : -2147483648 ≤ y ∧ y < 2147483648 := by omega) : Z X μ kc kn pc L (zi y :: zi x :: st) := by
  obtain ⟨p, l', e, R, s, m, args, below, meth, c, D', N', Q⟩ := X
  obtain ⟨rfl, rfl, rfl, hx, hb, hml, hown, hts, hlk, hB⟩ := C
  intro H locs cells slots ls hH hS hc1 hs1 hl
  exact lv_icmp_eq hx hb d ht (fun q => kt ((zI_eq hxr hyr).mp q) H locs cells slots ls hH hS hc1 hs1 hl) (fun q => kf (fun h => q ((zI_eq hxr hyr).mpr h)) H locs cells slots ls hH hS hc1 hs1 hl)
theorem z_if_eq (C : zC X l D N0 cc nL own Ts) {x : Int} {off : Int} {tgt : Nat} (d : decode cc pc = .ok (.ifCond .eq off, 3)) (ht : (pc : Int) + off = (tgt : Int)) (kt : x = 0 → Z X μ kc kn tgt L st) (kf : ¬ x = 0 → Z X μ kc kn (pc + 3) L st) (hxr : -2147483648 ≤ x ∧ x < 2147483648 := by omega) : Z X μ kc kn pc L (zi x :: st) := by
  obtain ⟨p, l', e, R, s, m, args, below, meth, c, D', N', Q⟩ := X
  obtain ⟨rfl, rfl, rfl, hx, hb, hml, hown, hts, hlk, hB⟩ := C
  intro H locs cells slots ls hH hS hc1 hs1 hl
  have hyr : -2147483648 ≤ (0 : Int) ∧ (0 : Int) < 2147483648 := by omega
  exact lv_if_eq hx hb d ht (fun q => kt ((zI_eq hxr hyr).mp q) H locs cells slots ls hH hS hc1 hs1 hl) (fun q => kf (fun h => q ((zI_eq hxr hyr).mpr h)) H locs cells slots ls hH hS hc1 hs1 hl)
theorem z_icmp_ne (C : zC X l D N0 cc nL own Ts) {x y : Int} {off : Int} {tgt : Nat} (d : decode cc pc = .ok (.if_icmp .ne off, 3)) (ht : (pc : Int) + off = (tgt : Int)) (kt : ¬ x = y → Z X μ kc kn tgt L st) (kf : x = y → Z X μ kc kn (pc + 3) L st) (hxr : -2147483648 ≤ x ∧ x < 2147483648 := by omega) (hyr : -2147483648 ≤ y ∧ y < 2147483648 := by omega) : Z X μ kc kn pc L (zi y :: zi x :: st) := by
  obtain ⟨p, l', e, R, s, m, args, below, meth, c, D', N', Q⟩ := X
  obtain ⟨rfl, rfl, rfl, hx, hb, hml, hown, hts, hlk, hB⟩ := C
  intro H locs cells slots ls hH hS hc1 hs1 hl
  exact lv_icmp_ne hx hb d ht (fun q => kt (fun h => q ((zI_eq hxr hyr).mpr h)) H locs cells slots ls hH hS hc1 hs1 hl) (fun q => kf ((zI_eq hxr hyr).mp q) H locs cells slots ls hH hS hc1 hs1 hl)
theorem z_if_ne (C : zC X l D N0 cc nL own Ts) {x : Int} {off : Int} {tgt : Nat} (d : decode cc pc = .ok (.ifCond .ne off, 3)) (ht : (pc : Int) + off = (tgt : Int)) (kt : ¬ x = 0 → Z X μ kc kn tgt L st) (kf : x = 0 → Z X μ kc kn (pc + 3) L st) (hxr : -2147483648 ≤ x ∧ x < 2147483648 := by omega) : Z X μ kc kn pc L (zi x :: st) := by
  obtain ⟨p, l', e, R, s, m, args, below, meth, c, D', N', Q⟩ := X
  obtain ⟨rfl, rfl, rfl, hx, hb, hml, hown, hts, hlk, hB⟩ := C
  intro H locs cells slots ls hH hS hc1 hs1 hl
  have hyr : -2147483648 ≤ (0 : Int) ∧ (0 : Int) < 2147483648 := by omega
  exact lv_if_ne hx hb d ht (fun q => kt (fun h => q ((zI_eq hxr hyr).mpr h)) H locs cells slots ls hH hS hc1 hs1 hl) (fun q => kf ((zI_eq hxr hyr).mp q) H locs cells slots ls hH hS hc1 hs1 hl)
theorem z_icmp_lt (C : zC X l D N0 cc nL own Ts) {x y : Int} {off : Int} {tgt : Nat} (d : decode cc pc = .ok (.if_icmp .lt off, 3)) (ht : (pc : Int) + off = (tgt : Int)) (kt : x < y → Z X μ kc kn tgt L st) (kf : y ≤ x → Z X μ kc kn (pc + 3) L st) (hxr : -2147483648 ≤ x ∧ x < 2147483648 := by omega) (hyr : -2147483648 ≤ y ∧ y < 2147483648 := by omega) : Z X μ kc kn pc L (zi y :: zi x :: st) := by
  obtain ⟨p, l', e, R, s, m, args, below, meth, c, D', N', Q⟩ := X
  obtain ⟨rfl, rfl, rfl, hx, hb, hml, hown, hts, hlk, hB⟩ := C
  intro H locs cells slots ls hH hS hc1 hs1 hl
  exact lv_icmp_lt hx hb d ht (fun q => kt ((zI_lt hxr hyr).mp q) H locs cells slots ls hH hS hc1 hs1 hl) (fun q => kf (Int.not_lt.mp (fun h => q ((zI_lt hxr hyr).mpr h))) H locs cells slots ls hH hS hc1 hs1 hl)
theorem z_if_lt (C : zC X l D N0 cc nL own Ts) {x : Int} {off : Int} {tgt : Nat} (d : decode cc pc = .ok (.ifCond .lt off, 3)) (ht : (pc : Int) + off = (tgt : Int)) (kt : x < 0 → Z X μ kc kn tgt L st) (kf : 0 ≤ x → Z X μ kc kn (pc + 3) L st) (hxr : -2147483648 ≤ x ∧ x < 2147483648 := by omega) : Z X μ kc kn pc L (zi x :: st) := by
  obtain ⟨p, l', e, R, s, m, args, below, meth, c, D', N', Q⟩ := X
  obtain ⟨rfl, rfl, rfl, hx, hb, hml, hown, hts, hlk, hB⟩ := C
  intro H locs cells slots ls hH hS hc1 hs1 hl
  have hyr : -2147483648 ≤ (0 : Int) ∧ (0 : Int) < 2147483648 := by omega
  exact lv_if_lt hx hb d ht (fun q => kt ((zI_lt hxr hyr).mp q) H locs cells slots ls hH hS hc1 hs1 hl) (fun q => kf (Int.not_lt.mp (fun h => q ((zI_lt hxr hyr).mpr h))) H locs cells slots ls hH hS hc1 hs1 hl)
theorem z_icmp_ge (C : zC X l D N0 cc nL own Ts) {x y : Int} {off : Int} {tgt : Nat} (d : decode cc pc = .ok (.if_icmp .ge off, 3)) (ht : (pc : Int) + off = (tgt : Int)) (kt : y ≤ x → Z X μ kc kn tgt L st) (kf : x < y → Z X μ kc kn (pc + 3) L st) (hxr : -2147483648 ≤ x ∧ x < 2147483648 := by omega) (hyr : -2147483648 ≤ y ∧ y < 2147483648 := by omega) : Z X μ kc kn pc L (zi y :: zi x :: st) := by
  obtain ⟨p, l', e, R, s, m, args, below, meth, c, D', N', Q⟩ := X
  obtain ⟨rfl, rfl, rfl, hx, hb, hml, hown, hts, hlk, hB⟩ := C
  intro H locs cells slots ls hH hS hc1 hs1 hl
  exact lv_icmp_ge hx hb d ht (fun q => kt ((zI_le hyr hxr).mp q) H locs cells slots ls hH hS hc1 hs1 hl) (fun q => kf (Int.not_le.mp (fun h => q ((zI_le hyr hxr).mpr h))) H locs cells slots ls hH hS hc1 hs1 hl)
theorem z_if_ge (C : zC X l D N0 cc nL own Ts) {x : Int} {off : Int} {tgt : Nat} (d : decode cc pc = .ok (.ifCond .ge off, 3)) (ht : (pc : Int) + off = (tgt : Int)) (kt : 0 ≤ x → Z X μ kc kn tgt L st) (kf : x < 0 → Z X μ kc kn (pc + 3) L st) (hxr : -2147483648 ≤ x ∧ x < 2147483648 := by omega) : Z X μ kc kn pc L (zi x :: st) := by
  obtain ⟨p, l', e, R, s, m, args, below, meth, c, D', N', Q⟩ := X
  obtain ⟨rfl, rfl, rfl, hx, hb, hml, hown, hts, hlk, hB⟩ := C
  intro H locs cells slots ls hH hS hc1 hs1 hl
  have hyr : -2147483648 ≤ (0 : Int) ∧ (0 : Int) < 2147483648 := by omega
  exact lv_if_ge hx hb d ht (fun q => kt ((zI_le hyr hxr).mp q) H locs cells slots ls hH hS hc1 hs1 hl) (fun q => kf (Int.not_le.mp (fun h => q ((zI_le hyr hxr).mpr h))) H locs cells slots ls hH hS hc1 hs1 hl)
theorem z_icmp_gt (C : zC X l D N0 cc nL own Ts) {x y : Int} {off : Int} {tgt : Nat} (d : decode cc pc = .ok (.if_icmp .gt off, 3)) (ht : (pc : Int) + off = (tgt : Int)) (kt : y < x → Z X μ kc kn tgt L st) (kf : x ≤ y → Z X μ kc kn (pc + 3) L st) (hxr : -2147483648 ≤ x ∧ x < 2147483648 := by omega) (hyr : -2147483648 ≤ y ∧ y < 2147483648 := by omega) : Z X μ kc kn pc L (zi y :: zi x :: st) := by
  obtain ⟨p, l', e, R, s, m, args, below, meth, c, D', N', Q⟩ := X
  obtain ⟨rfl, rfl, rfl, hx, hb, hml, hown, hts, hlk, hB⟩ := C
  intro H locs cells slots ls hH hS hc1 hs1 hl
  exact lv_icmp_gt hx hb d ht (fun q => kt ((zI_lt hyr hxr).mp q) H locs cells slots ls hH hS hc1 hs1 hl) (fun q => kf (Int.not_lt.mp (fun h => q ((zI_lt hyr hxr).mpr h))) H locs cells slots ls hH hS hc1 hs1 hl)
theorem z_if_gt (C : zC X l D N0 cc nL own Ts) {x : Int} {off : Int} {tgt : Nat} (d : decode cc pc = .ok (.ifCond .gt off, 3)) (ht : (pc : Int) + off = (tgt : Int)) (kt : 0 < x → Z X μ kc kn tgt L st) (kf : x ≤ 0 → Z X μ kc kn (pc + 3) L st) (hxr : -2147483648 ≤ x ∧ x < 2147483648 := by omega) : Z X μ kc kn pc L (zi x :: st) := by
  obtain ⟨p, l', e, R, s, m, args, below, meth, c, D', N', Q⟩ := X
  obtain ⟨rfl, rfl, rfl, hx, hb, hml, hown, hts, hlk, hB⟩ := C
  intro H locs cells slots ls hH hS hc1 hs1 hl
  have hyr : -2147483648 ≤ (0 : Int) ∧ (0 : Int) < 2147483648 := by omega
  exact lv_if_gt hx hb d ht (fun q => kt ((zI_lt hyr hxr).mp q) H locs cells slots ls hH hS hc1 hs1 hl) (fun q => kf (Int.not_lt.mp (fun h => q ((zI_lt hyr hxr).mpr h))) H locs cells slots ls hH hS hc1 hs1 hl)
theorem z_icmp_le (C : zC X l D N0 cc nL own Ts) {x y : Int} {off : Int} {tgt : Nat} (d : decode cc pc = .ok (.if_icmp .le off, 3)) (ht : (pc : Int) + off = (tgt : Int)) (kt : x ≤ y → Z X μ kc kn tgt L st) (kf : y < x → Z X μ kc kn (pc + 3) L st) (hxr : -2147483648 ≤ x ∧ x < 2147483648 := by omega) (hyr : -2147483648 ≤ y ∧ y < 2147483648 := by omega) : Z X μ kc kn pc L (zi y :: zi x :: st) := by
  obtain ⟨p, l', e, R, s, m, args, below, meth, c, D', N', Q⟩ := X
  obtain ⟨rfl, rfl, rfl, hx, hb, hml, hown, hts, hlk, hB⟩ := C
  intro H locs cells slots ls hH hS hc1 hs1 hl
  exact lv_icmp_le hx hb d ht (fun q => kt ((zI_le hxr hyr).mp q) H locs cells slots ls hH hS hc1 hs1 hl) (fun q => kf (Int.not_le.mp (fun h => q ((zI_le hxr hyr).mpr h))) H locs cells slots ls hH hS hc1 hs1 hl)
theorem z_if_le (C : zC X l D N0 cc nL own Ts) {x : Int} {off : Int} {tgt : Nat} (d : decode cc pc = .ok (.ifCond .le off, 3)) (ht : (pc : Int) + off = (tgt : Int)) (kt : x ≤ 0 → Z X μ kc kn tgt L st) (kf : 0 < x → Z X μ kc kn (pc + 3) L st) (hxr : -2147483648 ≤ x ∧ x < 2147483648 := by omega) : Z X μ kc kn pc L (zi x :: st) := by
  obtain ⟨p, l', e, R, s, m, args, below, meth, c, D', N', Q⟩ := X
  obtain ⟨rfl, rfl, rfl, hx, hb, hml, hown, hts, hlk, hB⟩ := C
  intro H locs cells slots ls hH hS hc1 hs1 hl
  have hyr : -2147483648 ≤ (0 : Int) ∧ (0 : Int) < 2147483648 := by omega
  exact lv_if_le hx hb d ht (fun q => kt ((zI_le hxr hyr).mp q) H locs cells slots ls hH hS hc1 hs1 hl) (fun q => kf (Int.not_le.mp (fun h => q ((zI_le hxr hyr).mpr h))) H locs cells slots ls hH hS hc1 hs1 hl)
theorem z_goto (C : zC X l D N0 cc nL own Ts) {off : Int} {tgt : Nat} (d : decode cc pc = .ok (.goto off, 3)) (ht : (pc : Int) + off = (tgt : Int)) (k : Z X μ kc kn tgt L st) : Z X μ kc kn pc L st := by
  obtain ⟨p, l', e, R, s, m, args, below, meth, c, D', N', Q⟩ := X
  obtain ⟨rfl, rfl, rfl, hx, hb, hml, hown, hts, hlk, hB⟩ := C
  intro H locs cells slots ls hH hS hc1 hs1 hl
  exact lv_goto hx hb d ht (k H locs cells slots ls hH hS hc1 hs1 hl)
theorem z_tableOut (C : zC X l D N0 cc nL own Ts) {dflt lo hi : Int} {offs : Array Int} {len : Nat} {x : Int} {tgt : Nat} (d : decode cc pc = .ok (.tableswitch dflt lo hi offs, len)) (h : x < lo ∨ hi < x) (ht : (pc : Int) + dflt = (tgt : Int)) (k : Z X μ kc kn tgt L st) (hxr : -2147483648 ≤ x ∧ x < 2147483648 := by omega) : Z X μ kc kn pc L (zi x :: st) := by
  obtain ⟨p, l', e, R, s, m, args, below, meth, c, D', N', Q⟩ := X
  obtain ⟨rfl, rfl, rfl, hx, hb, hml, hown, hts, hlk, hB⟩ := C
  intro H locs cells slots ls hH hS hc1 hs1 hl
  exact lv_tableOut hx hb d (by rw [zI hxr]; exact h) ht (k H locs cells slots ls hH hS hc1 hs1 hl)
theorem z_tableIn (C : zC X l D N0 cc nL own Ts) {dflt lo hi : Int} {offs : Array Int} {len : Nat} {x off : Int} {tgt : Nat} (d : decode cc pc = .ok (.tableswitch dflt lo hi offs, len)) (h1 : ¬ x < lo) (h2 : ¬ hi < x) (ho : offs[(x - lo).toNat]? = some off) (ht : (pc : Int) + off = (tgt : Int)) (k : Z X μ kc kn tgt L st) (hxr : -2147483648 ≤ x ∧ x < 2147483648 := by omega) : Z X μ kc kn pc L (zi x :: st) := by
  obtain ⟨p, l', e, R, s, m, args, below, meth, c, D', N', Q⟩ := X
  obtain ⟨rfl, rfl, rfl, hx, hb, hml, hown, hts, hlk, hB⟩ := C
  intro H locs cells slots ls hH hS hc1 hs1 hl
  have e0 := zI hxr
  exact lv_tableIn hx hb d (by rw [e0]; exact h1) (by rw [e0]; exact h2) (by rw [e0]; exact ho) ht (k H locs cells slots ls hH hS hc1 hs1 hl)
theorem z_get (C : zC X l D N0 cc nL own Ts) {a ci index : Nat} {fs : List Value} {CN : String} {T : u_T} {N : Nat} {v : Value} (hm : μ a = some (.inr (ci, fs))) (hc : vwCl[ci]? = some (CN, T, N)) (k : Nat) (hk : k < N) (hlink : Cond.fieldLink own index CN (T k).2.1 (T k).2.2.1 ∈ Ts) (hin : ∀ w ∈ u_ws CN T N, w ∈ Ts) (href : (T k).1 = CN) (hv : fs[k]? = some v) (d : decode cc pc = .ok (.getfield index, 3)) (kk : Z X μ kc kn (pc + 3) L (v :: st)) : Z X μ kc kn pc L (.ref a :: st) := by
  obtain ⟨p, l', e, R, s, m, args, below, meth, c, D', N', Q⟩ := X
  obtain ⟨rfl, rfl, rfl, hx, hb, hml, hown, hts, hlk, hB⟩ := C
  intro H locs cells slots ls hH hS hc1 hs1 hl
  exact va_get hx hb hts hin hown hB.1 (hH.one hm) 0 rfl hc k hk (hts _ hlink) (fun x q => by rw [← href]; exact q) hv d (kk H locs cells slots ls hH hS hc1 hs1 hl)
theorem z_put (C : zC X l D N0 cc nL own Ts) {a ci index : Nat} {fs : List Value} {CN : String} {T : u_T} {N : Nat} {v : Value} (hm : μ a = some (.inr (ci, fs))) (hc : vwCl[ci]? = some (CN, T, N)) (ty0 : Nat → FieldType) (hty : ∀ k, k < N → parseFieldDescriptor (T k).2.2.1 = some (ty0 k)) (hnm : ∀ a, a < N → ∀ b, b < N → a ≠ b → (T a).2.1 ≠ (T b).2.1) (k : Nat) (hk : k < N) (hlink : Cond.fieldLink own index CN (T k).2.1 (T k).2.2.1 ∈ Ts) (hin : ∀ w ∈ u_ws CN T N, w ∈ Ts) (href : (T k).1 = CN) (hfin : (T k).2.2.2 = false) (hn : narrow (ty0 k) v = v) (hfit : fits (ty0 k) v = true) (hlen : k < fs.length) (d : decode cc pc = .ok (.putfield index, 3)) (kk : Z X (zu μ a (.inr (ci, fs.set k v))) kc kn (pc + 3) L st) : Z X μ kc kn pc L (v :: .ref a :: st) := by
  obtain ⟨p, l', e, R, s, m, args, below, meth, c, D', N', Q⟩ := X
  obtain ⟨rfl, rfl, rfl, hx, hb, hml, hown, hts, hlk, hB⟩ := C
  intro H locs cells slots ls hH hS hc1 hs1 hl
  have hap := va_apart (own := own) hts hin ty0 hty hnm hB.1 hc
  obtain ⟨r, h1, cell, q1, q2, q3, q4⟩ := (hH a _ hm).1
  have hr : r = (CN, T, N) := Option.some.inj (h1.symm.trans hc)
  subst hr
  obtain ⟨hSl, hfc, kC, hkC, hkind⟩ := hB.1.1 ci _ hc
  obtain ⟨cf, kf, fi, f, hi, hsl⟩ := hSl k hk
  have hlay := hts _ (hin _ (u_in_lay hk))
  unfold u_lay at hlay
  rw [if_neg (by rw [hfin]; decide)] at hlay
  have hst := (u_facts hfc hkC (u_lays hts hin hk) hi).1
  have h6 := u_store hfc hkC hkind hlay hi (hty k hk) hn hfit
  refine W.putK hx hb (f := f) ⟨hown, hts _ hlink, ⟨_, _, _, by rw [← href]; exact hi⟩, hst⟩ (by rw [q2]; exact h6) q1 q3 (by rw [hsl]; exact k2_hasslot (q4 k hk)) rfl rfl d fun H' e1 e2 e3 => ?_
  rw [hsl] at e1 ⊢
  have hv9 : va_at D' vwCl (a, .inr (ci, fs.set k v)) H' := ⟨_, hc, t_OB.to (V := updV (vp_V fs) k v) ⟨_, e1, q2, q3, t_set q4 hap hk v⟩ (fun j _ => vp_updV_set hlen v j)⟩
  exact kk H' _ cells slots ls (hH.seta hv9 (hH a _ hm).2 e3) (hS.put e2 e3 (hH a _ hm).2) hc1 hs1 hl
theorem z_putF (C : zC X l D N0 cc nL own Ts) {a ci index : Nat} {fs : List Value} {CN : String} {T : u_T} {N : Nat} {v : Value} (hm : μ a = some (.inr (ci, fs))) (hc : vwCl[ci]? = some (CN, T, N)) (ty0 : Nat → FieldType) (hty : ∀ k, k < N → parseFieldDescriptor (T k).2.2.1 = some (ty0 k)) (hnm : ∀ a, a < N → ∀ b, b < N → a ≠ b → (T a).2.1 ≠ (T b).2.1) (k : Nat) (hk : k < N) (hlink : Cond.fieldLink own index CN (T k).2.1 (T k).2.2.1 ∈ Ts) (hin : ∀ w ∈ u_ws CN T N, w ∈ Ts) (href : (T k).1 = CN) (hfin : (T k).2.2.2 = true) (hin2 : zInit X) (hdecl : CN = own) (hn : narrow (ty0 k) v = v) (hfit : fits (ty0 k) v = true) (hlen : k < fs.length) (d : decode cc pc = .ok (.putfield index, 3)) (kk : Z X (zu μ a (.inr (ci, fs.set k v))) kc kn (pc + 3) L st) : Z X μ kc kn pc L (v :: .ref a :: st) := by
  obtain ⟨p, l', e, R, s, m, args, below, meth, c, D', N', Q⟩ := X
  obtain ⟨rfl, rfl, rfl, hx, hb, hml, hown, hts, hlk, hB⟩ := C
  intro H locs cells slots ls hH hS hc1 hs1 hl
  have hap := va_apart (own := own) hts hin ty0 hty hnm hB.1 hc
  obtain ⟨r, h1, cell, q1, q2, q3, q4⟩ := (hH a _ hm).1
  have hr : r = (CN, T, N) := Option.some.inj (h1.symm.trans hc)
  subst hr
  obtain ⟨hSl, hfc, kC, hkC, hkind⟩ := hB.1.1 ci _ hc
  obtain ⟨cf, kf, fi, f, hi, hsl⟩ := hSl k hk
  have hlay := hts _ (hin _ (u_in_lay hk))
  unfold u_lay at hlay
  rw [if_pos hfin] at hlay
  have hst := (u_facts hfc hkC (u_lays hts hin hk) hi).1
  have hcf : m.cls = cf := by
    obtain ⟨_, _, c', _, _, _, -, -, hf', -, -, -, hown2, -⟩ := Cond.laysFinal_spec hlay
    have e1 : c' = cf := by have := hi.symm.trans hf'; simp at this; exact this.1.symm
    rw [href, hdecl] at hown2
    rw [← e1]; exact Option.some.inj (hown.symm.trans hown2)
  have h6 := u_fits hfc hkC hkind (Or.inr hlay) hi (hty k hk) hn hfit
  refine W.putFinK hx hb hown (hts _ hlink) (by rw [← href]; exact hi) hst hcf hin2 (by rw [q2]; exact h6) q1 q3 (by rw [hsl]; exact k2_hasslot (q4 k hk)) rfl rfl d fun H' e1 e2 e3 => ?_
  rw [hsl] at e1 ⊢
  have hv9 : va_at D' vwCl (a, .inr (ci, fs.set k v)) H' := ⟨_, hc, t_OB.to (V := updV (vp_V fs) k v) ⟨_, e1, q2, q3, t_set q4 hap hk v⟩ (fun j _ => vp_updV_set hlen v j)⟩
  exact kk H' _ cells slots ls (hH.seta hv9 (hH a _ hm).2 e3) (hS.put e2 e3 (hH a _ hm).2) hc1 hs1 hl
theorem z_iald (C : zC X l D N0 cc nL own Ts) {a n : Nat} {g : Nat → Int} {i : Int} (hm : μ a = some (zAI D n g)) (hn : n < 2147483648) (d : decode cc pc = .ok (.iaload, 1)) (k : Z X μ kc kn (pc + 1) L (zi (g i.toNat) :: st)) (hi : 0 ≤ i ∧ i < n := by omega) : Z X μ kc kn pc L (zi i :: .ref a :: st) := by
  obtain ⟨p, l', e, R, s, m, args, below, meth, c, D', N', Q⟩ := X
  obtain ⟨rfl, rfl, rfl, hx, hb, hml, hown, hts, hlk, hB⟩ := C
  intro H locs cells slots ls hH hS hc1 hs1 hl
  have k2 := k H locs cells slots ls hH hS hc1 hs1 hl
  rw [← zI_nc (a := i) (by omega)] at k2
  exact va_iald hx hb hB.1 (hH.one hm) 0 0 rfl rfl (zI_in hi hn) d k2
theorem z_zald (C : zC X l D N0 cc nL own Ts) {a n : Nat} {g : Nat → Int} {i : Int} (hm : μ a = some (zAZ D n g)) (hn : n < 2147483648) (d : decode cc pc = .ok (.baload, 1)) (k : Z X μ kc kn (pc + 1) L (zi (g i.toNat) :: st)) (hi : 0 ≤ i ∧ i < n := by omega) : Z X μ kc kn pc L (zi i :: .ref a :: st) := by
  obtain ⟨p, l', e, R, s, m, args, below, meth, c, D', N', Q⟩ := X
  obtain ⟨rfl, rfl, rfl, hx, hb, hml, hown, hts, hlk, hB⟩ := C
  intro H locs cells slots ls hH hS hc1 hs1 hl
  have k2 := k H locs cells slots ls hH hS hc1 hs1 hl
  rw [← zI_nc (a := i) (by omega)] at k2
  exact va_zald hx hb hB.1 (hH.one hm) 0 2 rfl rfl (zI_in hi hn) d k2
theorem z_lald (C : zC X l D N0 cc nL own Ts) {a n : Nat} {f : Nat → Int64} {i : Int} (hm : μ a = some (zAL D n f)) (hn : n < 2147483648) (d : decode cc pc = .ok (.laload, 1)) (k : Z X μ kc kn (pc + 1) L (.long (f i.toNat) :: st)) (hi : 0 ≤ i ∧ i < n := by omega) : Z X μ kc kn pc L (zi i :: .ref a :: st) := by
  obtain ⟨p, l', e, R, s, m, args, below, meth, c, D', N', Q⟩ := X
  obtain ⟨rfl, rfl, rfl, hx, hb, hml, hown, hts, hlk, hB⟩ := C
  intro H locs cells slots ls hH hS hc1 hs1 hl
  have k2 := k H locs cells slots ls hH hS hc1 hs1 hl
  rw [← zI_nc (a := i) (by omega)] at k2
  exact va_lald hx hb hB.1 (hH.one hm) 0 1 rfl rfl (zI_in hi hn) d k2
theorem z_fald (C : zC X l D N0 cc nL own Ts) {a n : Nat} {f : Nat → Option Nat} {i : Int} {b : Nat} (hm : μ a = some (zAF D n f)) (hn : n < 2147483648) (hf : f i.toNat = some b) (d : decode cc pc = .ok (.aaload, 1)) (k : Z X μ kc kn (pc + 1) L (.ref b :: st)) (hi : 0 ≤ i ∧ i < n := by omega) : Z X μ kc kn pc L (zi i :: .ref a :: st) := by
  obtain ⟨p, l', e, R, s, m, args, below, meth, c, D', N', Q⟩ := X
  obtain ⟨rfl, rfl, rfl, hx, hb, hml, hown, hts, hlk, hB⟩ := C
  intro H locs cells slots ls hH hS hc1 hs1 hl
  have k2 := k H locs cells slots ls hH hS hc1 hs1 hl
  refine va_aldq hx hb hB.1 (hH.one hm) 0 4 rfl rfl (zI_in hi hn) d ?_
  rw [zI_nc (a := i) (by omega), hf]
  exact k2
theorem z_bald (C : zC X l D N0 cc nL own Ts) {a n : Nat} {f : Nat → Option Nat} {i : Int} {b : Nat} (hm : μ a = some (zAB D n f)) (hn : n < 2147483648) (hf : f i.toNat = some b) (d : decode cc pc = .ok (.aaload, 1)) (k : Z X μ kc kn (pc + 1) L (.ref b :: st)) (hi : 0 ≤ i ∧ i < n := by omega) : Z X μ kc kn pc L (zi i :: .ref a :: st) := by
  obtain ⟨p, l', e, R, s, m, args, below, meth, c, D', N', Q⟩ := X
  obtain ⟨rfl, rfl, rfl, hx, hb, hml, hown, hts, hlk, hB⟩ := C
  intro H locs cells slots ls hH hS hc1 hs1 hl
  have k2 := k H locs cells slots ls hH hS hc1 hs1 hl
  have hlt : (Int32.ofInt i).toNatClampNeg < n := by rw [zI_nc (by omega)]; omega
  refine W.aald (v := va_rf (f (Int32.ofInt i).toNatClampNeg)) (ty := .array .boolean) hx hb (hH a _ hm).1 ((hB.1.2 5 _ rfl).1 n (fun j => va_rf (f j))) rfl (fun q => by cases q) (by show ¬ (_ < 0 ∨ (arrV _ _ _).slots.size ≤ _); rw [arrV_size]; exact zI_in hi hn) (by show (arrV _ _ _).slots[_]? = _; rw [arrV_read _ _ hlt]) rfl rfl d ?_
  rw [zI_nc (a := i) (by omega), hf]
  exact k2
theorem z_alen (C : zC X l D N0 cc nL own Ts) {a n : Nat} {cA : ClassId} {x} (hm : μ a = some (.inl (cA, n, x))) (t0 : Nat) {ty : FieldType} (ht : (zTY D)[t0]? = some (cA, ty)) (d : decode cc pc = .ok (.arraylength, 1)) (k : Z X μ kc kn (pc + 1) L (zi (n : Int) :: st)) : Z X μ kc kn pc L (.ref a :: st) := by
  obtain ⟨p, l', e, R, s, m, args, below, meth, c, D', N', Q⟩ := X
  obtain ⟨rfl, rfl, rfl, hx, hb, hml, hown, hts, hlk, hB⟩ := C
  intro H locs cells slots ls hH hS hc1 hs1 hl
  exact va_alen hx hb hB.1 (hH.one hm) 0 t0 rfl ht rfl d (k H locs cells slots ls hH hS hc1 hs1 hl)
theorem z_iast (C : zC X l D N0 cc nL own Ts) {a n : Nat} {g : Nat → Int} {i x : Int} (hm : μ a = some (zAI D n g)) (hn : n < 2147483648) (d : decode cc pc = .ok (.iastore, 1)) (k : Z X (zu μ a (zAI D n (zw g i.toNat x))) kc kn (pc + 1) L st) (hi : 0 ≤ i ∧ i < n := by omega) : Z X μ kc kn pc L (zi x :: zi i :: .ref a :: st) := by
  obtain ⟨p, l', e, R, s, m, args, below, meth, c, D', N', Q⟩ := X
  obtain ⟨rfl, rfl, rfl, hx, hb, hml, hown, hts, hlk, hB⟩ := C
  intro H locs cells slots ls hH hS hc1 hs1 hl
  refine W.iast hx hb (hH a _ hm).1 ((hB.1.2 0 _ rfl).1 n (fun j => .int (Int32.ofInt (g j)))) (fun q => by cases q) (by show ¬ (_ < 0 ∨ (arrV _ _ _).slots.size ≤ _); rw [arrV_size]; exact zI_in hi hn) rfl rfl d fun H1 e z oq => ?_
  refine k H1 _ cells slots ls (hH.seta ?_ (hH a _ hm).2 oq) (hS.put z oq (hH a _ hm).2) hc1 hs1 hl
  show H1[a]? = some (vp_cell _ _)
  rw [e, vp_cell_i, vp_cell_i, arrV_store, zI_nc (by omega)]
  congr 2
  funext q
  by_cases hq : q = i.toNat
  · subst hq
    simp [updV, zw]
  · simp [updV, zw, hq]
theorem z_zast (C : zC X l D N0 cc nL own Ts) {a n : Nat} {g : Nat → Int} {i x : Int} (hm : μ a = some (zAZ D n g)) (hn : n < 2147483648) (hx01 : x = 0 ∨ x = 1) (d : decode cc pc = .ok (.bastore, 1)) (k : Z X (zu μ a (zAZ D n (zw g i.toNat x))) kc kn (pc + 1) L st) (hi : 0 ≤ i ∧ i < n := by omega) : Z X μ kc kn pc L (zi x :: zi i :: .ref a :: st) := by
  obtain ⟨p, l', e, R, s, m, args, below, meth, c, D', N', Q⟩ := X
  obtain ⟨rfl, rfl, rfl, hx, hb, hml, hown, hts, hlk, hB⟩ := C
  intro H locs cells slots ls hH hS hc1 hs1 hl
  refine W.zast hx hb (hH a _ hm).1 ((hB.1.2 2 _ rfl).1 n (fun j => .int (Int32.ofInt (g j)))) (fun q => by cases q) (by show ¬ (_ < 0 ∨ (arrV _ _ _).slots.size ≤ _); rw [arrV_size]; exact zI_in hi hn) rfl rfl d fun H1 e z oq => ?_
  refine k H1 _ cells slots ls (hH.seta ?_ (hH a _ hm).2 oq) (hS.put z oq (hH a _ hm).2) hc1 hs1 hl
  show H1[a]? = some (vp_cell _ _)
  have e9 : narrow .boolean (.int (Int32.ofInt x)) = .int (Int32.ofInt x) := by rcases hx01 with q | q <;> subst q <;> rfl
  rw [e, vp_cell_i, vp_cell_i, arrV_store, zI_nc (by omega), e9]
  congr 2
  funext q
  by_cases hq : q = i.toNat
  · subst hq
    simp [updV, zw]
  · simp [updV, zw, hq]
theorem z_last (C : zC X l D N0 cc nL own Ts) {a n : Nat} {f : Nat → Int64} {i : Int} {x : Int64} (hm : μ a = some (zAL D n f)) (hn : n < 2147483648) (d : decode cc pc = .ok (.lastore, 1)) (k : Z X (zu μ a (zAL D n (zw f i.toNat x))) kc kn (pc + 1) L st) (hi : 0 ≤ i ∧ i < n := by omega) : Z X μ kc kn pc L (.long x :: zi i :: .ref a :: st) := by
  obtain ⟨p, l', e, R, s, m, args, below, meth, c, D', N', Q⟩ := X
  obtain ⟨rfl, rfl, rfl, hx, hb, hml, hown, hts, hlk, hB⟩ := C
  intro H locs cells slots ls hH hS hc1 hs1 hl
  refine W.last hx hb (hH a _ hm).1 ((hB.1.2 1 _ rfl).1 n (fun j => .long (f j))) (fun q => by cases q) (by show ¬ (_ < 0 ∨ (arrV _ _ _).slots.size ≤ _); rw [arrV_size]; exact zI_in hi hn) rfl rfl d fun H1 e z oq => ?_
  refine k H1 _ cells slots ls (hH.seta ?_ (hH a _ hm).2 oq) (hS.put z oq (hH a _ hm).2) hc1 hs1 hl
  show H1[a]? = some (vp_cell _ _)
  rw [e, vp_cell_l, vp_cell_l, arrV_store, zI_nc (by omega)]
  congr 2
  funext q
  by_cases hq : q = i.toNat
  · subst hq
    simp [updV, zw]
  · simp [updV, zw, hq]
end ZROWS
