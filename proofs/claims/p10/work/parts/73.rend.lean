/-! what a run of 33 digests leaves behind: 1320 arrays of 9,061,536 slots in all (other than the few of 64) -/
def R_law : String := "ScrimshawKernelLaw"
abbrev lr_room : Room := { frames := 12, cells := 100000, slots := 9200000, locals := 446 }
def lr_many (s : State) (H : Heap) : Prop := ∃ ps : List (Nat × Nat), (ps.map (fun p => p.1)).Nodup ∧ zWt ps = 9061536 ∧ ∀ p, p ∈ ps → s.heap.size ≤ p.1 ∧ ∃ c : Cell, H[p.1]? = some c ∧ c.slots.size = p.2
def lr_Q (_ : Array Value) (s : State) (_ : Outcome) (t : State) : Prop := lr_many s t.heap
def lr_Z (below : List Frame) (a : Array Value) (s : State) : State → Prop := fun t => ∃ o, t.status = .running ∧ Ended t below o ∧ lr_Q a s o t
theorem lr_ret {p : Program} {l : Launch} {e : Env} {s : State} {m : MethodId} {below : List Frame} {meth : Method} {c : Code} {b : Nat} (hx : p.tables.exec = Jvm.exec) (hb : c.code = code) (hr : meth.sig.returnType = ret) (hlocks : meth.locks = false) {pc : Nat} {H : Heap} {locs : List Loc} {cells slots : Nat} {ls : Array Slot} (hbig : lr_many s H) (hdg : decode code pc = .ok (.ireturn, 1)) : W p l e lr_room s m #[Value.ref b] below meth c H locs cells slots (lr_Z below #[Value.ref b] s) (F0 m pc ls [.int 1]) := by
  intro T hT X
  obtain ⟨fs, hret, hrun, hended, hW, hframe⟩ := X.leave (v := some (.int 1)) (hlocks := hlocks) (fun h => by rw [hr] at h; cases h)
  have hmeth' : T.vm.method? m = some meth := X.method'
  have hTf : (T.setFrames fs).heap = H := hT
  refine ⟨T.setFrames fs, ?_, .returned (some (.int 1)), hrun, hended, ?_⟩
  · jvm_step X.here [X.here.top, hx, hb, hdg, hmeth', hr, ret, narrow_b1]
    (try refine ⟨rfl, ?_⟩); (try refine ⟨rfl, ?_⟩)
    first | (intro acts; rw [hret _ acts rfl rfl rfl]) | rw [hret _ _ rfl rfl rfl]
    exact Steps.refl _
  · show lr_many s (T.setFrames fs).heap
    rw [hTf]
    exact hbig
theorem lr_cell {D : va_G} {N0 : Nat} {μ : zM} {H : Heap} {a n : Nat} (hH : zH D N0 μ H) (ha : zKn D μ a n) : N0 ≤ a ∧ ∃ c : Cell, H[a]? = some c ∧ c.slots.size = n := by
  rcases ha with ⟨g, ha⟩ | ⟨g, ha⟩
  · obtain ⟨h1, h2⟩ := hH _ _ ha
    refine ⟨h2, _, h1, ?_⟩
    show (vp_cell (D.1 100) (n, .inl (fun j => Int32.ofInt (g j)))).slots.size = n
    rw [vp_cell_i]
    exact arrV_size _ _ _
  · obtain ⟨h1, h2⟩ := hH _ _ ha
    refine ⟨h2, _, h1, ?_⟩
    show (vp_cell (D.1 102) (n, .inl (fun j => Int32.ofInt (g j)))).slots.size = n
    rw [vp_cell_i]
    exact arrV_size _ _ _
def lr_At (p : Program) (s : State) (m : MethodId) (meth : Method) (c : Code) (b : Nat) (xs : Nat → Int32) : Prop :=
  p.tables.exec = Jvm.exec ∧ c.code = code ∧ meth.sig.returnType = ret ∧ c.maxLocals = 9 ∧ s.vm.findClass R_law = some m.cls ∧ (∀ w ∈ lw_tbl, w.before #[Value.ref b] s = true) ∧ va_X b 198 xs s s.heap ∧ b < s.heap.size ∧ meth.locks = false ∧ (Jvm.Cond.and given_1 narrow_1).before #[Value.ref b] s = true
set_option maxRecDepth 100000 in
set_option maxHeartbeats 4000000 in
theorem lr_start {p : Program} {e : Env} {s : State} {m : MethodId} {below : List Frame} {meth : Method} {c : Code} (l : Launch) {b : Nat} {xs : Nat → Int32} (hxs : ∀ j : Nat, j < 33 → xs (6 * j) = 34) (C0 : lr_At p s m meth c b xs) : W p l e lr_room s m #[Value.ref b] below meth c s.heap [] 0 0 (lr_Z below #[Value.ref b] s) (entryFrame m ([Value.ref b] : List Value).toArray 9) := by
  obtain ⟨hx, hb, hr, hml, hown, hts, hX, hbl, hlocks, hgv⟩ := id C0
  obtain ⟨D, hB⟩ := en_B hts hgv
  have hl := lv_entry ([.ref b]) (n := 9) (Nat.le_of_ble_eq_true rfl)
  rw [lg_entry_eq]
  generalize (lg_sl ([.ref b]) ++ List.replicate (9 - (lg_sl ([.ref b])).length) Slot.unset).toArray = ls at hl ⊢
  have hl : lv_has ls 9 [(0, .ref b)] := hl
  have hzl : zL ls [some (.ref b), none, none, none, none, none, none, none, none] := zL.of hl rfl (fun i v hv => by
    match i, hv with
    | 0, hv => cases hv; exact List.mem_cons_self
    | 1, hv => cases hv
    | 2, hv => cases hv
    | 3, hv => cases hv
    | 4, hv => cases hv
    | 5, hv => cases hv
    | 6, hv => cases hv
    | 7, hv => cases hv
    | 8, hv => cases hv
    | i + 9, hv => simp at hv)
  have C : zC (p, l, e, lr_room, s, m, #[Value.ref b], below, meth, c, D, s.heap.size, lr_Z below #[Value.ref b] s) l D s.heap.size cL_law 9 RL zWS := ⟨rfl, rfl, rfl, hx, hb, hml, hown, fun w hw => hts w (List.mem_filter.mp hw).1, hlocks, hB⟩
  refine lr_begin (sz := s.heap.size) C ⟨Nat.le_refl _, Nat.le_refl _, Nat.le_refl _, Nat.le_refl _⟩ (b := b) (xs := xs) ⟨hX, hbl, hbl⟩ hxs (fun K M O OD ν ps k L6 L7 L8 hlen hBg => ?_) s.heap [] 0 0 ls rfl (fun a e h => nomatch h) va_S.rf (Nat.le_refl 0) (Nat.le_refl 0) hzl
  refine z_iconst C dL_law_1614 ?_
  intro H locs cells slots ls hH hS hc1 hs1 hl
  rw [show zi 1 = Value.int 1 from rfl]
  exact lr_ret hx hb hr hlocks ⟨ps, hBg.1, hlen, fun p hp => lr_cell hH (hBg.2 p hp).2⟩ dL_law_1615
def lr_P (b : Addr) (xs : List Int32) (args : Array Value) (s : State) : Prop := args = #[.ref b] ∧ s.IntsAt b xs ∧ (Jvm.Cond.and given_1 narrow_1).before args s = true
set_option maxHeartbeats 4000000 in
theorem lr_walk (l : Launch) (b : Addr) (xs : List Int32) (hlen : xs.length = 198) (h34 : ∀ j : Nat, j < 33 → xs.getD (6 * j) 0 = 34) : MetFree l x (headSpec (Jvm.Cond.code x code maxLocals ret :: tables_1) lr_room) (lr_P b xs) (fun _ _ _ _ _ => True) lr_Q := by
  refine MetFree.of_bodyS (code := code) (maxLocals := maxLocals) (ret := ret) (by decide) ?_ ?_
  · intro args s m h hn
    obtain ⟨meth, c, h1, h2, h3, h4, h5, h6, -, -⟩ := Cond.code_spec hn (atoms_spec (ws := Jvm.Cond.code x code maxLocals ret :: tables_1) h _ List.mem_cons_self)
    exact ⟨meth, c, h1, h2, h3, h4, h5, h6⟩
  · intro p e s m args below meth c s₁ B hml0 hP _
    obtain ⟨rfl, hx, hgv⟩ := hP
    obtain ⟨scr, harrAt, hlist, hof, hsmall⟩ := hx
    obtain ⟨hcb, hkn, -, -⟩ := State.arrayAt?_spec harrAt
    have hown : s.vm.findClass R_law = some m.cls := findClass_of_methodNamed B.named
    have hts0 : ∀ c ∈ (Jvm.Cond.code x code maxLocals ret :: tables_1), c.before #[Value.ref b] s = true := atoms_spec (ws := Jvm.Cond.code x code maxLocals ret :: tables_1) B.pre
    have hts : ∀ w ∈ lw_tbl, w.before #[Value.ref b] s = true := k2_hts_sels lw_privs (fun w hw => hts0 w (List.mem_cons_of_mem _ hw)) lw_privs_ok
    have hml : c.maxLocals = 9 := B.maxLocals_eq (hts0 _ List.mem_cons_self)
    have X₀ : Stand p l e lr_room s m #[Value.ref b] below meth c s₁ [] 0 0 := Stand.of_body B
    have hh0 : s₁.heap = s.heap := by rw [B.state]; rfl
    have hsz : scr.slots.size = 198 := by rw [← Array.length_toList, hlist, List.length_map, hlen]
    have hval : ∀ j : Nat, j < 198 → scr.slots[j]? = some (.int (xs.getD j 0)) := fun j hj => by
      have hj : j < xs.length := by omega
      rw [← Array.getElem?_toList, hlist]
      simp [hj]
    have hbl : b < s.heap.size := (Array.getElem?_eq_some_iff.mp hcb).1
    have hX : va_X b 198 (fun j => xs.getD j 0) s s.heap := ⟨scr, hcb, hof, hkn, hsz, hval⟩
    have K : W p l e lr_room s m #[Value.ref b] below meth c s₁.heap [] 0 0 (lr_Z below #[Value.ref b] s) (entryFrame m ([Value.ref b] : List Value).toArray 9) := by
      rw [hh0]
      exact lr_start l h34 ⟨B.exec, B.bytes, B.returns, hml, hown, hts, hX, hbl, B.notSynchronized, hgv⟩
    obtain ⟨t, a1, o, b1, b2, b3⟩ := K s₁ rfl X₀
    exact ⟨t, o, a1, b1, b2, b3⟩
theorem lr_comes (l : Launch) (xs : List Int32) (hlen : xs.length = 198) (h34 : ∀ j : Nat, j < 33 → xs.getD (6 * j) 0 = 34) (b : Addr) : Comes l x (Jvm.Cond.code x code maxLocals ret :: tables_1) lr_room (fun _ _ args s => lr_P b xs args s) (fun _ _ args s o t => lr_Q args s o t) := by
  intro p e ha hc hk s m args below hf hfit hheap happ hpre
  obtain ⟨k, o, h1, h2, h3, hQ⟩ := lr_walk l b xs hlen h34 p e ha hc hk s m args below hf ((Spec.applies_iff_loose hf).mp happ).1 hpre trivial
  exact ⟨k, o, h1, h2, h3, hQ⟩
theorem wt_filter {d w : Nat} : ∀ ps : List (Nat × Nat), (ps.map (fun p => p.1)).Nodup → (∀ p, p ∈ ps → p.1 = d → p.2 = w) → zWt ps ≤ w + zWt (ps.filter (fun p => !(p.1 == d)))
  | [], _, _ => by simp [zWt]
  | p :: ps, hn, h => by
    rw [List.map_cons] at hn
    obtain ⟨h1, h2⟩ := List.nodup_cons.mp hn
    by_cases hd : p.1 = d
    · have hf : ps.filter (fun p => !(p.1 == d)) = ps := List.filter_eq_self.mpr (fun q hq => by
        have : q.1 ≠ d := fun e => h1 (List.mem_map.mpr ⟨q, hq, by rw [e, hd]⟩)
        simpa using this)
      rw [List.filter_cons_of_neg (by simp [hd]), hf, zWt_cons, h p List.mem_cons_self hd]
      exact Nat.le_refl _
    · rw [List.filter_cons_of_pos (by simpa using hd), zWt_cons, zWt_cons]
      have := wt_filter ps h2 (fun q hq => h q (List.mem_cons_of_mem _ hq))
      omega
/-- cells at apart places weigh at most what the list weighs -/
theorem lr_weigh : ∀ (H : List Cell) (d : Nat) (ps : List (Nat × Nat)), (ps.map (fun p => p.1)).Nodup → (∀ p, p ∈ ps → d ≤ p.1 ∧ ∃ c : Cell, H[p.1 - d]? = some c ∧ c.slots.size = p.2) → zWt ps ≤ (H.map (fun c => c.slots.size)).sum
  | [], d, ps, hn, h => by
    cases ps with
    | nil => simp [zWt]
    | cons p ps =>
      obtain ⟨-, c, h1, -⟩ := h p List.mem_cons_self
      simp at h1
  | x :: H, d, ps, hn, h => by
    have h1 := wt_filter (d := d) (w := x.slots.size) ps hn (fun p hp e => by
      obtain ⟨-, c, h2, h3⟩ := h p hp
      rw [e, Nat.sub_self, List.getElem?_cons_zero] at h2
      cases h2
      exact h3.symm)
    have h2 := lr_weigh H (d + 1) (ps.filter (fun p => !(p.1 == d))) (List.Nodup.sublist (List.Sublist.map _ List.filter_sublist) hn) (fun p hp => by
      obtain ⟨hp1, hp2⟩ := List.mem_filter.mp hp
      obtain ⟨h3, c, h4, h5⟩ := h p hp1
      have hne : p.1 ≠ d := by simpa using hp2
      refine ⟨by omega, c, ?_, h5⟩
      rw [show p.1 - d = (p.1 - (d + 1)) + 1 by omega, List.getElem?_cons_succ] at h4
      exact h4)
    rw [List.map_cons, List.sum_cons]
    omega
/-- such a run is outside every frame of fewer slots -/
theorem lr_over {s t : State} {L : List Loc} {k n : Nat} (h : lr_many s t.heap) (hn : n < 9061536) : ¬ s.sameButNew t L k n := by
  rintro ⟨-, -, -, -, h5, -⟩
  obtain ⟨ps, h1, h2, h3⟩ := h
  have := lr_weigh (t.heap.toList.drop s.heap.size) s.heap.size ps h1 (fun p hp => by
    obtain ⟨h4, c, h6, h7⟩ := h3 p hp
    refine ⟨h4, c, ?_, h7⟩
    rw [List.getElem?_drop, show s.heap.size + (p.1 - s.heap.size) = p.1 by omega, Array.getElem?_toList]
    exact h6)
  rw [h2] at this
  omega
