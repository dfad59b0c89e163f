/-! THE STATEMENT IS FALSE AS PRINTED: at the printed start, on the least machine of its launch, with a script of 33 digests (198 ints) in the place of its script -/
def rf_xs : List Int32 := (List.range 198).map (fun i => if i % 6 = 0 then 34 else 0)
def rf_cells : Array Value := (rf_xs.map Value.int).toArray
def rf_s : State := start1.aboutOf rf_cells
def rf_e : Env := launch0.env 0 0 0
theorem rf_len : rf_xs.length = 198 := by simp [rf_xs]
theorem rf_34 : ∀ j : Nat, j < 33 → rf_xs.getD (6 * j) 0 = 34 := by decide +kernel
set_option maxRecDepth 100000 in
theorem rf_rest_words : (tables_1.filter (fun c => !c.onTables)).all (fun c => c.before start1.args0 rf_s) = true := by decide +kernel
theorem rf_words : ∀ c ∈ (Jvm.Cond.code x code maxLocals ret :: tables_1), c.before start1.args0 rf_s = true := by
  intro c hc
  by_cases h : c.onTables = true
  · exact va_tabs h (show start1.about.vm = rf_s.vm from rfl) (start1.words c hc)
  · rcases List.mem_cons.mp hc with e | hm
    · subst e
      exact absurd rfl h
    · exact List.all_eq_true.mp rf_rest_words c (List.mem_filter.mpr ⟨hm, by simpa using h⟩)
set_option maxRecDepth 100000 in
theorem rf_fit : argsFit rf_s.vm ⟨0, 0⟩ start1.args0 = true := by decide +kernel
set_option maxRecDepth 100000 in
theorem rf_heap : heapFits rf_s = true := by decide +kernel
set_option maxRecDepth 100000 in
theorem rf_rest : rest_1_c.before start1.args0 rf_s = true := by decide +kernel
set_option maxRecDepth 100000 in
theorem rf_pre : (Jvm.Cond.and given_1 narrow_1).before start1.args0 rf_s = true := by decide +kernel
theorem rf_cell : rf_s.heap[0]? = some ({ cls := 23, slots := rf_cells, vm := .none } : Cell) := rfl
set_option maxRecDepth 100000 in
theorem rf_ap1 : (headSpec (Jvm.Cond.code x code maxLocals ret :: tables_1) room_1).applies x rf_e.platform rf_s = true :=
  (Spec.applies_iff (s := rf_s) (m := ⟨0, 0⟩) (args := start1.args0) (below := Lib.HandBits.below0) rfl).mpr ⟨rfl, rfl, rfl, by decide +kernel, by decide +kernel, by decide +kernel, State.hasRoom_of rfl (by decide +kernel) (by decide +kernel) (by decide +kernel) (by decide +kernel) (by decide +kernel) (by decide +kernel), atoms_intro rf_words⟩
set_option maxRecDepth 100000 in
theorem rf_ap2 : (headSpec (Jvm.Cond.code x code maxLocals ret :: tables_1) lr_room).applies x rf_e.platform rf_s = true :=
  (Spec.applies_iff (s := rf_s) (m := ⟨0, 0⟩) (args := start1.args0) (below := Lib.HandBits.below0) rfl).mpr ⟨rfl, rfl, rfl, by decide +kernel, by decide +kernel, by decide +kernel, State.hasRoom_of rfl (by decide +kernel) (by decide +kernel) (by decide +kernel) (by decide +kernel) (by decide +kernel) (by decide +kernel), atoms_intro rf_words⟩
theorem rf_ints : rf_s.IntsAt 0 rf_xs := by
  have hs := flat_of_before _ rf_pre
  have hq := flat_of_before _ rf_rest
  have harr : (Cond.arrayOf (.arg 0) .int).before start1.args0 rf_s = true := hs _ (by decide +kernel)
  have hlen : (Cond.isInt (.length (.arg 0))).before start1.args0 rf_s = true := hq _ (by decide +kernel)
  have hall : (Cond.all (.arg 0) (.isInt (.elem (.arg 0) (.index 0)))).before start1.args0 rf_s = true := hq _ (by decide +kernel)
  obtain ⟨b, xs, hb, hx⟩ := State.ints_of_pre rfl harr hlen hall
  have hb0 : b = 0 := by
    have h1 : some (Value.ref 0) = some (Value.ref b) := hb
    cases h1
    rfl
  subst hb0
  obtain ⟨cell, h1, h2, h3, h4⟩ := hx
  obtain ⟨hcb, -, -, -⟩ := State.arrayAt?_spec h1
  rw [rf_cell] at hcb
  cases hcb
  exact ⟨_, h1, rfl, h3, by rw [rf_len]; decide⟩
/-- what the run from this start comes to -/
theorem rf_run : ∃ (n : Nat) (o : Outcome), (∀ k, k < n → Within (stepsAlone start1.p0.tables rf_e k rf_s) Lib.HandBits.below0) ∧ (stepsAlone start1.p0.tables rf_e n rf_s).status = Status.running ∧ Ended (stepsAlone start1.p0.tables rf_e n rf_s) Lib.HandBits.below0 o ∧ lr_many rf_s (stepsAlone start1.p0.tables rf_e n rf_s).heap := by
  obtain ⟨n, o, hin, hrun, hend, hQ⟩ := lr_comes launch0 rf_xs rf_len rf_34 0 start1.p0 rf_e (launch0.admits_env 0 0 0) fairChoices_fair.cas fairChoices_fair.clock rf_s ⟨0, 0⟩ start1.args0 Lib.HandBits.below0 rfl rf_fit rf_heap rf_ap2 ⟨rfl, rf_ints, rf_pre⟩
  exact ⟨n, o, hin, hrun, hend, hQ⟩
/-- an arm whose end keeps a frame of fewer than 9,061,536 slots falls there -/
theorem rf_falls {Post : Tables → Env → Array Value → State → Outcome → State → Prop} {L : Array Value → State → List Loc} {k n : Nat} (hn : n < 9061536) (hPost : ∀ tb e a s o t, Post tb e a s o t → State.butDraws s t [Jvm.Choice.named "NaN.bits"] (fun t1 => Framed s o t1 (L a s) k n)) :
    FallsFor flags0 classFile x code maxLocals ret World_1 tables_1 room_1 Calls_1 rest_1 Pre_1 Post := by
  obtain ⟨i, o, hin, hrun, hend, hQ⟩ := rf_run
  refine ⟨launch0, start1.p0, rf_e, rf_s, ⟨0, 0⟩, start1.args0, Lib.HandBits.below0, rfl, ⟨lists_1, trivial, launch0.admits_env 0 0 0, launch0.least_env, fairChoices_fair.cas, fairChoices_fair.clock, rfl, rf_fit, rf_heap, rf_ap1, trivial, rf_rest, rf_pre⟩, i, o, hin, hrun, hend, fun hpost => ?_⟩
  obtain ⟨hF, -, -⟩ := hPost _ _ _ _ _ _ hpost
  obtain ⟨-, -, hsame⟩ := hF
  refine absurd hsame (lr_over ?_ hn)
  exact hQ
theorem refuted_1_1 : RefutedClaimed_1_1 := rf_falls (by decide) (fun _ _ _ _ _ _ h => h.2)
theorem refuted_1_2 : RefutedClaimed_1_2 := rf_falls (by decide) (fun _ _ _ _ _ _ h => h.2)
theorem rf_not {Post : Tables → Env → Array Value → State → Outcome → State → Prop} (hF : FallsFor flags0 classFile x code maxLocals ret World_1 tables_1 room_1 Calls_1 rest_1 Pre_1 Post) : ¬ ArmFor flags0 classFile x code maxLocals ret World_1 tables_1 room_1 Calls_1 rest_1 Pre_1 Post := by
  intro hA
  obtain ⟨l, p, e, s, m, args, below, hfl, ⟨hL, hW, had, -, hcas, hclk, hfr, hfit, hheap, happ, hcalls, hrest, hpre⟩, i, o, hin, -, hend, hnot⟩ := hF
  obtain ⟨j, q, hin', -, hend', hpost⟩ := hA l hfl hL hW p e had hcas hclk s m args below hfr hfit hheap happ ⟨hcalls, hrest, hpre⟩
  have hij : i = j := by
    rcases Nat.lt_trichotomy i j with h | h | h
    · exact absurd (hin' i h) hend.not_within
    · exact h
    · exact absurd (hin j h) hend'.not_within
  subst hij
  have hoq := hend.outcome_unique hend'
  subst hoq
  exact hnot hpost
theorem not_claimed_1_1 : ¬ Claimed_1_1 := rf_not refuted_1_1
theorem not_claimed_1_2 : ¬ Claimed_1_2 := rf_not refuted_1_2
