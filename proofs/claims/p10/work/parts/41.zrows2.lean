/-! stores of references; memory at a place that was free -/
theorem z_fast {X : zX} {l : Launch} {D : va_G} {N0 : Nat} {cc : ByteArray} {nL : Nat} {own : String} {Ts : List Cond} {μ : zM} {kc kn pc : Nat} {L : List (Option Value)} {st : List Value} (C : zC X l D N0 cc nL own Ts) {a n v : Nat} {f : Nat → Option Nat} {fs : List Value} {i : Int} (hm : μ a = some (zAF D n f)) (hv : μ v = some (.inr (0, fs))) (hn : n < 2147483648) (d : decode cc pc = .ok (.aastore, 1)) (k : Z X (zu μ a (zAF D n (zw f i.toNat (some v)))) kc kn (pc + 1) L st) (hi : 0 ≤ i ∧ i < n := by omega) : Z X μ kc kn pc L (.ref v :: zi i :: .ref a :: st) := by
  obtain ⟨p, l', e, R, s, m, args, below, meth, c, D', N', Q⟩ := X
  obtain ⟨rfl, rfl, rfl, hx, hb, hml, hown, hts, hlk, hB⟩ := C
  intro H locs cells slots ls hH hS hc1 hs1 hl
  have hlt : (Int32.ofInt i).toNatClampNeg < n := by rw [zI_nc (a := i) (by omega)]; omega
  obtain ⟨⟨r', hr', cellV, g1, g2, g3, -⟩, -⟩ := hH v _ hv
  have hcls := (hB.1.1 0 _ rfl).2
  obtain ⟨kA, comp, k1, k2, k3, -⟩ := (hB.1.2 4 _ rfl).2
  have hcomp : comp = D'.1 0 := Option.some.inj (k3.symm.trans hcls.1)
  subst hcomp
  obtain ⟨kC, hkC, -⟩ := hcls.2
  refine W.aast hx hb (hH a _ hm).1 (fun q h => by cases h) (fun h => by cases h) k1 k2 rfl hkC ⟨fun q => zI_in hi hn (Or.inl q), by show _ < (arrV _ _ _).slots.size; rw [arrV_size]; exact hlt⟩ g1 (fun q h => by rw [g3] at h; cases h) (by rw [g2]; exact hkC) (by rw [g2]; exact va_asg _ _) rfl rfl d fun H1 e z oq => ?_
  refine k H1 _ cells slots ls (hH.seta ?_ (hH a _ hm).2 oq) (hS.put z oq (hH a _ hm).2) hc1 hs1 hl
  show H1[a]? = some (vp_cell _ _)
  rw [e, vp_cell_q, vp_cell_q, arrV_store, zI_nc (by omega)]
  congr 2
  funext q
  by_cases hq : q = i.toNat
  · subst hq
    simp [updV, zw, va_rf]
  · simp [updV, zw, hq]
theorem z_bast {X : zX} {l : Launch} {D : va_G} {N0 : Nat} {cc : ByteArray} {nL : Nat} {own : String} {Ts : List Cond} {μ : zM} {kc kn pc : Nat} {L : List (Option Value)} {st : List Value} (C : zC X l D N0 cc nL own Ts) {a n v n2 : Nat} {f : Nat → Option Nat} {g : Nat → Int} {i : Int} (hm : μ a = some (zAB D n f)) (hv : μ v = some (zAZ D n2 g)) (hn : n < 2147483648) (d : decode cc pc = .ok (.aastore, 1)) (k : Z X (zu μ a (zAB D n (zw f i.toNat (some v)))) kc kn (pc + 1) L st) (hi : 0 ≤ i ∧ i < n := by omega) : Z X μ kc kn pc L (.ref v :: zi i :: .ref a :: st) := by
  obtain ⟨p, l', e, R, s, m, args, below, meth, c, D', N', Q⟩ := X
  obtain ⟨rfl, rfl, rfl, hx, hb, hml, hown, hts, hlk, hB⟩ := C
  intro H locs cells slots ls hH hS hc1 hs1 hl
  have hlt : (Int32.ofInt i).toNatClampNeg < n := by rw [zI_nc (a := i) (by omega)]; omega
  have g1 := (hH v _ hv).1
  obtain ⟨comp, cA2, kA, k3, -, k1, k2, k4⟩ := arrayOverA_spec (va_AOA.use (A := args) hB.2.2.2.2.2.2.2.2.1)
  cases ((hB.1.2 5 _ rfl).2 : s.vm.findClass ("[" ++ (FieldType.array .boolean).toString) = some (D'.1 105)).symm.trans k4
  cases k3.symm.trans ((hB.1.2 2 _ rfl).2 : s.vm.findClass (FieldType.array .boolean).toString = some (D'.1 102))
  obtain ⟨kE, hkE, -⟩ := Vm.findClass_spec k3
  refine W.aast hx hb (hH a _ hm).1 (fun q h => by cases h) (fun h => by cases h) k1 k2 rfl hkE ⟨fun q => zI_in hi hn (Or.inl q), by show _ < (arrV _ _ _).slots.size; rw [arrV_size]; exact hlt⟩ g1 (fun q h => by cases h) hkE (va_asg _ _) rfl rfl d fun H1 e z oq => ?_
  refine k H1 _ cells slots ls (hH.seta ?_ (hH a _ hm).2 oq) (hS.put z oq (hH a _ hm).2) hc1 hs1 hl
  show H1[a]? = some (vp_cell _ _)
  rw [e, vp_cell_q, vp_cell_q, arrV_store, zI_nc (by omega)]
  congr 2
  funext q
  by_cases hq : q = i.toNat
  · subst hq
    simp [updV, zw, va_rf]
  · simp [updV, zw, hq]
