theorem z_dast {X : zX} {l : Launch} {D : va_G} {N0 : Nat} {cc : ByteArray} {nL : Nat} {own : String} {Ts : List Cond} {μ : zM} {kc kn pc : Nat} {L : List (Option Value)} {st : List Value} (C : zC X l D N0 cc nL own Ts) {a n : Nat} {f : Nat → UInt64} {i : Int} {x : UInt64} (hm : μ a = some (zAD D n f)) (hn : n < 2147483648) (d : decode cc pc = .ok (.dastore, 1)) (k : Z X (zu μ a (zAD D n (zw f i.toNat x))) kc kn (pc + 1) L st) (hi : 0 ≤ i ∧ i < n := by omega) : Z X μ kc kn pc L (.double x :: zi i :: .ref a :: st) := by
  obtain ⟨p, l', e, R, s, m, args, below, meth, c, D', N', Q⟩ := X
  obtain ⟨rfl, rfl, rfl, hx, hb, hml, hown, hts, hlk, hB⟩ := C
  intro H locs cells slots ls hH hS hc1 hs1 hl
  refine W.dast hx hb (hH a _ hm).1 ((hB.1.2 3 _ rfl).1 n (fun j => .double (f j))) (fun q => by cases q) (by show ¬ (_ < 0 ∨ (arrV _ _ _).slots.size ≤ _); rw [arrV_size]; exact zI_in hi hn) rfl rfl d fun H1 e z oq => ?_
  refine k H1 _ cells slots ls (hH.seta ?_ (hH a _ hm).2 oq) (hS.put z oq (hH a _ hm).2) hc1 hs1 hl
  show H1[a]? = some (vp_cell _ _)
  rw [e, vp_cell_d, vp_cell_d, arrV_store, zI_nc (by omega)]
  congr 2
  funext q
  by_cases hq : q = i.toNat
  · subst hq
    simp [updV, zw]
  · simp [updV, zw, hq]
theorem z_dald {X : zX} {l : Launch} {D : va_G} {N0 : Nat} {cc : ByteArray} {nL : Nat} {own : String} {Ts : List Cond} {μ : zM} {kc kn pc : Nat} {L : List (Option Value)} {st : List Value} (C : zC X l D N0 cc nL own Ts) {a n : Nat} {f : Nat → UInt64} {i : Int} (hm : μ a = some (zAD D n f)) (hn : n < 2147483648) (d : decode cc pc = .ok (.daload, 1)) (k : Z X μ kc kn (pc + 1) L (.double (f i.toNat) :: st)) (hi : 0 ≤ i ∧ i < n := by omega) : Z X μ kc kn pc L (zi i :: .ref a :: st) := by
  obtain ⟨p, l', e, R, s, m, args, below, meth, c, D', N', Q⟩ := X
  obtain ⟨rfl, rfl, rfl, hx, hb, hml, hown, hts, hlk, hB⟩ := C
  intro H locs cells slots ls hH hS hc1 hs1 hl
  have k2 := k H locs cells slots ls hH hS hc1 hs1 hl
  refine va_dald hx hb hB.1 (hH.one hm) 0 3 rfl rfl (zI_in hi hn) d ?_
  rw [zI_nc (a := i) (by omega)]
  exact k2
