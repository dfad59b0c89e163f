theorem z_up {X : zX} {μ : zM} {kc kn kc' kn' pc : Nat} {L : List (Option Value)} {st : List Value} (h1 : kc ≤ kc') (h2 : kn ≤ kn') (k : Z X μ kc' kn' pc L st) : Z X μ kc kn pc L st := by
  obtain ⟨p, l', e, R, s, m, args, below, meth, c, D', N', Q⟩ := X
  intro H locs cells slots ls hH hS hc1 hs1 hl
  exact k H locs cells slots ls hH hS (Nat.le_trans hc1 h1) (Nat.le_trans hs1 h2) hl
