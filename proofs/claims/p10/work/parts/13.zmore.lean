/-! rows of the layer that need the tables: Math, Object.<init>, new arrays -/
section ZMORE
variable {X : zX} {l : Launch} {D : va_G} {N0 : Nat} {cc : ByteArray} {nL : Nat} {own : String} {μ : zM} {kc kn pc : Nat} {L L' : List (Option Value)} {st : List Value} {rk rn rf rw : Nat} {index : Nat}
theorem z_mmin (C : zC X l D N0 cc nL own zWS) (Rm : zR X rk rn rf rw) (w1 : Cond.methodLink own index Lib.Math.min.name ∈ zWS) (w2 : Cond.static Lib.Math.min.name ∈ zWS) (w3 : Cond.initialized "java/lang/Math" ∈ zWS) (w4 : Cond.code Lib.Math.min.name Lib.Math.min.code 2 (some .int) ∈ zWS) {x y : Int} (d : decode cc pc = .ok (.invokestatic index, 3)) (hLn : L.length = nL) (hroom : 1 ≤ rf ∧ (st.map fun v => v.category).sum + 13 ≤ rw ∧ kc ≤ rk ∧ kn ≤ rn) (k : Z X μ kc kn (pc + 3) L (zi (min x y) :: st)) (hxr : -2147483648 ≤ x ∧ x < 2147483648 := by omega) (hyr : -2147483648 ≤ y ∧ y < 2147483648 := by omega) : Z X μ kc kn pc L (zi y :: zi x :: st) := by
  obtain ⟨p, l', e, R, s, m, args, below, meth, c, D', N', Q⟩ := X
  obtain ⟨rfl, rfl, rfl, hx, hb, hml, hown, hts, hlk, hB⟩ := C
  obtain ⟨r1, r2, r3, r4⟩ := Rm
  obtain ⟨g1, g2, g3, g4⟩ := hroom
  intro H locs cells slots ls hH hS hc1 hs1 hl
  refine va_mmin hx hb (hml.trans (hLn.symm.trans hl.1.symm)) hown (hts _ w1) (hts _ w2) (hts _ w3) (hts _ w4) (Nat.le_trans g1 r3) (Nat.le_trans g2 r4) (Nat.le_trans hc1 (Nat.le_trans g3 r1)) (Nat.le_trans hs1 (Nat.le_trans g4 r2)) d ?_
  have e1 : (if Int32.ofInt y < Int32.ofInt x then Int32.ofInt y else Int32.ofInt x) = Int32.ofInt (min x y) := by
    by_cases q : y < x
    · rw [if_pos ((zI_lt hyr hxr).mpr q), Int.min_eq_right (by omega)]
    · rw [if_neg (fun h => q ((zI_lt hyr hxr).mp h)), Int.min_eq_left (by omega)]
  rw [e1]
  exact k H locs cells slots ls hH hS hc1 hs1 hl
theorem z_mmax (C : zC X l D N0 cc nL own zWS) (Rm : zR X rk rn rf rw) (w1 : Cond.methodLink own index Lib.Math.max.name ∈ zWS) (w2 : Cond.static Lib.Math.max.name ∈ zWS) (w3 : Cond.initialized "java/lang/Math" ∈ zWS) (w4 : Cond.code Lib.Math.max.name Lib.Math.max.code 2 (some .int) ∈ zWS) {x y : Int} (d : decode cc pc = .ok (.invokestatic index, 3)) (hLn : L.length = nL) (hroom : 1 ≤ rf ∧ (st.map fun v => v.category).sum + 13 ≤ rw ∧ kc ≤ rk ∧ kn ≤ rn) (k : Z X μ kc kn (pc + 3) L (zi (max x y) :: st)) (hxr : -2147483648 ≤ x ∧ x < 2147483648 := by omega) (hyr : -2147483648 ≤ y ∧ y < 2147483648 := by omega) : Z X μ kc kn pc L (zi y :: zi x :: st) := by
  obtain ⟨p, l', e, R, s, m, args, below, meth, c, D', N', Q⟩ := X
  obtain ⟨rfl, rfl, rfl, hx, hb, hml, hown, hts, hlk, hB⟩ := C
  obtain ⟨r1, r2, r3, r4⟩ := Rm
  obtain ⟨g1, g2, g3, g4⟩ := hroom
  intro H locs cells slots ls hH hS hc1 hs1 hl
  refine va_mmax hx hb (hml.trans (hLn.symm.trans hl.1.symm)) hown (hts _ w1) (hts _ w2) (hts _ w3) (hts _ w4) (Nat.le_trans g1 r3) (Nat.le_trans g2 r4) (Nat.le_trans hc1 (Nat.le_trans g3 r1)) (Nat.le_trans hs1 (Nat.le_trans g4 r2)) d ?_
  have e1 : (if Int32.ofInt x < Int32.ofInt y then Int32.ofInt y else Int32.ofInt x) = Int32.ofInt (max x y) := by
    by_cases q : x < y
    · rw [if_pos ((zI_lt hxr hyr).mpr q), Int.max_eq_right (by omega)]
    · rw [if_neg (fun h => q ((zI_lt hxr hyr).mp h)), Int.max_eq_left (by omega)]
  rw [e1]
  exact k H locs cells slots ls hH hS hc1 hs1 hl
theorem zH.new {D : va_G} {N0 : Nat} {μ : zM} {H H1 : Heap} (h : zH D N0 μ H) {e : va_E} (hP : va_at D vwCl (H.size, e) H1) (hN : N0 ≤ H.size) (hq : ∀ q : Nat, q < H.size → H1[q]? = H[q]?) : zH D N0 (zu μ H.size e) H1 := by
  intro b f hb
  by_cases hba : b = H.size
  · subst hba
    rw [zu_s] at hb
    cases hb
    exact ⟨hP, hN⟩
  · rw [zu_n hba] at hb
    exact ⟨(h b f hb).1.kept (hq b (h.lt hb)), (h b f hb).2⟩
/-- a new array of ints, at a place that nothing known is at -/
theorem z_newI (C : zC X l D N0 cc nL own zWS) (Rm : zR X rk rn rf rw) {n : Int} (hn : 0 ≤ n ∧ n < 100000) (w : Cond.arrayClass .int ∈ zWS) (d : decode cc pc = .ok (.newarray .int, 2)) (hr : kc + 1 ≤ rk ∧ kn + n.toNat ≤ rn) (k : ∀ q : Nat, N0 ≤ q → (∀ (a : Nat) (e : va_E), μ a = some e → a < q) → Z X (zu μ q (zAI D n.toNat (fun _ => 0))) (kc + 1) (kn + n.toNat) (pc + 2) L (.ref q :: st)) : Z X μ kc kn pc L (zi n :: st) := by
  obtain ⟨p, l', e, R, s, m, args, below, meth, c, D', N', Q⟩ := X
  obtain ⟨rfl, rfl, rfl, hx, hb, hml, hown, hts, hlk, hB⟩ := C
  obtain ⟨r1, r2, r3, r4⟩ := Rm
  intro H locs cells slots ls hH hS hc1 hs1 hl
  have hN : N' ≤ H.size := Nat.le_trans hB.2.2.1 hS.1
  refine va_newaK (atype := .int) hx hb (hts _ w) rfl d rfl (by rw [zI_0, zI_lt (by omega) (by omega)]; omega) (zI_nc (by omega)) (by show n.toNat * 4 ≤ 536870912; omega) (Nat.le_trans (Nat.le_trans (Nat.add_le_add_right hc1 _) hr.1) r1) (Nat.le_trans (Nat.le_trans (Nat.add_le_add_right hs1 _) hr.2) r2) rfl fun H1 cA e1 z1 o1 hAr hNm => ?_
  have hcA : cA = D'.1 100 := Option.some.inj (hNm.symm.trans (hB.1.2 0 _ rfl).2)
  subst hcA
  refine k H.size hN (fun a e ha => hH.lt ha) H1 locs _ _ ls (hH.new ?_ hN o1) ⟨Nat.le_trans hS.1 (by omega), fun x h1 h2 => (o1 x (Nat.lt_of_lt_of_le h1 hS.1)).trans (hS.2.1 x h1 h2), hS.2.2⟩ (Nat.add_le_add_right hc1 _) (Nat.add_le_add_right hs1 _) hl
  show H1[H.size]? = some (vp_cell _ _)
  rw [e1, vp_cell_i]
  rfl
theorem z_newZ (C : zC X l D N0 cc nL own zWS) (Rm : zR X rk rn rf rw) {n : Int} (hn : 0 ≤ n ∧ n < 100000) (w : Cond.arrayClass .boolean ∈ zWS) (d : decode cc pc = .ok (.newarray .boolean, 2)) (hr : kc + 1 ≤ rk ∧ kn + n.toNat ≤ rn) (k : ∀ q : Nat, N0 ≤ q → (∀ (a : Nat) (e : va_E), μ a = some e → a < q) → Z X (zu μ q (zAZ D n.toNat (fun _ => 0))) (kc + 1) (kn + n.toNat) (pc + 2) L (.ref q :: st)) : Z X μ kc kn pc L (zi n :: st) := by
  obtain ⟨p, l', e, R, s, m, args, below, meth, c, D', N', Q⟩ := X
  obtain ⟨rfl, rfl, rfl, hx, hb, hml, hown, hts, hlk, hB⟩ := C
  obtain ⟨r1, r2, r3, r4⟩ := Rm
  intro H locs cells slots ls hH hS hc1 hs1 hl
  have hN : N' ≤ H.size := Nat.le_trans hB.2.2.1 hS.1
  refine va_newaK (atype := .boolean) hx hb (hts _ w) rfl d rfl (by rw [zI_0, zI_lt (by omega) (by omega)]; omega) (zI_nc (by omega)) (by show n.toNat * 1 ≤ 536870912; omega) (Nat.le_trans (Nat.le_trans (Nat.add_le_add_right hc1 _) hr.1) r1) (Nat.le_trans (Nat.le_trans (Nat.add_le_add_right hs1 _) hr.2) r2) rfl fun H1 cA e1 z1 o1 hAr hNm => ?_
  have hcA : cA = D'.1 102 := Option.some.inj (hNm.symm.trans (hB.1.2 2 _ rfl).2)
  subst hcA
  refine k H.size hN (fun a e ha => hH.lt ha) H1 locs _ _ ls (hH.new ?_ hN o1) ⟨Nat.le_trans hS.1 (by omega), fun x h1 h2 => (o1 x (Nat.lt_of_lt_of_le h1 hS.1)).trans (hS.2.1 x h1 h2), hS.2.2⟩ (Nat.add_le_add_right hc1 _) (Nat.add_le_add_right hs1 _) hl
  show H1[H.size]? = some (vp_cell _ _)
  rw [e1, vp_cell_i]
  rfl
end ZMORE
