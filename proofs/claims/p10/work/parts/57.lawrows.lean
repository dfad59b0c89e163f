/-! the law's script: a cell from before -/
def zScr (X : zX) (b L : Nat) (xs : Nat → Int32) : Prop :=
  match X with
  | (p, l, e, R, s, m, args, below, meth, c, D, N0, Q) => va_X b L xs s s.heap ∧ b < s.heap.size ∧ b < N0
section ZSCR
variable {X : zX} {l : Launch} {D : va_G} {N0 : Nat} {cc : ByteArray} {nL : Nat} {own : String} {Ts : List Cond} {μ : zM} {kc kn pc : Nat} {L : List (Option Value)} {st : List Value} {b n : Nat} {xs : Nat → Int32}
theorem z_sld (C : zC X l D N0 cc nL own Ts) (S : zScr X b n xs) (hn : n < 2147483648) {i : Int} (d : decode cc pc = .ok (.iaload, 1)) (k : Z X μ kc kn (pc + 1) L (zi (xs i.toNat).toInt :: st)) (hi : 0 ≤ i ∧ i < n := by omega) : Z X μ kc kn pc L (zi i :: .ref b :: st) := by
  obtain ⟨p, l', e, R, s, m, args, below, meth, c, D', N', Q⟩ := X
  obtain ⟨rfl, rfl, rfl, hx, hb, hml, hown, hts, hlk, hB⟩ := C
  obtain ⟨s1, s2, s3⟩ := S
  intro H locs cells slots ls hH hS hc1 hs1 hl
  have k2 := k H locs cells slots ls hH hS hc1 hs1 hl
  rw [zi_as] at k2
  refine va_sld hx hb s1 s2 (show ¬ N' ≤ b by omega) hS (zI_in hi hn) d ?_
  rw [zI_nc (a := i) (by omega)]
  exact k2
theorem z_slen (C : zC X l D N0 cc nL own Ts) (S : zScr X b n xs) (d : decode cc pc = .ok (.arraylength, 1)) (k : Z X μ kc kn (pc + 1) L (zi (n : Int) :: st)) : Z X μ kc kn pc L (.ref b :: st) := by
  obtain ⟨p, l', e, R, s, m, args, below, meth, c, D', N', Q⟩ := X
  obtain ⟨rfl, rfl, rfl, hx, hb, hml, hown, hts, hlk, hB⟩ := C
  obtain ⟨s1, s2, s3⟩ := S
  intro H locs cells slots ls hH hS hc1 hs1 hl
  refine va_slen hx hb s1 s2 (show ¬ N' ≤ b by omega) hS d ?_
  exact k H locs cells slots ls hH hS hc1 hs1 hl
end ZSCR
theorem s_newD {X : zX} {l : Launch} {D : va_G} {N0 : Nat} {cc : ByteArray} {nL : Nat} {own : String} {μ : zM} {kc kn pc sz : Nat} {L : List (Option Value)} {st : List Value} (C : zC X l D N0 cc nL own zWS) {rk rn rf rw : Nat} (Rm : zR X rk rn rf rw) {n : Int} (hn : 0 ≤ n ∧ n < 100000) (w : Cond.arrayClass .double ∈ zWS) (d : decode cc pc = .ok (.newarray .double, 2)) (hr : kc + 1 ≤ rk ∧ kn + n.toNat ≤ rn) (k : (∀ (a : Nat) (e : va_E), μ a = some e → a < sz) → ZS X (sz + 1) (zu μ sz (zAD D n.toNat (fun _ => 0))) (kc + 1) (kn + n.toNat) (pc + 2) L (.ref sz :: st)) : ZS X sz μ kc kn pc L (zi n :: st) := by
  obtain ⟨p, l', e, R, s, m, args, below, meth, c, D', N', Q⟩ := X
  obtain ⟨rfl, rfl, rfl, hx, hb, hml, hown, hts, hlk, hB⟩ := C
  obtain ⟨r1, r2, r3, r4⟩ := Rm
  intro H locs cells slots ls hz hH hS hc1 hs1 hl
  subst hz
  have hN : N' ≤ H.size := Nat.le_trans hB.2.2.1 hS.1
  refine va_newaK (atype := .double) hx hb (hts _ w) rfl d rfl (by rw [zI_0, zI_lt (by omega) (by omega)]; omega) (zI_nc (by omega)) (by show n.toNat * 8 ≤ 536870912; omega) (Nat.le_trans (Nat.le_trans (Nat.add_le_add_right hc1 _) hr.1) r1) (Nat.le_trans (Nat.le_trans (Nat.add_le_add_right hs1 _) hr.2) r2) rfl fun H1 cA e1 z1 o1 hAr hNm => ?_
  have hcA : cA = D'.1 103 := Option.some.inj (hNm.symm.trans (hB.1.2 3 _ rfl).2)
  subst hcA
  refine k (fun a e ha => hH.lt ha) H1 locs _ _ ls z1 (hH.new ?_ hN o1) ⟨Nat.le_trans hS.1 (by omega), fun x h1 h2 => (o1 x (Nat.lt_of_lt_of_le h1 hS.1)).trans (hS.2.1 x h1 h2), hS.2.2⟩ (Nat.add_le_add_right hc1 _) (Nat.add_le_add_right hs1 _) hl
  show H1[H.size]? = some (vp_cell _ _)
  rw [e1, vp_cell_d]
  rfl
