/-! the twin of Z that knows the heap's size, for constructors -/
def ZS (X : zX) (h : Nat) (μ : zM) (k n pc : Nat) (L : List (Option Value)) (st : List Value) : Prop :=
  match X with
  | (p, l, e, R, s, m, args, below, meth, c, D, N0, Q) => ∀ (H : Heap) (locs : List Loc) (cells slots : Nat) (ls : Array Slot), H.size = h → zH D N0 μ H → va_S (fun q => N0 ≤ q) s.heap H locs → cells ≤ k → slots ≤ n → zL ls L → W p l e R s m args below meth c H locs cells slots Q (F0 m pc ls st)
section ZSROWS
variable {X : zX} {l : Launch} {D : va_G} {N0 : Nat} {cc : ByteArray} {nL : Nat} {own : String} {Ts : List Cond} {μ : zM} {kc kn pc : Nat} {L L' : List (Option Value)} {st : List Value} {sz : Nat}
theorem ZS.of (k : Z X μ kc kn pc L st) : ZS X sz μ kc kn pc L st := by
  obtain ⟨p, l', e, R, s, m, args, below, meth, c, D', N', Q⟩ := X
  intro H locs cells slots ls hz hH hS hc1 hs1 hl
  exact k H locs cells slots ls hH hS hc1 hs1 hl
theorem ZS.all (k : ∀ sz, ZS X sz μ kc kn pc L st) : Z X μ kc kn pc L st := by
  obtain ⟨p, l', e, R, s, m, args, below, meth, c, D', N', Q⟩ := X
  intro H locs cells slots ls hH hS hc1 hs1 hl
  exact k H.size H locs cells slots ls rfl hH hS hc1 hs1 hl
theorem s_iconst (C : zC X l D N0 cc nL own Ts) {n : Int} (d : decode cc pc = .ok (.iconst n, 1)) (k : ZS X sz μ kc kn (pc + 1) L (zi n :: st)) : ZS X sz μ kc kn pc L (st) := by
  obtain ⟨p, l', e, R, s, m, args, below, meth, c, D', N', Q⟩ := X
  obtain ⟨rfl, rfl, rfl, hx, hb, hml, hown, hts, hlk, hB⟩ := C
  intro H locs cells slots ls hz hH hS hc1 hs1 hl
  exact lv_iconst hx hb d rfl (k H locs cells slots ls hz hH hS hc1 hs1 hl)
theorem s_bipush (C : zC X l D N0 cc nL own Ts) {n : Int} (d : decode cc pc = .ok (.bipush n, 2)) (k : ZS X sz μ kc kn (pc + 2) L (zi n :: st)) (hv : (Int8.ofInt n).toInt32 = Int32.ofInt n := by decide) : ZS X sz μ kc kn pc L st := by
  obtain ⟨p, l', e, R, s, m, args, below, meth, c, D', N', Q⟩ := X
  obtain ⟨rfl, rfl, rfl, hx, hb, hml, hown, hts, hlk, hB⟩ := C
  intro H locs cells slots ls hz hH hS hc1 hs1 hl
  exact lv_bipush hx hb d hv (k H locs cells slots ls hz hH hS hc1 hs1 hl)
theorem s_sipush (C : zC X l D N0 cc nL own Ts) {n : Int} (d : decode cc pc = .ok (.sipush n, 3)) (k : ZS X sz μ kc kn (pc + 3) L (zi n :: st)) (hv : (Int16.ofInt n).toInt32 = Int32.ofInt n := by decide) : ZS X sz μ kc kn pc L st := by
  obtain ⟨p, l', e, R, s, m, args, below, meth, c, D', N', Q⟩ := X
  obtain ⟨rfl, rfl, rfl, hx, hb, hml, hown, hts, hlk, hB⟩ := C
  intro H locs cells slots ls hz hH hS hc1 hs1 hl
  exact lv_sipush hx hb d hv (k H locs cells slots ls hz hH hS hc1 hs1 hl)
theorem s_iload_n (C : zC X l D N0 cc nL own Ts) {i : Fin 4} {x : Int} (d : decode cc pc = .ok (.iload_n i, 1)) (h : L[i.val]? = some (some (zi x))) (k : ZS X sz μ kc kn (pc + 1) L (zi x :: st)) : ZS X sz μ kc kn pc L (st) := by
  obtain ⟨p, l', e, R, s, m, args, below, meth, c, D', N', Q⟩ := X
  obtain ⟨rfl, rfl, rfl, hx, hb, hml, hown, hts, hlk, hB⟩ := C
  intro H locs cells slots ls hz hH hS hc1 hs1 hl
  exact lv_iload_n hx hb d rfl (hl.2.2 _ _ h) (k H locs cells slots ls hz hH hS hc1 hs1 hl)
theorem s_istore_n (C : zC X l D N0 cc nL own Ts) {i : Fin 4} {x : Int} (d : decode cc pc = .ok (.istore_n i, 1)) (h : L.set i.val (some (zi x)) = L') (k : ZS X sz μ kc kn (pc + 1) L' st) (hi : i.val < L.length := by exact Nat.le_of_ble_eq_true rfl) (hok : zok L i.val = true := by rfl) : ZS X sz μ kc kn pc L (zi x :: st) := by
  obtain ⟨p, l', e, R, s, m, args, below, meth, c, D', N', Q⟩ := X
  obtain ⟨rfl, rfl, rfl, hx, hb, hml, hown, hts, hlk, hB⟩ := C
  intro H locs cells slots ls hz hH hS hc1 hs1 hl
  subst h
  exact lv_istore_n hx hb d rfl hl.has hi rfl (fun ls1 h1 => k H locs cells slots ls1 hz hH hS hc1 hs1 (zL.set1 hok h1))
theorem s_aload_n (C : zC X l D N0 cc nL own Ts) {i : Fin 4} {x : Nat} (d : decode cc pc = .ok (.aload_n i, 1)) (h : L[i.val]? = some (some (.ref x))) (k : ZS X sz μ kc kn (pc + 1) L (.ref x :: st)) : ZS X sz μ kc kn pc L (st) := by
  obtain ⟨p, l', e, R, s, m, args, below, meth, c, D', N', Q⟩ := X
  obtain ⟨rfl, rfl, rfl, hx, hb, hml, hown, hts, hlk, hB⟩ := C
  intro H locs cells slots ls hz hH hS hc1 hs1 hl
  exact lv_aload_n hx hb d rfl (hl.2.2 _ _ h) (k H locs cells slots ls hz hH hS hc1 hs1 hl)
theorem s_aload (C : zC X l D N0 cc nL own Ts) {i : Nat} {x : Nat} (d : decode cc pc = .ok (.aload i, 2)) (h : L[i]? = some (some (.ref x))) (k : ZS X sz μ kc kn (pc + 2) L (.ref x :: st)) : ZS X sz μ kc kn pc L (st) := by
  obtain ⟨p, l', e, R, s, m, args, below, meth, c, D', N', Q⟩ := X
  obtain ⟨rfl, rfl, rfl, hx, hb, hml, hown, hts, hlk, hB⟩ := C
  intro H locs cells slots ls hz hH hS hc1 hs1 hl
  exact lv_aload hx hb d (hl.2.2 _ _ h) (k H locs cells slots ls hz hH hS hc1 hs1 hl)
theorem s_astore_n (C : zC X l D N0 cc nL own Ts) {i : Fin 4} {x : Nat} (d : decode cc pc = .ok (.astore_n i, 1)) (h : L.set i.val (some (.ref x)) = L') (k : ZS X sz μ kc kn (pc + 1) L' st) (hi : i.val < L.length := by exact Nat.le_of_ble_eq_true rfl) (hok : zok L i.val = true := by rfl) : ZS X sz μ kc kn pc L (.ref x :: st) := by
  obtain ⟨p, l', e, R, s, m, args, below, meth, c, D', N', Q⟩ := X
  obtain ⟨rfl, rfl, rfl, hx, hb, hml, hown, hts, hlk, hB⟩ := C
  intro H locs cells slots ls hz hH hS hc1 hs1 hl
  subst h
  exact lv_astore_n hx hb d rfl hl.has hi rfl (fun ls1 h1 => k H locs cells slots ls1 hz hH hS hc1 hs1 (zL.set1 hok h1))
theorem s_astore (C : zC X l D N0 cc nL own Ts) {i : Nat} {x : Nat} (d : decode cc pc = .ok (.astore i, 2)) (h : L.set i (some (.ref x)) = L') (k : ZS X sz μ kc kn (pc + 2) L' st) (hi : i < L.length := by exact Nat.le_of_ble_eq_true rfl) (hok : zok L i = true := by rfl) : ZS X sz μ kc kn pc L (.ref x :: st) := by
  obtain ⟨p, l', e, R, s, m, args, below, meth, c, D', N', Q⟩ := X
  obtain ⟨rfl, rfl, rfl, hx, hb, hml, hown, hts, hlk, hB⟩ := C
  intro H locs cells slots ls hz hH hS hc1 hs1 hl
  subst h
  exact lv_astore hx hb d hl.has hi rfl (fun ls1 h1 => k H locs cells slots ls1 hz hH hS hc1 hs1 (zL.set1 hok h1))
theorem s_iinc (C : zC X l D N0 cc nL own Ts) {i : Nat} {n x : Int} (d : decode cc pc = .ok (.iinc i n, 3)) (h : L[i]? = some (some (zi x))) (h2 : L.set i (some (zi (x + n))) = L') (k : ZS X sz μ kc kn (pc + 3) L' st) (hok : zok L i = true := by rfl) : ZS X sz μ kc kn pc L st := by
  obtain ⟨p, l', e, R, s, m, args, below, meth, c, D', N', Q⟩ := X
  obtain ⟨rfl, rfl, rfl, hx, hb, hml, hown, hts, hlk, hB⟩ := C
  intro H locs cells slots ls hz hH hS hc1 hs1 hl
  subst h2
  obtain ⟨k0, hk0⟩ := List.getElem?_of_mem (zal_mem.mpr h)
  exact lv_iinc hx hb d hl.has hk0 (zI_add x n) (List.getElem?_eq_some_iff.mp h).1 rfl (fun ls1 h1 => k H locs cells slots ls1 hz hH hS hc1 hs1 (zL.set1 hok h1))
theorem s_dup (C : zC X l D N0 cc nL own Ts) {v : Value} (d : decode cc pc = .ok (.dup, 1)) (hv : v.category = 1) (k : ZS X sz μ kc kn (pc + 1) L (v :: v :: st)) : ZS X sz μ kc kn pc L (v :: st) := by
  obtain ⟨p, l', e, R, s, m, args, below, meth, c, D', N', Q⟩ := X
  obtain ⟨rfl, rfl, rfl, hx, hb, hml, hown, hts, hlk, hB⟩ := C
  intro H locs cells slots ls hz hH hS hc1 hs1 hl
  exact lv_dup hx hb d hv (k H locs cells slots ls hz hH hS hc1 hs1 hl)
theorem s_icmp_ge (C : zC X l D N0 cc nL own Ts) {x y : Int} {off : Int} {tgt : Nat} (d : decode cc pc = .ok (.if_icmp .ge off, 3)) (ht : (pc : Int) + off = (tgt : Int)) (kt : y ≤ x → ZS X sz μ kc kn tgt L st) (kf : x < y → ZS X sz μ kc kn (pc + 3) L st) (hxr : -2147483648 ≤ x ∧ x < 2147483648 := by omega) (hyr : -2147483648 ≤ y ∧ y < 2147483648 := by omega) : ZS X sz μ kc kn pc L (zi y :: zi x :: st) := by
  obtain ⟨p, l', e, R, s, m, args, below, meth, c, D', N', Q⟩ := X
  obtain ⟨rfl, rfl, rfl, hx, hb, hml, hown, hts, hlk, hB⟩ := C
  intro H locs cells slots ls hz hH hS hc1 hs1 hl
  exact lv_icmp_ge hx hb d ht (fun q => kt ((zI_le hyr hxr).mp q) H locs cells slots ls hz hH hS hc1 hs1 hl) (fun q => kf (Int.not_le.mp (fun h => q ((zI_le hyr hxr).mpr h))) H locs cells slots ls hz hH hS hc1 hs1 hl)
theorem s_goto (C : zC X l D N0 cc nL own Ts) {off : Int} {tgt : Nat} (d : decode cc pc = .ok (.goto off, 3)) (ht : (pc : Int) + off = (tgt : Int)) (k : ZS X sz μ kc kn tgt L st) : ZS X sz μ kc kn pc L st := by
  obtain ⟨p, l', e, R, s, m, args, below, meth, c, D', N', Q⟩ := X
  obtain ⟨rfl, rfl, rfl, hx, hb, hml, hown, hts, hlk, hB⟩ := C
  intro H locs cells slots ls hz hH hS hc1 hs1 hl
  exact lv_goto hx hb d ht (k H locs cells slots ls hz hH hS hc1 hs1 hl)
theorem s_get (C : zC X l D N0 cc nL own Ts) {a ci index : Nat} {fs : List Value} {CN : String} {T : u_T} {N : Nat} {v : Value} (hm : μ a = some (.inr (ci, fs))) (hc : vwCl[ci]? = some (CN, T, N)) (k : Nat) (hk : k < N) (hlink : Cond.fieldLink own index CN (T k).2.1 (T k).2.2.1 ∈ Ts) (hin : ∀ w ∈ u_ws CN T N, w ∈ Ts) (href : (T k).1 = CN) (hv : fs[k]? = some v) (d : decode cc pc = .ok (.getfield index, 3)) (kk : ZS X sz μ kc kn (pc + 3) L (v :: st)) : ZS X sz μ kc kn pc L (.ref a :: st) := by
  obtain ⟨p, l', e, R, s, m, args, below, meth, c, D', N', Q⟩ := X
  obtain ⟨rfl, rfl, rfl, hx, hb, hml, hown, hts, hlk, hB⟩ := C
  intro H locs cells slots ls hz hH hS hc1 hs1 hl
  exact va_get hx hb hts hin hown hB.1 (hH.one hm) 0 rfl hc k hk (hts _ hlink) (fun x q => by rw [← href]; exact q) hv d (kk H locs cells slots ls hz hH hS hc1 hs1 hl)
theorem s_put (C : zC X l D N0 cc nL own Ts) {a ci index : Nat} {fs : List Value} {CN : String} {T : u_T} {N : Nat} {v : Value} (hm : μ a = some (.inr (ci, fs))) (hc : vwCl[ci]? = some (CN, T, N)) (ty0 : Nat → FieldType) (hty : ∀ k, k < N → parseFieldDescriptor (T k).2.2.1 = some (ty0 k)) (hnm : ∀ a, a < N → ∀ b, b < N → a ≠ b → (T a).2.1 ≠ (T b).2.1) (k : Nat) (hk : k < N) (hlink : Cond.fieldLink own index CN (T k).2.1 (T k).2.2.1 ∈ Ts) (hin : ∀ w ∈ u_ws CN T N, w ∈ Ts) (href : (T k).1 = CN) (hfin : (T k).2.2.2 = false) (hn : narrow (ty0 k) v = v) (hfit : fits (ty0 k) v = true) (hlen : k < fs.length) (d : decode cc pc = .ok (.putfield index, 3)) (kk : ZS X sz (zu μ a (.inr (ci, fs.set k v))) kc kn (pc + 3) L st) : ZS X sz μ kc kn pc L (v :: .ref a :: st) := by
  obtain ⟨p, l', e, R, s, m, args, below, meth, c, D', N', Q⟩ := X
  obtain ⟨rfl, rfl, rfl, hx, hb, hml, hown, hts, hlk, hB⟩ := C
  intro H locs cells slots ls hz hH hS hc1 hs1 hl
  have hap := va_apart (own := own) hts hin ty0 hty hnm hB.1 hc
  obtain ⟨r, h1, cell, q1, q2, q3, q4⟩ := (hH a _ hm).1
  have hr : r = (CN, T, N) := Option.some.inj (h1.symm.trans hc)
  subst hr
  obtain ⟨hSl, hfc, kC, hkC, hkind⟩ := hB.1.1 ci _ hc
  obtain ⟨cf, kf, fi, f, hi, hsl⟩ := hSl k hk
  have hlay := hts _ (hin _ (u_in_lay hk))
  unfold u_lay at hlay
  rw [if_neg (by rw [hfin]; decide)] at hlay
  have hst := (u_facts hfc hkC (u_lays hts hin hk) hi).1
  have h6 := u_store hfc hkC hkind hlay hi (hty k hk) hn hfit
  refine W.putK hx hb (f := f) ⟨hown, hts _ hlink, ⟨_, _, _, by rw [← href]; exact hi⟩, hst⟩ (by rw [q2]; exact h6) q1 q3 (by rw [hsl]; exact k2_hasslot (q4 k hk)) rfl rfl d fun H' e1 e2 e3 => ?_
  rw [hsl] at e1 ⊢
  have hv9 : va_at D' vwCl (a, .inr (ci, fs.set k v)) H' := ⟨_, hc, t_OB.to (V := updV (vp_V fs) k v) ⟨_, e1, q2, q3, t_set q4 hap hk v⟩ (fun j _ => vp_updV_set hlen v j)⟩
  exact kk H' _ cells slots ls (e2.trans hz) (hH.seta hv9 (hH a _ hm).2 e3) (hS.put e2 e3 (hH a _ hm).2) hc1 hs1 hl
theorem s_putF (C : zC X l D N0 cc nL own Ts) {a ci index : Nat} {fs : List Value} {CN : String} {T : u_T} {N : Nat} {v : Value} (hm : μ a = some (.inr (ci, fs))) (hc : vwCl[ci]? = some (CN, T, N)) (ty0 : Nat → FieldType) (hty : ∀ k, k < N → parseFieldDescriptor (T k).2.2.1 = some (ty0 k)) (hnm : ∀ a, a < N → ∀ b, b < N → a ≠ b → (T a).2.1 ≠ (T b).2.1) (k : Nat) (hk : k < N) (hlink : Cond.fieldLink own index CN (T k).2.1 (T k).2.2.1 ∈ Ts) (hin : ∀ w ∈ u_ws CN T N, w ∈ Ts) (href : (T k).1 = CN) (hfin : (T k).2.2.2 = true) (hin2 : zInit X) (hdecl : CN = own) (hn : narrow (ty0 k) v = v) (hfit : fits (ty0 k) v = true) (hlen : k < fs.length) (d : decode cc pc = .ok (.putfield index, 3)) (kk : ZS X sz (zu μ a (.inr (ci, fs.set k v))) kc kn (pc + 3) L st) : ZS X sz μ kc kn pc L (v :: .ref a :: st) := by
  obtain ⟨p, l', e, R, s, m, args, below, meth, c, D', N', Q⟩ := X
  obtain ⟨rfl, rfl, rfl, hx, hb, hml, hown, hts, hlk, hB⟩ := C
  intro H locs cells slots ls hz hH hS hc1 hs1 hl
  have hap := va_apart (own := own) hts hin ty0 hty hnm hB.1 hc
  obtain ⟨r, h1, cell, q1, q2, q3, q4⟩ := (hH a _ hm).1
  have hr : r = (CN, T, N) := Option.some.inj (h1.symm.trans hc)
  subst hr
  obtain ⟨hSl, hfc, kC, hkC, hkind⟩ := hB.1.1 ci _ hc
  obtain ⟨cf, kf, fi, f, hi, hsl⟩ := hSl k hk
  have hlay := hts _ (hin _ (u_in_lay hk))
  unfold u_lay at hlay
  rw [if_pos hfin] at hlay
  have hst := (u_facts hfc hkC (u_lays hts hin hk) hi).1
  have hcf : m.cls = cf := by
    obtain ⟨_, _, c', _, _, _, -, -, hf', -, -, -, hown2, -⟩ := Cond.laysFinal_spec hlay
    have e1 : c' = cf := by have := hi.symm.trans hf'; simp at this; exact this.1.symm
    rw [href, hdecl] at hown2
    rw [← e1]; exact Option.some.inj (hown.symm.trans hown2)
  have h6 := u_fits hfc hkC hkind (Or.inr hlay) hi (hty k hk) hn hfit
  refine W.putFinK hx hb hown (hts _ hlink) (by rw [← href]; exact hi) hst hcf hin2 (by rw [q2]; exact h6) q1 q3 (by rw [hsl]; exact k2_hasslot (q4 k hk)) rfl rfl d fun H' e1 e2 e3 => ?_
  rw [hsl] at e1 ⊢
  have hv9 : va_at D' vwCl (a, .inr (ci, fs.set k v)) H' := ⟨_, hc, t_OB.to (V := updV (vp_V fs) k v) ⟨_, e1, q2, q3, t_set q4 hap hk v⟩ (fun j _ => vp_updV_set hlen v j)⟩
  exact kk H' _ cells slots ls (e2.trans hz) (hH.seta hv9 (hH a _ hm).2 e3) (hS.put e2 e3 (hH a _ hm).2) hc1 hs1 hl
theorem s_alen (C : zC X l D N0 cc nL own Ts) {a n : Nat} {cA : ClassId} {x} (hm : μ a = some (.inl (cA, n, x))) (t0 : Nat) {ty : FieldType} (ht : (zTY D)[t0]? = some (cA, ty)) (d : decode cc pc = .ok (.arraylength, 1)) (k : ZS X sz μ kc kn (pc + 1) L (zi (n : Int) :: st)) : ZS X sz μ kc kn pc L (.ref a :: st) := by
  obtain ⟨p, l', e, R, s, m, args, below, meth, c, D', N', Q⟩ := X
  obtain ⟨rfl, rfl, rfl, hx, hb, hml, hown, hts, hlk, hB⟩ := C
  intro H locs cells slots ls hz hH hS hc1 hs1 hl
  exact va_alen hx hb hB.1 (hH.one hm) 0 t0 rfl ht rfl d (k H locs cells slots ls hz hH hS hc1 hs1 hl)
theorem s_fast (C : zC X l D N0 cc nL own Ts) {a n v : Nat} {f : Nat → Option Nat} {fs : List Value} {i : Int} (hm : μ a = some (zAF D n f)) (hv : μ v = some (.inr (0, fs))) (hn : n < 2147483648) (d : decode cc pc = .ok (.aastore, 1)) (k : ZS X sz (zu μ a (zAF D n (zw f i.toNat (some v)))) kc kn (pc + 1) L st) (hi : 0 ≤ i ∧ i < n := by omega) : ZS X sz μ kc kn pc L (.ref v :: zi i :: .ref a :: st) := by
  obtain ⟨p, l', e, R, s, m, args, below, meth, c, D', N', Q⟩ := X
  obtain ⟨rfl, rfl, rfl, hx, hb, hml, hown, hts, hlk, hB⟩ := C
  intro H locs cells slots ls hz hH hS hc1 hs1 hl
  have hlt : (Int32.ofInt i).toNatClampNeg < n := by rw [zI_nc (a := i) (by omega)]; omega
  obtain ⟨⟨r', hr', cellV, g1, g2, g3, -⟩, -⟩ := hH v _ hv
  have hcls := (hB.1.1 0 _ rfl).2
  obtain ⟨kA, comp, k1, k2, k3, -⟩ := (hB.1.2 4 _ rfl).2
  have hcomp : comp = D'.1 0 := Option.some.inj (k3.symm.trans hcls.1)
  subst hcomp
  obtain ⟨kC, hkC, -⟩ := hcls.2
  refine W.aast hx hb (hH a _ hm).1 (fun q h => by cases h) (fun h => by cases h) k1 k2 rfl hkC ⟨fun q => zI_in hi hn (Or.inl q), by show _ < (arrV _ _ _).slots.size; rw [arrV_size]; exact hlt⟩ g1 (fun q h => by rw [g3] at h; cases h) (by rw [g2]; exact hkC) (by rw [g2]; exact va_asg _ _) rfl rfl d fun H1 e z oq => ?_
  refine k H1 _ cells slots ls (z.trans hz) (hH.seta ?_ (hH a _ hm).2 oq) (hS.put z oq (hH a _ hm).2) hc1 hs1 hl
  show H1[a]? = some (vp_cell _ _)
  rw [e, vp_cell_q, vp_cell_q, arrV_store, zI_nc (by omega)]
  congr 2
  funext q
  by_cases hq : q = i.toNat
  · subst hq
    simp [updV, zw, va_rf]
  · simp [updV, zw, hq]

theorem s_objInit (C : zC X l D N0 cc nL own zWS) {rk rn rf rw : Nat} (Rm : zR X rk rn rf rw) {a index : Nat} (w1 : Cond.methodLink own index Lib.objectInit ∈ zWS) (w2 : Cond.instanceMethod Lib.objectInit ∈ zWS) (w3 : Cond.code Lib.objectInit { data := #[177] } 1 none ∈ zWS) (d : decode cc pc = .ok (.invokespecial index, 3)) (hLn : L.length = nL) (hr : 1 ≤ rf ∧ (st.map fun v => v.category).sum + 12 ≤ rw) (k : ZS X sz μ kc kn (pc + 3) L st) : ZS X sz μ kc kn pc L (.ref a :: st) := by
  obtain ⟨p, l', e, R, s, m, args, below, meth, c, D', N', Q⟩ := X
  obtain ⟨rfl, rfl, rfl, hx, hb, hml, hown, hts, hlk, hB⟩ := C
  obtain ⟨r1, r2, r3, r4⟩ := Rm
  intro H locs cells slots ls hz hH hS hc1 hs1 hl
  exact W.objInit hx hb hown (hts _ w1) (hts _ w2) (hts _ w3) rfl (hl.1.trans (hLn.trans hml.symm)) rfl d (Nat.le_trans hr.1 r3) (by show 2 * 0 + _ + _ ≤ _; have := Nat.le_trans hr.2 r4; omega) (k H locs cells slots ls hz hH hS hc1 hs1 hl)
theorem s_newI (C : zC X l D N0 cc nL own zWS) {rk rn rf rw : Nat} (Rm : zR X rk rn rf rw) {n : Int} (hn : 0 ≤ n ∧ n < 100000) (w : Cond.arrayClass .int ∈ zWS) (d : decode cc pc = .ok (.newarray .int, 2)) (hr : kc + 1 ≤ rk ∧ kn + n.toNat ≤ rn) (k : (∀ (a : Nat) (e : va_E), μ a = some e → a < sz) → ZS X (sz + 1) (zu μ sz (zAI D n.toNat (fun _ => 0))) (kc + 1) (kn + n.toNat) (pc + 2) L (.ref sz :: st)) : ZS X sz μ kc kn pc L (zi n :: st) := by
  obtain ⟨p, l', e, R, s, m, args, below, meth, c, D', N', Q⟩ := X
  obtain ⟨rfl, rfl, rfl, hx, hb, hml, hown, hts, hlk, hB⟩ := C
  obtain ⟨r1, r2, r3, r4⟩ := Rm
  intro H locs cells slots ls hz hH hS hc1 hs1 hl
  subst hz
  have hN : N' ≤ H.size := Nat.le_trans hB.2.2.1 hS.1
  refine va_newaK (atype := .int) hx hb (hts _ w) rfl d rfl (by rw [zI_0, zI_lt (by omega) (by omega)]; omega) (zI_nc (by omega)) (by show n.toNat * 4 ≤ 536870912; omega) (Nat.le_trans (Nat.le_trans (Nat.add_le_add_right hc1 _) hr.1) r1) (Nat.le_trans (Nat.le_trans (Nat.add_le_add_right hs1 _) hr.2) r2) rfl fun H1 cA e1 z1 o1 hAr hNm => ?_
  have hcA : cA = D'.1 100 := Option.some.inj (hNm.symm.trans (hB.1.2 0 _ rfl).2)
  subst hcA
  refine k (fun a e ha => hH.lt ha) H1 locs _ _ ls z1 (hH.new ?_ hN o1) ⟨Nat.le_trans hS.1 (by omega), fun x h1 h2 => (o1 x (Nat.lt_of_lt_of_le h1 hS.1)).trans (hS.2.1 x h1 h2), hS.2.2⟩ (Nat.add_le_add_right hc1 _) (Nat.add_le_add_right hs1 _) hl
  show H1[H.size]? = some (vp_cell _ _)
  rw [e1, vp_cell_i]
  rfl
theorem s_newJ (C : zC X l D N0 cc nL own zWS) {rk rn rf rw : Nat} (Rm : zR X rk rn rf rw) {n : Int} (hn : 0 ≤ n ∧ n < 100000) (w : Cond.arrayClass .long ∈ zWS) (d : decode cc pc = .ok (.newarray .long, 2)) (hr : kc + 1 ≤ rk ∧ kn + n.toNat ≤ rn) (k : (∀ (a : Nat) (e : va_E), μ a = some e → a < sz) → ZS X (sz + 1) (zu μ sz (zAL D n.toNat zF)) (kc + 1) (kn + n.toNat) (pc + 2) L (.ref sz :: st)) : ZS X sz μ kc kn pc L (zi n :: st) := by
  obtain ⟨p, l', e, R, s, m, args, below, meth, c, D', N', Q⟩ := X
  obtain ⟨rfl, rfl, rfl, hx, hb, hml, hown, hts, hlk, hB⟩ := C
  obtain ⟨r1, r2, r3, r4⟩ := Rm
  intro H locs cells slots ls hz hH hS hc1 hs1 hl
  subst hz
  have hN : N' ≤ H.size := Nat.le_trans hB.2.2.1 hS.1
  refine va_newaK (atype := .long) hx hb (hts _ w) rfl d rfl (by rw [zI_0, zI_lt (by omega) (by omega)]; omega) (zI_nc (by omega)) (by show n.toNat * 8 ≤ 536870912; omega) (Nat.le_trans (Nat.le_trans (Nat.add_le_add_right hc1 _) hr.1) r1) (Nat.le_trans (Nat.le_trans (Nat.add_le_add_right hs1 _) hr.2) r2) rfl fun H1 cA e1 z1 o1 hAr hNm => ?_
  have hcA : cA = D'.1 101 := Option.some.inj (hNm.symm.trans (hB.1.2 1 _ rfl).2)
  subst hcA
  refine k (fun a e ha => hH.lt ha) H1 locs _ _ ls z1 (hH.new ?_ hN o1) ⟨Nat.le_trans hS.1 (by omega), fun x h1 h2 => (o1 x (Nat.lt_of_lt_of_le h1 hS.1)).trans (hS.2.1 x h1 h2), hS.2.2⟩ (Nat.add_le_add_right hc1 _) (Nat.add_le_add_right hs1 _) hl
  show H1[H.size]? = some (vp_cell _ _)
  rw [e1, vp_cell_l]
  rfl
theorem s_new (C : zC X l D N0 cc nL own zWS) {rk rn rf rw : Nat} (Rm : zR X rk rn rf rw) {ci index : Nat} {CN : String} {T : u_T} {N : Nat} {fs : List Value} (hc : vwCl[ci]? = some (CN, T, N)) (hin : ∀ w ∈ u_ws CN T N, w ∈ zWS) (ty0 : Nat → FieldType) (hty : ∀ k, k < N → parseFieldDescriptor (T k).2.2.1 = some (ty0 k)) (w1 : Cond.classLink own index CN ∈ zWS) (w2 : Cond.instantiable CN N ∈ zWS) (w3 : Cond.initialized CN ∈ zWS) (hfs : ∀ j, j < N → defaultValue (ty0 j) = vp_V fs j) (d : decode cc pc = .ok (.new index, 3)) (hr : kc + 1 ≤ rk ∧ kn + N ≤ rn) (k : (∀ (a : Nat) (e : va_E), μ a = some e → a < sz) → ZS X (sz + 1) (zu μ sz (.inr (ci, fs))) (kc + 1) (kn + N) (pc + 3) L (.ref sz :: st)) : ZS X sz μ kc kn pc L st := by
  obtain ⟨p, l', e, R, s, m, args, below, meth, c, D', N', Q⟩ := X
  obtain ⟨rfl, rfl, rfl, hx, hb, hml, hown, hts, hlk, hB⟩ := C
  obtain ⟨r1, r2, r3, r4⟩ := Rm
  intro H locs cells slots ls hz hH hS hc1 hs1 hl
  subst hz
  have hN : N' ≤ H.size := Nat.le_trans hB.2.2.1 hS.1
  have hKn := hB.1.1 ci _ hc
  refine W.newcK hx hb hown (hts _ w1) (hts _ w2) (hts _ w3) rfl d (Nat.le_trans (Nat.le_trans (Nat.add_le_add_right hc1 _) hr.1) r1) (Nat.le_trans (Nat.le_trans (Nat.add_le_add_right hs1 _) hr.2) r2) hKn.2.1 rfl fun H1 kC hkC e1 z1 o1 => ?_
  exact k (fun a e ha => hH.lt ha) H1 locs _ _ ls z1 (hH.new ⟨_, hc, (u_born ty0 hts hin hKn hkC e1 hty).to hfs⟩ hN o1) ⟨Nat.le_trans hS.1 (by omega), fun x h1 h2 => (o1 x (Nat.lt_of_lt_of_le h1 hS.1)).trans (hS.2.1 x h1 h2), hS.2.2⟩ (Nat.add_le_add_right hc1 _) (Nat.add_le_add_right hs1 _) hl
theorem s_anewF (C : zC X l D N0 cc nL own zWS) {rk rn rf rw : Nat} (Rm : zR X rk rn rf rw) {index : Nat} {n : Int} (hn : 0 ≤ n ∧ n < 100000) (w1 : Cond.classLink own index RX0 ∈ zWS) (d : decode cc pc = .ok (.anewarray index, 3)) (hr : kc + 1 ≤ rk ∧ kn + n.toNat ≤ rn) (k : (∀ (a : Nat) (e : va_E), μ a = some e → a < sz) → ZS X (sz + 1) (zu μ sz (zAF D n.toNat (fun _ => none))) (kc + 1) (kn + n.toNat) (pc + 3) L (.ref sz :: st)) : ZS X sz μ kc kn pc L (zi n :: st) := by
  obtain ⟨p, l', e, R, s, m, args, below, meth, c, D', N', Q⟩ := X
  obtain ⟨rfl, rfl, rfl, hx, hb, hml, hown, hts, hlk, hB⟩ := C
  obtain ⟨r1, r2, r3, r4⟩ := Rm
  intro H locs cells slots ls hz hH hS hc1 hs1 hl
  subst hz
  have hN : N' ≤ H.size := Nat.le_trans hB.2.2.1 hS.1
  have hnn : (Int32.ofInt n).toNatClampNeg = n.toNat := zI_nc (by omega)
  refine W.anew hx hb hown (hts _ w1) (va_AO.use hB.2.2.2.2.2.2.2.1) rfl d rfl (by rw [zI_0, zI_lt (by omega) (by omega)]; omega) (by rw [hnn]; omega) (Nat.le_trans (Nat.le_trans (Nat.add_le_add_right hc1 _) hr.1) r1) (by rw [hnn]; exact Nat.le_trans (Nat.le_trans (Nat.add_le_add_right hs1 _) hr.2) r2) fun cA kA comp f1 f2 f3 f4 => ?_
  obtain ⟨kA2, comp2, k1, k2, k3, k4⟩ := (hB.1.2 4 _ rfl).2
  have hcA : cA = D'.1 104 := Option.some.inj (f1.symm.trans k4)
  subst hcA
  rw [hnn]
  refine k (fun a e ha => hH.lt ha) _ locs _ _ ls (Array.size_push ..) (hH.new ?_ hN (fun q hq => by rw [Array.getElem?_push, if_neg (Nat.ne_of_lt hq)])) ⟨Nat.le_trans hS.1 (by rw [Array.size_push]; omega), fun x h1 h2 => (by rw [Array.getElem?_push, if_neg (Nat.ne_of_lt (Nat.lt_of_lt_of_le h1 hS.1))]; exact hS.2.1 x h1 h2), hS.2.2⟩ (Nat.add_le_add_right hc1 _) (Nat.add_le_add_right hs1 _) hl
  show (H.push _)[H.size]? = some (vp_cell _ _)
  rw [Array.getElem?_push_size, arrV_new, vp_cell_q]
  rfl
theorem s_anewB (C : zC X l D N0 cc nL own zWS) {rk rn rf rw : Nat} (Rm : zR X rk rn rf rw) {index : Nat} {n : Int} (hn : 0 ≤ n ∧ n < 100000) (w1 : Cond.classLink own index (FieldType.array .boolean).toString ∈ zWS) (d : decode cc pc = .ok (.anewarray index, 3)) (hr : kc + 1 ≤ rk ∧ kn + n.toNat ≤ rn) (k : (∀ (a : Nat) (e : va_E), μ a = some e → a < sz) → ZS X (sz + 1) (zu μ sz (zAB D n.toNat (fun _ => none))) (kc + 1) (kn + n.toNat) (pc + 3) L (.ref sz :: st)) : ZS X sz μ kc kn pc L (zi n :: st) := by
  obtain ⟨p, l', e, R, s, m, args, below, meth, c, D', N', Q⟩ := X
  obtain ⟨rfl, rfl, rfl, hx, hb, hml, hown, hts, hlk, hB⟩ := C
  obtain ⟨r1, r2, r3, r4⟩ := Rm
  intro H locs cells slots ls hz hH hS hc1 hs1 hl
  subst hz
  have hN : N' ≤ H.size := Nat.le_trans hB.2.2.1 hS.1
  have hnn : (Int32.ofInt n).toNatClampNeg = n.toNat := zI_nc (by omega)
  refine W.anewA (t := .boolean) hx hb hown (hts _ w1) (va_AOA.use hB.2.2.2.2.2.2.2.2.1) rfl d rfl (by rw [zI_0, zI_lt (by omega) (by omega)]; omega) (by rw [hnn]; omega) (Nat.le_trans (Nat.le_trans (Nat.add_le_add_right hc1 _) hr.1) r1) (by rw [hnn]; exact Nat.le_trans (Nat.le_trans (Nat.add_le_add_right hs1 _) hr.2) r2) fun cA kA comp f1 f2 f3 f4 => ?_
  have hcA : cA = D'.1 105 := Option.some.inj (f1.symm.trans ((hB.1.2 5 _ rfl).2 : s.vm.findClass ("[" ++ (FieldType.array .boolean).toString) = some (D'.1 105)))
  subst hcA
  rw [hnn]
  refine k (fun a e ha => hH.lt ha) _ locs _ _ ls (Array.size_push ..) (hH.new ?_ hN (fun q hq => by rw [Array.getElem?_push, if_neg (Nat.ne_of_lt hq)])) ⟨Nat.le_trans hS.1 (by rw [Array.size_push]; omega), fun x h1 h2 => (by rw [Array.getElem?_push, if_neg (Nat.ne_of_lt (Nat.lt_of_lt_of_le h1 hS.1))]; exact hS.2.1 x h1 h2), hS.2.2⟩ (Nat.add_le_add_right hc1 _) (Nat.add_le_add_right hs1 _) hl
  show (H.push _)[H.size]? = some (vp_cell _ _)
  rw [Array.getElem?_push_size, arrV_new, vp_cell_q]
  rfl
end ZSROWS
