/-- System.arraycopy of booleans, both from 0 on -/
theorem z_copyZ {X : zX} {l : Launch} {D : va_G} {N0 : Nat} {cc : ByteArray} {nL : Nat} {own : String} {μ : zM} {kc kn pc : Nat} {L : List (Option Value)} {st : List Value} {rk rn rf rw index : Nat} (C : zC X l D N0 cc nL own zWS) (Rm : zR X rk rn rf rw) (w1 : Cond.methodLink own index arraycopyName ∈ zWS) (w2 : Cond.native arraycopyName ∈ zWS) (w3 : Cond.static arraycopyName ∈ zWS) (w4 : Cond.initialized "java/lang/System" ∈ zWS) {a0 a n0 n1 n : Nat} {f g : Nat → Int} (hm0 : μ a0 = some (zAZ D n0 f)) (hm1 : μ a = some (zAZ D n1 g)) (hn : n ≤ n0 ∧ n ≤ n1 ∧ n0 < 100000 ∧ n1 < 100000) (hv : ∀ i, f i = 0 ∨ f i = 1) (d : decode cc pc = .ok (.invokestatic index, 3)) (hLn : L.length = nL) (hroom : 1 ≤ rf ∧ (st.map fun v => v.category).sum + (nativeFrameWords "java/lang/System" "arraycopy" 5 + 11) ≤ rw) (k : Z X (zu μ a (zAZ D n1 (fun j => if j < n then f j else g j))) kc kn (pc + 3) L st) : Z X μ kc kn pc L (zi (n : Int) :: zi 0 :: .ref a :: zi 0 :: .ref a0 :: st) := by
  obtain ⟨p, l', e, R, s, m, args, below, meth, c, D', N', Q⟩ := X
  obtain ⟨rfl, rfl, rfl, hx, hb, hml, hown, hts, hlk, hB⟩ := C
  obtain ⟨r1, r2, r3, r4⟩ := Rm
  intro H locs cells slots ls hH hS hc1 hs1 hl T hT Xs
  have hc0 := (hH a0 _ hm0).1
  have hc9 := (hH a _ hm1).1
  have hN := (hH a _ hm1).2
  have hn2 : (Int32.ofInt (n : Int)).toNatClampNeg = n := by rw [zI_nc (by omega)]; omega
  have hz2 : (Int32.ofInt 0).toNatClampNeg = 0 := by decide
  have hn3 : (Int32.ofInt (n : Int)).toInt = (n : Int) := zI (by omega)
  have hz3 : (Int32.ofInt 0).toInt = 0 := by decide
  obtain ⟨-, k0, hk0, cm0, hkk0⟩ := (hB.1.2 2 _ rfl).1 n0 (fun j => .int (Int32.ofInt (f j)))
  obtain ⟨-, k1, hk1, cm1, hkk1⟩ := (hB.1.2 2 _ rfl).1 n1 (fun j => .int (Int32.ofInt (g j)))
  obtain ⟨vm', X', step⟩ := Xs.arraycopy hx hown (hts _ w1) (hts _ w2) (hts _ w3) (hts _ w4) (src := a0) (dst := a) (cs := arrV (D'.1 102) n0 (fun j => .int (Int32.ofInt (f j)))) (cd := arrV (D'.1 102) n1 (fun j => .int (Int32.ofInt (g j)))) (srcPos := Int32.ofInt 0) (destPos := Int32.ofInt 0) (n := Int32.ofInt (n : Int)) (by rw [hT]; exact hc0) (by rw [hT]; exact hc9)
    (fun _ h => by cases h) (fun _ h => by cases h) (fun h => by cases h) (fun h => by cases h) hk0 hk1 hkk0 hkk1 rfl (by decide) (by decide) (by rw [zI_0, zI_lt (by omega) (by omega)]; omega)
    (by rw [hn3, hz3, arrV_size]; omega)
    (by rw [hn3, hz3, arrV_size]; omega)
    (fun vm₁ _ i hi => by
      rw [hn2] at hi
      have e : (arrV (D'.1 102) n0 (fun j => .int (Int32.ofInt (f j)))).slots.getD ((Int32.ofInt 0).toNatClampNeg + i) .null = .int (Int32.ofInt (f i)) := by
        rw [hz2, Nat.zero_add, Array.getD_eq_getD_getElem?, arrV_read _ _ (by omega)]
        rfl
      refine ⟨?_, ?_⟩
      · rw [e]
        rcases hv i with q | q
        · rw [q]
          exact (by decide : fits .boolean (.int (Int32.ofInt 0)) = true)
        · rw [q]
          exact (by decide : fits .boolean (.int (Int32.ofInt 1)) = true)
      · rw [e]
        exact trivial)
    (g := F0 m pc ls (zi (n : Int) :: zi 0 :: .ref a :: zi 0 :: .ref a0 :: st)) rfl (by show ls.size = c.maxLocals; rw [hml, ← hLn]; exact hl.1) (rest := st) rfl (by rw [hb]; exact d) (Nat.le_trans hroom.1 r3) (by show 2 * 0 + _ + _ ≤ _; have := Nat.le_trans hroom.2 r4; omega)
  have e1 : copied (arrV (D'.1 102) n0 (fun j => .int (Int32.ofInt (f j)))) (arrV (D'.1 102) n1 (fun j => .int (Int32.ofInt (g j)))) (Int32.ofInt 0) (Int32.ofInt 0) (Int32.ofInt (n : Int)) = arrV (D'.1 102) n1 (fun j => .int (Int32.ofInt (if j < n then f j else g j))) := by
    have h9 := va_copied (fun z => Value.int z) (D'.1 102) (D'.1 102) (n1 := n1) (dp := 0) (fun j => Int32.ofInt (f j)) (fun j => Int32.ofInt (g j)) (show 0 + n ≤ n0 by omega)
    unfold copied
    rw [hn2, hz2]
    refine h9.trans ?_
    congr 1
    funext j
    unfold va_cpy
    by_cases hj : j < n
    · rw [if_pos (by omega), if_pos hj]
      simp
    · rw [if_neg (by omega), if_neg hj]
  rw [e1] at X' step
  have hlt : a < H.size := (Array.getElem?_eq_some_iff.mp hc9).1
  have oq : ∀ q : Nat, q ≠ a → (H.setIfInBounds a (arrV (D'.1 102) n1 (fun j => .int (Int32.ofInt (if j < n then f j else g j)))))[q]? = H[q]? := fun q hq => by simp [Array.getElem?_setIfInBounds, Ne.symm hq]
  have hheap : ((T.setVm vm').setCell a (arrV (D'.1 102) n1 (fun j => .int (Int32.ofInt (if j < n then f j else g j))))).heap = H.setIfInBounds a (arrV (D'.1 102) n1 (fun j => .int (Int32.ofInt (if j < n then f j else g j)))) := by rw [← hT]; rfl
  obtain ⟨t, a1, b1⟩ := k _ _ cells slots ls (hH.seta (show (H.setIfInBounds a _)[a]? = some (vp_cell _ _) by rw [vp_cell_i]; simp [Array.getElem?_setIfInBounds, hlt]) hN oq) ⟨by simp; exact hS.1, fun q g1 g2 => by
      rw [oq q (fun e => g2 (by rw [e]; exact hN))]
      exact hS.2.1 q g1 g2, fun q hq => by
      rcases List.mem_append.mp hq with h | h
      · exact hS.2.2 q h
      · obtain ⟨z, -, hz⟩ := List.mem_map.mp h
        rw [← hz]
        exact hN⟩ hc1 hs1 hl _ hheap X'
  exact ⟨t, step t a1, b1⟩
