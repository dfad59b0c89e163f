def zRec (a b h i k : Int) : Nat → Int := fun j => if (a ≤ (j : Int) % 64 ∧ (j : Int) % 64 < a + i ∧ b ≤ (j : Int) / 64 ∧ (j : Int) / 64 < b + h) ∨ ((j : Int) % 64 = a + i ∧ b ≤ (j : Int) / 64 ∧ (j : Int) / 64 < b + k) then 1 else 0
theorem zRec_01 {a b h i k : Int} (j : Nat) : zRec a b h i k j = 0 ∨ zRec a b h i k j = 1 := by
  unfold zRec
  split
  · exact Or.inr rfl
  · exact Or.inl rfl
theorem zRec_0 {a b h : Int} : zRec a b h 0 0 = zIz := by
  funext j
  unfold zRec
  rw [if_neg (by omega)]
  rfl
theorem zRec_s {a b h i k x : Int} (hx : x = (b + k) * 64 + a + i) (h1 : 0 ≤ a + i ∧ a + i < 64) (h2 : 0 ≤ b + k ∧ 0 ≤ k) : zw (zRec a b h i k) x.toNat 1 = zRec a b h i (k + 1) := by
  funext j
  by_cases e : j = x.toNat
  · rw [e, zw_s]
    unfold zRec
    rw [if_pos (by omega)]
  · rw [zw_n e]
    unfold zRec
    by_cases q : (a ≤ (j : Int) % 64 ∧ (j : Int) % 64 < a + i ∧ b ≤ (j : Int) / 64 ∧ (j : Int) / 64 < b + h) ∨ ((j : Int) % 64 = a + i ∧ b ≤ (j : Int) / 64 ∧ (j : Int) / 64 < b + k)
    · rw [if_pos q, if_pos (by omega)]
    · rw [if_neg q, if_neg (by omega)]
theorem zRec_n {a b h i : Int} (hi : 0 ≤ i) : zRec a b h i h = zRec a b h (i + 1) 0 := by
  funext j
  unfold zRec
  by_cases q : (a ≤ (j : Int) % 64 ∧ (j : Int) % 64 < a + i ∧ b ≤ (j : Int) / 64 ∧ (j : Int) / 64 < b + h) ∨ ((j : Int) % 64 = a + i ∧ b ≤ (j : Int) / 64 ∧ (j : Int) / 64 < b + h)
  · rw [if_pos q, if_pos (by omega)]
  · rw [if_neg q, if_neg (by omega)]
theorem zRec_row {a b h w : Int} (ha : 0 ≤ a ∧ a + w ≤ 64) (hw : 0 ≤ w) (R : Nat) : ∀ m : Nat, m ≤ 64 → cntZ (zRec a b h w 0) (64 * R + m) = cntZ (zRec a b h w 0) (64 * R) + (if b ≤ (R : Int) ∧ (R : Int) < b + h then (if (m : Int) ≤ a then 0 else if (m : Int) ≤ a + w then m - a else w) else 0)
  | 0, _ => by
    by_cases q : b ≤ (R : Int) ∧ (R : Int) < b + h
    · rw [if_pos q, if_pos (by omega)]; simp
    · rw [if_neg q]; simp
  | m + 1, hm => by
    show cntZ (zRec a b h w 0) (64 * R + m) + (if zRec a b h w 0 (64 * R + m) = 0 then 0 else 1) = _
    rw [zRec_row ha hw R m (by omega)]
    have e1 : ((64 * R + m : Nat) : Int) % 64 = m := by omega
    have e2 : ((64 * R + m : Nat) : Int) / 64 = R := by omega
    by_cases q : b ≤ (R : Int) ∧ (R : Int) < b + h
    · rw [if_pos q, if_pos q]
      by_cases q2 : a ≤ (m : Int) ∧ (m : Int) < a + w
      · have e3 : zRec a b h w 0 (64 * R + m) = 1 := by unfold zRec; rw [e1, e2, if_pos (by omega)]
        rw [e3, show (if (1 : Int) = 0 then (0 : Int) else 1) = 1 from rfl]
        by_cases q3 : (m : Int) = a
        · rw [if_pos (by omega), if_neg (by omega), if_pos (by omega)]; omega
        · rw [if_neg (by omega), if_pos (by omega), if_neg (by omega), if_pos (by omega)]; omega
      · have e3 : zRec a b h w 0 (64 * R + m) = 0 := by unfold zRec; rw [e1, e2, if_neg (by omega)]
        rw [e3, if_pos rfl]
        by_cases q3 : (m : Int) < a
        · rw [if_pos (by omega), if_pos (by omega)]; omega
        · by_cases q4 : w = 0
          · by_cases q5 : (m : Int) = a
            · rw [if_pos (by omega), if_neg (by omega), if_neg (by omega)]; omega
            · rw [if_neg (by omega), if_neg (by omega), if_neg (by omega), if_neg (by omega)]; omega
          · by_cases q5 : (m : Int) = a + w
            · rw [if_neg (by omega), if_pos (by omega), if_neg (by omega), if_neg (by omega)]; omega
            · rw [if_neg (by omega), if_neg (by omega), if_neg (by omega), if_neg (by omega)]; omega
    · have e3 : zRec a b h w 0 (64 * R + m) = 0 := by unfold zRec; rw [e1, e2, if_neg (by omega)]
      rw [if_neg q, if_neg q, e3, if_pos rfl]
      omega
theorem zRec_cnt {a b h w : Int} (ha : 0 ≤ a ∧ a + w ≤ 64) (hw : 1 ≤ w) (hb : 0 ≤ b) (hh : 1 ≤ h) : ∀ n : Nat, cntZ (zRec a b h w 0) (64 * n) = (if (n : Int) ≤ b then 0 else if (n : Int) ≤ b + h then (n - b) * w else h * w)
  | 0 => by
    rw [if_pos (by omega)]
    rfl
  | n + 1 => by
    rw [show 64 * (n + 1) = 64 * n + 64 by omega, zRec_row ha (by omega) n 64 (Nat.le_refl _), zRec_cnt ha hw hb hh n]
    have e0 : (if ((64 : Nat) : Int) ≤ a then 0 else if ((64 : Nat) : Int) ≤ a + w then ((64 : Nat) : Int) - a else w) = w := by
      rw [if_neg (by omega)]
      by_cases q : ((64 : Nat) : Int) ≤ a + w
      · rw [if_pos q]; omega
      · rw [if_neg q]
    rw [e0]
    by_cases q : b ≤ (n : Int) ∧ (n : Int) < b + h
    · rw [if_pos q]
      by_cases q2 : (n : Int) = b
      · rw [if_pos (by omega), if_neg (by omega), if_pos (by omega), show ((n + 1 : Nat) : Int) - b = 1 by omega]
        omega
      · rw [if_neg (by omega), if_pos (by omega), if_neg (by omega), if_pos (by omega), show ((n + 1 : Nat) : Int) - b = (n - b) + 1 by omega, Int.add_mul, Int.one_mul]
    · rw [if_neg q, Int.add_zero]
      by_cases q2 : (n : Int) < b
      · rw [if_pos (by omega), if_pos (by omega)]
      · by_cases q3 : (n : Int) = b + h
        · rw [if_neg (by omega), if_pos (by omega), if_neg (by omega), if_neg (by omega), show (n : Int) - b = h by omega]
        · rw [if_neg (by omega), if_neg (by omega), if_neg (by omega), if_neg (by omega)]
theorem zRec_all {a b h w : Int} (ha : 0 ≤ a ∧ a + w ≤ 64) (hw : 1 ≤ w) (hb : 0 ≤ b ∧ b + h ≤ 64) (hh : 1 ≤ h) : cntZ (zRec a b h w 0) 4096 = h * w := by
  rw [show 4096 = 64 * 64 from rfl, zRec_cnt ha hw hb.1 hh 64, if_neg (by omega)]
  by_cases q : ((64 : Nat) : Int) ≤ b + h
  · rw [if_pos q, show ((64 : Nat) : Int) - b = h by omega]
  · rw [if_neg q]
