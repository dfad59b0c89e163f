theorem isKe.hist {D : va_G} {μ u : zM} {K : Nat} (h : isKe D μ K) (hO : zO (fun q => q = K + 8 ∨ q = K + 8 + 2) μ u) : u K = some (.inr (6, [.ref (K + 1), .ref (K + 2), .ref (K + 4), .ref (K + 8), .ref (K + 35), .ref (K + 40), .ref (K + 47)])) ∧ (∀ r, 0 ≤ r ∧ r < 8 → isF D u (zReg K r) zF) ∧ isF D u (K + 2) zF ∧ isPen D u (K + 4) 1 0 0 0 0 (zw zIz 0 0) (zw zIz 0 0) zIz ∧ isFl D u (K + 35) zF zF 0 0 ∧ zKO K μ u :=
  ⟨hO.at (by omega) h.obj, fun r hr => (h.at hr).o hO (by have := zReg_b (K := K) hr; omega) (by have := zReg_b (K := K) hr; omega), h.spare.o hO (by omega) (by omega), h.pen.o hO (fun q h1 h2 => by omega), h.fl.o hO (fun q h1 h2 => by omega), zkeep hO (fun q hq => by omega)⟩
-- ---- a rectangle
def zRect (y : Int) (k : Nat) (m : Int64) : Nat → Int64 := fun i => if y + 32 ≤ (i : Int) ∧ (i : Int) < y + 32 + k then m else 0
theorem zRect_0 {y : Int} {m : Int64} : zRect y 0 m = zF := by
  funext i
  unfold zRect
  rw [if_neg (by omega)]
  rfl
theorem zRect_s {y : Int} {k : Nat} {m : Int64} {i : Nat} (h : y + k + 32 = (i : Int)) : zw (zRect y k m) i m = zRect y (k + 1) m := by
  funext j
  unfold zw
  by_cases hj : j = i
  · subst hj
    rw [if_pos rfl]
    unfold zRect
    rw [if_pos (by omega)]
  · rw [if_neg hj]
    unfold zRect
    by_cases h1 : y + 32 ≤ (j : Int) ∧ (j : Int) < y + 32 + k
    · rw [if_pos h1, if_pos (by omega)]
    · rw [if_neg h1, if_neg (by omega)]
theorem zRect_r {y : Int} {k : Nat} {m : Int64} (h : -32 ≤ y ∧ y + k ≤ 31) : rowv (zRect y k m) (y + k) = 0 := by
  unfold rowv
  rw [if_pos (by omega)]
  unfold zRect
  rw [if_neg (by omega)]
theorem zRect_cnt {y : Int} {k : Nat} {m : Int64} (hy : -32 ≤ y) : ∀ n : Nat, cntF (zRect y k m) n = (if (n : Int) ≤ y + 32 then 0 else if (n : Int) ≤ y + 32 + k then (n - (y + 32)) * zbc m else (k : Int) * zbc m)
  | 0 => by
    rw [if_pos (by omega)]
    rfl
  | n + 1 => by
    show cntF (zRect y k m) n + zbc (zRect y k m n) = _
    rw [zRect_cnt hy n]
    unfold zRect
    have z0 : zbc 0 = 0 := by decide +kernel
    by_cases a1 : y + 32 ≤ (n : Int) ∧ (n : Int) < y + 32 + k
    · rw [if_pos a1]
      by_cases a2 : (n : Int) = y + 32
      · rw [if_pos (by omega), if_neg (by omega), if_pos (by omega), show ((n + 1 : Nat) : Int) - (y + 32) = 1 by omega]
        omega
      · rw [if_neg (by omega), if_pos (by omega), if_neg (by omega), if_pos (by omega), show ((n + 1 : Nat) : Int) - (y + 32) = (n - (y + 32)) + 1 by omega, Int.add_mul, Int.one_mul]
    · rw [if_neg a1, z0, Int.add_zero]
      by_cases a2 : (n : Int) < y + 32
      · rw [if_pos (by omega), if_pos (by omega)]
      · by_cases a3 : k = 0
        · subst a3
          by_cases a4 : (n : Int) = y + 32
          · rw [if_pos (by omega), if_neg (by omega), if_neg (by omega)]
            simp
          · rw [if_neg (by omega), if_neg (by omega), if_neg (by omega), if_neg (by omega)]
        · by_cases a4 : (n : Int) = y + 32 + k
          · rw [if_neg (by omega), if_pos (by omega), if_neg (by omega), if_neg (by omega), show (n : Int) - (y + 32) = k by omega]
          · rw [if_neg (by omega), if_neg (by omega), if_neg (by omega), if_neg (by omega)]
def zMask (w s : Nat) : Int64 := zshl (zushr (-1) (64 - (w : Int))) (s : Int)
set_option maxRecDepth 100000 in
theorem zMask_all : ∀ w : Fin 65, ∀ s : Fin 64, 1 ≤ w.1 → w.1 + s.1 ≤ 64 → zbc (zMask w.1 s.1) = (w.1 : Int) := by decide +kernel
theorem zMask_bc {w x : Int} (hw : 1 ≤ w ∧ w ≤ 64) (hx : -32 ≤ x) (h : x + w - 1 ≤ 31) : zbc (zshl (zushr (-1) (64 - w)) (x - -32)) = w := by
  have h1 := zMask_all ⟨w.toNat, by omega⟩ ⟨(x + 32).toNat, by omega⟩ (by show 1 ≤ w.toNat; omega) (by show w.toNat + (x + 32).toNat ≤ 64; omega)
  unfold zMask at h1
  simp only at h1
  rw [show ((w.toNat : Nat) : Int) = w by omega, show (((x + 32).toNat : Nat) : Int) = x - -32 by omega] at h1
  exact h1
