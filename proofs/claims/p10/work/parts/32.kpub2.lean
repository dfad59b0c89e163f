theorem zRect_full {y : Int} {k : Nat} {m : Int64} (hy : -32 ≤ y) (hk : 1 ≤ k) (h : y + k - 1 ≤ 31) : cntF (zRect y k m) 64 = (k : Int) * zbc m := by
  rw [zRect_cnt hy, if_neg (by omega)]
  by_cases a : ((64 : Nat) : Int) ≤ y + 32 + k
  · rw [if_pos a, show ((64 : Nat) : Int) - (y + 32) = k by omega]
  · rw [if_neg a]
theorem zKO_set {D : va_G} {μ ν : zM} {K : Nat} {r : Int} {f : Nat → Int64} (h : zKO K μ ν) (hr : 0 ≤ r ∧ r < 8) : zKO K μ (setF D ν (zReg K r) f) := zO.zu h (by have := zReg_b (K := K) hr; unfold zb; omega)
