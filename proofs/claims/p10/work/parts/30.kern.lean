/-! ScrimshawKernel on a new object -/
theorem zl_i2l {x : Int} (h : -2147483648 ≤ x ∧ x < 2147483648 := by omega) : (Int32.ofInt x).toInt64 = Int64.ofInt x := by
  apply Int64.toInt_inj.mp
  rw [Int32.toInt_toInt64, zI h, Int64.toInt_ofInt_of_le (by omega) (by omega)]
theorem zl_l2i {x : Int} (h : -2147483648 ≤ x ∧ x < 2147483648 := by omega) : (Int64.ofInt x).toInt32.toInt = x := by
  rw [Int64.toInt32_ofInt, zI h]
theorem zl_add (a b : Int) : Int64.ofInt a + Int64.ofInt b = Int64.ofInt (a + b) := (Int64.ofInt_add _ _).symm
theorem zl_sub (a b : Int) : Int64.ofInt a - Int64.ofInt b = Int64.ofInt (a - b) := (Int64.ofInt_sub _ _).symm
theorem zl_lt {a b : Int} (ha : -9223372036854775808 ≤ a ∧ a < 9223372036854775808) (hb : -9223372036854775808 ≤ b ∧ b < 9223372036854775808) : Int64.ofInt a < Int64.ofInt b ↔ a < b := by
  rw [Int64.lt_iff_toInt_lt, Int64.toInt_ofInt_of_le (by omega) (by omega), Int64.toInt_ofInt_of_le (by omega) (by omega)]
theorem zcl_lt {a b : Int} (ha : -9223372036854775808 ≤ a ∧ a < 9223372036854775808 := by omega) (hb : -9223372036854775808 ≤ b ∧ b < 9223372036854775808 := by omega) : zcmp (Int64.ofInt a) (Int64.ofInt b) < 0 ↔ a < b := (zcmp_lt _ _).trans (zl_lt ha hb)
theorem zcl_gt {a b : Int} (ha : -9223372036854775808 ≤ a ∧ a < 9223372036854775808 := by omega) (hb : -9223372036854775808 ≤ b ∧ b < 9223372036854775808 := by omega) : 0 < zcmp (Int64.ofInt a) (Int64.ofInt b) ↔ b < a := (zcmp_gt _ _).trans (zl_lt hb ha)
theorem cntF_z : cntF zF 64 = 0 := by decide +kernel
abbrev zir (x : Int) : Prop := -2147483648 ≤ x ∧ x < 2147483648
def isKe (D : va_G) (μ : zM) (K : Nat) : Prop := μ K = some (.inr (6, [.ref (K + 1), .ref (K + 2), .ref (K + 4), .ref (K + 8), .ref (K + 35), .ref (K + 40), .ref (K + 47)])) ∧ μ (K + 1) = some (zAF D 8 (fun k => some (K + 50 + 2 * k))) ∧ (∀ k, k < 8 → isF D μ (K + 50 + 2 * k) zF) ∧ isF D μ (K + 2) zF ∧ isPen D μ (K + 4) 1 0 0 0 0 (zw zIz 0 0) (zw zIz 0 0) zIz ∧ isHi D μ (K + 8) 0 0 zIz ∧ isF D μ (K + 8 + 5) zF ∧ isFl D μ (K + 35) zF zF 0 0 ∧ isOu D μ (K + 40) 0 0 ∧ isSt D μ (K + 47) 0
section KE
variable {D : va_G} {μ : zM} {K : Nat}
theorem isKe.obj (h : isKe D μ K) : μ K = some (.inr (6, [.ref (K + 1), .ref (K + 2), .ref (K + 4), .ref (K + 8), .ref (K + 35), .ref (K + 40), .ref (K + 47)])) := h.1
theorem isKe.regs (h : isKe D μ K) : μ (K + 1) = some (zAF D 8 (fun k => some (K + 50 + 2 * k))) := h.2.1
theorem isKe.reg (h : isKe D μ K) {k : Nat} (hk : k < 8) : isF D μ (K + 50 + 2 * k) zF := h.2.2.1 k hk
theorem isKe.spare (h : isKe D μ K) : isF D μ (K + 2) zF := h.2.2.2.1
theorem isKe.pen (h : isKe D μ K) : isPen D μ (K + 4) 1 0 0 0 0 (zw zIz 0 0) (zw zIz 0 0) zIz := h.2.2.2.2.1
theorem isKe.his (h : isKe D μ K) : isHi D μ (K + 8) 0 0 zIz := h.2.2.2.2.2.1
theorem isKe.kept (h : isKe D μ K) : isF D μ (K + 8 + 5) zF := h.2.2.2.2.2.2.1
theorem isKe.fl (h : isKe D μ K) : isFl D μ (K + 35) zF zF 0 0 := h.2.2.2.2.2.2.2.1
theorem isKe.ou (h : isKe D μ K) : isOu D μ (K + 40) 0 0 := h.2.2.2.2.2.2.2.2.1
theorem isKe.st (h : isKe D μ K) : isSt D μ (K + 47) 0 := h.2.2.2.2.2.2.2.2.2
end KE
abbrev zKO (K : Nat) (μ u : zM) : Prop := zO (zb K 66) μ u
theorem zO.eq {P : Nat → Prop} {μ u : zM} (h : u = μ) : zO P μ u := h ▸ zO.rf
def zReg (K : Nat) (r : Int) : Nat := K + 50 + 2 * r.toNat
theorem isKe.at {D : va_G} {μ : zM} {K : Nat} (h : isKe D μ K) {r : Int} (hr : 0 ≤ r ∧ r < 8) : isF D μ (zReg K r) zF := h.reg (by omega)
theorem zReg_b {K : Nat} {r : Int} (hr : 0 ≤ r ∧ r < 8) : K + 50 ≤ zReg K r ∧ zReg K r + 1 < K + 66 := by unfold zReg; omega
/-- the place lies ahead of the regions of the object -/
theorem zkeep {K : Nat} {μ u : zM} {P : Nat → Prop} (h : zO P μ u) (hP : ∀ q, P q → K ≤ q ∧ q < K + 50) : zKO K μ u := h.mo (fun q hq => by have := hP q hq; unfold zb; omega)
