/-! ScrimshawKernel on a new object -/
theorem zl_i2l {x : Int} (h : -2147483648 ≤ x ∧ x < 2147483648 := by omega) : (Int32.ofInt x).toInt64 = Int64.ofInt x := by
  apply Int64.toInt_inj.mp
  rw [Int32.toInt_toInt64, zI h, Int64.toInt_ofInt_of_le (by omega) (by omega)]
theorem zl_l2i {x : Int} (h : -2147483648 ≤ x ∧ x < 2147483648 := by omega) : (Int64.ofInt x).toInt32.toInt = x := by
  rw [Int64.toInt32_ofInt, zI h]
theorem zl_add (a b : Int) : Int64.ofInt a + Int64.ofInt b = Int64.ofInt (a + b) := (Int64.ofInt_add _ _).symm
theorem zl_sub (a b : Int) : Int64.ofInt a - Int64.ofInt b = Int64.ofInt (a - b) := (Int64.ofInt_sub _ _).symm
theorem zl_lt {a b : Int} (ha : -9223372036854775808 ≤ a ∧ a < 9223372036854775808) (hb : -9223372036854775808 ≤ b ∧ b < 9223372036854775808) : Int64.ofInt a < Int64.ofInt b ↔ a < b := by
  rw [Int64.lt_iff_toInt_lt, Int64.toInt_ofInt_of_le (by omega) (by omega), Int64.toInt_ofInt_of_le (by omega) (by omega)]
theorem zcl_lt {a b : Int} (ha : -9223372036854775808 ≤ a ∧ a < 9223372036854775808 := by omega) (hb : -9223372036854775808 ≤ b ∧ b < 9223372036854775808 := by omega) : zcmp (Int64.ofInt a) (Int64.ofInt b) < 0 ↔ a < b := (zcmp_lt _ _).trans (zl_lt ha hb)
theorem zcl_gt {a b : Int} (ha : -9223372036854775808 ≤ a ∧ a < 9223372036854775808 := by omega) (hb : -9223372036854775808 ≤ b ∧ b < 9223372036854775808 := by omega) : 0 < zcmp (Int64.ofInt a) (Int64.ofInt b) ↔ b < a := (zcmp_gt _ _).trans (zl_lt hb ha)
theorem cntF_z : cntF zF 64 = 0 := by decide +kernel
abbrev zir (x : Int) : Prop := -2147483648 ≤ x ∧ x < 2147483648
def isKe (D : va_G) (μ : zM) (K : Nat) : Prop := μ K = some (.inr (6, [.ref (K + 1), .ref (K + 2), .ref (K + 4), .ref (K + 8), .ref (K + 35), .ref (K + 40), .ref (K + 47)])) ∧ μ (K + 1) = some (zAF D 8 (fun k => some (K + 50 + 2 * k))) ∧ (∀ k, k < 8 → isF D μ (K + 50 + 2 * k) zF) ∧ isF D μ (K + 2) zF ∧ isPen D μ (K + 4) 1 0 0 0 0 (zw zIz 0 0) (zw zIz 0 0) zIz ∧ isHi D μ (K + 8) 0 0 zIz ∧ isF D μ (K + 8 + 5) zF ∧ isFl D μ (K + 35) zF zF 0 0 ∧ isOu D μ (K + 40) 0 0 ∧ isSt D μ (K + 47) 0
section KE
variable {D : va_G} {μ : zM} {K : Nat}
theorem isKe.obj (h : isKe D μ K) : μ K = some (.inr (6, [.ref (K + 1), .ref (K + 2), .ref (K + 4), .ref (K + 8), .ref (K + 35), .ref (K + 40), .ref (K + 47)])) := h.1
theorem isKe.regs (h : isKe D μ K) : μ (K + 1) = some (zAF D 8 (fun k => some (K + 50 + 2 * k))) := h.2.1
theorem isKe.reg (h : isKe D μ K) {k : Nat} (hk : k < 8) : isF D μ (K + 50 + 2 * k) zF := h.2.2.1 k hk
theorem isKe.spare (h : isKe D μ K) : isF D μ (K + 2) zF := h.2.2.2.1
theorem isKe.pen (h : isKe D μ K) : isPen D μ (K + 4) 1 0 0 0 0 (zw zIz 0 0) (zw zIz 0 0) zIz := h.2.2.2.2.1
theorem isKe.his (h : isKe D μ K) : isHi D μ (K + 8) 0 0 zIz := h.2.2.2.2.2.1
theorem isKe.kept (h : isKe D μ K) : isF D μ (K + 8 + 5) zF := h.2.2.2.2.2.2.1
theorem isKe.fl (h : isKe D μ K) : isFl D μ (K + 35) zF zF 0 0 := h.2.2.2.2.2.2.2.1
theorem isKe.ou (h : isKe D μ K) : isOu D μ (K + 40) 0 0 := h.2.2.2.2.2.2.2.2.1
theorem isKe.st (h : isKe D μ K) : isSt D μ (K + 47) 0 := h.2.2.2.2.2.2.2.2.2
end KE
abbrev zKO (K : Nat) (μ u : zM) : Prop := zO (zb K 66) μ u
theorem zO.eq {P : Nat → Prop} {μ u : zM} (h : u = μ) : zO P μ u := h ▸ zO.rf
def zReg (K : Nat) (r : Int) : Nat := K + 50 + 2 * r.toNat
theorem isKe.at {D : va_G} {μ : zM} {K : Nat} (h : isKe D μ K) {r : Int} (hr : 0 ≤ r ∧ r < 8) : isF D μ (zReg K r) zF := h.reg (by omega)
theorem zReg_b {K : Nat} {r : Int} (hr : 0 ≤ r ∧ r < 8) : K + 50 ≤ zReg K r ∧ zReg K r + 1 < K + 66 := by unfold zReg; omega
/-- the place lies ahead of the regions of the object -/
theorem zkeep {K : Nat} {μ u : zM} {P : Nat → Prop} (h : zO P μ u) (hP : ∀ q, P q → K ≤ q ∧ q < K + 50) : zKO K μ u := h.mo (fun q hq => by have := hP q hq; unfold zb; omega)
set_option maxRecDepth 100000 in
set_option maxHeartbeats 4000000 in
theorem k_regionAt {l : Launch} {D : va_G} {N0 : Nat} (hl0 : l.stackTraces = false) {K : Nat} {μ : zM} (hK : isKe D μ K) {r : Int} (hr : zir r) : zxMet l yX6_regionAt cX6_regionAt 2 (some (.object "ScrimshawKernel$Fields")) ({ frames := 6, cells := 1, slots := 6, locals := 240 } : Room) D N0 [.ref K, zi r] μ (zQR D N0 (fun z u => z = zReg K r ∧ (0 ≤ r ∧ r < 8) ∧ u = μ)) (fun En u => En = eIOB ∧ ¬ (0 ≤ r ∧ r < 8) ∧ u = μ) := by
  refine zxMet_of rfl (Nat.le_of_ble_eq_true rfl) (fun X C Rm Tb E => ?_)
  unfold zir at hr
  refine z_iload_n C dX6_regionAt_0 rfl ?_
  refine z_if_lt (tgt := 13) C dX6_regionAt_1 (by decide) (fun h1 => ?_) (fun h1 => ?_)
  · exact zx_throwW C Rm Tb E hl0 thr_B st_290 dX6_regionAt_13 dX6_regionAt_16 dX6_regionAt_17 dX6_regionAt_20 dX6_regionAt_23 rfl (by decide) (by decide) (⟨rfl, by omega, rfl⟩)
  · refine z_iload_n C dX6_regionAt_4 rfl ?_
    refine z_aload_n C dX6_regionAt_5 rfl ?_
    refine z_get C hK.obj rfl 0 (by decide) m_223 inz6 rfl rfl dX6_regionAt_6 ?_
    refine z_alen C hK.regs 4 rfl dX6_regionAt_9 ?_
    refine z_icmp_lt (tgt := 24) C dX6_regionAt_10 (by decide) (fun h2 => ?_) (fun h2 => ?_)
    · refine z_aload_n C dX6_regionAt_24 rfl ?_
      refine z_get C hK.obj rfl 0 (by decide) m_223 inz6 rfl rfl dX6_regionAt_25 ?_
      refine z_iload_n C dX6_regionAt_28 rfl ?_
      refine z_fald C hK.regs (by decide) rfl dX6_regionAt_29 ?_
      refine zx_ret C E (fun X C E => ?_)
      exact z_aret C E (Or.inl ⟨_, rfl⟩) dX6_regionAt_30 (Nat.le_of_ble_eq_true rfl) (Nat.le_of_ble_eq_true rfl) ⟨rfl, by omega, rfl⟩
    · exact zx_throwW C Rm Tb E hl0 thr_B st_290 dX6_regionAt_13 dX6_regionAt_16 dX6_regionAt_17 dX6_regionAt_20 dX6_regionAt_23 rfl (by decide) (by decide) (⟨rfl, by omega, rfl⟩)
set_option maxRecDepth 100000 in
set_option maxHeartbeats 4000000 in
theorem k_isFrom {l : Launch} {D : va_G} {N0 : Nat} {μ : zM} {a x b : Int} (ha : zir a) (hx : zir x) (hb : zir b) : zMet l yX6_isFrom cX6_isFrom 3 (some .boolean) ({ frames := 0, cells := 0, slots := 0, locals := 0 } : Room) D N0 [zi a, zi x, zi b] μ (zQI D N0 (fun z u => (z = 1 ∧ (a ≤ x ∧ x ≤ b) ∨ z = 0 ∧ ¬ (a ≤ x ∧ x ≤ b)) ∧ u = μ)) := by
  refine zMet_of rfl (Nat.le_of_ble_eq_true rfl) (fun X C Rm hin E => ?_)
  unfold zir at ha hx hb
  refine z_iload_n C dX6_isFrom_0 rfl ?_
  refine z_iload_n C dX6_isFrom_1 rfl ?_
  refine z_icmp_lt (tgt := 14) C dX6_isFrom_2 (by decide) (fun h1 => ?_) (fun h1 => ?_)
  · refine z_iconst C dX6_isFrom_14 ?_
    exact z_zret C E (Or.inl rfl) dX6_isFrom_15 (Nat.le_of_ble_eq_true rfl) (Nat.le_of_ble_eq_true rfl) ⟨Or.inr ⟨rfl, by omega⟩, rfl⟩
  · refine z_iload_n C dX6_isFrom_5 rfl ?_
    refine z_iload_n C dX6_isFrom_6 rfl ?_
    refine z_icmp_gt (tgt := 14) C dX6_isFrom_7 (by decide) (fun h2 => ?_) (fun h2 => ?_)
    · refine z_iconst C dX6_isFrom_14 ?_
      exact z_zret C E (Or.inl rfl) dX6_isFrom_15 (Nat.le_of_ble_eq_true rfl) (Nat.le_of_ble_eq_true rfl) ⟨Or.inr ⟨rfl, by omega⟩, rfl⟩
    · refine z_iconst C dX6_isFrom_10 ?_
      refine z_goto (tgt := 15) C dX6_isFrom_11 (by decide) ?_
      exact z_zret C E (Or.inr rfl) dX6_isFrom_15 (Nat.le_of_ble_eq_true rfl) (Nat.le_of_ble_eq_true rfl) ⟨Or.inl ⟨rfl, by omega⟩, rfl⟩
set_option maxRecDepth 100000 in
set_option maxHeartbeats 4000000 in
theorem k_reach {l : Launch} {D : va_G} {N0 : Nat} {μ : zM} {x : Int} (hx : -9000000000 ≤ x ∧ x ≤ 9000000000) : zMet l yX6_isInReach cX6_isInReach 2 (some .boolean) ({ frames := 0, cells := 0, slots := 0, locals := 0 } : Room) D N0 [.long (Int64.ofInt x)] μ (zQI D N0 (fun z u => (z = 1 ∧ (-24 ≤ x ∧ x ≤ 24) ∨ z = 0 ∧ ¬ (-24 ≤ x ∧ x ≤ 24)) ∧ u = μ)) := by
  refine zMet_of rfl (Nat.le_of_ble_eq_true rfl) (fun X C Rm hin E => ?_)
  have c1 := zcmp_rng (Int64.ofInt x) (-24)
  have c2 := zcmp_rng (Int64.ofInt x) 24
  have e1 : zcmp (Int64.ofInt x) (-24) < 0 ↔ x < -24 := by rw [show (-24 : Int64) = Int64.ofInt (-24) by decide]; exact zcl_lt
  have e2 : 0 < zcmp (Int64.ofInt x) 24 ↔ 24 < x := by rw [show (24 : Int64) = Int64.ofInt (24) by decide]; exact zcl_gt
  refine z_lload_n C dX6_isInReach_0 rfl ?_
  refine z_ldc2 C m_511 dX6_isInReach_1 ?_
  refine z_lcmp C dX6_isInReach_4 ?_
  refine z_if_lt (tgt := 20) C dX6_isInReach_5 (by decide) (fun h1 => ?_) (fun h1 => ?_)
  · refine z_iconst C dX6_isInReach_20 ?_
    exact z_zret C E (Or.inl rfl) dX6_isInReach_21 (Nat.le_of_ble_eq_true rfl) (Nat.le_of_ble_eq_true rfl) ⟨Or.inr ⟨rfl, by omega⟩, rfl⟩
  · refine z_lload_n C dX6_isInReach_8 rfl ?_
    refine z_ldc2 C m_512 dX6_isInReach_9 ?_
    refine z_lcmp C dX6_isInReach_12 ?_
    refine z_if_gt (tgt := 20) C dX6_isInReach_13 (by decide) (fun h2 => ?_) (fun h2 => ?_)
    · refine z_iconst C dX6_isInReach_20 ?_
      exact z_zret C E (Or.inl rfl) dX6_isInReach_21 (Nat.le_of_ble_eq_true rfl) (Nat.le_of_ble_eq_true rfl) ⟨Or.inr ⟨rfl, by omega⟩, rfl⟩
    · refine z_iconst C dX6_isInReach_16 ?_
      refine z_goto (tgt := 21) C dX6_isInReach_17 (by decide) ?_
      exact z_zret C E (Or.inr rfl) dX6_isInReach_21 (Nat.le_of_ble_eq_true rfl) (Nat.le_of_ble_eq_true rfl) ⟨Or.inl ⟨rfl, by omega⟩, rfl⟩
set_option maxRecDepth 100000 in
set_option maxHeartbeats 4000000 in
theorem k_checkLine {l : Launch} {D : va_G} {N0 : Nat} (hl0 : l.stackTraces = false) {K : Nat} {μ : zM} (hK : isKe D μ K) {b x : Int} (hb : zir b) (hx : -9000000000 ≤ x ∧ x ≤ 9000000000) : zxMet l yX6_checkLine cX6_checkLine 4 none ({ frames := 6, cells := 1, slots := 6, locals := 240 } : Room) D N0 [.ref K, zi b, .long (Int64.ofInt x)] μ (zQV D N0 (fun u => (-24 ≤ x ∧ x ≤ 24) ∧ u = μ)) (fun En u => En = eIAE ∧ ¬ (-24 ≤ x ∧ x ≤ 24) ∧ u = μ) := by
  refine zxMet_of rfl (Nat.le_of_ble_eq_true rfl) (fun X C Rm Tb E => ?_)
  unfold zir at hb
  refine z_lload_n C dX6_checkLine_0 rfl ?_
  refine z_ci C (z_rS C Rm qs_X6_isInReach m_508 (k_reach hx) dX6_checkLine_1 rfl rfl (Nat.le_of_ble_eq_true rfl) rfl ⟨Nat.le_of_ble_eq_true rfl, Nat.le_of_ble_eq_true rfl, Nat.le_of_ble_eq_true rfl, Nat.le_of_ble_eq_true rfl⟩) (fun z μ1 hp => ?_)
  obtain ⟨hp, rfl⟩ := hp
  refine z_if_ne (tgt := 18) C dX6_checkLine_4 (by decide) (fun h1 => ?_) (fun h1 => ?_)
  · refine z_iload_n C dX6_checkLine_18 rfl ?_
    refine z_if_eq (tgt := 43) C dX6_checkLine_19 (by decide) (fun h2 => ?_) (fun h2 => ?_)
    · refine zx_ret C E (fun X C E => ?_)
      exact z_vret C E dX6_checkLine_43 (Nat.le_of_ble_eq_true rfl) (Nat.le_of_ble_eq_true rfl) ⟨by omega, rfl⟩
    · refine z_aload_n C dX6_checkLine_22 rfl ?_
      refine z_get C hK.obj rfl 2 (by decide) m_225 inz6 rfl rfl dX6_checkLine_23 ?_
      refine z_ci C (z_rV C Rm qv_X4_isFull m_606 (c_pfull hK.pen (by omega)) hK.pen.1 rfl dX6_checkLine_26 rfl rfl (Nat.le_of_ble_eq_true rfl) rfl ⟨Nat.le_of_ble_eq_true rfl, Nat.le_of_ble_eq_true rfl, Nat.le_of_ble_eq_true rfl, Nat.le_of_ble_eq_true rfl⟩) (fun z μ2 hq => ?_)
      obtain ⟨rfl, rfl⟩ := hq
      refine z_if_eq (tgt := 43) C dX6_checkLine_29 (by decide) (fun _ => ?_) (fun hno => absurd hno (by omega))
      refine zx_ret C E (fun X C E => ?_)
      exact z_vret C E dX6_checkLine_43 (Nat.le_of_ble_eq_true rfl) (Nat.le_of_ble_eq_true rfl) ⟨by omega, rfl⟩
  · exact zx_throwW C Rm Tb E hl0 thr_A st_292 dX6_checkLine_7 dX6_checkLine_10 dX6_checkLine_11 dX6_checkLine_14 dX6_checkLine_17 rfl (by decide) (by decide) (⟨rfl, by omega, rfl⟩)
set_option maxRecDepth 100000 in
set_option maxHeartbeats 4000000 in
theorem k_checkRoom {l : Launch} {D : va_G} {N0 : Nat} (hl0 : l.stackTraces = false) {μ : zM} {a b : Int} (ha : -9000000000 ≤ a ∧ a ≤ 9000000000) (hb : -9000000000 ≤ b ∧ b ≤ 9000000000) : zxMet l yX6_checkRoom cX6_checkRoom 4 none ({ frames := 6, cells := 1, slots := 6, locals := 240 } : Room) D N0 [.long (Int64.ofInt a), .long (Int64.ofInt b)] μ (zQV D N0 (fun u => (-32 ≤ a ∧ b ≤ 31) ∧ u = μ)) (fun En u => En = eISE ∧ ¬ (-32 ≤ a ∧ b ≤ 31) ∧ u = μ) := by
  refine zxMet_of rfl (Nat.le_of_ble_eq_true rfl) (fun X C Rm Tb E => ?_)
  have c1 := zcmp_rng (Int64.ofInt a) (-32)
  have c2 := zcmp_rng (Int64.ofInt b) 31
  have e1 : zcmp (Int64.ofInt a) (-32) < 0 ↔ a < -32 := by rw [show (-32 : Int64) = Int64.ofInt (-32) by decide]; exact zcl_lt
  have e2 : 0 < zcmp (Int64.ofInt b) 31 ↔ 31 < b := by rw [show (31 : Int64) = Int64.ofInt (31) by decide]; exact zcl_gt
  refine z_lload_n C dX6_checkRoom_0 rfl ?_
  refine z_ldc2 C m_711 dX6_checkRoom_1 ?_
  refine z_lcmp C dX6_checkRoom_4 ?_
  refine z_if_lt (tgt := 16) C dX6_checkRoom_5 (by decide) (fun h1 => ?_) (fun h1 => ?_)
  · exact zx_throwW C Rm Tb E hl0 thr_S st_306 dX6_checkRoom_16 dX6_checkRoom_19 dX6_checkRoom_20 dX6_checkRoom_23 dX6_checkRoom_26 rfl (by decide) (by decide) (⟨rfl, by omega, rfl⟩)
  · refine z_lload_n C dX6_checkRoom_8 rfl ?_
    refine z_ldc2 C m_289 dX6_checkRoom_9 ?_
    refine z_lcmp C dX6_checkRoom_12 ?_
    refine z_if_le (tgt := 27) C dX6_checkRoom_13 (by decide) (fun h2 => ?_) (fun h2 => ?_)
    · refine zx_ret C E (fun X C E => ?_)
      exact z_vret C E dX6_checkRoom_27 (Nat.le_of_ble_eq_true rfl) (Nat.le_of_ble_eq_true rfl) ⟨by omega, rfl⟩
    · exact zx_throwW C Rm Tb E hl0 thr_S st_306 dX6_checkRoom_16 dX6_checkRoom_19 dX6_checkRoom_20 dX6_checkRoom_23 dX6_checkRoom_26 rfl (by decide) (by decide) (⟨rfl, by omega, rfl⟩)
set_option maxRecDepth 100000 in
set_option maxHeartbeats 4000000 in
theorem k_checkGrowth {l : Launch} {D : va_G} {N0 : Nat} (hl0 : l.stackTraces = false) {μ : zM} {b k : Int} (hb : zir b) (hk : zir k) : zxMet l yX6_checkGrowth cX6_checkGrowth 2 none ({ frames := 6, cells := 1, slots := 6, locals := 240 } : Room) D N0 [zi b, zi k] μ (zQV D N0 (fun u => ((0 ≤ b ∧ b ≤ 8) ∧ 0 ≤ k ∧ k ≤ 1) ∧ u = μ)) (fun En u => En = eIAE ∧ ¬ ((0 ≤ b ∧ b ≤ 8) ∧ 0 ≤ k ∧ k ≤ 1) ∧ u = μ) := by
  refine zxMet_of rfl (Nat.le_of_ble_eq_true rfl) (fun X C Rm Tb E => ?_)
  refine z_iconst C dX6_checkGrowth_0 ?_
  refine z_iload_n C dX6_checkGrowth_1 rfl ?_
  refine z_bipush C dX6_checkGrowth_2 ?_
  refine z_ci C (z_rS C Rm qs_X6_isFrom m_666 (k_isFrom (by decide) hb (by decide)) dX6_checkGrowth_4 rfl rfl (Nat.le_of_ble_eq_true rfl) rfl ⟨Nat.le_of_ble_eq_true rfl, Nat.le_of_ble_eq_true rfl, Nat.le_of_ble_eq_true rfl, Nat.le_of_ble_eq_true rfl⟩) (fun z μ1 hp => ?_)
  obtain ⟨hp, rfl⟩ := hp
  refine z_if_eq (tgt := 19) C dX6_checkGrowth_7 (by decide) (fun h1 => ?_) (fun h1 => ?_)
  · exact zx_throwW C Rm Tb E hl0 thr_A st_308 dX6_checkGrowth_19 dX6_checkGrowth_22 dX6_checkGrowth_23 dX6_checkGrowth_26 dX6_checkGrowth_29 rfl (by decide) (by decide) (⟨rfl, by omega, rfl⟩)
  · refine z_iconst C dX6_checkGrowth_10 ?_
    refine z_iload_n C dX6_checkGrowth_11 rfl ?_
    refine z_iconst C dX6_checkGrowth_12 ?_
    refine z_ci C (z_rS C Rm qs_X6_isFrom m_666 (k_isFrom (by decide) hk (by decide)) dX6_checkGrowth_13 rfl rfl (Nat.le_of_ble_eq_true rfl) rfl ⟨Nat.le_of_ble_eq_true rfl, Nat.le_of_ble_eq_true rfl, Nat.le_of_ble_eq_true rfl, Nat.le_of_ble_eq_true rfl⟩) (fun z2 μ1 hq => ?_)
    obtain ⟨hq, rfl⟩ := hq
    refine z_if_ne (tgt := 30) C dX6_checkGrowth_16 (by decide) (fun h2 => ?_) (fun h2 => ?_)
    · refine zx_ret C E (fun X C E => ?_)
      exact z_vret C E dX6_checkGrowth_30 (Nat.le_of_ble_eq_true rfl) (Nat.le_of_ble_eq_true rfl) ⟨by omega, rfl⟩
    · exact zx_throwW C Rm Tb E hl0 thr_A st_308 dX6_checkGrowth_19 dX6_checkGrowth_22 dX6_checkGrowth_23 dX6_checkGrowth_26 dX6_checkGrowth_29 rfl (by decide) (by decide) (⟨rfl, by omega, rfl⟩)
set_option maxRecDepth 100000 in
set_option maxHeartbeats 4000000 in
theorem k_checkHatching {l : Launch} {D : va_G} {N0 : Nat} (hl0 : l.stackTraces = false) {μ : zM} {k e f : Int} (hk : zir k) (he : zir e) (hf : zir f) : zxMet l yX6_checkHatching cX6_checkHatching 3 none ({ frames := 6, cells := 1, slots := 6, locals := 240 } : Room) D N0 [zi k, zi e, zi f] μ (zQV D N0 (fun u => ((0 ≤ k ∧ k ≤ 3) ∧ (1 ≤ e ∧ e ≤ 20) ∧ -100 ≤ f ∧ f ≤ 100) ∧ u = μ)) (fun En u => En = eIAE ∧ ¬ ((0 ≤ k ∧ k ≤ 3) ∧ (1 ≤ e ∧ e ≤ 20) ∧ -100 ≤ f ∧ f ≤ 100) ∧ u = μ) := by
  refine zxMet_of rfl (Nat.le_of_ble_eq_true rfl) (fun X C Rm Tb E => ?_)
  refine z_iconst C dX6_checkHatching_0 ?_
  refine z_iload_n C dX6_checkHatching_1 rfl ?_
  refine z_iconst C dX6_checkHatching_2 ?_
  refine z_ci C (z_rS C Rm qs_X6_isFrom m_666 (k_isFrom (by decide) hk (by decide)) dX6_checkHatching_3 rfl rfl (Nat.le_of_ble_eq_true rfl) rfl ⟨Nat.le_of_ble_eq_true rfl, Nat.le_of_ble_eq_true rfl, Nat.le_of_ble_eq_true rfl, Nat.le_of_ble_eq_true rfl⟩) (fun z μ1 hp => ?_)
  obtain ⟨hp, rfl⟩ := hp
  refine z_if_eq (tgt := 30) C dX6_checkHatching_6 (by decide) (fun h1 => ?_) (fun h1 => ?_)
  · exact zx_throwW C Rm Tb E hl0 thr_A st_310 dX6_checkHatching_30 dX6_checkHatching_33 dX6_checkHatching_34 dX6_checkHatching_37 dX6_checkHatching_40 rfl (by decide) (by decide) (⟨rfl, by omega, rfl⟩)
  · refine z_iconst C dX6_checkHatching_9 ?_
    refine z_iload_n C dX6_checkHatching_10 rfl ?_
    refine z_bipush C dX6_checkHatching_11 ?_
    refine z_ci C (z_rS C Rm qs_X6_isFrom m_666 (k_isFrom (by decide) he (by decide)) dX6_checkHatching_13 rfl rfl (Nat.le_of_ble_eq_true rfl) rfl ⟨Nat.le_of_ble_eq_true rfl, Nat.le_of_ble_eq_true rfl, Nat.le_of_ble_eq_true rfl, Nat.le_of_ble_eq_true rfl⟩) (fun z2 μ1 hq => ?_)
    obtain ⟨hq, rfl⟩ := hq
    refine z_if_eq (tgt := 30) C dX6_checkHatching_16 (by decide) (fun h2 => ?_) (fun h2 => ?_)
    · exact zx_throwW C Rm Tb E hl0 thr_A st_310 dX6_checkHatching_30 dX6_checkHatching_33 dX6_checkHatching_34 dX6_checkHatching_37 dX6_checkHatching_40 rfl (by decide) (by decide) (⟨rfl, by omega, rfl⟩)
    · refine z_bipush C dX6_checkHatching_19 ?_
      refine z_iload_n C dX6_checkHatching_21 rfl ?_
      refine z_bipush C dX6_checkHatching_22 ?_
      refine z_ci C (z_rS C Rm qs_X6_isFrom m_666 (k_isFrom (by decide) hf (by decide)) dX6_checkHatching_24 rfl rfl (Nat.le_of_ble_eq_true rfl) rfl ⟨Nat.le_of_ble_eq_true rfl, Nat.le_of_ble_eq_true rfl, Nat.le_of_ble_eq_true rfl, Nat.le_of_ble_eq_true rfl⟩) (fun z3 μ1 hr => ?_)
      obtain ⟨hr, rfl⟩ := hr
      refine z_if_ne (tgt := 41) C dX6_checkHatching_27 (by decide) (fun h3 => ?_) (fun h3 => ?_)
      · refine zx_ret C E (fun X C E => ?_)
        exact z_vret C E dX6_checkHatching_41 (Nat.le_of_ble_eq_true rfl) (Nat.le_of_ble_eq_true rfl) ⟨by omega, rfl⟩
      · exact zx_throwW C Rm Tb E hl0 thr_A st_310 dX6_checkHatching_30 dX6_checkHatching_33 dX6_checkHatching_34 dX6_checkHatching_37 dX6_checkHatching_40 rfl (by decide) (by decide) (⟨rfl, by omega, rfl⟩)
set_option maxRecDepth 100000 in
set_option maxHeartbeats 4000000 in
theorem k_walkTo {l : Launch} {D : va_G} {N0 : Nat} (hl0 : l.stackTraces = false) {K : Nat} {μ : zM} (hK : isKe D μ K) {r c k : Int} (hr : zir r) (hc : zir c) (hk : zir k) : zxMet l yX6_walkTo cX6_walkTo 5 none ({ frames := 7, cells := 2, slots := 12, locals := 280 } : Room) D N0 [.ref K, zi r, zi c, zi k] μ (zQV D N0 (fun _ => False)) (fun En u => En = eIOB ∧ zKO K μ u) := by
  refine zxMet_of rfl (Nat.le_of_ble_eq_true rfl) (fun X C Rm Tb E => ?_)
  refine z_aload_n C dX6_walkTo_0 rfl ?_
  refine z_iload_n C dX6_walkTo_1 rfl ?_
  refine zx_cr C (zx_rV C Rm qv_X6_regionAt m_646 (k_regionAt hl0 hK hr) hK.obj rfl dX6_walkTo_2 rfl rfl (Nat.le_of_ble_eq_true rfl) rfl (by decide)) (fun En μx hx => zx_prop C Tb E (by decide) (⟨hx.1, zO.eq hx.2.2⟩)) (fun z μ1 hp => ?_)
  obtain ⟨rfl, h8, rfl⟩ := hp
  have b8 := zReg_b (K := K) h8
  refine z_astore (L' := [_, _, _, _, _]) C dX6_walkTo_5 rfl ?_
  refine z_aload_n C dX6_walkTo_7 rfl ?_
  refine z_get C hK.obj rfl 5 (by decide) m_228 inz6 rfl rfl dX6_walkTo_8 ?_
  refine z_aload C dX6_walkTo_11 rfl ?_
  refine z_iload_n C dX6_walkTo_13 rfl ?_
  refine z_iload_n C dX6_walkTo_14 rfl ?_
  refine z_ci C (z_rV C Rm qv_X3_goTo m_893 (c_ogoTo0 hK.ou (hK.at h8) (by omega) hc hk) hK.ou.1 rfl dX6_walkTo_15 rfl rfl (Nat.le_of_ble_eq_true rfl) rfl ⟨Nat.le_of_ble_eq_true rfl, Nat.le_of_ble_eq_true rfl, Nat.le_of_ble_eq_true rfl, Nat.le_of_ble_eq_true rfl⟩) (fun z μ2 hp => ?_)
  obtain ⟨rfl, hp, hO⟩ := hp
  refine z_if_ne (tgt := 32) C dX6_walkTo_18 (by decide) (fun hno => absurd hno (by omega)) (fun _ => ?_)
  exact zx_throwW C Rm Tb E hl0 thr_B st_315 dX6_walkTo_21 dX6_walkTo_24 dX6_walkTo_25 dX6_walkTo_28 dX6_walkTo_31 rfl (by decide) (by decide) (⟨rfl, zkeep hO (fun q hq => by omega)⟩)
