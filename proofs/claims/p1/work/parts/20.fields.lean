/-! ScrimshawKernel$Fields: 64 rows of 64 bits; an object lies right ahead of its rows -/
def isF (D : va_G) (μ : zM) (o : Nat) (f : Nat → Int64) : Prop := μ o = some (.inr (0, [.ref (o + 1)])) ∧ μ (o + 1) = some (zAL D 64 f)
def setF (D : va_G) (μ : zM) (o : Nat) (f : Nat → Int64) : zM := zu μ (o + 1) (zAL D 64 f)
theorem zAL_ne {D : va_G} {n : Nat} {f : Nat → Int64} {ci : Nat} {fs : List Value} : zAL D n f ≠ .inr (ci, fs) := fun h => by cases h
theorem isF.set {D : va_G} {μ : zM} {o : Nat} {f : Nat → Int64} (h : isF D μ o f) (g : Nat → Int64) : isF D (setF D μ o g) o g := ⟨by unfold setF; rw [zu_n (by omega)]; exact h.1, zu_s⟩
theorem isF.ne {D : va_G} {μ : zM} {o q : Nat} {f g : Nat → Int64} (h : isF D μ o f) (h2 : isF D μ q g) : q ≠ o + 1 := by
  intro e
  subst e
  have h3 := h.2.symm.trans h2.1
  cases h3
theorem isF.keep {D : va_G} {μ : zM} {o q : Nat} {f g : Nat → Int64} (h : isF D μ o f) (h2 : isF D μ q g) (hne : q ≠ o) (g2 : Nat → Int64) : isF D (setF D μ o g2) q g := by
  refine ⟨?_, ?_⟩
  · unfold setF
    rw [zu_n (h.ne h2)]
    exact h2.1
  · unfold setF
    rw [zu_n (by omega)]
    exact h2.2
theorem setF_k {D : va_G} {μ : zM} {o q : Nat} {f : Nat → Int64} (hq : q ≠ o + 1) : setF D μ o f q = μ q := zu_n hq
theorem setF_u {D : va_G} (μ : zM) (o : Nat) (f g : Nat → Int64) : setF D (setF D μ o f) o g = setF D μ o g := zu_u _ _ _ _
theorem setF_i {D : va_G} {μ : zM} {o : Nat} {f : Nat → Int64} (h : isF D μ o f) : setF D μ o f = μ := zu_i h.2
def rowv (f : Nat → Int64) (y : Int) : Int64 := if 0 ≤ y + 32 ∧ y + 32 < 64 then f (y + 32).toNat else 0
theorem rowv_i {f : Nat → Int64} {y : Int} {i : Nat} (h : y = -32 + (i : Int)) (hi : i < 64) : rowv f y = f i := by
  unfold rowv
  rw [if_pos (by omega), show (y + 32).toNat = i by omega]
theorem rowv_o {f : Nat → Int64} {y : Int} (h : y < -32 ∨ 31 < y) : rowv f y = 0 := by
  unfold rowv
  rw [if_neg (by omega)]

set_option maxRecDepth 100000 in
set_option maxHeartbeats 4000000 in
theorem c_row {l : Launch} {D : va_G} {N0 : Nat} {o : Nat} {f : Nat → Int64} {μ : zM} (hF : isF D μ o f) {y : Int} (hy : -1000 ≤ y ∧ y ≤ 1000) : zMet l yX0_row cX0_row 3 (some .long) ({ frames := 0, cells := 0, slots := 0, locals := 0 } : Room) D N0 [.ref o, zi y] μ (zQL D N0 (fun z u => z = rowv f y ∧ u = μ)) := by
  refine zMet_of rfl (Nat.le_of_ble_eq_true rfl) (fun X C Rm hin E => ?_)
  refine z_iload_n C dX0_row_0 rfl ?_
  refine z_bipush C dX0_row_1 ?_
  refine z_isub C dX0_row_3 ?_
  refine z_istore_n (L' := [_, _, _]) C dX0_row_4 rfl ?_
  refine z_iload_n C dX0_row_5 rfl ?_
  refine z_if_lt (tgt := 27) C dX0_row_6 (by decide) (fun h1 => ?_) (fun h1 => ?_)
  · refine z_lconst C dX0_row_27 ?_
    exact z_lret C E dX0_row_28 (Nat.le_of_ble_eq_true rfl) (Nat.le_of_ble_eq_true rfl) ⟨by rw [rowv_o (by omega)]; rfl, rfl⟩
  · refine z_iload_n C dX0_row_9 rfl ?_
    refine z_aload_n C dX0_row_10 rfl ?_
    refine z_get C hF.1 rfl 0 (by decide) m_69 inz0 rfl rfl dX0_row_11 ?_
    refine z_alen C hF.2 1 rfl dX0_row_14 ?_
    refine z_icmp_ge (tgt := 27) C dX0_row_15 (by decide) (fun h2 => ?_) (fun h2 => ?_)
    · refine z_lconst C dX0_row_27 ?_
      exact z_lret C E dX0_row_28 (Nat.le_of_ble_eq_true rfl) (Nat.le_of_ble_eq_true rfl) ⟨by rw [rowv_o (by omega)]; rfl, rfl⟩
    · refine z_aload_n C dX0_row_18 rfl ?_
      refine z_get C hF.1 rfl 0 (by decide) m_69 inz0 rfl rfl dX0_row_19 ?_
      refine z_iload_n C dX0_row_22 rfl ?_
      refine z_lald C hF.2 (by decide) dX0_row_23 ?_
      refine z_goto (tgt := 28) C dX0_row_24 (by decide) ?_
      exact z_lret C E dX0_row_28 (Nat.le_of_ble_eq_true rfl) (Nat.le_of_ble_eq_true rfl) ⟨by unfold rowv; rw [if_pos (by omega)]; congr 1, rfl⟩

def zbcL (x : Int64) : Int64 :=
  let a := x - (zushr x 1 &&& 6148914691236517205)
  let b := (a &&& 3689348814741910323) + (zushr a 2 &&& 3689348814741910323)
  let c := (b + zushr b 4) &&& 1085102592571150095
  let d := c + zushr c 8
  let e := d + zushr d 16
  e + zushr e 32
def zbc (x : Int64) : Int := (Int32.ofInt (zbcL x).toInt32.toInt &&& Int32.ofInt 127).toInt

set_option maxRecDepth 100000 in
set_option maxHeartbeats 4000000 in
theorem c_bitCount {l : Launch} {D : va_G} {N0 : Nat} {μ : zM} {x : Int64} : zMet l yJ13_bitCount_95d88 cJ13_bitCount_95d88 2 (some .int) ({ frames := 0, cells := 0, slots := 0, locals := 0 } : Room) D N0 [.long x] μ (zQI D N0 (fun z u => z = zbc x ∧ u = μ)) := by
  refine zMet_of rfl (Nat.le_of_ble_eq_true rfl) (fun X C Rm hin E => ?_)
  refine z_lload_n C dJ13_bitCount_95d88_0 rfl ?_
  refine z_lload_n C dJ13_bitCount_95d88_1 rfl ?_
  refine z_iconst C dJ13_bitCount_95d88_2 ?_
  refine z_lushr C dJ13_bitCount_95d88_3 ?_
  refine z_ldc2 C m_297 dJ13_bitCount_95d88_4 ?_
  refine z_land C dJ13_bitCount_95d88_7 ?_
  refine z_lsub C dJ13_bitCount_95d88_8 ?_
  refine z_lstore_n (L' := [_, _]) C dJ13_bitCount_95d88_9 rfl ?_
  refine z_lload_n C dJ13_bitCount_95d88_10 rfl ?_
  refine z_ldc2 C m_298 dJ13_bitCount_95d88_11 ?_
  refine z_land C dJ13_bitCount_95d88_14 ?_
  refine z_lload_n C dJ13_bitCount_95d88_15 rfl ?_
  refine z_iconst C dJ13_bitCount_95d88_16 ?_
  refine z_lushr C dJ13_bitCount_95d88_17 ?_
  refine z_ldc2 C m_298 dJ13_bitCount_95d88_18 ?_
  refine z_land C dJ13_bitCount_95d88_21 ?_
  refine z_ladd C dJ13_bitCount_95d88_22 ?_
  refine z_lstore_n (L' := [_, _]) C dJ13_bitCount_95d88_23 rfl ?_
  refine z_lload_n C dJ13_bitCount_95d88_24 rfl ?_
  refine z_lload_n C dJ13_bitCount_95d88_25 rfl ?_
  refine z_iconst C dJ13_bitCount_95d88_26 ?_
  refine z_lushr C dJ13_bitCount_95d88_27 ?_
  refine z_ladd C dJ13_bitCount_95d88_28 ?_
  refine z_ldc2 C m_299 dJ13_bitCount_95d88_29 ?_
  refine z_land C dJ13_bitCount_95d88_32 ?_
  refine z_lstore_n (L' := [_, _]) C dJ13_bitCount_95d88_33 rfl ?_
  refine z_lload_n C dJ13_bitCount_95d88_34 rfl ?_
  refine z_lload_n C dJ13_bitCount_95d88_35 rfl ?_
  refine z_bipush C dJ13_bitCount_95d88_36 ?_
  refine z_lushr C dJ13_bitCount_95d88_38 ?_
  refine z_ladd C dJ13_bitCount_95d88_39 ?_
  refine z_lstore_n (L' := [_, _]) C dJ13_bitCount_95d88_40 rfl ?_
  refine z_lload_n C dJ13_bitCount_95d88_41 rfl ?_
  refine z_lload_n C dJ13_bitCount_95d88_42 rfl ?_
  refine z_bipush C dJ13_bitCount_95d88_43 ?_
  refine z_lushr C dJ13_bitCount_95d88_45 ?_
  refine z_ladd C dJ13_bitCount_95d88_46 ?_
  refine z_lstore_n (L' := [_, _]) C dJ13_bitCount_95d88_47 rfl ?_
  refine z_lload_n C dJ13_bitCount_95d88_48 rfl ?_
  refine z_lload_n C dJ13_bitCount_95d88_49 rfl ?_
  refine z_bipush C dJ13_bitCount_95d88_50 ?_
  refine z_lushr C dJ13_bitCount_95d88_52 ?_
  refine z_ladd C dJ13_bitCount_95d88_53 ?_
  refine z_lstore_n (L' := [_, _]) C dJ13_bitCount_95d88_54 rfl ?_
  refine z_lload_n C dJ13_bitCount_95d88_55 rfl ?_
  refine z_l2i C dJ13_bitCount_95d88_56 ?_
  refine z_bipush C dJ13_bitCount_95d88_57 ?_
  refine z_iand C dJ13_bitCount_95d88_59 (zI_as _).symm ?_
  exact z_iret C E dJ13_bitCount_95d88_60 (Nat.le_of_ble_eq_true rfl) (Nat.le_of_ble_eq_true rfl) ⟨rfl, rfl⟩

def cntF (f : Nat → Int64) : Nat → Int
  | 0 => 0
  | i + 1 => cntF f i + zbc (f i)

set_option maxRecDepth 100000 in
set_option maxHeartbeats 4000000 in
theorem c_count {l : Launch} {D : va_G} {N0 : Nat} {o : Nat} {f : Nat → Int64} {μ : zM} (hF : isF D μ o f) : zMet l yX0_count cX0_count 3 (some .int) ({ frames := 1, cells := 0, slots := 0, locals := 40 } : Room) D N0 [.ref o] μ (zQI D N0 (fun z u => z = cntF f 64 ∧ u = μ)) := by
  refine zMet_of rfl (Nat.le_of_ble_eq_true rfl) (fun X C Rm hin E => ?_)
  have loop : ∀ (n i : Nat) (y s : Int), i + n = 64 → y = -32 + (i : Int) → s = cntF f i → Z X μ 0 0 5 [some (.ref o), some (zi s), some (zi y)] [] := by
    intro n
    induction n with
    | zero =>
      intro i y s hi hy hs
      refine z_iload_n C dX0_count_5 rfl ?_
      refine z_bipush C dX0_count_6 ?_
      refine z_icmp_gt (tgt := 28) C dX0_count_8 (by decide) (fun _ => ?_) (fun hno => absurd hno (by omega))
      refine z_iload_n C dX0_count_28 rfl ?_
      exact z_iret C E dX0_count_29 (Nat.le_of_ble_eq_true rfl) (Nat.le_of_ble_eq_true rfl) ⟨by rw [hs]; congr 1, rfl⟩
    | succ n ih =>
      intro i y s hi hy hs
      refine z_iload_n C dX0_count_5 rfl ?_
      refine z_bipush C dX0_count_6 ?_
      refine z_icmp_gt (tgt := 28) C dX0_count_8 (by decide) (fun hno => absurd hno (by omega)) (fun _ => ?_)
      refine z_iload_n C dX0_count_11 rfl ?_
      refine z_aload_n C dX0_count_12 rfl ?_
      refine z_iload_n C dX0_count_13 rfl ?_
      refine z_cl C (z_rV C Rm qv_X0_row m_273 (c_row hF (y := y) (by omega)) hF.1 rfl dX0_count_14 rfl rfl (Nat.le_of_ble_eq_true rfl) rfl ⟨Nat.le_of_ble_eq_true rfl, Nat.le_of_ble_eq_true rfl, Nat.le_of_ble_eq_true rfl, Nat.le_of_ble_eq_true rfl⟩) (fun z μ1 hp => ?_)
      obtain ⟨rfl, rfl⟩ := hp
      rw [rowv_i hy (by omega)]
      refine z_ci C (z_rS C Rm qs_J13_bitCount_95d88 m_294 (c_bitCount) dX0_count_17 rfl rfl (Nat.le_of_ble_eq_true rfl) rfl ⟨Nat.le_of_ble_eq_true rfl, Nat.le_of_ble_eq_true rfl, Nat.le_of_ble_eq_true rfl, Nat.le_of_ble_eq_true rfl⟩) (fun z μ1 hp => ?_)
      obtain ⟨rfl, rfl⟩ := hp
      refine z_iadd C dX0_count_20 ?_
      refine z_istore_n (L' := [_, _, _]) C dX0_count_21 rfl ?_
      refine z_iinc (L' := [_, _, _]) C dX0_count_22 rfl rfl ?_
      refine z_goto (tgt := 5) C dX0_count_25 (by decide) ?_
      exact ih (i + 1) _ _ (by omega) (by omega) (by rw [hs]; rfl)
  refine z_iconst C dX0_count_0 ?_
  refine z_istore_n (L' := [_, _, _]) C dX0_count_1 rfl ?_
  refine z_bipush C dX0_count_2 ?_
  refine z_istore_n (L' := [_, _, _]) C dX0_count_4 rfl ?_
  exact loop 64 0 _ _ rfl rfl rfl
