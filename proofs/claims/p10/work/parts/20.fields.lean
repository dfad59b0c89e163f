/-! ScrimshawKernel$Fields: 64 rows of 64 bits; an object lies right ahead of its rows -/
def isF (D : va_G) (μ : zM) (o : Nat) (f : Nat → Int64) : Prop := μ o = some (.inr (0, [.ref (o + 1)])) ∧ μ (o + 1) = some (zAL D 64 f)
def setF (D : va_G) (μ : zM) (o : Nat) (f : Nat → Int64) : zM := zu μ (o + 1) (zAL D 64 f)
theorem zAL_ne {D : va_G} {n : Nat} {f : Nat → Int64} {ci : Nat} {fs : List Value} : zAL D n f ≠ .inr (ci, fs) := fun h => by cases h
theorem isF.set {D : va_G} {μ : zM} {o : Nat} {f : Nat → Int64} (h : isF D μ o f) (g : Nat → Int64) : isF D (setF D μ o g) o g := ⟨by unfold setF; rw [zu_n (by omega)]; exact h.1, zu_s⟩
theorem isF.ne {D : va_G} {μ : zM} {o q : Nat} {f g : Nat → Int64} (h : isF D μ o f) (h2 : isF D μ q g) : q ≠ o + 1 := by
  intro e
  subst e
  have h3 := h.2.symm.trans h2.1
  cases h3
theorem isF.keep {D : va_G} {μ : zM} {o q : Nat} {f g : Nat → Int64} (h : isF D μ o f) (h2 : isF D μ q g) (hne : q ≠ o) (g2 : Nat → Int64) : isF D (setF D μ o g2) q g := by
  refine ⟨?_, ?_⟩
  · unfold setF
    rw [zu_n (h.ne h2)]
    exact h2.1
  · unfold setF
    rw [zu_n (by omega)]
    exact h2.2
theorem setF_k {D : va_G} {μ : zM} {o q : Nat} {f : Nat → Int64} (hq : q ≠ o + 1) : setF D μ o f q = μ q := zu_n hq
theorem setF_u {D : va_G} (μ : zM) (o : Nat) (f g : Nat → Int64) : setF D (setF D μ o f) o g = setF D μ o g := zu_u _ _ _ _
theorem setF_i {D : va_G} {μ : zM} {o : Nat} {f : Nat → Int64} (h : isF D μ o f) : setF D μ o f = μ := zu_i h.2
def rowv (f : Nat → Int64) (y : Int) : Int64 := if 0 ≤ y + 32 ∧ y + 32 < 64 then f (y + 32).toNat else 0
theorem rowv_i {f : Nat → Int64} {y : Int} {i : Nat} (h : y = -32 + (i : Int)) (hi : i < 64) : rowv f y = f i := by
  unfold rowv
  rw [if_pos (by omega), show (y + 32).toNat = i by omega]
theorem rowv_o {f : Nat → Int64} {y : Int} (h : y < -32 ∨ 31 < y) : rowv f y = 0 := by
  unfold rowv
  rw [if_neg (by omega)]

set_option maxRecDepth 100000 in
set_option maxHeartbeats 4000000 in
theorem c_row {l : Launch} {D : va_G} {N0 : Nat} {o : Nat} {f : Nat → Int64} {μ : zM} (hF : isF D μ o f) {y : Int} (hy : -1000 ≤ y ∧ y ≤ 1000) : zMet l yX0_row cX0_row 3 (some .long) ({ frames := 0, cells := 0, slots := 0, locals := 0 } : Room) D N0 [.ref o, zi y] μ (zQL D N0 (fun z u => z = rowv f y ∧ u = μ)) := by
  refine zMet_of rfl (Nat.le_of_ble_eq_true rfl) (fun X C Rm hin E => ?_)
  refine z_iload_n C dX0_row_0 rfl ?_
  refine z_bipush C dX0_row_1 ?_
  refine z_isub C dX0_row_3 ?_
  refine z_istore_n (L' := [_, _, _]) C dX0_row_4 rfl ?_
  refine z_iload_n C dX0_row_5 rfl ?_
  refine z_if_lt (tgt := 27) C dX0_row_6 (by decide) (fun h1 => ?_) (fun h1 => ?_)
  · refine z_lconst_0 C dX0_row_27 ?_
    exact z_lret C E dX0_row_28 (Nat.le_of_ble_eq_true rfl) (Nat.le_of_ble_eq_true rfl) ⟨by rw [rowv_o (by omega)], rfl⟩
  · refine z_iload_n C dX0_row_9 rfl ?_
    refine z_aload_n C dX0_row_10 rfl ?_
    refine z_get C hF.1 rfl 0 (by decide) m_69 inz0 rfl rfl dX0_row_11 ?_
    refine z_alen C hF.2 1 rfl dX0_row_14 ?_
    refine z_icmp_ge (tgt := 27) C dX0_row_15 (by decide) (fun h2 => ?_) (fun h2 => ?_)
    · refine z_lconst_0 C dX0_row_27 ?_
      exact z_lret C E dX0_row_28 (Nat.le_of_ble_eq_true rfl) (Nat.le_of_ble_eq_true rfl) ⟨by rw [rowv_o (by omega)], rfl⟩
    · refine z_aload_n C dX0_row_18 rfl ?_
      refine z_get C hF.1 rfl 0 (by decide) m_69 inz0 rfl rfl dX0_row_19 ?_
      refine z_iload_n C dX0_row_22 rfl ?_
      refine z_lald C hF.2 (by decide) dX0_row_23 ?_
      refine z_goto (tgt := 28) C dX0_row_24 (by decide) ?_
      exact z_lret C E dX0_row_28 (Nat.le_of_ble_eq_true rfl) (Nat.le_of_ble_eq_true rfl) ⟨by unfold rowv; rw [if_pos (by omega)]; congr 1, rfl⟩

def zbcL (x : Int64) : Int64 :=
  let a := x - (zushr x 1 &&& 6148914691236517205)
  let b := (a &&& 3689348814741910323) + (zushr a 2 &&& 3689348814741910323)
  let c := (b + zushr b 4) &&& 1085102592571150095
  let d := c + zushr c 8
  let e := d + zushr d 16
  e + zushr e 32
def zbc (x : Int64) : Int := (Int32.ofInt (zbcL x).toInt32.toInt &&& Int32.ofInt 127).toInt

set_option maxRecDepth 100000 in
set_option maxHeartbeats 4000000 in
theorem c_bitCount {l : Launch} {D : va_G} {N0 : Nat} {μ : zM} {x : Int64} : zMet l yJ13_bitCount_95d88 cJ13_bitCount_95d88 2 (some .int) ({ frames := 0, cells := 0, slots := 0, locals := 0 } : Room) D N0 [.long x] μ (zQI D N0 (fun z u => z = zbc x ∧ u = μ)) := by
  refine zMet_of rfl (Nat.le_of_ble_eq_true rfl) (fun X C Rm hin E => ?_)
  refine z_lload_n C dJ13_bitCount_95d88_0 rfl ?_
  refine z_lload_n C dJ13_bitCount_95d88_1 rfl ?_
  refine z_iconst C dJ13_bitCount_95d88_2 ?_
  refine z_lushr C dJ13_bitCount_95d88_3 ?_
  refine z_ldc2 C m_297 dJ13_bitCount_95d88_4 ?_
  refine z_land C dJ13_bitCount_95d88_7 ?_
  refine z_lsub C dJ13_bitCount_95d88_8 ?_
  refine z_lstore_n (L' := [_, _]) C dJ13_bitCount_95d88_9 rfl ?_
  refine z_lload_n C dJ13_bitCount_95d88_10 rfl ?_
  refine z_ldc2 C m_298 dJ13_bitCount_95d88_11 ?_
  refine z_land C dJ13_bitCount_95d88_14 ?_
  refine z_lload_n C dJ13_bitCount_95d88_15 rfl ?_
  refine z_iconst C dJ13_bitCount_95d88_16 ?_
  refine z_lushr C dJ13_bitCount_95d88_17 ?_
  refine z_ldc2 C m_298 dJ13_bitCount_95d88_18 ?_
  refine z_land C dJ13_bitCount_95d88_21 ?_
  refine z_ladd C dJ13_bitCount_95d88_22 ?_
  refine z_lstore_n (L' := [_, _]) C dJ13_bitCount_95d88_23 rfl ?_
  refine z_lload_n C dJ13_bitCount_95d88_24 rfl ?_
  refine z_lload_n C dJ13_bitCount_95d88_25 rfl ?_
  refine z_iconst C dJ13_bitCount_95d88_26 ?_
  refine z_lushr C dJ13_bitCount_95d88_27 ?_
  refine z_ladd C dJ13_bitCount_95d88_28 ?_
  refine z_ldc2 C m_299 dJ13_bitCount_95d88_29 ?_
  refine z_land C dJ13_bitCount_95d88_32 ?_
  refine z_lstore_n (L' := [_, _]) C dJ13_bitCount_95d88_33 rfl ?_
  refine z_lload_n C dJ13_bitCount_95d88_34 rfl ?_
  refine z_lload_n C dJ13_bitCount_95d88_35 rfl ?_
  refine z_bipush C dJ13_bitCount_95d88_36 ?_
  refine z_lushr C dJ13_bitCount_95d88_38 ?_
  refine z_ladd C dJ13_bitCount_95d88_39 ?_
  refine z_lstore_n (L' := [_, _]) C dJ13_bitCount_95d88_40 rfl ?_
  refine z_lload_n C dJ13_bitCount_95d88_41 rfl ?_
  refine z_lload_n C dJ13_bitCount_95d88_42 rfl ?_
  refine z_bipush C dJ13_bitCount_95d88_43 ?_
  refine z_lushr C dJ13_bitCount_95d88_45 ?_
  refine z_ladd C dJ13_bitCount_95d88_46 ?_
  refine z_lstore_n (L' := [_, _]) C dJ13_bitCount_95d88_47 rfl ?_
  refine z_lload_n C dJ13_bitCount_95d88_48 rfl ?_
  refine z_lload_n C dJ13_bitCount_95d88_49 rfl ?_
  refine z_bipush C dJ13_bitCount_95d88_50 ?_
  refine z_lushr C dJ13_bitCount_95d88_52 ?_
  refine z_ladd C dJ13_bitCount_95d88_53 ?_
  refine z_lstore_n (L' := [_, _]) C dJ13_bitCount_95d88_54 rfl ?_
  refine z_lload_n C dJ13_bitCount_95d88_55 rfl ?_
  refine z_l2i C dJ13_bitCount_95d88_56 ?_
  refine z_bipush C dJ13_bitCount_95d88_57 ?_
  refine z_iand C dJ13_bitCount_95d88_59 (zI_as _).symm ?_
  exact z_iret C E dJ13_bitCount_95d88_60 (Nat.le_of_ble_eq_true rfl) (Nat.le_of_ble_eq_true rfl) ⟨rfl, rfl⟩

def cntF (f : Nat → Int64) : Nat → Int
  | 0 => 0
  | i + 1 => cntF f i + zbc (f i)

set_option maxRecDepth 100000 in
set_option maxHeartbeats 4000000 in
theorem c_count {l : Launch} {D : va_G} {N0 : Nat} {o : Nat} {f : Nat → Int64} {μ : zM} (hF : isF D μ o f) : zMet l yX0_count cX0_count 3 (some .int) ({ frames := 1, cells := 0, slots := 0, locals := 40 } : Room) D N0 [.ref o] μ (zQI D N0 (fun z u => z = cntF f 64 ∧ u = μ)) := by
  refine zMet_of rfl (Nat.le_of_ble_eq_true rfl) (fun X C Rm hin E => ?_)
  have loop : ∀ (n i : Nat) (y s : Int), i + n = 64 → y = -32 + (i : Int) → s = cntF f i → Z X μ 0 0 5 [some (.ref o), some (zi s), some (zi y)] [] := by
    intro n
    induction n with
    | zero =>
      intro i y s hi hy hs
      refine z_iload_n C dX0_count_5 rfl ?_
      refine z_bipush C dX0_count_6 ?_
      refine z_icmp_gt (tgt := 28) C dX0_count_8 (by decide) (fun _ => ?_) (fun hno => absurd hno (by omega))
      refine z_iload_n C dX0_count_28 rfl ?_
      exact z_iret C E dX0_count_29 (Nat.le_of_ble_eq_true rfl) (Nat.le_of_ble_eq_true rfl) ⟨by rw [hs]; congr 1, rfl⟩
    | succ n ih =>
      intro i y s hi hy hs
      refine z_iload_n C dX0_count_5 rfl ?_
      refine z_bipush C dX0_count_6 ?_
      refine z_icmp_gt (tgt := 28) C dX0_count_8 (by decide) (fun hno => absurd hno (by omega)) (fun _ => ?_)
      refine z_iload_n C dX0_count_11 rfl ?_
      refine z_aload_n C dX0_count_12 rfl ?_
      refine z_iload_n C dX0_count_13 rfl ?_
      refine z_cl C (z_rV C Rm qv_X0_row m_273 (c_row hF (y := y) (by omega)) hF.1 rfl dX0_count_14 rfl rfl (Nat.le_of_ble_eq_true rfl) rfl ⟨Nat.le_of_ble_eq_true rfl, Nat.le_of_ble_eq_true rfl, Nat.le_of_ble_eq_true rfl, Nat.le_of_ble_eq_true rfl⟩) (fun z μ1 hp => ?_)
      obtain ⟨rfl, rfl⟩ := hp
      rw [rowv_i hy (by omega)]
      refine z_ci C (z_rS C Rm qs_J13_bitCount_95d88 m_294 (c_bitCount) dX0_count_17 rfl rfl (Nat.le_of_ble_eq_true rfl) rfl ⟨Nat.le_of_ble_eq_true rfl, Nat.le_of_ble_eq_true rfl, Nat.le_of_ble_eq_true rfl, Nat.le_of_ble_eq_true rfl⟩) (fun z μ1 hp => ?_)
      obtain ⟨rfl, rfl⟩ := hp
      refine z_iadd C dX0_count_20 ?_
      refine z_istore_n (L' := [_, _, _]) C dX0_count_21 rfl ?_
      refine z_iinc (L' := [_, _, _]) C dX0_count_22 rfl rfl ?_
      refine z_goto (tgt := 5) C dX0_count_25 (by decide) ?_
      exact ih (i + 1) _ _ (by omega) (by omega) (by rw [hs]; rfl)
  refine z_iconst C dX0_count_0 ?_
  refine z_istore_n (L' := [_, _, _]) C dX0_count_1 rfl ?_
  refine z_bipush C dX0_count_2 ?_
  refine z_istore_n (L' := [_, _, _]) C dX0_count_4 rfl ?_
  exact loop 64 0 _ _ rfl rfl rfl

def zF : Nat → Int64 := fun _ => 0
theorem zi_wrap (z : Int) : zi z = zi (z - 4294967296) := by
  unfold zi
  rw [← zI_sub, show Int32.ofInt 4294967296 = 0 from rfl, Int32.sub_zero]
theorem zushr_0 (y : Int) : zushr 0 y = 0 := by
  unfold zushr
  apply Int64.toBitVec_inj.mp
  simp
theorem zshl_0 (y : Int) : zshl 0 y = 0 := by
  unfold zshl
  apply Int64.toBitVec_inj.mp
  simp
theorem zcmp_s (x : Int64) : zcmp x x = 0 := (zcmp_0 x x).mpr rfl
theorem zw_id {α : Type} {g : Nat → α} {k : Nat} {x : α} (h : g k = x) : zw g k x = g := by
  funext j
  unfold zw
  by_cases q : j = k
  · rw [if_pos q, q, h]
  · rw [if_neg q]
/-- g below i, f from there on -/
def zmx {α : Type} (f g : Nat → α) (i : Nat) : Nat → α := fun j => if j < i then g j else f j
theorem zmx_0 {α : Type} (f g : Nat → α) : zmx f g 0 = f := by
  funext j
  unfold zmx
  rw [if_neg (by omega)]
theorem zmx_s {α : Type} (f g : Nat → α) (i : Nat) : zw (zmx f g i) i (g i) = zmx f g (i + 1) := by
  funext j
  unfold zw zmx
  by_cases q : j = i
  · rw [if_pos q, if_pos (by omega), q]
  · rw [if_neg q]
    by_cases q2 : j < i
    · rw [if_pos q2, if_pos (by omega)]
    · rw [if_neg q2, if_neg (by omega)]
theorem zmx_e {α : Type} {f g : Nat → α} {i j : Nat} (h : j < i) : zmx f g i j = g j := if_pos h
theorem zmx_i {α : Type} {f g : Nat → α} {i j : Nat} (h : i ≤ j) : zmx f g i j = f j := if_neg (by omega)
theorem setF_z {D : va_G} {μ : zM} {o k : Nat} (h : isF D μ o zF) : setF D μ o (zw zF k 0) = μ := by
  rw [show zw zF k 0 = zF from zw_id rfl]
  exact setF_i h
theorem rowv_z (y : Int) : rowv zF y = 0 := by
  unfold rowv zF
  split <;> rfl

set_option maxRecDepth 100000 in
set_option maxHeartbeats 4000000 in
theorem c_putRow {l : Launch} {D : va_G} {N0 : Nat} {o : Nat} {f : Nat → Int64} {μ : zM} (hF : isF D μ o f) {y : Int} (hy : -32 ≤ y ∧ y ≤ 31) {v : Int64} : zMet l yX0_putRow cX0_putRow 5 none ({ frames := 0, cells := 0, slots := 0, locals := 0 } : Room) D N0 [.ref o, zi y, .long v] μ (zQV D N0 (fun u => u = setF D μ o (zw f (y + 32).toNat v))) := by
  refine zMet_of rfl (Nat.le_of_ble_eq_true rfl) (fun X C Rm hin E => ?_)
  refine z_iload_n C dX0_putRow_0 rfl ?_
  refine z_bipush C dX0_putRow_1 ?_
  refine z_isub C dX0_putRow_3 ?_
  refine z_istore (L' := [_, _, _, _, _]) C dX0_putRow_4 rfl ?_
  refine z_iload C dX0_putRow_6 rfl ?_
  refine z_if_lt (tgt := 29) C dX0_putRow_8 (by decide) (fun hno => absurd hno (by omega)) (fun _ => ?_)
  refine z_iload C dX0_putRow_11 rfl ?_
  refine z_aload_n C dX0_putRow_13 rfl ?_
  refine z_get C hF.1 rfl 0 (by decide) m_69 inz0 rfl rfl dX0_putRow_14 ?_
  refine z_alen C hF.2 1 rfl dX0_putRow_17 ?_
  refine z_icmp_ge (tgt := 29) C dX0_putRow_18 (by decide) (fun hno => absurd hno (by omega)) (fun _ => ?_)
  refine z_aload_n C dX0_putRow_21 rfl ?_
  refine z_get C hF.1 rfl 0 (by decide) m_69 inz0 rfl rfl dX0_putRow_22 ?_
  refine z_iload C dX0_putRow_25 rfl ?_
  refine z_lload_n C dX0_putRow_27 rfl ?_
  refine z_last C hF.2 (by decide) dX0_putRow_28 ?_
  exact z_vret C E dX0_putRow_29 (Nat.le_of_ble_eq_true rfl) (Nat.le_of_ble_eq_true rfl) (by unfold setF; rw [show (y - -32).toNat = (y + 32).toNat by omega])

set_option maxRecDepth 100000 in
set_option maxHeartbeats 4000000 in
theorem c_fillJ {l : Launch} {D : va_G} {N0 : Nat} {a n : Nat} {f : Nat → Int64} {v : Int64} {μ : zM} (hA : μ a = some (zAL D n f)) (hn : n < 100000) : zMet l yJ7_fill_d0a16 cJ7_fill_d0a16 5 none ({ frames := 0, cells := 0, slots := 0, locals := 0 } : Room) D N0 [.ref a, .long v] μ (zQV D N0 (fun u => u = zu μ a (zAL D n (fun _ => v)))) := by
  refine zMet_of rfl (Nat.le_of_ble_eq_true rfl) (fun X C Rm hin E => ?_)
  have loop : ∀ (m i : Nat) (y : Int) (ν : zM), i + m = n → y = (i : Int) → ν = zu μ a (zAL D n (zmx f (fun _ => v) i)) → Z X ν 0 0 6 [some (.ref a), some (.long v), none, some (zi y), some (zi (n : Int))] [] := by
    intro m
    induction m with
    | zero =>
      intro i y ν hi hy hν
      subst hν
      refine z_eqL C (f := zmx f (fun _ => v) i) (g := fun _ => v) (fun j hj => zmx_e (by omega)) ?_
      refine z_iload_n C dJ7_fill_d0a16_6 rfl ?_
      refine z_iload C dJ7_fill_d0a16_7 rfl ?_
      refine z_icmp_ge (tgt := 22) C dJ7_fill_d0a16_9 (by decide) (fun _ => ?_) (fun hno => absurd hno (by omega))
      exact z_vret C E dJ7_fill_d0a16_22 (Nat.le_of_ble_eq_true rfl) (Nat.le_of_ble_eq_true rfl) rfl
    | succ m ih =>
      intro i y ν hi hy hν
      have hA1 : ν a = some (zAL D n (zmx f (fun _ => v) i)) := by rw [hν]; exact zu_s
      refine z_iload_n C dJ7_fill_d0a16_6 rfl ?_
      refine z_iload C dJ7_fill_d0a16_7 rfl ?_
      refine z_icmp_ge (tgt := 22) C dJ7_fill_d0a16_9 (by decide) (fun hno => absurd hno (by omega)) (fun _ => ?_)
      refine z_aload_n C dJ7_fill_d0a16_12 rfl ?_
      refine z_iload_n C dJ7_fill_d0a16_13 rfl ?_
      refine z_lload_n C dJ7_fill_d0a16_14 rfl ?_
      refine z_last C hA1 (by omega) dJ7_fill_d0a16_15 ?_
      refine z_iinc (L' := [_, _, _, _, _]) C dJ7_fill_d0a16_16 rfl rfl ?_
      refine z_goto (tgt := 6) C dJ7_fill_d0a16_19 (by decide) ?_
      exact ih (i + 1) _ _ (by omega) (by omega) (by rw [hν, zu_u, show y.toNat = i by omega, ← zmx_s f (fun _ => v) i])
  refine z_iconst C dJ7_fill_d0a16_0 ?_
  refine z_istore_n (L' := [_, _, _, _, _]) C dJ7_fill_d0a16_1 rfl ?_
  refine z_aload_n C dJ7_fill_d0a16_2 rfl ?_
  refine z_alen C hA 1 rfl dJ7_fill_d0a16_3 ?_
  refine z_istore (L' := [_, _, _, _, _]) C dJ7_fill_d0a16_4 rfl ?_
  exact loop n 0 0 μ (by omega) rfl (by rw [zmx_0, zu_i hA])

set_option maxRecDepth 100000 in
set_option maxHeartbeats 4000000 in
theorem c_empty {l : Launch} {D : va_G} {N0 : Nat} {o : Nat} {f : Nat → Int64} {μ : zM} (hF : isF D μ o f) : zMet l yX0_empty cX0_empty 1 none ({ frames := 1, cells := 0, slots := 0, locals := 40 } : Room) D N0 [.ref o] μ (zQV D N0 (fun u => u = setF D μ o zF)) := by
  refine zMet_of rfl (Nat.le_of_ble_eq_true rfl) (fun X C Rm hin E => ?_)
  refine z_aload_n C dX0_empty_0 rfl ?_
  refine z_get C hF.1 rfl 0 (by decide) m_69 inz0 rfl rfl dX0_empty_1 ?_
  refine z_lconst_0 C dX0_empty_4 ?_
  refine z_cv C (z_rS C Rm qs_J7_fill_d0a16 m_327 (c_fillJ hF.2 (by decide)) dX0_empty_5 rfl rfl (Nat.le_of_ble_eq_true rfl) rfl ⟨Nat.le_of_ble_eq_true rfl, Nat.le_of_ble_eq_true rfl, Nat.le_of_ble_eq_true rfl, Nat.le_of_ble_eq_true rfl⟩) (fun μ1 hp => ?_)
  exact z_vret C E dX0_empty_8 (Nat.le_of_ble_eq_true rfl) (Nat.le_of_ble_eq_true rfl) hp

set_option maxRecDepth 100000 in
set_option maxHeartbeats 4000000 in
theorem c_columns0 {l : Launch} {D : va_G} {N0 : Nat} {o : Nat} {μ : zM} (hF : isF D μ o zF) : zMet l yX0_columns cX0_columns 4 (some .long) ({ frames := 1, cells := 0, slots := 0, locals := 40 } : Room) D N0 [.ref o] μ (zQL D N0 (fun z u => z = 0 ∧ u = μ)) := by
  refine zMet_of rfl (Nat.le_of_ble_eq_true rfl) (fun X C Rm hin E => ?_)
  have loop : ∀ (n i : Nat) (y : Int), i + n = 64 → y = -32 + (i : Int) → Z X μ 0 0 5 [some (.ref o), some (.long 0), none, some (zi y)] [] := by
    intro n
    induction n with
    | zero =>
      intro i y hi hy
      refine z_iload_n C dX0_columns_5 rfl ?_
      refine z_bipush C dX0_columns_6 ?_
      refine z_icmp_gt (tgt := 25) C dX0_columns_8 (by decide) (fun _ => ?_) (fun hno => absurd hno (by omega))
      refine z_lload_n C dX0_columns_25 rfl ?_
      exact z_lret C E dX0_columns_26 (Nat.le_of_ble_eq_true rfl) (Nat.le_of_ble_eq_true rfl) ⟨rfl, rfl⟩
    | succ n ih =>
      intro i y hi hy
      refine z_iload_n C dX0_columns_5 rfl ?_
      refine z_bipush C dX0_columns_6 ?_
      refine z_icmp_gt (tgt := 25) C dX0_columns_8 (by decide) (fun hno => absurd hno (by omega)) (fun _ => ?_)
      refine z_lload_n C dX0_columns_11 rfl ?_
      refine z_aload_n C dX0_columns_12 rfl ?_
      refine z_iload_n C dX0_columns_13 rfl ?_
      refine z_cl C (z_rV C Rm qv_X0_row m_273 (c_row hF (y := y) (by omega)) hF.1 rfl dX0_columns_14 rfl rfl (Nat.le_of_ble_eq_true rfl) rfl ⟨Nat.le_of_ble_eq_true rfl, Nat.le_of_ble_eq_true rfl, Nat.le_of_ble_eq_true rfl, Nat.le_of_ble_eq_true rfl⟩) (fun z μ1 hp => ?_)
      obtain ⟨rfl, rfl⟩ := hp
      rw [rowv_z]
      refine z_lor C dX0_columns_17 ?_
      rw [Int64.zero_or]
      refine z_lstore_n (L' := [_, _, _, _]) C dX0_columns_18 rfl ?_
      refine z_iinc (L' := [_, _, _, _]) C dX0_columns_19 rfl rfl ?_
      refine z_goto (tgt := 5) C dX0_columns_22 (by decide) ?_
      exact ih (i + 1) _ (by omega) (by omega)
  refine z_lconst_0 C dX0_columns_0 ?_
  refine z_lstore_n (L' := [_, _, _, _]) C dX0_columns_1 rfl ?_
  refine z_bipush C dX0_columns_2 ?_
  refine z_istore_n (L' := [_, _, _, _]) C dX0_columns_4 rfl ?_
  exact loop 64 0 _ rfl rfl

set_option maxRecDepth 100000 in
set_option maxHeartbeats 4000000 in
theorem c_copy {l : Launch} {D : va_G} {N0 : Nat} {o q : Nat} {f g : Nat → Int64} {μ : zM} (hF : isF D μ o f) (hG : isF D μ q g) (hne : q ≠ o) : zMet l yX0_copy cX0_copy 3 none ({ frames := 1, cells := 0, slots := 0, locals := 40 } : Room) D N0 [.ref o, .ref q] μ (zQV D N0 (fun u => u = setF D μ o g)) := by
  refine zMet_of rfl (Nat.le_of_ble_eq_true rfl) (fun X C Rm hin E => ?_)
  have loop : ∀ (n i : Nat) (y : Int) (ν : zM), i + n = 64 → y = -32 + (i : Int) → ν = setF D μ o (zmx f g i) → Z X ν 0 0 3 [some (.ref o), some (.ref q), some (zi y)] [] := by
    intro n
    induction n with
    | zero =>
      intro i y ν hi hy hν
      subst hν
      refine z_eqL C (f := zmx f g i) (g := g) (fun j hj => zmx_e (by omega)) ?_
      refine z_iload_n C dX0_copy_3 rfl ?_
      refine z_bipush C dX0_copy_4 ?_
      refine z_icmp_gt (tgt := 25) C dX0_copy_6 (by decide) (fun _ => ?_) (fun hno => absurd hno (by omega))
      exact z_vret C E dX0_copy_25 (Nat.le_of_ble_eq_true rfl) (Nat.le_of_ble_eq_true rfl) rfl
    | succ n ih =>
      intro i y ν hi hy hν
      have hF1 : isF D ν o (zmx f g i) := by rw [hν]; exact hF.set _
      have hG1 : isF D ν q g := by rw [hν]; exact hF.keep hG hne _
      refine z_iload_n C dX0_copy_3 rfl ?_
      refine z_bipush C dX0_copy_4 ?_
      refine z_icmp_gt (tgt := 25) C dX0_copy_6 (by decide) (fun hno => absurd hno (by omega)) (fun _ => ?_)
      refine z_aload_n C dX0_copy_9 rfl ?_
      refine z_iload_n C dX0_copy_10 rfl ?_
      refine z_aload_n C dX0_copy_11 rfl ?_
      refine z_iload_n C dX0_copy_12 rfl ?_
      refine z_cl C (z_rV C Rm qv_X0_row m_273 (c_row hG1 (y := y) (by omega)) hG1.1 rfl dX0_copy_13 rfl rfl (Nat.le_of_ble_eq_true rfl) rfl ⟨Nat.le_of_ble_eq_true rfl, Nat.le_of_ble_eq_true rfl, Nat.le_of_ble_eq_true rfl, Nat.le_of_ble_eq_true rfl⟩) (fun z μ1 hp => ?_)
      obtain ⟨rfl, rfl⟩ := hp
      rw [rowv_i hy (by omega)]
      refine z_cv C (z_rV C Rm qv_X0_putRow m_277 (c_putRow hF1 (y := y) (by omega) (v := g i)) hF1.1 rfl dX0_copy_16 rfl rfl (Nat.le_of_ble_eq_true rfl) rfl ⟨Nat.le_of_ble_eq_true rfl, Nat.le_of_ble_eq_true rfl, Nat.le_of_ble_eq_true rfl, Nat.le_of_ble_eq_true rfl⟩) (fun μ2 hp => ?_)
      refine z_iinc (L' := [_, _, _]) C dX0_copy_19 rfl rfl ?_
      refine z_goto (tgt := 3) C dX0_copy_22 (by decide) ?_
      exact ih (i + 1) _ _ (by omega) (by omega) (by rw [hp, hν, setF_u, show (y + 32).toNat = i by omega, zmx_s])
  refine z_bipush C dX0_copy_0 ?_
  refine z_istore_n (L' := [_, _, _]) C dX0_copy_2 rfl ?_
  exact loop 64 0 _ μ rfl rfl (by rw [zmx_0, setF_i hF])

theorem zbc_0 : zbc 0 = 0 := by decide +kernel
set_option maxRecDepth 100000 in
set_option maxHeartbeats 4000000 in
theorem c_countEdges0 {l : Launch} {D : va_G} {N0 : Nat} {o : Nat} {μ : zM} (hF : isF D μ o zF) : zMet l yX0_countEdges cX0_countEdges 5 (some .int) ({ frames := 1, cells := 0, slots := 0, locals := 40 } : Room) D N0 [.ref o] μ (zQI D N0 (fun z u => z = 0 ∧ u = μ)) := by
  refine zMet_of rfl (Nat.le_of_ble_eq_true rfl) (fun X C Rm hin E => ?_)
  have loop : ∀ (n i : Nat) (y : Int) (L2 : List (Option Value)), L2 = [none, none] ∨ L2 = [some (.long 0), none] → i + n = 65 → y = -32 + (i : Int) → Z X μ 0 0 5 (some (.ref o) :: some (zi 0) :: some (zi y) :: L2) [] := by
    intro n
    induction n with
    | zero =>
      intro i y L2 hL hi hy
      rcases hL with rfl | rfl
      · refine z_iload_n C dX0_countEdges_5 rfl ?_
        refine z_bipush C dX0_countEdges_6 ?_
        refine z_icmp_gt (tgt := 61) C dX0_countEdges_8 (by decide) (fun _ => ?_) (fun hno => absurd hno (by omega))
        refine z_iload_n C dX0_countEdges_61 rfl ?_
        exact z_iret C E dX0_countEdges_62 (Nat.le_of_ble_eq_true rfl) (Nat.le_of_ble_eq_true rfl) ⟨rfl, rfl⟩
      · refine z_iload_n C dX0_countEdges_5 rfl ?_
        refine z_bipush C dX0_countEdges_6 ?_
        refine z_icmp_gt (tgt := 61) C dX0_countEdges_8 (by decide) (fun _ => ?_) (fun hno => absurd hno (by omega))
        refine z_iload_n C dX0_countEdges_61 rfl ?_
        exact z_iret C E dX0_countEdges_62 (Nat.le_of_ble_eq_true rfl) (Nat.le_of_ble_eq_true rfl) ⟨rfl, rfl⟩
    | succ n ih =>
      intro i y L2 hL hi hy
      have key : Z X μ 0 0 5 (some (.ref o) :: some (zi 0) :: some (zi y) :: [none, none]) [] := by
        refine z_iload_n C dX0_countEdges_5 rfl ?_
        refine z_bipush C dX0_countEdges_6 ?_
        refine z_icmp_gt (tgt := 61) C dX0_countEdges_8 (by decide) (fun hno => absurd hno (by omega)) (fun _ => ?_)
        refine z_aload_n C dX0_countEdges_11 rfl ?_
        refine z_iload_n C dX0_countEdges_12 rfl ?_
        refine z_cl C (z_rV C Rm qv_X0_row m_273 (c_row hF (y := y) (by omega)) hF.1 rfl dX0_countEdges_13 rfl rfl (Nat.le_of_ble_eq_true rfl) rfl ⟨Nat.le_of_ble_eq_true rfl, Nat.le_of_ble_eq_true rfl, Nat.le_of_ble_eq_true rfl, Nat.le_of_ble_eq_true rfl⟩) (fun z μ1 hp => ?_)
        obtain ⟨rfl, rfl⟩ := hp
        refine z_aload_n C dX0_countEdges_16 rfl ?_
        refine z_iload_n C dX0_countEdges_17 rfl ?_
        refine z_cl C (z_rV C Rm qv_X0_row m_273 (c_row hF (y := y) (by omega)) hF.1 rfl dX0_countEdges_18 rfl rfl (Nat.le_of_ble_eq_true rfl) rfl ⟨Nat.le_of_ble_eq_true rfl, Nat.le_of_ble_eq_true rfl, Nat.le_of_ble_eq_true rfl, Nat.le_of_ble_eq_true rfl⟩) (fun z μ1 hp => ?_)
        obtain ⟨rfl, rfl⟩ := hp
        rw [rowv_z]
        refine z_iconst C dX0_countEdges_21 ?_
        refine z_lshl C dX0_countEdges_22 ?_
        refine z_ldc2 C m_304 dX0_countEdges_23 ?_
        refine z_lxor C dX0_countEdges_26 ?_
        refine z_land C dX0_countEdges_27 ?_
        rw [Int64.zero_and]
        refine z_lstore_n (L' := [_, _, _, _, _]) C dX0_countEdges_28 rfl ?_
        refine z_iload_n C dX0_countEdges_29 rfl ?_
        refine z_iconst C dX0_countEdges_30 ?_
        refine z_lload_n C dX0_countEdges_31 rfl ?_
        refine z_ci C (z_rS C Rm qs_J13_bitCount_95d88 m_294 (c_bitCount) dX0_countEdges_32 rfl rfl (Nat.le_of_ble_eq_true rfl) rfl ⟨Nat.le_of_ble_eq_true rfl, Nat.le_of_ble_eq_true rfl, Nat.le_of_ble_eq_true rfl, Nat.le_of_ble_eq_true rfl⟩) (fun z μ1 hp => ?_)
        obtain ⟨rfl, rfl⟩ := hp
        rw [zbc_0]
        refine z_imul C dX0_countEdges_35 ?_
        refine z_aload_n C dX0_countEdges_36 rfl ?_
        refine z_iload_n C dX0_countEdges_37 rfl ?_
        refine z_cl C (z_rV C Rm qv_X0_row m_273 (c_row hF (y := y) (by omega)) hF.1 rfl dX0_countEdges_38 rfl rfl (Nat.le_of_ble_eq_true rfl) rfl ⟨Nat.le_of_ble_eq_true rfl, Nat.le_of_ble_eq_true rfl, Nat.le_of_ble_eq_true rfl, Nat.le_of_ble_eq_true rfl⟩) (fun z μ1 hp => ?_)
        obtain ⟨rfl, rfl⟩ := hp
        refine z_aload_n C dX0_countEdges_41 rfl ?_
        refine z_iload_n C dX0_countEdges_42 rfl ?_
        refine z_iconst C dX0_countEdges_43 ?_
        refine z_isub C dX0_countEdges_44 ?_
        refine z_cl C (z_rV C Rm qv_X0_row m_273 (c_row hF (y := y - 1) (by omega)) hF.1 rfl dX0_countEdges_45 rfl rfl (Nat.le_of_ble_eq_true rfl) rfl ⟨Nat.le_of_ble_eq_true rfl, Nat.le_of_ble_eq_true rfl, Nat.le_of_ble_eq_true rfl, Nat.le_of_ble_eq_true rfl⟩) (fun z μ1 hp => ?_)
        obtain ⟨rfl, rfl⟩ := hp
        rw [rowv_z, rowv_z]
        refine z_lxor C dX0_countEdges_48 ?_
        rw [show (0 : Int64) ^^^ 0 = 0 from rfl]
        refine z_ci C (z_rS C Rm qs_J13_bitCount_95d88 m_294 (c_bitCount) dX0_countEdges_49 rfl rfl (Nat.le_of_ble_eq_true rfl) rfl ⟨Nat.le_of_ble_eq_true rfl, Nat.le_of_ble_eq_true rfl, Nat.le_of_ble_eq_true rfl, Nat.le_of_ble_eq_true rfl⟩) (fun z μ1 hp => ?_)
        obtain ⟨rfl, rfl⟩ := hp
        rw [zbc_0]
        refine z_iadd C dX0_countEdges_52 ?_
        refine z_iadd C dX0_countEdges_53 ?_
        refine z_istore_n (L' := [_, _, _, _, _]) C dX0_countEdges_54 rfl ?_
        refine z_iinc (L' := [_, _, _, _, _]) C dX0_countEdges_55 rfl rfl ?_
        refine z_goto (tgt := 5) C dX0_countEdges_58 (by decide) ?_
        exact ih (i + 1) _ _ (Or.inr rfl) (by omega) (by omega)
      rcases hL with rfl | rfl
      · exact key
      · exact z_fewer (L' := [some (.ref o), some (zi 0), some (zi y), none, none]) ⟨Or.inr rfl, Or.inr rfl, Or.inr rfl, Or.inl rfl, Or.inr rfl, trivial⟩ key
  refine z_iconst C dX0_countEdges_0 ?_
  refine z_istore_n (L' := [_, _, _, _, _]) C dX0_countEdges_1 rfl ?_
  refine z_bipush C dX0_countEdges_2 ?_
  refine z_istore_n (L' := [_, _, _, _, _]) C dX0_countEdges_4 rfl ?_
  exact loop 65 0 _ [none, none] (Or.inl rfl) rfl rfl

set_option maxRecDepth 100000 in
set_option maxHeartbeats 4000000 in
theorem c_leastX0 {l : Launch} {D : va_G} {N0 : Nat} {o : Nat} {μ : zM} (hF : isF D μ o zF) : zMet l yX0_leastX cX0_leastX 3 (some .int) ({ frames := 2, cells := 0, slots := 0, locals := 80 } : Room) D N0 [.ref o] μ (zQI D N0 (fun z u => z = 0 ∧ u = μ)) := by
  refine zMet_of rfl (Nat.le_of_ble_eq_true rfl) (fun X C Rm hin E => ?_)
  refine z_aload_n C dX0_leastX_0 rfl ?_
  refine z_cl C (z_rV C Rm qv_X0_columns m_375 (c_columns0 hF) hF.1 rfl dX0_leastX_1 rfl rfl (Nat.le_of_ble_eq_true rfl) rfl ⟨Nat.le_of_ble_eq_true rfl, Nat.le_of_ble_eq_true rfl, Nat.le_of_ble_eq_true rfl, Nat.le_of_ble_eq_true rfl⟩) (fun z μ1 hp => ?_)
  obtain ⟨rfl, rfl⟩ := hp
  refine z_lstore_n (L' := [_, _, _]) C dX0_leastX_4 rfl ?_
  refine z_lload_n C dX0_leastX_5 rfl ?_
  refine z_lconst_0 C dX0_leastX_6 ?_
  refine z_lcmp C dX0_leastX_7 ?_
  rw [zcmp_s]
  refine z_if_ne (tgt := 15) C dX0_leastX_8 (by decide) (fun hno => absurd hno (by omega)) (fun _ => ?_)
  refine z_iconst C dX0_leastX_11 ?_
  refine z_goto (tgt := 22) C dX0_leastX_12 (by decide) ?_
  exact z_iret C E dX0_leastX_22 (Nat.le_of_ble_eq_true rfl) (Nat.le_of_ble_eq_true rfl) ⟨rfl, rfl⟩

set_option maxRecDepth 100000 in
set_option maxHeartbeats 4000000 in
theorem c_bit {l : Launch} {D : va_G} {N0 : Nat} {μ : zM} {x : Int} : zMet l yX6_bit cX6_bit 1 (some .long) ({ frames := 0, cells := 0, slots := 0, locals := 0 } : Room) D N0 [zi x] μ (zQL D N0 (fun z u => z = zshl 1 (x - -32) ∧ u = μ)) := by
  refine zMet_of rfl (Nat.le_of_ble_eq_true rfl) (fun X C Rm hin E => ?_)
  refine z_lconst_1 C dX6_bit_0 ?_
  refine z_iload_n C dX6_bit_1 rfl ?_
  refine z_bipush C dX6_bit_2 ?_
  refine z_isub C dX6_bit_4 ?_
  refine z_lshl C dX6_bit_5 ?_
  exact z_lret C E dX6_bit_6 (Nat.le_of_ble_eq_true rfl) (Nat.le_of_ble_eq_true rfl) ⟨rfl, rfl⟩

set_option maxRecDepth 100000 in
set_option maxHeartbeats 4000000 in
theorem c_greatestX0 {l : Launch} {D : va_G} {N0 : Nat} {o : Nat} {μ : zM} (hF : isF D μ o zF) : zMet l yX0_greatestX cX0_greatestX 4 (some .int) ({ frames := 2, cells := 0, slots := 0, locals := 80 } : Room) D N0 [.ref o] μ (zQI D N0 (fun z u => z = 0 ∧ u = μ)) := by
  refine zMet_of rfl (Nat.le_of_ble_eq_true rfl) (fun X C Rm hin E => ?_)
  have loop : ∀ (n : Nat) (y : Int), n ≤ 64 → y = (n : Int) - 33 → Z X μ 0 0 8 [some (.ref o), some (.long 0), none, some (zi y)] [] := by
    intro n
    induction n with
    | zero =>
      intro y hn hy
      refine z_iload_n C dX0_greatestX_8 rfl ?_
      refine z_bipush C dX0_greatestX_9 ?_
      refine z_icmp_lt (tgt := 33) C dX0_greatestX_11 (by decide) (fun _ => ?_) (fun hno => absurd hno (by omega))
      refine z_iconst C dX0_greatestX_33 ?_
      exact z_iret C E dX0_greatestX_34 (Nat.le_of_ble_eq_true rfl) (Nat.le_of_ble_eq_true rfl) ⟨rfl, rfl⟩
    | succ n ih =>
      intro y hn hy
      refine z_iload_n C dX0_greatestX_8 rfl ?_
      refine z_bipush C dX0_greatestX_9 ?_
      refine z_icmp_lt (tgt := 33) C dX0_greatestX_11 (by decide) (fun hno => absurd hno (by omega)) (fun _ => ?_)
      refine z_lload_n C dX0_greatestX_14 rfl ?_
      refine z_iload_n C dX0_greatestX_15 rfl ?_
      refine z_cl C (z_rSN C Rm qs_X6_bit nl_388 (c_bit (x := y)) dX0_greatestX_16 rfl rfl (Nat.le_of_ble_eq_true rfl) rfl ⟨Nat.le_of_ble_eq_true rfl, Nat.le_of_ble_eq_true rfl, Nat.le_of_ble_eq_true rfl, Nat.le_of_ble_eq_true rfl⟩) (fun z μ1 hp => ?_)
      obtain ⟨rfl, rfl⟩ := hp
      refine z_land C dX0_greatestX_19 ?_
      rw [Int64.zero_and]
      refine z_lconst_0 C dX0_greatestX_20 ?_
      refine z_lcmp C dX0_greatestX_21 ?_
      rw [zcmp_s]
      refine z_if_eq (tgt := 27) C dX0_greatestX_22 (by decide) (fun _ => ?_) (fun hno => absurd hno (by omega))
      refine z_iinc (L' := [_, _, _, _]) C dX0_greatestX_27 rfl rfl ?_
      refine z_goto (tgt := 8) C dX0_greatestX_30 (by decide) ?_
      exact ih _ (by omega) (by omega)
  refine z_aload_n C dX0_greatestX_0 rfl ?_
  refine z_cl C (z_rV C Rm qv_X0_columns m_375 (c_columns0 hF) hF.1 rfl dX0_greatestX_1 rfl rfl (Nat.le_of_ble_eq_true rfl) rfl ⟨Nat.le_of_ble_eq_true rfl, Nat.le_of_ble_eq_true rfl, Nat.le_of_ble_eq_true rfl, Nat.le_of_ble_eq_true rfl⟩) (fun z μ1 hp => ?_)
  obtain ⟨rfl, rfl⟩ := hp
  refine z_lstore_n (L' := [_, _, _, _]) C dX0_greatestX_4 rfl ?_
  refine z_bipush C dX0_greatestX_5 ?_
  refine z_istore_n (L' := [_, _, _, _]) C dX0_greatestX_7 rfl ?_
  exact loop 64 _ (by omega) rfl

set_option maxRecDepth 100000 in
set_option maxHeartbeats 4000000 in
theorem c_leastY0 {l : Launch} {D : va_G} {N0 : Nat} {o : Nat} {μ : zM} (hF : isF D μ o zF) : zMet l yX0_leastY cX0_leastY 2 (some .int) ({ frames := 1, cells := 0, slots := 0, locals := 40 } : Room) D N0 [.ref o] μ (zQI D N0 (fun z u => z = 0 ∧ u = μ)) := by
  refine zMet_of rfl (Nat.le_of_ble_eq_true rfl) (fun X C Rm hin E => ?_)
  have loop : ∀ (n i : Nat) (y : Int), i + n = 64 → y = -32 + (i : Int) → Z X μ 0 0 3 [some (.ref o), some (zi y)] [] := by
    intro n
    induction n with
    | zero =>
      intro i y hi hy
      refine z_iload_n C dX0_leastY_3 rfl ?_
      refine z_bipush C dX0_leastY_4 ?_
      refine z_icmp_gt (tgt := 27) C dX0_leastY_6 (by decide) (fun _ => ?_) (fun hno => absurd hno (by omega))
      refine z_iconst C dX0_leastY_27 ?_
      exact z_iret C E dX0_leastY_28 (Nat.le_of_ble_eq_true rfl) (Nat.le_of_ble_eq_true rfl) ⟨rfl, rfl⟩
    | succ n ih =>
      intro i y hi hy
      refine z_iload_n C dX0_leastY_3 rfl ?_
      refine z_bipush C dX0_leastY_4 ?_
      refine z_icmp_gt (tgt := 27) C dX0_leastY_6 (by decide) (fun hno => absurd hno (by omega)) (fun _ => ?_)
      refine z_aload_n C dX0_leastY_9 rfl ?_
      refine z_iload_n C dX0_leastY_10 rfl ?_
      refine z_cl C (z_rV C Rm qv_X0_row m_273 (c_row hF (y := y) (by omega)) hF.1 rfl dX0_leastY_11 rfl rfl (Nat.le_of_ble_eq_true rfl) rfl ⟨Nat.le_of_ble_eq_true rfl, Nat.le_of_ble_eq_true rfl, Nat.le_of_ble_eq_true rfl, Nat.le_of_ble_eq_true rfl⟩) (fun z μ1 hp => ?_)
      obtain ⟨rfl, rfl⟩ := hp
      rw [rowv_z]
      refine z_lconst_0 C dX0_leastY_14 ?_
      refine z_lcmp C dX0_leastY_15 ?_
      rw [zcmp_s]
      refine z_if_eq (tgt := 21) C dX0_leastY_16 (by decide) (fun _ => ?_) (fun hno => absurd hno (by omega))
      refine z_iinc (L' := [_, _]) C dX0_leastY_21 rfl rfl ?_
      refine z_goto (tgt := 3) C dX0_leastY_24 (by decide) ?_
      exact ih (i + 1) _ (by omega) (by omega)
  refine z_bipush C dX0_leastY_0 ?_
  refine z_istore_n (L' := [_, _]) C dX0_leastY_2 rfl ?_
  exact loop 64 0 _ rfl rfl

set_option maxRecDepth 100000 in
set_option maxHeartbeats 4000000 in
theorem c_greatestY0 {l : Launch} {D : va_G} {N0 : Nat} {o : Nat} {μ : zM} (hF : isF D μ o zF) : zMet l yX0_greatestY cX0_greatestY 2 (some .int) ({ frames := 1, cells := 0, slots := 0, locals := 40 } : Room) D N0 [.ref o] μ (zQI D N0 (fun z u => z = 0 ∧ u = μ)) := by
  refine zMet_of rfl (Nat.le_of_ble_eq_true rfl) (fun X C Rm hin E => ?_)
  have loop : ∀ (n : Nat) (y : Int), n ≤ 64 → y = (n : Int) - 33 → Z X μ 0 0 3 [some (.ref o), some (zi y)] [] := by
    intro n
    induction n with
    | zero =>
      intro y hn hy
      refine z_iload_n C dX0_greatestY_3 rfl ?_
      refine z_bipush C dX0_greatestY_4 ?_
      refine z_icmp_lt (tgt := 27) C dX0_greatestY_6 (by decide) (fun _ => ?_) (fun hno => absurd hno (by omega))
      refine z_iconst C dX0_greatestY_27 ?_
      exact z_iret C E dX0_greatestY_28 (Nat.le_of_ble_eq_true rfl) (Nat.le_of_ble_eq_true rfl) ⟨rfl, rfl⟩
    | succ n ih =>
      intro y hn hy
      refine z_iload_n C dX0_greatestY_3 rfl ?_
      refine z_bipush C dX0_greatestY_4 ?_
      refine z_icmp_lt (tgt := 27) C dX0_greatestY_6 (by decide) (fun hno => absurd hno (by omega)) (fun _ => ?_)
      refine z_aload_n C dX0_greatestY_9 rfl ?_
      refine z_iload_n C dX0_greatestY_10 rfl ?_
      refine z_cl C (z_rV C Rm qv_X0_row m_273 (c_row hF (y := y) (by omega)) hF.1 rfl dX0_greatestY_11 rfl rfl (Nat.le_of_ble_eq_true rfl) rfl ⟨Nat.le_of_ble_eq_true rfl, Nat.le_of_ble_eq_true rfl, Nat.le_of_ble_eq_true rfl, Nat.le_of_ble_eq_true rfl⟩) (fun z μ1 hp => ?_)
      obtain ⟨rfl, rfl⟩ := hp
      rw [rowv_z]
      refine z_lconst_0 C dX0_greatestY_14 ?_
      refine z_lcmp C dX0_greatestY_15 ?_
      rw [zcmp_s]
      refine z_if_eq (tgt := 21) C dX0_greatestY_16 (by decide) (fun _ => ?_) (fun hno => absurd hno (by omega))
      refine z_iinc (L' := [_, _]) C dX0_greatestY_21 rfl rfl ?_
      refine z_goto (tgt := 3) C dX0_greatestY_24 (by decide) ?_
      exact ih _ (by omega) (by omega)
  refine z_bipush C dX0_greatestY_0 ?_
  refine z_istore_n (L' := [_, _]) C dX0_greatestY_2 rfl ?_
  exact loop 64 _ (by omega) rfl
