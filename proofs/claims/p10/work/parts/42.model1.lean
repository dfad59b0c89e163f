/-! the reference on a new object -/
def isMo (D : va_G) (μ : zM) (M : Nat) : Prop := μ M = some (.inr (7, [zi 0, .ref (M + 1), .ref (M + 10), .ref (M + 11), zi 1, zi 0, .ref (M + 12), .ref (M + 13)])) ∧ μ (M + 1) = some (zAB D 8 (fun k => if k < 8 then some (M + 2 + k) else none)) ∧ (∀ k, k < 8 → μ (M + 2 + k) = some (zAZ D 4096 zIz)) ∧ μ (M + 10) = some (zAI D 61 zIz) ∧ μ (M + 11) = some (zAI D 61 zIz) ∧ μ (M + 12) = some (zAI D 13 zIz) ∧ μ (M + 13) = some (zAB D 13 (fun _ => none))
section MO
variable {D : va_G} {μ : zM} {M : Nat}
theorem isMo.obj (h : isMo D μ M) : μ M = some (.inr (7, [zi 0, .ref (M + 1), .ref (M + 10), .ref (M + 11), zi 1, zi 0, .ref (M + 12), .ref (M + 13)])) := h.1
theorem isMo.rows (h : isMo D μ M) : μ (M + 1) = some (zAB D 8 (fun k => if k < 8 then some (M + 2 + k) else none)) := h.2.1
theorem isMo.row (h : isMo D μ M) {r : Int} (hr : 0 ≤ r ∧ r < 8) : μ (M + 2 + r.toNat) = some (zAZ D 4096 zIz) := h.2.2.1 _ (by omega)
theorem isMo.px (h : isMo D μ M) : μ (M + 10) = some (zAI D 61 zIz) := h.2.2.2.1
theorem isMo.py (h : isMo D μ M) : μ (M + 11) = some (zAI D 61 zIz) := h.2.2.2.2.1
theorem isMo.kr (h : isMo D μ M) : μ (M + 12) = some (zAI D 13 zIz) := h.2.2.2.2.2.1
theorem isMo.kf (h : isMo D μ M) : μ (M + 13) = some (zAB D 13 (fun _ => none)) := h.2.2.2.2.2.2
/-- what has been known outside the block of the reference stays -/
def zN (M : Nat) (μ u : zM) : Prop := ∀ (q : Nat) (e : va_E), μ q = some e → ¬ zb M 14 q → u q = some e
theorem zN.rf : zN M μ μ := fun _ _ h _ => h
theorem zN.tr {ν u : zM} (h : zN M μ ν) (h2 : zN M ν u) : zN M μ u := fun q e hq hb => h2 q e (h q e hq hb) hb
theorem zN.put {u : zM} {a : Nat} {x : va_E} (h : zN M μ u) (ha : zb M 14 a) : zN M μ (zu u a x) := fun q e hq hb => (zu_n (fun e9 => hb (by rw [e9]; exact ha))).trans (h q e hq hb)
theorem zN.own {u : zM} {a : Nat} {x : va_E} (h : zN M μ u) (ha : ∀ (b : Nat) (e : va_E), μ b = some e → b < a) : zN M μ (zu u a x) := fun q e hq hb => (zu_n (by have := ha q e hq; omega)).trans (h q e hq hb)
theorem isMo.row_eq {r : Int} (hr : 0 ≤ r ∧ r < 8) : (fun k => if k < 8 then some (M + 2 + k) else none) r.toNat = some (M + 2 + r.toNat) := by
  show (if r.toNat < 8 then _ else _) = _
  rw [if_pos (by omega)]
end MO
/-- what the caller of the reference sees afterwards: the number of what was thrown -/
def zMP (M : Nat) (μ : zM) (t : Int) (u : zM) : Prop := (∃ fs, u M = some (.inr (7, zi t :: fs))) ∧ zN M μ u
theorem zMP.of {M : Nat} {μ u : zM} {t : Int} {fs : List Value} (h : u M = some (.inr (7, zi t :: fs))) (h2 : zN M μ u) : zMP M μ t u := ⟨⟨fs, h⟩, h2⟩
theorem z_same {X : zX} {μ : zM} {kc kn pc a : Nat} {e : va_E} {L : List (Option Value)} {st : List Value} (h : μ a = some e) (k : Z X μ kc kn pc L st) : Z X (zu μ a e) kc kn pc L st := by
  rw [zu_i h]
  exact k
set_option maxRecDepth 100000 in
set_option maxHeartbeats 4000000 in
theorem m_isIn {l : Launch} {D : va_G} {N0 : Nat} {μ : zM} {x a b : Int} (hx : zir x) (ha : zir a) (hb : zir b) : zMet l yX7_isIn cX7_isIn 3 (some .boolean) ({ frames := 0, cells := 0, slots := 0, locals := 0 } : Room) D N0 [zi x, zi a, zi b] μ (zQI D N0 (fun z u => (z = 1 ∧ (a ≤ x ∧ x ≤ b) ∨ z = 0 ∧ ¬ (a ≤ x ∧ x ≤ b)) ∧ u = μ)) := by
  refine zMet_of rfl (Nat.le_of_ble_eq_true rfl) (fun X C Rm hin E => ?_)
  unfold zir at ha hx hb
  refine z_iload_n C dX7_isIn_0 rfl ?_
  refine z_iload_n C dX7_isIn_1 rfl ?_
  refine z_icmp_lt (tgt := 14) C dX7_isIn_2 (by decide) (fun h1 => ?_) (fun h1 => ?_)
  · refine z_iconst C dX7_isIn_14 ?_
    exact z_zret C E (Or.inl rfl) dX7_isIn_15 (Nat.le_of_ble_eq_true rfl) (Nat.le_of_ble_eq_true rfl) ⟨Or.inr ⟨rfl, by omega⟩, rfl⟩
  · refine z_iload_n C dX7_isIn_5 rfl ?_
    refine z_iload_n C dX7_isIn_6 rfl ?_
    refine z_icmp_gt (tgt := 14) C dX7_isIn_7 (by decide) (fun h2 => ?_) (fun h2 => ?_)
    · refine z_iconst C dX7_isIn_14 ?_
      exact z_zret C E (Or.inl rfl) dX7_isIn_15 (Nat.le_of_ble_eq_true rfl) (Nat.le_of_ble_eq_true rfl) ⟨Or.inr ⟨rfl, by omega⟩, rfl⟩
    · refine z_iconst C dX7_isIn_10 ?_
      refine z_goto (tgt := 15) C dX7_isIn_11 (by decide) ?_
      exact z_zret C E (Or.inr rfl) dX7_isIn_15 (Nat.le_of_ble_eq_true rfl) (Nat.le_of_ble_eq_true rfl) ⟨Or.inl ⟨rfl, by omega⟩, rfl⟩
set_option maxRecDepth 100000 in
set_option maxHeartbeats 4000000 in
theorem m_isField {l : Launch} {D : va_G} {N0 : Nat} {μ : zM} {x y : Int} (hx : zir x) (hy : zir y) : zMet l yX7_isField cX7_isField 2 (some .boolean) ({ frames := 1, cells := 0, slots := 0, locals := 40 } : Room) D N0 [zi x, zi y] μ (zQI D N0 (fun z u => (z = 1 ∧ ((-32 ≤ x ∧ x ≤ 31) ∧ -32 ≤ y ∧ y ≤ 31) ∨ z = 0 ∧ ¬ ((-32 ≤ x ∧ x ≤ 31) ∧ -32 ≤ y ∧ y ≤ 31)) ∧ u = μ)) := by
  refine zMet_of rfl (Nat.le_of_ble_eq_true rfl) (fun X C Rm hin E => ?_)
  refine z_iload_n C dX7_isField_0 rfl ?_
  refine z_bipush C dX7_isField_1 ?_
  refine z_bipush C dX7_isField_3 ?_
  refine z_ci C (z_rS C Rm qs_X7_isIn m_1044 (m_isIn hx (by decide) (by decide)) dX7_isField_5 rfl rfl (Nat.le_of_ble_eq_true rfl) rfl ⟨Nat.le_of_ble_eq_true rfl, Nat.le_of_ble_eq_true rfl, Nat.le_of_ble_eq_true rfl, Nat.le_of_ble_eq_true rfl⟩) (fun z μ1 hp => ?_)
  obtain ⟨hp, rfl⟩ := hp
  refine z_if_eq (tgt := 26) C dX7_isField_8 (by decide) (fun h1 => ?_) (fun h1 => ?_)
  · refine z_iconst C dX7_isField_26 ?_
    exact z_zret C E (Or.inl rfl) dX7_isField_27 (Nat.le_of_ble_eq_true rfl) (Nat.le_of_ble_eq_true rfl) ⟨by omega, rfl⟩
  · refine z_iload_n C dX7_isField_11 rfl ?_
    refine z_bipush C dX7_isField_12 ?_
    refine z_bipush C dX7_isField_14 ?_
    refine z_ci C (z_rS C Rm qs_X7_isIn m_1044 (m_isIn hy (by decide) (by decide)) dX7_isField_16 rfl rfl (Nat.le_of_ble_eq_true rfl) rfl ⟨Nat.le_of_ble_eq_true rfl, Nat.le_of_ble_eq_true rfl, Nat.le_of_ble_eq_true rfl, Nat.le_of_ble_eq_true rfl⟩) (fun z μ1 hq => ?_)
    obtain ⟨hq, rfl⟩ := hq
    refine z_if_eq (tgt := 26) C dX7_isField_19 (by decide) (fun h2 => ?_) (fun h2 => ?_)
    · refine z_iconst C dX7_isField_26 ?_
      exact z_zret C E (Or.inl rfl) dX7_isField_27 (Nat.le_of_ble_eq_true rfl) (Nat.le_of_ble_eq_true rfl) ⟨by omega, rfl⟩
    · refine z_iconst C dX7_isField_22 ?_
      refine z_goto (tgt := 27) C dX7_isField_23 (by decide) ?_
      exact z_zret C E (Or.inr rfl) dX7_isField_27 (Nat.le_of_ble_eq_true rfl) (Nat.le_of_ble_eq_true rfl) ⟨by omega, rfl⟩
set_option maxRecDepth 100000 in
set_option maxHeartbeats 4000000 in
theorem m_at {l : Launch} {D : va_G} {N0 : Nat} {μ : zM} {x y : Int} : zMet l yX7_at cX7_at 2 (some .int) ({ frames := 0, cells := 0, slots := 0, locals := 0 } : Room) D N0 [zi x, zi y] μ (zQI D N0 (fun z u => z = (y + 32) * 64 + x + 32 ∧ u = μ)) := by
  refine zMet_of rfl (Nat.le_of_ble_eq_true rfl) (fun X C Rm hin E => ?_)
  refine z_iload_n C dX7_at_0 rfl ?_
  refine z_bipush C dX7_at_1 ?_
  refine z_isub C dX7_at_3 ?_
  refine z_bipush C dX7_at_4 ?_
  refine z_imul C dX7_at_6 ?_
  refine z_iload_n C dX7_at_7 rfl ?_
  refine z_iadd C dX7_at_8 ?_
  refine z_bipush C dX7_at_9 ?_
  refine z_isub C dX7_at_11 ?_
  exact z_iret C E dX7_at_12 (Nat.le_of_ble_eq_true rfl) (Nat.le_of_ble_eq_true rfl) ⟨by omega, rfl⟩
set_option maxRecDepth 100000 in
set_option maxHeartbeats 4000000 in
theorem m_has0 {l : Launch} {D : va_G} {N0 : Nat} {a : Nat} {μ : zM} {x y : Int} (hA : μ a = some (zAZ D 4096 zIz)) (hx : zir x) (hy : zir y) : zMet l yX7_has cX7_has 3 (some .boolean) ({ frames := 2, cells := 0, slots := 0, locals := 80 } : Room) D N0 [.ref a, zi x, zi y] μ (zQI D N0 (fun z u => z = 0 ∧ u = μ)) := by
  refine zMet_of rfl (Nat.le_of_ble_eq_true rfl) (fun X C Rm hin E => ?_)
  refine z_iload_n C dX7_has_0 rfl ?_
  refine z_iload_n C dX7_has_1 rfl ?_
  refine z_ci C (z_rS C Rm qs_X7_isField m_1104 (m_isField hx hy) dX7_has_2 rfl rfl (Nat.le_of_ble_eq_true rfl) rfl ⟨Nat.le_of_ble_eq_true rfl, Nat.le_of_ble_eq_true rfl, Nat.le_of_ble_eq_true rfl, Nat.le_of_ble_eq_true rfl⟩) (fun z μ1 hp => ?_)
  obtain ⟨hp, rfl⟩ := hp
  refine z_if_eq (tgt := 22) C dX7_has_5 (by decide) (fun h1 => ?_) (fun h1 => ?_)
  · refine z_iconst C dX7_has_22 ?_
    exact z_zret C E (Or.inl rfl) dX7_has_23 (Nat.le_of_ble_eq_true rfl) (Nat.le_of_ble_eq_true rfl) ⟨rfl, rfl⟩
  · refine z_aload_n C dX7_has_8 rfl ?_
    refine z_iload_n C dX7_has_9 rfl ?_
    refine z_iload_n C dX7_has_10 rfl ?_
    refine z_ci C (z_rS C Rm qs_X7_at m_1075 (m_at (x := x) (y := y)) dX7_has_11 rfl rfl (Nat.le_of_ble_eq_true rfl) rfl ⟨Nat.le_of_ble_eq_true rfl, Nat.le_of_ble_eq_true rfl, Nat.le_of_ble_eq_true rfl, Nat.le_of_ble_eq_true rfl⟩) (fun z μ1 hq => ?_)
    obtain ⟨rfl, rfl⟩ := hq
    refine z_zald C hA (by decide) dX7_has_14 ?_
    rw [show zIz ((y + 32) * 64 + x + 32).toNat = 0 from rfl]
    refine z_if_eq (tgt := 22) C dX7_has_15 (by decide) (fun _ => ?_) (fun hno => absurd hno (fun h => h rfl))
    refine z_iconst C dX7_has_22 ?_
    exact z_zret C E (Or.inl rfl) dX7_has_23 (Nat.le_of_ble_eq_true rfl) (Nat.le_of_ble_eq_true rfl) ⟨rfl, rfl⟩
def cntZ (g : Nat → Int) : Nat → Int
  | 0 => 0
  | n + 1 => cntZ g n + (if g n = 0 then 0 else 1)
theorem cntZ_b (g : Nat → Int) : ∀ n : Nat, 0 ≤ cntZ g n ∧ cntZ g n ≤ n
  | 0 => ⟨Int.le_refl _, Int.le_refl _⟩
  | n + 1 => by
    have h := cntZ_b g n
    unfold cntZ
    by_cases h0 : g n = 0
    · rw [if_pos h0]; omega
    · rw [if_neg h0]; omega
theorem cntZ_z (n : Nat) : cntZ zIz n = 0 := by
  induction n with
  | zero => rfl
  | succ n ih => unfold cntZ; rw [ih, if_pos (show zIz n = 0 from rfl)]; rfl
set_option maxRecDepth 100000 in
set_option maxHeartbeats 4000000 in
theorem m_area {l : Launch} {D : va_G} {N0 : Nat} {a : Nat} {g : Nat → Int} {μ : zM} (hA : μ a = some (zAZ D 4096 g)) (hg : ∀ i, g i = 0 ∨ g i = 1) : zMet l yX7_areaOf cX7_areaOf 6 (some .int) ({ frames := 0, cells := 0, slots := 0, locals := 0 } : Room) D N0 [.ref a] μ (zQI D N0 (fun z u => z = cntZ g 4096 ∧ u = μ)) := by
  refine zMet_of rfl (Nat.le_of_ble_eq_true rfl) (fun X C Rm hin E => ?_)
  have loop : ∀ (n i : Nat) (k s : Int) (L5 : Option Value), i + n = 4096 → k = (i : Int) → s = cntZ g i → Z X μ 0 0 10 [some (.ref a), some (zi s), some (.ref a), some (zi 4096), some (zi k), L5] [] := by
    intro n
    induction n with
    | zero =>
      intro i k s L5 hn hk hs
      refine z_iload C dX7_areaOf_10 rfl ?_
      refine z_iload_n C dX7_areaOf_12 rfl ?_
      refine z_icmp_ge (tgt := 41) C dX7_areaOf_13 (by decide) (fun _ => ?_) (fun hno => absurd hno (by omega))
      refine z_iload_n C dX7_areaOf_41 rfl ?_
      exact z_iret C E dX7_areaOf_42 (Nat.le_of_ble_eq_true rfl) (Nat.le_of_ble_eq_true rfl) ⟨by rw [hs, show i = 4096 by omega], rfl⟩
    | succ n ih =>
      intro i k s L5 hn hk hs
      have hb := cntZ_b g i
      have hgi := hg i
      have e9 : k.toNat = i := by omega
      refine z_iload C dX7_areaOf_10 rfl ?_
      refine z_iload_n C dX7_areaOf_12 rfl ?_
      refine z_icmp_ge (tgt := 41) C dX7_areaOf_13 (by decide) (fun hno => absurd hno (by omega)) (fun _ => ?_)
      refine z_aload_n C dX7_areaOf_16 rfl ?_
      refine z_iload C dX7_areaOf_17 rfl ?_
      refine z_zald C hA (by decide) dX7_areaOf_19 ?_
      refine z_istore (L' := [_, _, _, _, _, _]) C dX7_areaOf_20 rfl ?_
      refine z_iload_n C dX7_areaOf_22 rfl ?_
      refine z_iload C dX7_areaOf_23 rfl ?_
      rw [e9]
      refine z_if_eq (tgt := 32) C dX7_areaOf_25 (by decide) (fun h5 => ?_) (fun h5 => ?_)
      · refine z_iconst C dX7_areaOf_32 ?_
        refine z_iadd C dX7_areaOf_33 ?_
        refine z_istore_n (L' := [_, _, _, _, _, _]) C dX7_areaOf_34 rfl ?_
        refine z_iinc (L' := [_, _, _, _, _, _]) C dX7_areaOf_35 rfl rfl ?_
        refine z_goto (tgt := 10) C dX7_areaOf_38 (by decide) ?_
        exact ih (i + 1) (k + 1) _ _ (by omega) (by omega) (by rw [hs]; show _ = cntZ g i + _; rw [if_pos h5])
      · refine z_iconst C dX7_areaOf_28 ?_
        refine z_goto (tgt := 33) C dX7_areaOf_29 (by decide) ?_
        refine z_iadd C dX7_areaOf_33 ?_
        refine z_istore_n (L' := [_, _, _, _, _, _]) C dX7_areaOf_34 rfl ?_
        refine z_iinc (L' := [_, _, _, _, _, _]) C dX7_areaOf_35 rfl rfl ?_
        refine z_goto (tgt := 10) C dX7_areaOf_38 (by decide) ?_
        exact ih (i + 1) (k + 1) _ _ (by omega) (by omega) (by rw [hs]; show _ = cntZ g i + _; rw [if_neg h5])
  refine z_iconst C dX7_areaOf_0 ?_
  refine z_istore_n (L' := [_, _, _, _, _, _]) C dX7_areaOf_1 rfl ?_
  refine z_aload_n C dX7_areaOf_2 rfl ?_
  refine z_astore_n (L' := [_, _, _, _, _, _]) C dX7_areaOf_3 rfl ?_
  refine z_aload_n C dX7_areaOf_4 rfl ?_
  refine z_alen C hA 2 rfl dX7_areaOf_5 ?_
  refine z_istore_n (L' := [_, _, _, _, _, _]) C dX7_areaOf_6 rfl ?_
  refine z_iconst C dX7_areaOf_7 ?_
  refine z_istore (L' := [_, _, _, _, _, _]) C dX7_areaOf_8 rfl ?_
  exact loop 4096 0 0 0 _ (by omega) rfl rfl
abbrev zIn24 (x : Int) : Prop := -24 ≤ x ∧ x ≤ 24
