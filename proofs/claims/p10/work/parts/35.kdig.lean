-- ---- the digest
def zmix (d v : Int64) : Int64 := d * 31 + v
def zmz (d : Int64) : Int64 := zmix d (Int32.ofInt 0).toInt64
def zmz10 (d : Int64) : Int64 := zmz (zmz (zmz (zmz (zmz (zmz (zmz (zmz (zmz (zmz d)))))))))
def zdg : Nat → Int64
  | 0 => zmix 2543 (Int32.ofInt 1).toInt64
  | n + 1 => zmz10 (zdg n)
abbrev zKobj (K : Nat) : Option va_E := some (.inr (6, [.ref (K + 1), .ref (K + 2), .ref (K + 4), .ref (K + 8), .ref (K + 35), .ref (K + 40), .ref (K + 47)]))
set_option maxRecDepth 100000 in
set_option maxHeartbeats 4000000 in
theorem k_mixed {l : Launch} {D : va_G} {N0 : Nat} {μ : zM} {d v : Int64} : zMet l yX6_mixed cX6_mixed 4 (some .long) ({ frames := 0, cells := 0, slots := 0, locals := 0 } : Room) D N0 [.long d, .long v] μ (zQL D N0 (fun z u => z = zmix d v ∧ u = μ)) := by
  refine zMet_of rfl (Nat.le_of_ble_eq_true rfl) (fun X C Rm hin E => ?_)
  refine z_lload_n C dX6_mixed_0 rfl ?_
  refine z_ldc2 C m_289 dX6_mixed_1 ?_
  refine z_lmul C dX6_mixed_4 ?_
  refine z_lload_n C dX6_mixed_5 rfl ?_
  refine z_ladd C dX6_mixed_6 ?_
  exact z_lret C E dX6_mixed_7 (Nat.le_of_ble_eq_true rfl) (Nat.le_of_ble_eq_true rfl) ⟨rfl, rfl⟩
theorem k_mixz {l : Launch} {D : va_G} {N0 : Nat} {μ : zM} {d : Int64} : zMet l yX6_mixed cX6_mixed 4 (some .long) ({ frames := 0, cells := 0, slots := 0, locals := 0 } : Room) D N0 [.long d, .long (Int32.ofInt 0).toInt64] μ (zQL D N0 (fun z u => z = zmz d ∧ u = μ)) := k_mixed
set_option maxRecDepth 100000 in
set_option maxHeartbeats 4000000 in
theorem k_dCont {l : Launch} {D : va_G} {N0 : Nat} {K o : Nat} {d : Int64} {fy wt : Int} {μ : zM} (hob : μ K = zKobj K) (hA : isOu D μ (K + 40) fy wt) (hF : isF D μ o zF) (hne : o ≠ K + 40 + 1) : zMet l yX6_digestOfContours cX6_digestOfContours 7 (some .long) ({ frames := 3, cells := 0, slots := 0, locals := 120 } : Room) D N0 [.ref K, .long d, .ref o] μ (zQL D N0 (fun z u => z = d ∧ isOu D u (K + 40) 32 0 ∧ zO (fun q => q = K + 40) μ u)) := by
  refine zMet_of rfl (Nat.le_of_ble_eq_true rfl) (fun X C Rm hin E => ?_)
  refine z_lload_n C dX6_digestOfContours_0 rfl ?_
  refine z_lstore (L' := [_, _, _, _, _, _, _]) C dX6_digestOfContours_1 rfl ?_
  refine z_aload_n C dX6_digestOfContours_3 rfl ?_
  refine z_get C hob rfl 5 (by decide) m_228 inz6 rfl rfl dX6_digestOfContours_4 ?_
  refine z_aload_n C dX6_digestOfContours_7 rfl ?_
  refine z_cv C (z_rV C Rm qv_X3_begin m_440 (c_obegin hA hF hne) hA.1 rfl dX6_digestOfContours_8 rfl rfl (Nat.le_of_ble_eq_true rfl) rfl ⟨Nat.le_of_ble_eq_true rfl, Nat.le_of_ble_eq_true rfl, Nat.le_of_ble_eq_true rfl, Nat.le_of_ble_eq_true rfl⟩) (fun μ1 hp => ?_)
  have hob1 := hp.2.at (by omega) hob
  refine z_iconst C dX6_digestOfContours_11 ?_
  refine z_istore (L' := [_, _, _, _, _, _, _]) C dX6_digestOfContours_12 rfl ?_
  refine z_iload C dX6_digestOfContours_14 rfl ?_
  refine z_sipush C dX6_digestOfContours_16 ?_
  refine z_icmp_ge (tgt := 99) C dX6_digestOfContours_19 (by decide) (fun hno => absurd hno (by omega)) (fun _ => ?_)
  refine z_aload_n C dX6_digestOfContours_22 rfl ?_
  refine z_get C hob1 rfl 5 (by decide) m_228 inz6 rfl rfl dX6_digestOfContours_23 ?_
  refine z_iconst C dX6_digestOfContours_26 ?_
  refine z_ci C (z_rV C Rm qv_X3_next m_441 (c_onext hp.1 (c := 0) (by omega) (by omega)) hp.1.1 rfl dX6_digestOfContours_27 rfl rfl (Nat.le_of_ble_eq_true rfl) rfl ⟨Nat.le_of_ble_eq_true rfl, Nat.le_of_ble_eq_true rfl, Nat.le_of_ble_eq_true rfl, Nat.le_of_ble_eq_true rfl⟩) (fun z μ2 hq => ?_)
  obtain ⟨rfl, hq, hO⟩ := hq
  refine z_if_eq (tgt := 99) C dX6_digestOfContours_30 (by decide) (fun _ => ?_) (fun hno => absurd hno (by omega))
  refine z_lload C dX6_digestOfContours_99 rfl ?_
  exact z_lret C E dX6_digestOfContours_101 (Nat.le_of_ble_eq_true rfl) (Nat.le_of_ble_eq_true rfl) ⟨rfl, hq, hp.2.tr hO⟩
set_option maxRecDepth 100000 in
set_option maxHeartbeats 4000000 in
theorem k_dStr {l : Launch} {D : va_G} {N0 : Nat} {K o : Nat} {d : Int64} {fy : Int} {μ : zM} (hob : μ K = zKobj K) (hA : isSt D μ (K + 47) fy) (hF : isF D μ o zF) (hne : o ≠ K + 47 + 1) : zMet l yX6_digestOfStrips cX6_digestOfStrips 8 (some .long) ({ frames := 3, cells := 0, slots := 0, locals := 120 } : Room) D N0 [.ref K, .long d, .ref o] μ (zQL D N0 (fun z u => z = d ∧ isSt D u (K + 47) 32 ∧ zO (fun q => q = K + 47) μ u)) := by
  refine zMet_of rfl (Nat.le_of_ble_eq_true rfl) (fun X C Rm hin E => ?_)
  refine z_lload_n C dX6_digestOfStrips_0 rfl ?_
  refine z_lstore (L' := [_, _, _, _, _, _, _, _]) C dX6_digestOfStrips_1 rfl ?_
  refine z_aload_n C dX6_digestOfStrips_3 rfl ?_
  refine z_get C hob rfl 6 (by decide) m_229 inz6 rfl rfl dX6_digestOfStrips_4 ?_
  refine z_aload_n C dX6_digestOfStrips_7 rfl ?_
  refine z_cv C (z_rV C Rm qv_X5_begin m_490 (c_sbegin hA hF hne) hA.1 rfl dX6_digestOfStrips_8 rfl rfl (Nat.le_of_ble_eq_true rfl) rfl ⟨Nat.le_of_ble_eq_true rfl, Nat.le_of_ble_eq_true rfl, Nat.le_of_ble_eq_true rfl, Nat.le_of_ble_eq_true rfl⟩) (fun μ1 hp => ?_)
  have hob1 := hp.2.at (by omega) hob
  refine z_iconst C dX6_digestOfStrips_11 ?_
  refine z_istore (L' := [_, _, _, _, _, _, _, _]) C dX6_digestOfStrips_12 rfl ?_
  refine z_iload C dX6_digestOfStrips_14 rfl ?_
  refine z_sipush C dX6_digestOfStrips_16 ?_
  refine z_icmp_ge (tgt := 70) C dX6_digestOfStrips_19 (by decide) (fun hno => absurd hno (by omega)) (fun _ => ?_)
  refine z_aload_n C dX6_digestOfStrips_22 rfl ?_
  refine z_get C hob1 rfl 6 (by decide) m_229 inz6 rfl rfl dX6_digestOfStrips_23 ?_
  refine z_ci C (z_rV C Rm qv_X5_next m_491 (c_snext hp.1 (by omega)) hp.1.1 rfl dX6_digestOfStrips_26 rfl rfl (Nat.le_of_ble_eq_true rfl) rfl ⟨Nat.le_of_ble_eq_true rfl, Nat.le_of_ble_eq_true rfl, Nat.le_of_ble_eq_true rfl, Nat.le_of_ble_eq_true rfl⟩) (fun z μ2 hq => ?_)
  obtain ⟨rfl, hq, hO⟩ := hq
  refine z_if_eq (tgt := 70) C dX6_digestOfStrips_29 (by decide) (fun _ => ?_) (fun hno => absurd hno (by omega))
  refine z_lload C dX6_digestOfStrips_70 rfl ?_
  exact z_lret C E dX6_digestOfStrips_72 (Nat.le_of_ble_eq_true rfl) (Nat.le_of_ble_eq_true rfl) ⟨rfl, hq, hp.2.tr hO⟩
