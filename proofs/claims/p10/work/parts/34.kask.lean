-- ---- asking
set_option maxRecDepth 100000 in
set_option maxHeartbeats 4000000 in
theorem k_boundOf0 {l : Launch} {D : va_G} {N0 : Nat} {o : Nat} {s : Int} {μ : zM} (hF : isF D μ o zF) (hs : 0 ≤ s ∧ s ≤ 3) : zMet l yX6_boundOf cX6_boundOf 2 (some .int) ({ frames := 3, cells := 0, slots := 0, locals := 120 } : Room) D N0 [.ref o, zi s] μ (zQI D N0 (fun z u => z = 0 ∧ u = μ)) := by
  refine zMet_of rfl (Nat.le_of_ble_eq_true rfl) (fun X C Rm hin E => ?_)
  rcases (by omega : s = 0 ∨ s = 1 ∨ s = 2 ∨ s = 3) with rfl | rfl | rfl | rfl
  · refine z_iload_n C dX6_boundOf_0 rfl ?_
    refine z_tableIn (tgt := 28) C dX6_boundOf_1 (by decide) (by decide) rfl (by decide) ?_
    refine z_aload_n C dX6_boundOf_28 rfl ?_
    refine z_ci C (z_rV C Rm qv_X0_leastX m_371 (c_leastX0 hF) hF.1 rfl dX6_boundOf_29 rfl rfl (Nat.le_of_ble_eq_true rfl) rfl ⟨Nat.le_of_ble_eq_true rfl, Nat.le_of_ble_eq_true rfl, Nat.le_of_ble_eq_true rfl, Nat.le_of_ble_eq_true rfl⟩) (fun z μ1 hp => ?_)
    exact z_iret C E dX6_boundOf_32 (Nat.le_of_ble_eq_true rfl) (Nat.le_of_ble_eq_true rfl) hp
  · refine z_iload_n C dX6_boundOf_0 rfl ?_
    refine z_tableIn (tgt := 33) C dX6_boundOf_1 (by decide) (by decide) rfl (by decide) ?_
    refine z_aload_n C dX6_boundOf_33 rfl ?_
    refine z_ci C (z_rV C Rm qv_X0_leastY m_380 (c_leastY0 hF) hF.1 rfl dX6_boundOf_34 rfl rfl (Nat.le_of_ble_eq_true rfl) rfl ⟨Nat.le_of_ble_eq_true rfl, Nat.le_of_ble_eq_true rfl, Nat.le_of_ble_eq_true rfl, Nat.le_of_ble_eq_true rfl⟩) (fun z μ1 hp => ?_)
    exact z_iret C E dX6_boundOf_37 (Nat.le_of_ble_eq_true rfl) (Nat.le_of_ble_eq_true rfl) hp
  · refine z_iload_n C dX6_boundOf_0 rfl ?_
    refine z_tableIn (tgt := 38) C dX6_boundOf_1 (by decide) (by decide) rfl (by decide) ?_
    refine z_aload_n C dX6_boundOf_38 rfl ?_
    refine z_ci C (z_rV C Rm qv_X0_greatestX m_384 (c_greatestX0 hF) hF.1 rfl dX6_boundOf_39 rfl rfl (Nat.le_of_ble_eq_true rfl) rfl ⟨Nat.le_of_ble_eq_true rfl, Nat.le_of_ble_eq_true rfl, Nat.le_of_ble_eq_true rfl, Nat.le_of_ble_eq_true rfl⟩) (fun z μ1 hp => ?_)
    exact z_iret C E dX6_boundOf_42 (Nat.le_of_ble_eq_true rfl) (Nat.le_of_ble_eq_true rfl) hp
  · refine z_iload_n C dX6_boundOf_0 rfl ?_
    refine z_tableOut (tgt := 43) C dX6_boundOf_1 (by omega) (by decide) ?_
    refine z_aload_n C dX6_boundOf_43 rfl ?_
    refine z_ci C (z_rV C Rm qv_X0_greatestY m_389 (c_greatestY0 hF) hF.1 rfl dX6_boundOf_44 rfl rfl (Nat.le_of_ble_eq_true rfl) rfl ⟨Nat.le_of_ble_eq_true rfl, Nat.le_of_ble_eq_true rfl, Nat.le_of_ble_eq_true rfl, Nat.le_of_ble_eq_true rfl⟩) (fun z μ1 hp => ?_)
    exact z_iret C E dX6_boundOf_47 (Nat.le_of_ble_eq_true rfl) (Nat.le_of_ble_eq_true rfl) hp
