set_option maxRecDepth 100000 in
set_option maxHeartbeats 4000000 in
theorem m_edgesNow {l : Launch} {D : va_G} {N0 : Nat} {M : Nat} {μ : zM} (hM1 : isMo D μ M) {r : Int} (h8 : 0 ≤ r ∧ r < 8) : zMet l yX7_edgesNow cX7_edgesNow 5 (some .int) ({ frames := 2, cells := 0, slots := 0, locals := 80 } : Room) D N0 [.ref M, zi r] μ (zQI D N0 (fun z u => z = 0 ∧ u = μ)) := by
  refine zMet_of rfl (Nat.le_of_ble_eq_true rfl) (fun X C Rm hin E => ?_)
  refine z_iconst C dX7_edgesNow_0 ?_
  refine z_istore_n (L' := [_, _, _, _, _]) C dX7_edgesNow_1 rfl ?_
  refine z_bipush C dX7_edgesNow_2 ?_
  refine z_istore_n (L' := [_, _, _, _, _]) C dX7_edgesNow_4 rfl ?_
  have grid : ∀ (n : Nat) (x : Int) (Ly : Option Value), x + n = 32 → -32 ≤ x → Z X μ 0 0 5 [some (.ref M), some (zi r), some (zi 0), some (zi x), Ly] [] := by
    intro n
    induction n with
    | zero =>
      intro x Ly hn h0
      refine z_iload_n C dX7_edgesNow_5 rfl ?_
      refine z_bipush C dX7_edgesNow_6 ?_
      refine z_icmp_gt (tgt := 153) C dX7_edgesNow_8 (by decide) (fun _ => ?_) (fun hno => absurd hno (by omega))
      refine z_iload_n C dX7_edgesNow_153 rfl ?_
      exact z_iret C E dX7_edgesNow_154 (Nat.le_of_ble_eq_true rfl) (Nat.le_of_ble_eq_true rfl) ⟨rfl, rfl⟩
    | succ n ih =>
      intro x Ly hn h0
      have row : ∀ (j : Nat) (y : Int), y + j = 32 → -32 ≤ y → Z X μ 0 0 15 [some (.ref M), some (zi r), some (zi 0), some (zi x), some (zi y)] [] := by
        intro j
        induction j with
        | zero =>
          intro y hj hy
          refine z_iload C dX7_edgesNow_15 rfl ?_
          refine z_bipush C dX7_edgesNow_17 ?_
          refine z_icmp_gt (tgt := 147) C dX7_edgesNow_19 (by decide) (fun _ => ?_) (fun hno => absurd hno (by omega))
          refine z_iinc (L' := [_, _, _, _, _]) C dX7_edgesNow_147 rfl rfl ?_
          refine z_goto (tgt := 5) C dX7_edgesNow_150 (by decide) ?_
          exact ih (x + 1) _ (by omega) (by omega)
        | succ j ih2 =>
          intro y hj hy
          refine z_iload C dX7_edgesNow_15 rfl ?_
          refine z_bipush C dX7_edgesNow_17 ?_
          refine z_icmp_gt (tgt := 147) C dX7_edgesNow_19 (by decide) (fun hno => absurd hno (by omega)) (fun _ => ?_)
          refine z_aload_n C dX7_edgesNow_22 rfl ?_
          refine z_get C hM1.obj rfl 1 (by decide) m_1011 inz7 rfl rfl dX7_edgesNow_23 ?_
          refine z_iload_n C dX7_edgesNow_26 rfl ?_
          refine z_bald C hM1.rows (by decide) (isMo.row_eq h8) dX7_edgesNow_27 ?_
          refine z_iload_n C dX7_edgesNow_28 rfl ?_
          refine z_iload C dX7_edgesNow_29 rfl ?_
          refine z_ci C (z_rS C Rm qs_X7_at m_1075 (m_at (x := x) (y := y)) dX7_edgesNow_31 rfl rfl (Nat.le_of_ble_eq_true rfl) rfl ⟨Nat.le_of_ble_eq_true rfl, Nat.le_of_ble_eq_true rfl, Nat.le_of_ble_eq_true rfl, Nat.le_of_ble_eq_true rfl⟩) (fun z μ5 hq5 => ?_)
          obtain ⟨rfl, rfl⟩ := hq5
          refine z_zald C (hM1.row h8) (by decide) dX7_edgesNow_34 ?_
          rw [show zIz ((y + 32) * 64 + x + 32).toNat = 0 from rfl]
          refine z_if_ne (tgt := 41) C dX7_edgesNow_35 (by decide) (fun hno => absurd hno (fun h => h rfl)) (fun _ => ?_)
          refine z_goto (tgt := 141) C dX7_edgesNow_38 (by decide) ?_
          refine z_iinc (L' := [_, _, _, _, _]) C dX7_edgesNow_141 rfl rfl ?_
          refine z_goto (tgt := 15) C dX7_edgesNow_144 (by decide) ?_
          exact ih2 (y + 1) (by omega) (by omega)
      refine z_iload_n C dX7_edgesNow_5 rfl ?_
      refine z_bipush C dX7_edgesNow_6 ?_
      refine z_icmp_gt (tgt := 153) C dX7_edgesNow_8 (by decide) (fun hno => absurd hno (by omega)) (fun _ => ?_)
      refine z_bipush C dX7_edgesNow_11 ?_
      refine z_istore (L' := [_, _, _, _, _]) C dX7_edgesNow_13 rfl ?_
      exact row 64 (-32) (by omega) (by omega)
  exact grid 64 (-32) _ (by omega) (by omega)
set_option maxRecDepth 100000 in
set_option maxHeartbeats 4000000 in
theorem m_boundNow {l : Launch} {D : va_G} {N0 : Nat} {M : Nat} {μ : zM} (hM1 : isMo D μ M) {r s : Int} (h8 : 0 ≤ r ∧ r < 8) : zMet l yX7_boundNow cX7_boundNow 8 (some .int) ({ frames := 2, cells := 0, slots := 0, locals := 80 } : Room) D N0 [.ref M, zi r, zi s] μ (zQI D N0 (fun z u => z = 0 ∧ u = μ)) := by
  refine zMet_of rfl (Nat.le_of_ble_eq_true rfl) (fun X C Rm hin E => ?_)
  refine z_iconst C dX7_boundNow_0 ?_
  refine z_istore_n (L' := [_, _, _, _, _, _, _, _]) C dX7_boundNow_1 rfl ?_
  refine z_iconst C dX7_boundNow_2 ?_
  refine z_istore (L' := [_, _, _, _, _, _, _, _]) C dX7_boundNow_3 rfl ?_
  refine z_bipush C dX7_boundNow_5 ?_
  refine z_istore (L' := [_, _, _, _, _, _, _, _]) C dX7_boundNow_7 rfl ?_
  have grid : ∀ (n : Nat) (x : Int) (Ly : Option Value), x + n = 32 → -32 ≤ x → Z X μ 0 0 9 [some (.ref M), some (zi r), some (zi s), some (zi 0), some (zi 0), some (zi x), Ly, none] [] := by
    intro n
    induction n with
    | zero =>
      intro x Ly hn h0
      refine z_iload C dX7_boundNow_9 rfl ?_
      refine z_bipush C dX7_boundNow_11 ?_
      refine z_icmp_gt (tgt := 105) C dX7_boundNow_13 (by decide) (fun _ => ?_) (fun hno => absurd hno (by omega))
      refine z_iload_n C dX7_boundNow_105 rfl ?_
      exact z_iret C E dX7_boundNow_106 (Nat.le_of_ble_eq_true rfl) (Nat.le_of_ble_eq_true rfl) ⟨rfl, rfl⟩
    | succ n ih =>
      intro x Ly hn h0
      have row : ∀ (j : Nat) (y : Int), y + j = 32 → -32 ≤ y → Z X μ 0 0 20 [some (.ref M), some (zi r), some (zi s), some (zi 0), some (zi 0), some (zi x), some (zi y), none] [] := by
        intro j
        induction j with
        | zero =>
          intro y hj hy
          refine z_iload C dX7_boundNow_20 rfl ?_
          refine z_bipush C dX7_boundNow_22 ?_
          refine z_icmp_gt (tgt := 99) C dX7_boundNow_24 (by decide) (fun _ => ?_) (fun hno => absurd hno (by omega))
          refine z_iinc (L' := [_, _, _, _, _, _, _, _]) C dX7_boundNow_99 rfl rfl ?_
          refine z_goto (tgt := 9) C dX7_boundNow_102 (by decide) ?_
          exact ih (x + 1) _ (by omega) (by omega)
        | succ j ih2 =>
          intro y hj hy
          refine z_iload C dX7_boundNow_20 rfl ?_
          refine z_bipush C dX7_boundNow_22 ?_
          refine z_icmp_gt (tgt := 99) C dX7_boundNow_24 (by decide) (fun hno => absurd hno (by omega)) (fun _ => ?_)
          refine z_aload_n C dX7_boundNow_27 rfl ?_
          refine z_get C hM1.obj rfl 1 (by decide) m_1011 inz7 rfl rfl dX7_boundNow_28 ?_
          refine z_iload_n C dX7_boundNow_31 rfl ?_
          refine z_bald C hM1.rows (by decide) (isMo.row_eq h8) dX7_boundNow_32 ?_
          refine z_iload C dX7_boundNow_33 rfl ?_
          refine z_iload C dX7_boundNow_35 rfl ?_
          refine z_ci C (z_rS C Rm qs_X7_at m_1075 (m_at (x := x) (y := y)) dX7_boundNow_37 rfl rfl (Nat.le_of_ble_eq_true rfl) rfl ⟨Nat.le_of_ble_eq_true rfl, Nat.le_of_ble_eq_true rfl, Nat.le_of_ble_eq_true rfl, Nat.le_of_ble_eq_true rfl⟩) (fun z μ5 hq5 => ?_)
          obtain ⟨rfl, rfl⟩ := hq5
          refine z_zald C (hM1.row h8) (by decide) dX7_boundNow_40 ?_
          rw [show zIz ((y + 32) * 64 + x + 32).toNat = 0 from rfl]
          refine z_if_ne (tgt := 47) C dX7_boundNow_41 (by decide) (fun hno => absurd hno (fun h => h rfl)) (fun _ => ?_)
          refine z_goto (tgt := 93) C dX7_boundNow_44 (by decide) ?_
          refine z_iinc (L' := [_, _, _, _, _, _, _, _]) C dX7_boundNow_93 rfl rfl ?_
          refine z_goto (tgt := 20) C dX7_boundNow_96 (by decide) ?_
          exact ih2 (y + 1) (by omega) (by omega)
      refine z_iload C dX7_boundNow_9 rfl ?_
      refine z_bipush C dX7_boundNow_11 ?_
      refine z_icmp_gt (tgt := 105) C dX7_boundNow_13 (by decide) (fun hno => absurd hno (by omega)) (fun _ => ?_)
      refine z_bipush C dX7_boundNow_16 ?_
      refine z_istore (L' := [_, _, _, _, _, _, _, _]) C dX7_boundNow_18 rfl ?_
      exact row 64 (-32) (by omega) (by omega)
  exact grid 64 (-32) _ (by omega) (by omega)
