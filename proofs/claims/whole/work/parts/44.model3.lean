set_option maxRecDepth 100000 in
set_option maxHeartbeats 4000000 in
theorem m_move {l : Launch} {D : va_G} {N0 : Nat} {M : Nat} {μ : zM} (hM : isMo D μ M) {r : Int} (hr : zir r) {a b : Int} (ha : zir a) (hb : zir b) : zMet l yX7_move cX7_move 7 (some .int) ({ frames := 2, cells := 2, slots := 8192, locals := 80 } : Room) D N0 [.ref M, zi r, zi a, zi b] μ (zQI D N0 (fun z u => ∃ t, (t = 0 ∧ z = 0 ∧ (0 ≤ r ∧ r < 8) ∧ ((-64 ≤ a ∧ a ≤ 64) ∧ -64 ≤ b ∧ b ≤ 64) ∨ t = 1 ∧ ¬ (0 ≤ r ∧ r < 8) ∨ t = 2 ∧ (0 ≤ r ∧ r < 8) ∧ ¬ ((-64 ≤ a ∧ a ≤ 64) ∧ -64 ≤ b ∧ b ≤ 64)) ∧ zMP M μ t u)) := by
  refine zMet_of rfl (Nat.le_of_ble_eq_true rfl) (fun X C Rm hin E => ?_)
  refine z_aload_n C dX7_move_0 rfl ?_
  refine z_iconst C dX7_move_1 ?_
  refine z_put C hM.obj rfl tyX7 tyX7_ok nmX7 0 (by decide) m_1010 inz7 rfl rfl (by rfl) (by rfl) (Nat.le_of_ble_eq_true rfl) dX7_move_2 ?_
  refine z_same hM.obj ?_
  refine z_iload_n C dX7_move_5 rfl ?_
  refine z_ci C (z_rS C Rm qs_X7_isRegion m_1067 (m_isRegion hr) dX7_move_6 rfl rfl (Nat.le_of_ble_eq_true rfl) rfl ⟨Nat.le_of_ble_eq_true rfl, Nat.le_of_ble_eq_true rfl, Nat.le_of_ble_eq_true rfl, Nat.le_of_ble_eq_true rfl⟩) (fun z μ1 hp => ?_)
  obtain ⟨hp, rfl⟩ := hp
  refine z_if_ne (tgt := 18) C dX7_move_9 (by decide) (fun h1 => ?_) (fun h1 => ?_)
  rotate_left
  · refine z_aload_n C dX7_move_12 rfl ?_
    refine z_iconst C dX7_move_13 ?_
    refine z_ci C (z_rV C Rm qv_X7_no m_1047 (m_no hM.obj (k := 1)) hM.obj rfl dX7_move_14 rfl rfl (Nat.le_of_ble_eq_true rfl) rfl ⟨Nat.le_of_ble_eq_true rfl, Nat.le_of_ble_eq_true rfl, Nat.le_of_ble_eq_true rfl, Nat.le_of_ble_eq_true rfl⟩) (fun z2 μ2 hq => ?_)
    obtain ⟨rfl, rfl⟩ := hq
    exact z_iret C E dX7_move_17 (Nat.le_of_ble_eq_true rfl) (Nat.le_of_ble_eq_true rfl) ⟨1, Or.inr (Or.inl ⟨rfl, by omega⟩), zMP.of zu_s (zN.put zN.rf (by unfold zb; omega))⟩
  have h8 : 0 ≤ r ∧ r < 8 := by omega
  refine z_iload_n C dX7_move_18 rfl ?_
  refine z_bipush C dX7_move_19 ?_
  refine z_bipush C dX7_move_21 ?_
  refine z_ci C (z_rS C Rm qs_X7_isIn m_1044 (m_isIn ha (by decide) (by decide)) dX7_move_23 rfl rfl (Nat.le_of_ble_eq_true rfl) rfl ⟨Nat.le_of_ble_eq_true rfl, Nat.le_of_ble_eq_true rfl, Nat.le_of_ble_eq_true rfl, Nat.le_of_ble_eq_true rfl⟩) (fun z1 μ1 hp1 => ?_)
  obtain ⟨hp1, rfl⟩ := hp1
  refine z_if_eq (tgt := 40) C dX7_move_26 (by decide) (fun h2 => ?_) (fun h2 => ?_)
  · refine z_aload_n C dX7_move_40 rfl ?_
    refine z_iconst C dX7_move_41 ?_
    refine z_ci C (z_rV C Rm qv_X7_no m_1047 (m_no hM.obj (k := 2)) hM.obj rfl dX7_move_42 rfl rfl (Nat.le_of_ble_eq_true rfl) rfl ⟨Nat.le_of_ble_eq_true rfl, Nat.le_of_ble_eq_true rfl, Nat.le_of_ble_eq_true rfl, Nat.le_of_ble_eq_true rfl⟩) (fun z2 μ2 hq => ?_)
    obtain ⟨rfl, rfl⟩ := hq
    exact z_iret C E dX7_move_45 (Nat.le_of_ble_eq_true rfl) (Nat.le_of_ble_eq_true rfl) ⟨2, Or.inr (Or.inr ⟨rfl, h8, by omega⟩), zMP.of zu_s (zN.put zN.rf (by unfold zb; omega))⟩
  refine z_iload_n C dX7_move_29 rfl ?_
  refine z_bipush C dX7_move_30 ?_
  refine z_bipush C dX7_move_32 ?_
  refine z_ci C (z_rS C Rm qs_X7_isIn m_1044 (m_isIn hb (by decide) (by decide)) dX7_move_34 rfl rfl (Nat.le_of_ble_eq_true rfl) rfl ⟨Nat.le_of_ble_eq_true rfl, Nat.le_of_ble_eq_true rfl, Nat.le_of_ble_eq_true rfl, Nat.le_of_ble_eq_true rfl⟩) (fun z2 μ1 hp2 => ?_)
  obtain ⟨hp2, rfl⟩ := hp2
  refine z_if_ne (tgt := 46) C dX7_move_37 (by decide) (fun h3 => ?_) (fun h3 => ?_)
  rotate_left
  · refine z_aload_n C dX7_move_40 rfl ?_
    refine z_iconst C dX7_move_41 ?_
    refine z_ci C (z_rV C Rm qv_X7_no m_1047 (m_no hM.obj (k := 2)) hM.obj rfl dX7_move_42 rfl rfl (Nat.le_of_ble_eq_true rfl) rfl ⟨Nat.le_of_ble_eq_true rfl, Nat.le_of_ble_eq_true rfl, Nat.le_of_ble_eq_true rfl, Nat.le_of_ble_eq_true rfl⟩) (fun z2 μ2 hq => ?_)
    obtain ⟨rfl, rfl⟩ := hq
    exact z_iret C E dX7_move_45 (Nat.le_of_ble_eq_true rfl) (Nat.le_of_ble_eq_true rfl) ⟨2, Or.inr (Or.inr ⟨rfl, h8, by omega⟩), zMP.of zu_s (zN.put zN.rf (by unfold zb; omega))⟩
  have hP : (-64 ≤ a ∧ a ≤ 64) ∧ -64 ≤ b ∧ b ≤ 64 := by omega
  refine z_sipush C dX7_move_46 ?_
  refine z_newM C Rm hM dX7_move_49 (by decide) (fun q ν hM1 hq1 hqb hN1 => ?_)
  refine z_astore (L' := [_, _, _, _, _, _, _]) C dX7_move_51 rfl ?_
  refine z_bipush C dX7_move_53 ?_
  refine z_istore (L' := [_, _, _, _, _, _, _]) C dX7_move_55 rfl ?_
  have grid : ∀ (n : Nat) (x : Int) (Ly : Option Value), x + n = 32 → -32 ≤ x → Z X ν 1 4096 57 [some (.ref M), some (zi r), some (zi a), some (zi b), some (.ref q), some (zi x), Ly] [] := by
    intro n
    induction n with
    | zero =>
      intro x Ly hn h0
      refine z_iload C dX7_move_57 rfl ?_
      refine z_bipush C dX7_move_59 ?_
      refine z_icmp_gt (tgt := 142) C dX7_move_61 (by decide) (fun _ => ?_) (fun hno => absurd hno (by omega))
      refine z_aload_n C dX7_move_142 rfl ?_
      refine z_iload_n C dX7_move_143 rfl ?_
      refine z_aload C dX7_move_144 rfl ?_
      refine z_ci C (z_rV C Rm qv_X7_change m_1078 (m_change hM1 h8 hq1 (fun i => Or.inl rfl) (Or.inl hqb)) hM1.obj rfl dX7_move_146 rfl rfl (Nat.le_of_ble_eq_true rfl) rfl ⟨Nat.le_of_ble_eq_true rfl, Nat.le_of_ble_eq_true rfl, Nat.le_of_ble_eq_true rfl, Nat.le_of_ble_eq_true rfl⟩) (fun z3 μ3 hq3 => ?_)
      exact z_iret C E dX7_move_149 (Nat.le_of_ble_eq_true rfl) (Nat.le_of_ble_eq_true rfl) ⟨0, Or.inl ⟨rfl, hq3.1.trans (cntZ_z _), h8, hP⟩, zMP.tr hN1 hq3.2⟩
    | succ n ih =>
      intro x Ly hn h0
      have row : ∀ (j : Nat) (y : Int), y + j = 32 → -32 ≤ y → Z X ν 1 4096 68 [some (.ref M), some (zi r), some (zi a), some (zi b), some (.ref q), some (zi x), some (zi y)] [] := by
        intro j
        induction j with
        | zero =>
          intro y hj hy
          refine z_iload C dX7_move_68 rfl ?_
          refine z_bipush C dX7_move_70 ?_
          refine z_icmp_gt (tgt := 136) C dX7_move_72 (by decide) (fun _ => ?_) (fun hno => absurd hno (by omega))
          refine z_iinc (L' := [_, _, _, _, _, _, _]) C dX7_move_136 rfl rfl ?_
          refine z_goto (tgt := 57) C dX7_move_139 (by decide) ?_
          exact ih (x + 1) _ (by omega) (by omega)
        | succ j ih2 =>
          intro y hj hy
          refine z_iload C dX7_move_68 rfl ?_
          refine z_bipush C dX7_move_70 ?_
          refine z_icmp_gt (tgt := 136) C dX7_move_72 (by decide) (fun hno => absurd hno (by omega)) (fun _ => ?_)
          refine z_aload_n C dX7_move_75 rfl ?_
          refine z_get C hM1.obj rfl 1 (by decide) m_1011 inz7 rfl rfl dX7_move_76 ?_
          refine z_iload_n C dX7_move_79 rfl ?_
          refine z_bald C hM1.rows (by decide) (isMo.row_eq h8) dX7_move_80 ?_
          refine z_iload C dX7_move_81 rfl ?_
          refine z_iload C dX7_move_83 rfl ?_
          refine z_ci C (z_rS C Rm qs_X7_at m_1075 (m_at (x := x) (y := y)) dX7_move_85 rfl rfl (Nat.le_of_ble_eq_true rfl) rfl ⟨Nat.le_of_ble_eq_true rfl, Nat.le_of_ble_eq_true rfl, Nat.le_of_ble_eq_true rfl, Nat.le_of_ble_eq_true rfl⟩) (fun z μ5 hq5 => ?_)
          obtain ⟨rfl, rfl⟩ := hq5
          refine z_zald C (hM1.row h8) (by decide) dX7_move_88 ?_
          rw [show zIz ((y + 32) * 64 + x + 32).toNat = 0 from rfl]
          refine z_if_ne (tgt := 95) C dX7_move_89 (by decide) (fun hno => absurd hno (fun h => h rfl)) (fun _ => ?_)
          refine z_goto (tgt := 130) C dX7_move_92 (by decide) ?_
          refine z_iinc (L' := [_, _, _, _, _, _, _]) C dX7_move_130 rfl rfl ?_
          refine z_goto (tgt := 68) C dX7_move_133 (by decide) ?_
          exact ih2 (y + 1) (by omega) (by omega)
      refine z_iload C dX7_move_57 rfl ?_
      refine z_bipush C dX7_move_59 ?_
      refine z_icmp_gt (tgt := 142) C dX7_move_61 (by decide) (fun hno => absurd hno (by omega)) (fun _ => ?_)
      refine z_bipush C dX7_move_64 ?_
      refine z_istore (L' := [_, _, _, _, _, _, _]) C dX7_move_66 rfl ?_
      exact row 64 (-32) (by omega) (by omega)
  exact grid 64 (-32) _ (by omega) (by omega)
set_option maxRecDepth 100000 in
set_option maxHeartbeats 4000000 in
theorem m_mirror {l : Launch} {D : va_G} {N0 : Nat} {M : Nat} {μ : zM} (hM : isMo D μ M) {r : Int} (hr : zir r) : zMet l yX7_mirror cX7_mirror 5 (some .int) ({ frames := 2, cells := 2, slots := 8192, locals := 80 } : Room) D N0 [.ref M, zi r] μ (zQI D N0 (fun z u => ∃ t, (t = 0 ∧ z = 0 ∧ (0 ≤ r ∧ r < 8) ∧ (True) ∨ t = 1 ∧ ¬ (0 ≤ r ∧ r < 8) ∨ t = 2 ∧ (0 ≤ r ∧ r < 8) ∧ ¬ (True)) ∧ zMP M μ t u)) := by
  refine zMet_of rfl (Nat.le_of_ble_eq_true rfl) (fun X C Rm hin E => ?_)
  refine z_aload_n C dX7_mirror_0 rfl ?_
  refine z_iconst C dX7_mirror_1 ?_
  refine z_put C hM.obj rfl tyX7 tyX7_ok nmX7 0 (by decide) m_1010 inz7 rfl rfl (by rfl) (by rfl) (Nat.le_of_ble_eq_true rfl) dX7_mirror_2 ?_
  refine z_same hM.obj ?_
  refine z_iload_n C dX7_mirror_5 rfl ?_
  refine z_ci C (z_rS C Rm qs_X7_isRegion m_1067 (m_isRegion hr) dX7_mirror_6 rfl rfl (Nat.le_of_ble_eq_true rfl) rfl ⟨Nat.le_of_ble_eq_true rfl, Nat.le_of_ble_eq_true rfl, Nat.le_of_ble_eq_true rfl, Nat.le_of_ble_eq_true rfl⟩) (fun z μ1 hp => ?_)
  obtain ⟨hp, rfl⟩ := hp
  refine z_if_ne (tgt := 18) C dX7_mirror_9 (by decide) (fun h1 => ?_) (fun h1 => ?_)
  rotate_left
  · refine z_aload_n C dX7_mirror_12 rfl ?_
    refine z_iconst C dX7_mirror_13 ?_
    refine z_ci C (z_rV C Rm qv_X7_no m_1047 (m_no hM.obj (k := 1)) hM.obj rfl dX7_mirror_14 rfl rfl (Nat.le_of_ble_eq_true rfl) rfl ⟨Nat.le_of_ble_eq_true rfl, Nat.le_of_ble_eq_true rfl, Nat.le_of_ble_eq_true rfl, Nat.le_of_ble_eq_true rfl⟩) (fun z2 μ2 hq => ?_)
    obtain ⟨rfl, rfl⟩ := hq
    exact z_iret C E dX7_mirror_17 (Nat.le_of_ble_eq_true rfl) (Nat.le_of_ble_eq_true rfl) ⟨1, Or.inr (Or.inl ⟨rfl, by omega⟩), zMP.of zu_s (zN.put zN.rf (by unfold zb; omega))⟩
  have h8 : 0 ≤ r ∧ r < 8 := by omega
  refine z_sipush C dX7_mirror_18 ?_
  refine z_newM C Rm hM dX7_mirror_21 (by decide) (fun q ν hM1 hq1 hqb hN1 => ?_)
  refine z_astore_n (L' := [_, _, _, _, _]) C dX7_mirror_23 rfl ?_
  refine z_bipush C dX7_mirror_24 ?_
  refine z_istore_n (L' := [_, _, _, _, _]) C dX7_mirror_26 rfl ?_
  have grid : ∀ (n : Nat) (x : Int) (Ly : Option Value), x + n = 32 → -32 ≤ x → Z X ν 1 4096 27 [some (.ref M), some (zi r), some (.ref q), some (zi x), Ly] [] := by
    intro n
    induction n with
    | zero =>
      intro x Ly hn h0
      refine z_iload_n C dX7_mirror_27 rfl ?_
      refine z_bipush C dX7_mirror_28 ?_
      refine z_icmp_gt (tgt := 80) C dX7_mirror_30 (by decide) (fun _ => ?_) (fun hno => absurd hno (by omega))
      refine z_aload_n C dX7_mirror_80 rfl ?_
      refine z_iload_n C dX7_mirror_81 rfl ?_
      refine z_aload_n C dX7_mirror_82 rfl ?_
      refine z_ci C (z_rV C Rm qv_X7_change m_1078 (m_change hM1 h8 hq1 (fun i => Or.inl rfl) (Or.inl hqb)) hM1.obj rfl dX7_mirror_83 rfl rfl (Nat.le_of_ble_eq_true rfl) rfl ⟨Nat.le_of_ble_eq_true rfl, Nat.le_of_ble_eq_true rfl, Nat.le_of_ble_eq_true rfl, Nat.le_of_ble_eq_true rfl⟩) (fun z3 μ3 hq3 => ?_)
      exact z_iret C E dX7_mirror_86 (Nat.le_of_ble_eq_true rfl) (Nat.le_of_ble_eq_true rfl) ⟨0, Or.inl ⟨rfl, hq3.1.trans (cntZ_z _), h8, trivial⟩, zMP.tr hN1 hq3.2⟩
    | succ n ih =>
      intro x Ly hn h0
      have row : ∀ (j : Nat) (y : Int), y + j = 32 → -32 ≤ y → Z X ν 1 4096 37 [some (.ref M), some (zi r), some (.ref q), some (zi x), some (zi y)] [] := by
        intro j
        induction j with
        | zero =>
          intro y hj hy
          refine z_iload C dX7_mirror_37 rfl ?_
          refine z_bipush C dX7_mirror_39 ?_
          refine z_icmp_gt (tgt := 74) C dX7_mirror_41 (by decide) (fun _ => ?_) (fun hno => absurd hno (by omega))
          refine z_iinc (L' := [_, _, _, _, _]) C dX7_mirror_74 rfl rfl ?_
          refine z_goto (tgt := 27) C dX7_mirror_77 (by decide) ?_
          exact ih (x + 1) _ (by omega) (by omega)
        | succ j ih2 =>
          intro y hj hy
          refine z_iload C dX7_mirror_37 rfl ?_
          refine z_bipush C dX7_mirror_39 ?_
          refine z_icmp_gt (tgt := 74) C dX7_mirror_41 (by decide) (fun hno => absurd hno (by omega)) (fun _ => ?_)
          refine z_aload_n C dX7_mirror_44 rfl ?_
          refine z_iload_n C dX7_mirror_45 rfl ?_
          refine z_ineg C dX7_mirror_46 ?_
          refine z_iconst C dX7_mirror_47 ?_
          refine z_isub C dX7_mirror_48 ?_
          refine z_iload C dX7_mirror_49 rfl ?_
          refine z_ci C (z_rS C Rm qs_X7_at m_1075 (m_at (x := -x - 1) (y := y)) dX7_mirror_51 rfl rfl (Nat.le_of_ble_eq_true rfl) rfl ⟨Nat.le_of_ble_eq_true rfl, Nat.le_of_ble_eq_true rfl, Nat.le_of_ble_eq_true rfl, Nat.le_of_ble_eq_true rfl⟩) (fun z μ4 hq4 => ?_)
          obtain ⟨rfl, rfl⟩ := hq4
          refine z_aload_n C dX7_mirror_54 rfl ?_
          refine z_get C hM1.obj rfl 1 (by decide) m_1011 inz7 rfl rfl dX7_mirror_55 ?_
          refine z_iload_n C dX7_mirror_58 rfl ?_
          refine z_bald C hM1.rows (by decide) (isMo.row_eq h8) dX7_mirror_59 ?_
          refine z_iload_n C dX7_mirror_60 rfl ?_
          refine z_iload C dX7_mirror_61 rfl ?_
          refine z_ci C (z_rS C Rm qs_X7_at m_1075 (m_at (x := x) (y := y)) dX7_mirror_63 rfl rfl (Nat.le_of_ble_eq_true rfl) rfl ⟨Nat.le_of_ble_eq_true rfl, Nat.le_of_ble_eq_true rfl, Nat.le_of_ble_eq_true rfl, Nat.le_of_ble_eq_true rfl⟩) (fun z μ5 hq5 => ?_)
          obtain ⟨rfl, rfl⟩ := hq5
          refine z_zald C (hM1.row h8) (by decide) dX7_mirror_66 ?_
          rw [show zIz ((y + 32) * 64 + x + 32).toNat = 0 from rfl]
          refine z_zast C hq1 (by decide) (Or.inl rfl) dX7_mirror_67 ?_
          refine z_st0 hq1 ?_
          refine z_iinc (L' := [_, _, _, _, _]) C dX7_mirror_68 rfl rfl ?_
          refine z_goto (tgt := 37) C dX7_mirror_71 (by decide) ?_
          exact ih2 (y + 1) (by omega) (by omega)
      refine z_iload_n C dX7_mirror_27 rfl ?_
      refine z_bipush C dX7_mirror_28 ?_
      refine z_icmp_gt (tgt := 80) C dX7_mirror_30 (by decide) (fun hno => absurd hno (by omega)) (fun _ => ?_)
      refine z_bipush C dX7_mirror_33 ?_
      refine z_istore (L' := [_, _, _, _, _]) C dX7_mirror_35 rfl ?_
      exact row 64 (-32) (by omega) (by omega)
  exact grid 64 (-32) _ (by omega) (by omega)
set_option maxRecDepth 100000 in
set_option maxHeartbeats 4000000 in
theorem m_grow {l : Launch} {D : va_G} {N0 : Nat} {M : Nat} {μ : zM} (hM : isMo D μ M) {r : Int} (hr : zir r) {a b : Int} (ha : zir a) (hb : zir b) : zMet l yX7_grow cX7_grow 9 (some .int) ({ frames := 2, cells := 2, slots := 8192, locals := 80 } : Room) D N0 [.ref M, zi r, zi a, zi b] μ (zQI D N0 (fun z u => ∃ t, (t = 0 ∧ z = 0 ∧ (0 ≤ r ∧ r < 8) ∧ ((0 ≤ a ∧ a ≤ 8) ∧ 0 ≤ b ∧ b ≤ 1) ∨ t = 1 ∧ ¬ (0 ≤ r ∧ r < 8) ∨ t = 2 ∧ (0 ≤ r ∧ r < 8) ∧ ¬ ((0 ≤ a ∧ a ≤ 8) ∧ 0 ≤ b ∧ b ≤ 1)) ∧ zMP M μ t u)) := by
  refine zMet_of rfl (Nat.le_of_ble_eq_true rfl) (fun X C Rm hin E => ?_)
  refine z_aload_n C dX7_grow_0 rfl ?_
  refine z_iconst C dX7_grow_1 ?_
  refine z_put C hM.obj rfl tyX7 tyX7_ok nmX7 0 (by decide) m_1010 inz7 rfl rfl (by rfl) (by rfl) (Nat.le_of_ble_eq_true rfl) dX7_grow_2 ?_
  refine z_same hM.obj ?_
  refine z_iload_n C dX7_grow_5 rfl ?_
  refine z_ci C (z_rS C Rm qs_X7_isRegion m_1067 (m_isRegion hr) dX7_grow_6 rfl rfl (Nat.le_of_ble_eq_true rfl) rfl ⟨Nat.le_of_ble_eq_true rfl, Nat.le_of_ble_eq_true rfl, Nat.le_of_ble_eq_true rfl, Nat.le_of_ble_eq_true rfl⟩) (fun z μ1 hp => ?_)
  obtain ⟨hp, rfl⟩ := hp
  refine z_if_ne (tgt := 18) C dX7_grow_9 (by decide) (fun h1 => ?_) (fun h1 => ?_)
  rotate_left
  · refine z_aload_n C dX7_grow_12 rfl ?_
    refine z_iconst C dX7_grow_13 ?_
    refine z_ci C (z_rV C Rm qv_X7_no m_1047 (m_no hM.obj (k := 1)) hM.obj rfl dX7_grow_14 rfl rfl (Nat.le_of_ble_eq_true rfl) rfl ⟨Nat.le_of_ble_eq_true rfl, Nat.le_of_ble_eq_true rfl, Nat.le_of_ble_eq_true rfl, Nat.le_of_ble_eq_true rfl⟩) (fun z2 μ2 hq => ?_)
    obtain ⟨rfl, rfl⟩ := hq
    exact z_iret C E dX7_grow_17 (Nat.le_of_ble_eq_true rfl) (Nat.le_of_ble_eq_true rfl) ⟨1, Or.inr (Or.inl ⟨rfl, by omega⟩), zMP.of zu_s (zN.put zN.rf (by unfold zb; omega))⟩
  have h8 : 0 ≤ r ∧ r < 8 := by omega
  refine z_iload_n C dX7_grow_18 rfl ?_
  refine z_iconst C dX7_grow_19 ?_
  refine z_bipush C dX7_grow_20 ?_
  refine z_ci C (z_rS C Rm qs_X7_isIn m_1044 (m_isIn ha (by decide) (by decide)) dX7_grow_22 rfl rfl (Nat.le_of_ble_eq_true rfl) rfl ⟨Nat.le_of_ble_eq_true rfl, Nat.le_of_ble_eq_true rfl, Nat.le_of_ble_eq_true rfl, Nat.le_of_ble_eq_true rfl⟩) (fun z1 μ1 hp1 => ?_)
  obtain ⟨hp1, rfl⟩ := hp1
  refine z_if_eq (tgt := 37) C dX7_grow_25 (by decide) (fun h2 => ?_) (fun h2 => ?_)
  · refine z_aload_n C dX7_grow_37 rfl ?_
    refine z_iconst C dX7_grow_38 ?_
    refine z_ci C (z_rV C Rm qv_X7_no m_1047 (m_no hM.obj (k := 2)) hM.obj rfl dX7_grow_39 rfl rfl (Nat.le_of_ble_eq_true rfl) rfl ⟨Nat.le_of_ble_eq_true rfl, Nat.le_of_ble_eq_true rfl, Nat.le_of_ble_eq_true rfl, Nat.le_of_ble_eq_true rfl⟩) (fun z2 μ2 hq => ?_)
    obtain ⟨rfl, rfl⟩ := hq
    exact z_iret C E dX7_grow_42 (Nat.le_of_ble_eq_true rfl) (Nat.le_of_ble_eq_true rfl) ⟨2, Or.inr (Or.inr ⟨rfl, h8, by omega⟩), zMP.of zu_s (zN.put zN.rf (by unfold zb; omega))⟩
  refine z_iload_n C dX7_grow_28 rfl ?_
  refine z_iconst C dX7_grow_29 ?_
  refine z_iconst C dX7_grow_30 ?_
  refine z_ci C (z_rS C Rm qs_X7_isIn m_1044 (m_isIn hb (by decide) (by decide)) dX7_grow_31 rfl rfl (Nat.le_of_ble_eq_true rfl) rfl ⟨Nat.le_of_ble_eq_true rfl, Nat.le_of_ble_eq_true rfl, Nat.le_of_ble_eq_true rfl, Nat.le_of_ble_eq_true rfl⟩) (fun z2 μ1 hp2 => ?_)
  obtain ⟨hp2, rfl⟩ := hp2
  refine z_if_ne (tgt := 43) C dX7_grow_34 (by decide) (fun h3 => ?_) (fun h3 => ?_)
  rotate_left
  · refine z_aload_n C dX7_grow_37 rfl ?_
    refine z_iconst C dX7_grow_38 ?_
    refine z_ci C (z_rV C Rm qv_X7_no m_1047 (m_no hM.obj (k := 2)) hM.obj rfl dX7_grow_39 rfl rfl (Nat.le_of_ble_eq_true rfl) rfl ⟨Nat.le_of_ble_eq_true rfl, Nat.le_of_ble_eq_true rfl, Nat.le_of_ble_eq_true rfl, Nat.le_of_ble_eq_true rfl⟩) (fun z2 μ2 hq => ?_)
    obtain ⟨rfl, rfl⟩ := hq
    exact z_iret C E dX7_grow_42 (Nat.le_of_ble_eq_true rfl) (Nat.le_of_ble_eq_true rfl) ⟨2, Or.inr (Or.inr ⟨rfl, h8, by omega⟩), zMP.of zu_s (zN.put zN.rf (by unfold zb; omega))⟩
  have hP : (0 ≤ a ∧ a ≤ 8) ∧ 0 ≤ b ∧ b ≤ 1 := by omega
  refine z_sipush C dX7_grow_43 ?_
  refine z_newM C Rm hM dX7_grow_46 (by decide) (fun q ν hM1 hq1 hqb hN1 => ?_)
  refine z_astore (L' := [_, _, _, _, _, _, _, _, _]) C dX7_grow_48 rfl ?_
  refine z_bipush C dX7_grow_50 ?_
  refine z_istore (L' := [_, _, _, _, _, _, _, _, _]) C dX7_grow_52 rfl ?_
  have grid : ∀ (n : Nat) (x : Int) (Ly : Option Value), x + n = 32 → -32 ≤ x → Z X ν 1 4096 54 [some (.ref M), some (zi r), some (zi a), some (zi b), some (.ref q), some (zi x), Ly, none, none] [] := by
    intro n
    induction n with
    | zero =>
      intro x Ly hn h0
      refine z_iload C dX7_grow_54 rfl ?_
      refine z_bipush C dX7_grow_56 ?_
      refine z_icmp_gt (tgt := 199) C dX7_grow_58 (by decide) (fun _ => ?_) (fun hno => absurd hno (by omega))
      refine z_aload_n C dX7_grow_199 rfl ?_
      refine z_iload_n C dX7_grow_200 rfl ?_
      refine z_aload C dX7_grow_201 rfl ?_
      refine z_ci C (z_rV C Rm qv_X7_change m_1078 (m_change hM1 h8 hq1 (fun i => Or.inl rfl) (Or.inl hqb)) hM1.obj rfl dX7_grow_203 rfl rfl (Nat.le_of_ble_eq_true rfl) rfl ⟨Nat.le_of_ble_eq_true rfl, Nat.le_of_ble_eq_true rfl, Nat.le_of_ble_eq_true rfl, Nat.le_of_ble_eq_true rfl⟩) (fun z3 μ3 hq3 => ?_)
      exact z_iret C E dX7_grow_206 (Nat.le_of_ble_eq_true rfl) (Nat.le_of_ble_eq_true rfl) ⟨0, Or.inl ⟨rfl, hq3.1.trans (cntZ_z _), h8, hP⟩, zMP.tr hN1 hq3.2⟩
    | succ n ih =>
      intro x Ly hn h0
      have row : ∀ (j : Nat) (y : Int), y + j = 32 → -32 ≤ y → Z X ν 1 4096 65 [some (.ref M), some (zi r), some (zi a), some (zi b), some (.ref q), some (zi x), some (zi y), none, none] [] := by
        intro j
        induction j with
        | zero =>
          intro y hj hy
          refine z_iload C dX7_grow_65 rfl ?_
          refine z_bipush C dX7_grow_67 ?_
          refine z_icmp_gt (tgt := 193) C dX7_grow_69 (by decide) (fun _ => ?_) (fun hno => absurd hno (by omega))
          refine z_iinc (L' := [_, _, _, _, _, _, _, _, _]) C dX7_grow_193 rfl rfl ?_
          refine z_goto (tgt := 54) C dX7_grow_196 (by decide) ?_
          exact ih (x + 1) _ (by omega) (by omega)
        | succ j ih2 =>
          intro y hj hy
          refine z_iload C dX7_grow_65 rfl ?_
          refine z_bipush C dX7_grow_67 ?_
          refine z_icmp_gt (tgt := 193) C dX7_grow_69 (by decide) (fun hno => absurd hno (by omega)) (fun _ => ?_)
          refine z_aload_n C dX7_grow_72 rfl ?_
          refine z_get C hM1.obj rfl 1 (by decide) m_1011 inz7 rfl rfl dX7_grow_73 ?_
          refine z_iload_n C dX7_grow_76 rfl ?_
          refine z_bald C hM1.rows (by decide) (isMo.row_eq h8) dX7_grow_77 ?_
          refine z_iload C dX7_grow_78 rfl ?_
          refine z_iload C dX7_grow_80 rfl ?_
          refine z_ci C (z_rS C Rm qs_X7_at m_1075 (m_at (x := x) (y := y)) dX7_grow_82 rfl rfl (Nat.le_of_ble_eq_true rfl) rfl ⟨Nat.le_of_ble_eq_true rfl, Nat.le_of_ble_eq_true rfl, Nat.le_of_ble_eq_true rfl, Nat.le_of_ble_eq_true rfl⟩) (fun z μ5 hq5 => ?_)
          obtain ⟨rfl, rfl⟩ := hq5
          refine z_zald C (hM1.row h8) (by decide) dX7_grow_85 ?_
          rw [show zIz ((y + 32) * 64 + x + 32).toNat = 0 from rfl]
          refine z_if_ne (tgt := 92) C dX7_grow_86 (by decide) (fun hno => absurd hno (fun h => h rfl)) (fun _ => ?_)
          refine z_goto (tgt := 187) C dX7_grow_89 (by decide) ?_
          refine z_iinc (L' := [_, _, _, _, _, _, _, _, _]) C dX7_grow_187 rfl rfl ?_
          refine z_goto (tgt := 65) C dX7_grow_190 (by decide) ?_
          exact ih2 (y + 1) (by omega) (by omega)
      refine z_iload C dX7_grow_54 rfl ?_
      refine z_bipush C dX7_grow_56 ?_
      refine z_icmp_gt (tgt := 199) C dX7_grow_58 (by decide) (fun hno => absurd hno (by omega)) (fun _ => ?_)
      refine z_bipush C dX7_grow_61 ?_
      refine z_istore (L' := [_, _, _, _, _, _, _, _, _]) C dX7_grow_63 rfl ?_
      exact row 64 (-32) (by omega) (by omega)
  exact grid 64 (-32) _ (by omega) (by omega)
set_option maxRecDepth 100000 in
set_option maxHeartbeats 4000000 in
theorem m_shrink {l : Launch} {D : va_G} {N0 : Nat} {M : Nat} {μ : zM} (hM : isMo D μ M) {r : Int} (hr : zir r) {a b : Int} (ha : zir a) (hb : zir b) : zMet l yX7_shrink cX7_shrink 10 (some .int) ({ frames := 2, cells := 2, slots := 8192, locals := 80 } : Room) D N0 [.ref M, zi r, zi a, zi b] μ (zQI D N0 (fun z u => ∃ t, (t = 0 ∧ z = 0 ∧ (0 ≤ r ∧ r < 8) ∧ ((0 ≤ a ∧ a ≤ 8) ∧ 0 ≤ b ∧ b ≤ 1) ∨ t = 1 ∧ ¬ (0 ≤ r ∧ r < 8) ∨ t = 2 ∧ (0 ≤ r ∧ r < 8) ∧ ¬ ((0 ≤ a ∧ a ≤ 8) ∧ 0 ≤ b ∧ b ≤ 1)) ∧ zMP M μ t u)) := by
  refine zMet_of rfl (Nat.le_of_ble_eq_true rfl) (fun X C Rm hin E => ?_)
  refine z_aload_n C dX7_shrink_0 rfl ?_
  refine z_iconst C dX7_shrink_1 ?_
  refine z_put C hM.obj rfl tyX7 tyX7_ok nmX7 0 (by decide) m_1010 inz7 rfl rfl (by rfl) (by rfl) (Nat.le_of_ble_eq_true rfl) dX7_shrink_2 ?_
  refine z_same hM.obj ?_
  refine z_iload_n C dX7_shrink_5 rfl ?_
  refine z_ci C (z_rS C Rm qs_X7_isRegion m_1067 (m_isRegion hr) dX7_shrink_6 rfl rfl (Nat.le_of_ble_eq_true rfl) rfl ⟨Nat.le_of_ble_eq_true rfl, Nat.le_of_ble_eq_true rfl, Nat.le_of_ble_eq_true rfl, Nat.le_of_ble_eq_true rfl⟩) (fun z μ1 hp => ?_)
  obtain ⟨hp, rfl⟩ := hp
  refine z_if_ne (tgt := 18) C dX7_shrink_9 (by decide) (fun h1 => ?_) (fun h1 => ?_)
  rotate_left
  · refine z_aload_n C dX7_shrink_12 rfl ?_
    refine z_iconst C dX7_shrink_13 ?_
    refine z_ci C (z_rV C Rm qv_X7_no m_1047 (m_no hM.obj (k := 1)) hM.obj rfl dX7_shrink_14 rfl rfl (Nat.le_of_ble_eq_true rfl) rfl ⟨Nat.le_of_ble_eq_true rfl, Nat.le_of_ble_eq_true rfl, Nat.le_of_ble_eq_true rfl, Nat.le_of_ble_eq_true rfl⟩) (fun z2 μ2 hq => ?_)
    obtain ⟨rfl, rfl⟩ := hq
    exact z_iret C E dX7_shrink_17 (Nat.le_of_ble_eq_true rfl) (Nat.le_of_ble_eq_true rfl) ⟨1, Or.inr (Or.inl ⟨rfl, by omega⟩), zMP.of zu_s (zN.put zN.rf (by unfold zb; omega))⟩
  have h8 : 0 ≤ r ∧ r < 8 := by omega
  refine z_iload_n C dX7_shrink_18 rfl ?_
  refine z_iconst C dX7_shrink_19 ?_
  refine z_bipush C dX7_shrink_20 ?_
  refine z_ci C (z_rS C Rm qs_X7_isIn m_1044 (m_isIn ha (by decide) (by decide)) dX7_shrink_22 rfl rfl (Nat.le_of_ble_eq_true rfl) rfl ⟨Nat.le_of_ble_eq_true rfl, Nat.le_of_ble_eq_true rfl, Nat.le_of_ble_eq_true rfl, Nat.le_of_ble_eq_true rfl⟩) (fun z1 μ1 hp1 => ?_)
  obtain ⟨hp1, rfl⟩ := hp1
  refine z_if_eq (tgt := 37) C dX7_shrink_25 (by decide) (fun h2 => ?_) (fun h2 => ?_)
  · refine z_aload_n C dX7_shrink_37 rfl ?_
    refine z_iconst C dX7_shrink_38 ?_
    refine z_ci C (z_rV C Rm qv_X7_no m_1047 (m_no hM.obj (k := 2)) hM.obj rfl dX7_shrink_39 rfl rfl (Nat.le_of_ble_eq_true rfl) rfl ⟨Nat.le_of_ble_eq_true rfl, Nat.le_of_ble_eq_true rfl, Nat.le_of_ble_eq_true rfl, Nat.le_of_ble_eq_true rfl⟩) (fun z2 μ2 hq => ?_)
    obtain ⟨rfl, rfl⟩ := hq
    exact z_iret C E dX7_shrink_42 (Nat.le_of_ble_eq_true rfl) (Nat.le_of_ble_eq_true rfl) ⟨2, Or.inr (Or.inr ⟨rfl, h8, by omega⟩), zMP.of zu_s (zN.put zN.rf (by unfold zb; omega))⟩
  refine z_iload_n C dX7_shrink_28 rfl ?_
  refine z_iconst C dX7_shrink_29 ?_
  refine z_iconst C dX7_shrink_30 ?_
  refine z_ci C (z_rS C Rm qs_X7_isIn m_1044 (m_isIn hb (by decide) (by decide)) dX7_shrink_31 rfl rfl (Nat.le_of_ble_eq_true rfl) rfl ⟨Nat.le_of_ble_eq_true rfl, Nat.le_of_ble_eq_true rfl, Nat.le_of_ble_eq_true rfl, Nat.le_of_ble_eq_true rfl⟩) (fun z2 μ1 hp2 => ?_)
  obtain ⟨hp2, rfl⟩ := hp2
  refine z_if_ne (tgt := 43) C dX7_shrink_34 (by decide) (fun h3 => ?_) (fun h3 => ?_)
  rotate_left
  · refine z_aload_n C dX7_shrink_37 rfl ?_
    refine z_iconst C dX7_shrink_38 ?_
    refine z_ci C (z_rV C Rm qv_X7_no m_1047 (m_no hM.obj (k := 2)) hM.obj rfl dX7_shrink_39 rfl rfl (Nat.le_of_ble_eq_true rfl) rfl ⟨Nat.le_of_ble_eq_true rfl, Nat.le_of_ble_eq_true rfl, Nat.le_of_ble_eq_true rfl, Nat.le_of_ble_eq_true rfl⟩) (fun z2 μ2 hq => ?_)
    obtain ⟨rfl, rfl⟩ := hq
    exact z_iret C E dX7_shrink_42 (Nat.le_of_ble_eq_true rfl) (Nat.le_of_ble_eq_true rfl) ⟨2, Or.inr (Or.inr ⟨rfl, h8, by omega⟩), zMP.of zu_s (zN.put zN.rf (by unfold zb; omega))⟩
  have hP : (0 ≤ a ∧ a ≤ 8) ∧ 0 ≤ b ∧ b ≤ 1 := by omega
  refine z_sipush C dX7_shrink_43 ?_
  refine z_newM C Rm hM dX7_shrink_46 (by decide) (fun q ν hM1 hq1 hqb hN1 => ?_)
  refine z_astore (L' := [_, _, _, _, _, _, _, _, _, _]) C dX7_shrink_48 rfl ?_
  refine z_bipush C dX7_shrink_50 ?_
  refine z_istore (L' := [_, _, _, _, _, _, _, _, _, _]) C dX7_shrink_52 rfl ?_
  have grid : ∀ (n : Nat) (x : Int) (Ly : Option Value) (L7 : Option Value) (L8 : Option Value), x + n = 32 → -32 ≤ x → Z X ν 1 4096 54 [some (.ref M), some (zi r), some (zi a), some (zi b), some (.ref q), some (zi x), Ly, L7, L8, none] [] := by
    intro n
    induction n with
    | zero =>
      intro x Ly L7 L8 hn h0
      refine z_iload C dX7_shrink_54 rfl ?_
      refine z_bipush C dX7_shrink_56 ?_
      refine z_icmp_gt (tgt := 195) C dX7_shrink_58 (by decide) (fun _ => ?_) (fun hno => absurd hno (by omega))
      refine z_aload_n C dX7_shrink_195 rfl ?_
      refine z_iload_n C dX7_shrink_196 rfl ?_
      refine z_aload C dX7_shrink_197 rfl ?_
      refine z_ci C (z_rV C Rm qv_X7_change m_1078 (m_change hM1 h8 hq1 (fun i => Or.inl rfl) (Or.inl hqb)) hM1.obj rfl dX7_shrink_199 rfl rfl (Nat.le_of_ble_eq_true rfl) rfl ⟨Nat.le_of_ble_eq_true rfl, Nat.le_of_ble_eq_true rfl, Nat.le_of_ble_eq_true rfl, Nat.le_of_ble_eq_true rfl⟩) (fun z3 μ3 hq3 => ?_)
      exact z_iret C E dX7_shrink_202 (Nat.le_of_ble_eq_true rfl) (Nat.le_of_ble_eq_true rfl) ⟨0, Or.inl ⟨rfl, hq3.1.trans (cntZ_z _), h8, hP⟩, zMP.tr hN1 hq3.2⟩
    | succ n ih =>
      intro x Ly L7 L8 hn h0
      have row : ∀ (j : Nat) (y : Int) (L7 : Option Value) (L8 : Option Value), y + j = 32 → -32 ≤ y → Z X ν 1 4096 65 [some (.ref M), some (zi r), some (zi a), some (zi b), some (.ref q), some (zi x), some (zi y), L7, L8, none] [] := by
        intro j
        induction j with
        | zero =>
          intro y L7 L8 hj hy
          refine z_iload C dX7_shrink_65 rfl ?_
          refine z_bipush C dX7_shrink_67 ?_
          refine z_icmp_gt (tgt := 189) C dX7_shrink_69 (by decide) (fun _ => ?_) (fun hno => absurd hno (by omega))
          refine z_iinc (L' := [_, _, _, _, _, _, _, _, _, _]) C dX7_shrink_189 rfl rfl ?_
          refine z_goto (tgt := 54) C dX7_shrink_192 (by decide) ?_
          exact ih (x + 1) _ _ _ (by omega) (by omega)
        | succ j ih2 =>
          intro y L7 L8 hj hy
          refine z_iload C dX7_shrink_65 rfl ?_
          refine z_bipush C dX7_shrink_67 ?_
          refine z_icmp_gt (tgt := 189) C dX7_shrink_69 (by decide) (fun hno => absurd hno (by omega)) (fun _ => ?_)
          refine z_aload_n C dX7_shrink_72 rfl ?_
          refine z_get C hM1.obj rfl 1 (by decide) m_1011 inz7 rfl rfl dX7_shrink_73 ?_
          refine z_iload_n C dX7_shrink_76 rfl ?_
          refine z_bald C hM1.rows (by decide) (isMo.row_eq h8) dX7_shrink_77 ?_
          refine z_iload C dX7_shrink_78 rfl ?_
          refine z_iload C dX7_shrink_80 rfl ?_
          refine z_ci C (z_rS C Rm qs_X7_at m_1075 (m_at (x := x) (y := y)) dX7_shrink_82 rfl rfl (Nat.le_of_ble_eq_true rfl) rfl ⟨Nat.le_of_ble_eq_true rfl, Nat.le_of_ble_eq_true rfl, Nat.le_of_ble_eq_true rfl, Nat.le_of_ble_eq_true rfl⟩) (fun z μ5 hq5 => ?_)
          obtain ⟨rfl, rfl⟩ := hq5
          refine z_zald C (hM1.row h8) (by decide) dX7_shrink_85 ?_
          rw [show zIz ((y + 32) * 64 + x + 32).toNat = 0 from rfl]
          refine z_istore (L' := [_, _, _, _, _, _, _, _, _, _]) C dX7_shrink_86 rfl ?_
          refine z_iload_n C dX7_shrink_88 rfl ?_
          refine z_ineg C dX7_shrink_89 ?_
          refine z_istore (L' := [_, _, _, _, _, _, _, _, _, _]) C dX7_shrink_90 rfl ?_
          refine z_iload C dX7_shrink_92 rfl ?_
          refine z_if_eq (tgt := 171) C dX7_shrink_94 (by decide) (fun _ => ?_) (fun hno => absurd hno (fun h => h rfl))
          refine z_aload C dX7_shrink_171 rfl ?_
          refine z_iload C dX7_shrink_173 rfl ?_
          refine z_iload C dX7_shrink_175 rfl ?_
          refine z_ci C (z_rS C Rm qs_X7_at m_1075 (m_at (x := x) (y := y)) dX7_shrink_177 rfl rfl (Nat.le_of_ble_eq_true rfl) rfl ⟨Nat.le_of_ble_eq_true rfl, Nat.le_of_ble_eq_true rfl, Nat.le_of_ble_eq_true rfl, Nat.le_of_ble_eq_true rfl⟩) (fun z μ4 hq4 => ?_)
          obtain ⟨rfl, rfl⟩ := hq4
          refine z_iload C dX7_shrink_180 rfl ?_
          refine z_zast C hq1 (by decide) (Or.inl rfl) dX7_shrink_182 ?_
          refine z_st0 hq1 ?_
          refine z_iinc (L' := [_, _, _, _, _, _, _, _, _, _]) C dX7_shrink_183 rfl rfl ?_
          refine z_goto (tgt := 65) C dX7_shrink_186 (by decide) ?_
          exact ih2 (y + 1) _ _ (by omega) (by omega)
      refine z_iload C dX7_shrink_54 rfl ?_
      refine z_bipush C dX7_shrink_56 ?_
      refine z_icmp_gt (tgt := 195) C dX7_shrink_58 (by decide) (fun hno => absurd hno (by omega)) (fun _ => ?_)
      refine z_bipush C dX7_shrink_61 ?_
      refine z_istore (L' := [_, _, _, _, _, _, _, _, _, _]) C dX7_shrink_63 rfl ?_
      exact row 64 (-32) _ _ (by omega) (by omega)
  exact grid 64 (-32) _ _ _ (by omega) (by omega)
set_option maxRecDepth 100000 in
set_option maxHeartbeats 4000000 in
theorem m_edgesNow {l : Launch} {D : va_G} {N0 : Nat} {M : Nat} {μ : zM} (hM1 : isMo D μ M) {r : Int} (h8 : 0 ≤ r ∧ r < 8) : zMet l yX7_edgesNow cX7_edgesNow 5 (some .int) ({ frames := 2, cells := 0, slots := 0, locals := 80 } : Room) D N0 [.ref M, zi r] μ (zQI D N0 (fun z u => z = 0 ∧ u = μ)) := by
  refine zMet_of rfl (Nat.le_of_ble_eq_true rfl) (fun X C Rm hin E => ?_)
  refine z_iconst C dX7_edgesNow_0 ?_
  refine z_istore_n (L' := [_, _, _, _, _]) C dX7_edgesNow_1 rfl ?_
  refine z_bipush C dX7_edgesNow_2 ?_
  refine z_istore_n (L' := [_, _, _, _, _]) C dX7_edgesNow_4 rfl ?_
  have grid : ∀ (n : Nat) (x : Int) (Ly : Option Value), x + n = 32 → -32 ≤ x → Z X μ 0 0 5 [some (.ref M), some (zi r), some (zi 0), some (zi x), Ly] [] := by
    intro n
    induction n with
    | zero =>
      intro x Ly hn h0
      refine z_iload_n C dX7_edgesNow_5 rfl ?_
      refine z_bipush C dX7_edgesNow_6 ?_
      refine z_icmp_gt (tgt := 153) C dX7_edgesNow_8 (by decide) (fun _ => ?_) (fun hno => absurd hno (by omega))
      refine z_iload_n C dX7_edgesNow_153 rfl ?_
      exact z_iret C E dX7_edgesNow_154 (Nat.le_of_ble_eq_true rfl) (Nat.le_of_ble_eq_true rfl) ⟨rfl, rfl⟩
    | succ n ih =>
      intro x Ly hn h0
      have row : ∀ (j : Nat) (y : Int), y + j = 32 → -32 ≤ y → Z X μ 0 0 15 [some (.ref M), some (zi r), some (zi 0), some (zi x), some (zi y)] [] := by
        intro j
        induction j with
        | zero =>
          intro y hj hy
          refine z_iload C dX7_edgesNow_15 rfl ?_
          refine z_bipush C dX7_edgesNow_17 ?_
          refine z_icmp_gt (tgt := 147) C dX7_edgesNow_19 (by decide) (fun _ => ?_) (fun hno => absurd hno (by omega))
          refine z_iinc (L' := [_, _, _, _, _]) C dX7_edgesNow_147 rfl rfl ?_
          refine z_goto (tgt := 5) C dX7_edgesNow_150 (by decide) ?_
          exact ih (x + 1) _ (by omega) (by omega)
        | succ j ih2 =>
          intro y hj hy
          refine z_iload C dX7_edgesNow_15 rfl ?_
          refine z_bipush C dX7_edgesNow_17 ?_
          refine z_icmp_gt (tgt := 147) C dX7_edgesNow_19 (by decide) (fun hno => absurd hno (by omega)) (fun _ => ?_)
          refine z_aload_n C dX7_edgesNow_22 rfl ?_
          refine z_get C hM1.obj rfl 1 (by decide) m_1011 inz7 rfl rfl dX7_edgesNow_23 ?_
          refine z_iload_n C dX7_edgesNow_26 rfl ?_
          refine z_bald C hM1.rows (by decide) (isMo.row_eq h8) dX7_edgesNow_27 ?_
          refine z_iload_n C dX7_edgesNow_28 rfl ?_
          refine z_iload C dX7_edgesNow_29 rfl ?_
          refine z_ci C (z_rS C Rm qs_X7_at m_1075 (m_at (x := x) (y := y)) dX7_edgesNow_31 rfl rfl (Nat.le_of_ble_eq_true rfl) rfl ⟨Nat.le_of_ble_eq_true rfl, Nat.le_of_ble_eq_true rfl, Nat.le_of_ble_eq_true rfl, Nat.le_of_ble_eq_true rfl⟩) (fun z μ5 hq5 => ?_)
          obtain ⟨rfl, rfl⟩ := hq5
          refine z_zald C (hM1.row h8) (by decide) dX7_edgesNow_34 ?_
          rw [show zIz ((y + 32) * 64 + x + 32).toNat = 0 from rfl]
          refine z_if_ne (tgt := 41) C dX7_edgesNow_35 (by decide) (fun hno => absurd hno (fun h => h rfl)) (fun _ => ?_)
          refine z_goto (tgt := 141) C dX7_edgesNow_38 (by decide) ?_
          refine z_iinc (L' := [_, _, _, _, _]) C dX7_edgesNow_141 rfl rfl ?_
          refine z_goto (tgt := 15) C dX7_edgesNow_144 (by decide) ?_
          exact ih2 (y + 1) (by omega) (by omega)
      refine z_iload_n C dX7_edgesNow_5 rfl ?_
      refine z_bipush C dX7_edgesNow_6 ?_
      refine z_icmp_gt (tgt := 153) C dX7_edgesNow_8 (by decide) (fun hno => absurd hno (by omega)) (fun _ => ?_)
      refine z_bipush C dX7_edgesNow_11 ?_
      refine z_istore (L' := [_, _, _, _, _]) C dX7_edgesNow_13 rfl ?_
      exact row 64 (-32) (by omega) (by omega)
  exact grid 64 (-32) _ (by omega) (by omega)
set_option maxRecDepth 100000 in
set_option maxHeartbeats 4000000 in
theorem m_edges {l : Launch} {D : va_G} {N0 : Nat} {M : Nat} {μ : zM} (hM : isMo D μ M) {r : Int} (hr : zir r) : zMet l yX7_edges cX7_edges 2 (some .int) ({ frames := 3, cells := 0, slots := 0, locals := 120 } : Room) D N0 [.ref M, zi r] μ (zQI D N0 (fun z u => ∃ t, (t = 0 ∧ z = 0 ∧ (0 ≤ r ∧ r < 8) ∧ (True) ∨ t = 1 ∧ ¬ (0 ≤ r ∧ r < 8) ∨ t = 2 ∧ (0 ≤ r ∧ r < 8) ∧ ¬ (True)) ∧ zMP M μ t u)) := by
  refine zMet_of rfl (Nat.le_of_ble_eq_true rfl) (fun X C Rm hin E => ?_)
  refine z_aload_n C dX7_edges_0 rfl ?_
  refine z_iconst C dX7_edges_1 ?_
  refine z_put C hM.obj rfl tyX7 tyX7_ok nmX7 0 (by decide) m_1010 inz7 rfl rfl (by rfl) (by rfl) (Nat.le_of_ble_eq_true rfl) dX7_edges_2 ?_
  refine z_same hM.obj ?_
  refine z_iload_n C dX7_edges_5 rfl ?_
  refine z_ci C (z_rS C Rm qs_X7_isRegion m_1067 (m_isRegion hr) dX7_edges_6 rfl rfl (Nat.le_of_ble_eq_true rfl) rfl ⟨Nat.le_of_ble_eq_true rfl, Nat.le_of_ble_eq_true rfl, Nat.le_of_ble_eq_true rfl, Nat.le_of_ble_eq_true rfl⟩) (fun z μ1 hp => ?_)
  obtain ⟨hp, rfl⟩ := hp
  refine z_if_eq (tgt := 20) C dX7_edges_9 (by decide) (fun h1 => ?_) (fun h1 => ?_)
  · refine z_aload_n C dX7_edges_20 rfl ?_
    refine z_iconst C dX7_edges_21 ?_
    refine z_ci C (z_rV C Rm qv_X7_no m_1047 (m_no hM.obj (k := 1)) hM.obj rfl dX7_edges_22 rfl rfl (Nat.le_of_ble_eq_true rfl) rfl ⟨Nat.le_of_ble_eq_true rfl, Nat.le_of_ble_eq_true rfl, Nat.le_of_ble_eq_true rfl, Nat.le_of_ble_eq_true rfl⟩) (fun z2 μ2 hq => ?_)
    obtain ⟨rfl, rfl⟩ := hq
    exact z_iret C E dX7_edges_25 (Nat.le_of_ble_eq_true rfl) (Nat.le_of_ble_eq_true rfl) ⟨1, Or.inr (Or.inl ⟨rfl, by omega⟩), zMP.of zu_s (zN.put zN.rf (by unfold zb; omega))⟩
  have h8 : 0 ≤ r ∧ r < 8 := by omega
  refine z_aload_n C dX7_edges_12 rfl ?_
  refine z_iload_n C dX7_edges_13 rfl ?_
  refine z_ci C (z_rV C Rm qv_X7_edgesNow m_1165 (m_edgesNow hM h8) hM.obj rfl dX7_edges_14 rfl rfl (Nat.le_of_ble_eq_true rfl) rfl ⟨Nat.le_of_ble_eq_true rfl, Nat.le_of_ble_eq_true rfl, Nat.le_of_ble_eq_true rfl, Nat.le_of_ble_eq_true rfl⟩) (fun z2 μ2 hq => ?_)
  refine z_goto (tgt := 25) C dX7_edges_17 (by decide) ?_
  obtain ⟨rfl, rfl⟩ := hq
  exact z_iret C E dX7_edges_25 (Nat.le_of_ble_eq_true rfl) (Nat.le_of_ble_eq_true rfl) ⟨0, Or.inl ⟨rfl, rfl, h8, trivial⟩, zMP.of hM.obj zN.rf⟩
set_option maxRecDepth 100000 in
set_option maxHeartbeats 4000000 in
theorem m_boundNow {l : Launch} {D : va_G} {N0 : Nat} {M : Nat} {μ : zM} (hM1 : isMo D μ M) {r s : Int} (h8 : 0 ≤ r ∧ r < 8) : zMet l yX7_boundNow cX7_boundNow 8 (some .int) ({ frames := 2, cells := 0, slots := 0, locals := 80 } : Room) D N0 [.ref M, zi r, zi s] μ (zQI D N0 (fun z u => z = 0 ∧ u = μ)) := by
  refine zMet_of rfl (Nat.le_of_ble_eq_true rfl) (fun X C Rm hin E => ?_)
  refine z_iconst C dX7_boundNow_0 ?_
  refine z_istore_n (L' := [_, _, _, _, _, _, _, _]) C dX7_boundNow_1 rfl ?_
  refine z_iconst C dX7_boundNow_2 ?_
  refine z_istore (L' := [_, _, _, _, _, _, _, _]) C dX7_boundNow_3 rfl ?_
  refine z_bipush C dX7_boundNow_5 ?_
  refine z_istore (L' := [_, _, _, _, _, _, _, _]) C dX7_boundNow_7 rfl ?_
  have grid : ∀ (n : Nat) (x : Int) (Ly : Option Value), x + n = 32 → -32 ≤ x → Z X μ 0 0 9 [some (.ref M), some (zi r), some (zi s), some (zi 0), some (zi 0), some (zi x), Ly, none] [] := by
    intro n
    induction n with
    | zero =>
      intro x Ly hn h0
      refine z_iload C dX7_boundNow_9 rfl ?_
      refine z_bipush C dX7_boundNow_11 ?_
      refine z_icmp_gt (tgt := 105) C dX7_boundNow_13 (by decide) (fun _ => ?_) (fun hno => absurd hno (by omega))
      refine z_iload_n C dX7_boundNow_105 rfl ?_
      exact z_iret C E dX7_boundNow_106 (Nat.le_of_ble_eq_true rfl) (Nat.le_of_ble_eq_true rfl) ⟨rfl, rfl⟩
    | succ n ih =>
      intro x Ly hn h0
      have row : ∀ (j : Nat) (y : Int), y + j = 32 → -32 ≤ y → Z X μ 0 0 20 [some (.ref M), some (zi r), some (zi s), some (zi 0), some (zi 0), some (zi x), some (zi y), none] [] := by
        intro j
        induction j with
        | zero =>
          intro y hj hy
          refine z_iload C dX7_boundNow_20 rfl ?_
          refine z_bipush C dX7_boundNow_22 ?_
          refine z_icmp_gt (tgt := 99) C dX7_boundNow_24 (by decide) (fun _ => ?_) (fun hno => absurd hno (by omega))
          refine z_iinc (L' := [_, _, _, _, _, _, _, _]) C dX7_boundNow_99 rfl rfl ?_
          refine z_goto (tgt := 9) C dX7_boundNow_102 (by decide) ?_
          exact ih (x + 1) _ (by omega) (by omega)
        | succ j ih2 =>
          intro y hj hy
          refine z_iload C dX7_boundNow_20 rfl ?_
          refine z_bipush C dX7_boundNow_22 ?_
          refine z_icmp_gt (tgt := 99) C dX7_boundNow_24 (by decide) (fun hno => absurd hno (by omega)) (fun _ => ?_)
          refine z_aload_n C dX7_boundNow_27 rfl ?_
          refine z_get C hM1.obj rfl 1 (by decide) m_1011 inz7 rfl rfl dX7_boundNow_28 ?_
          refine z_iload_n C dX7_boundNow_31 rfl ?_
          refine z_bald C hM1.rows (by decide) (isMo.row_eq h8) dX7_boundNow_32 ?_
          refine z_iload C dX7_boundNow_33 rfl ?_
          refine z_iload C dX7_boundNow_35 rfl ?_
          refine z_ci C (z_rS C Rm qs_X7_at m_1075 (m_at (x := x) (y := y)) dX7_boundNow_37 rfl rfl (Nat.le_of_ble_eq_true rfl) rfl ⟨Nat.le_of_ble_eq_true rfl, Nat.le_of_ble_eq_true rfl, Nat.le_of_ble_eq_true rfl, Nat.le_of_ble_eq_true rfl⟩) (fun z μ5 hq5 => ?_)
          obtain ⟨rfl, rfl⟩ := hq5
          refine z_zald C (hM1.row h8) (by decide) dX7_boundNow_40 ?_
          rw [show zIz ((y + 32) * 64 + x + 32).toNat = 0 from rfl]
          refine z_if_ne (tgt := 47) C dX7_boundNow_41 (by decide) (fun hno => absurd hno (fun h => h rfl)) (fun _ => ?_)
          refine z_goto (tgt := 93) C dX7_boundNow_44 (by decide) ?_
          refine z_iinc (L' := [_, _, _, _, _, _, _, _]) C dX7_boundNow_93 rfl rfl ?_
          refine z_goto (tgt := 20) C dX7_boundNow_96 (by decide) ?_
          exact ih2 (y + 1) (by omega) (by omega)
      refine z_iload C dX7_boundNow_9 rfl ?_
      refine z_bipush C dX7_boundNow_11 ?_
      refine z_icmp_gt (tgt := 105) C dX7_boundNow_13 (by decide) (fun hno => absurd hno (by omega)) (fun _ => ?_)
      refine z_bipush C dX7_boundNow_16 ?_
      refine z_istore (L' := [_, _, _, _, _, _, _, _]) C dX7_boundNow_18 rfl ?_
      exact row 64 (-32) (by omega) (by omega)
  exact grid 64 (-32) _ (by omega) (by omega)
set_option maxRecDepth 100000 in
set_option maxHeartbeats 4000000 in
theorem m_bound {l : Launch} {D : va_G} {N0 : Nat} {M : Nat} {μ : zM} (hM : isMo D μ M) {r : Int} (hr : zir r) {s : Int} (hs : zir s) : zMet l yX7_bound cX7_bound 3 (some .int) ({ frames := 3, cells := 0, slots := 0, locals := 120 } : Room) D N0 [.ref M, zi r, zi s] μ (zQI D N0 (fun z u => ∃ t, (t = 0 ∧ z = 0 ∧ (0 ≤ r ∧ r < 8) ∧ (0 ≤ s ∧ s ≤ 3) ∨ t = 1 ∧ ¬ (0 ≤ r ∧ r < 8) ∨ t = 2 ∧ (0 ≤ r ∧ r < 8) ∧ ¬ (0 ≤ s ∧ s ≤ 3)) ∧ zMP M μ t u)) := by
  refine zMet_of rfl (Nat.le_of_ble_eq_true rfl) (fun X C Rm hin E => ?_)
  refine z_aload_n C dX7_bound_0 rfl ?_
  refine z_iconst C dX7_bound_1 ?_
  refine z_put C hM.obj rfl tyX7 tyX7_ok nmX7 0 (by decide) m_1010 inz7 rfl rfl (by rfl) (by rfl) (Nat.le_of_ble_eq_true rfl) dX7_bound_2 ?_
  refine z_same hM.obj ?_
  refine z_iload_n C dX7_bound_5 rfl ?_
  refine z_ci C (z_rS C Rm qs_X7_isRegion m_1067 (m_isRegion hr) dX7_bound_6 rfl rfl (Nat.le_of_ble_eq_true rfl) rfl ⟨Nat.le_of_ble_eq_true rfl, Nat.le_of_ble_eq_true rfl, Nat.le_of_ble_eq_true rfl, Nat.le_of_ble_eq_true rfl⟩) (fun z μ1 hp => ?_)
  obtain ⟨hp, rfl⟩ := hp
  refine z_if_ne (tgt := 18) C dX7_bound_9 (by decide) (fun h1 => ?_) (fun h1 => ?_)
  rotate_left
  · refine z_aload_n C dX7_bound_12 rfl ?_
    refine z_iconst C dX7_bound_13 ?_
    refine z_ci C (z_rV C Rm qv_X7_no m_1047 (m_no hM.obj (k := 1)) hM.obj rfl dX7_bound_14 rfl rfl (Nat.le_of_ble_eq_true rfl) rfl ⟨Nat.le_of_ble_eq_true rfl, Nat.le_of_ble_eq_true rfl, Nat.le_of_ble_eq_true rfl, Nat.le_of_ble_eq_true rfl⟩) (fun z2 μ2 hq => ?_)
    obtain ⟨rfl, rfl⟩ := hq
    exact z_iret C E dX7_bound_17 (Nat.le_of_ble_eq_true rfl) (Nat.le_of_ble_eq_true rfl) ⟨1, Or.inr (Or.inl ⟨rfl, by omega⟩), zMP.of zu_s (zN.put zN.rf (by unfold zb; omega))⟩
  have h8 : 0 ≤ r ∧ r < 8 := by omega
  refine z_iload_n C dX7_bound_18 rfl ?_
  refine z_iconst C dX7_bound_19 ?_
  refine z_iconst C dX7_bound_20 ?_
  refine z_ci C (z_rS C Rm qs_X7_isIn m_1044 (m_isIn hs (by decide) (by decide)) dX7_bound_21 rfl rfl (Nat.le_of_ble_eq_true rfl) rfl ⟨Nat.le_of_ble_eq_true rfl, Nat.le_of_ble_eq_true rfl, Nat.le_of_ble_eq_true rfl, Nat.le_of_ble_eq_true rfl⟩) (fun z1 μ1 hp1 => ?_)
  obtain ⟨hp1, rfl⟩ := hp1
  refine z_if_eq (tgt := 36) C dX7_bound_24 (by decide) (fun h2 => ?_) (fun h2 => ?_)
  · refine z_aload_n C dX7_bound_36 rfl ?_
    refine z_iconst C dX7_bound_37 ?_
    refine z_ci C (z_rV C Rm qv_X7_no m_1047 (m_no hM.obj (k := 2)) hM.obj rfl dX7_bound_38 rfl rfl (Nat.le_of_ble_eq_true rfl) rfl ⟨Nat.le_of_ble_eq_true rfl, Nat.le_of_ble_eq_true rfl, Nat.le_of_ble_eq_true rfl, Nat.le_of_ble_eq_true rfl⟩) (fun z2 μ2 hq => ?_)
    obtain ⟨rfl, rfl⟩ := hq
    exact z_iret C E dX7_bound_41 (Nat.le_of_ble_eq_true rfl) (Nat.le_of_ble_eq_true rfl) ⟨2, Or.inr (Or.inr ⟨rfl, h8, by omega⟩), zMP.of zu_s (zN.put zN.rf (by unfold zb; omega))⟩
  refine z_aload_n C dX7_bound_27 rfl ?_
  refine z_iload_n C dX7_bound_28 rfl ?_
  refine z_iload_n C dX7_bound_29 rfl ?_
  refine z_ci C (z_rV C Rm qv_X7_boundNow m_1189 (m_boundNow hM h8) hM.obj rfl dX7_bound_30 rfl rfl (Nat.le_of_ble_eq_true rfl) rfl ⟨Nat.le_of_ble_eq_true rfl, Nat.le_of_ble_eq_true rfl, Nat.le_of_ble_eq_true rfl, Nat.le_of_ble_eq_true rfl⟩) (fun z2 μ2 hq => ?_)
  refine z_goto (tgt := 41) C dX7_bound_33 (by decide) ?_
  obtain ⟨rfl, rfl⟩ := hq
  exact z_iret C E dX7_bound_41 (Nat.le_of_ble_eq_true rfl) (Nat.le_of_ble_eq_true rfl) ⟨0, Or.inl ⟨rfl, rfl, h8, by omega⟩, zMP.of hM.obj zN.rf⟩
set_option maxRecDepth 100000 in
set_option maxHeartbeats 4000000 in
theorem m_hasR {l : Launch} {D : va_G} {N0 : Nat} {M : Nat} {μ : zM} (hM : isMo D μ M) {r : Int} (hr : zir r) {a b : Int} (ha : zir a) (hb : zir b) : zMet l yX7_has_ cX7_has_ 4 (some .boolean) ({ frames := 3, cells := 0, slots := 0, locals := 120 } : Room) D N0 [.ref M, zi r, zi a, zi b] μ (zQI D N0 (fun z u => ∃ t, (t = 0 ∧ z = 0 ∧ (0 ≤ r ∧ r < 8) ∧ (True) ∨ t = 1 ∧ ¬ (0 ≤ r ∧ r < 8) ∨ t = 2 ∧ (0 ≤ r ∧ r < 8) ∧ ¬ (True)) ∧ zMP M μ t u)) := by
  refine zMet_of rfl (Nat.le_of_ble_eq_true rfl) (fun X C Rm hin E => ?_)
  refine z_aload_n C dX7_has__0 rfl ?_
  refine z_iload_n C dX7_has__1 rfl ?_
  refine z_ci C (z_rS C Rm qs_X7_isRegion m_1067 (m_isRegion hr) dX7_has__2 rfl rfl (Nat.le_of_ble_eq_true rfl) rfl ⟨Nat.le_of_ble_eq_true rfl, Nat.le_of_ble_eq_true rfl, Nat.le_of_ble_eq_true rfl, Nat.le_of_ble_eq_true rfl⟩) (fun z μ1 hp => ?_)
  obtain ⟨hp, rfl⟩ := hp
  refine z_if_eq (tgt := 12) C dX7_has__5 (by decide) (fun h1 => ?_) (fun h1 => ?_)
  · refine z_iconst C dX7_has__12 ?_
    refine z_put C hM.obj rfl tyX7 tyX7_ok nmX7 0 (by decide) m_1010 inz7 rfl rfl (by rfl) (by rfl) (Nat.le_of_ble_eq_true rfl) dX7_has__13 ?_
    refine z_aload_n C dX7_has__16 rfl ?_
    refine z_get C zu_s rfl 0 (by decide) m_1010 inz7 rfl rfl dX7_has__17 ?_
    refine z_if_ne (tgt := 41) C dX7_has__20 (by decide) (fun _ => ?_) (fun hno => absurd hno (by decide))
    refine z_iconst C dX7_has__41 ?_
    exact z_zret C E (Or.inl rfl) dX7_has__42 (Nat.le_of_ble_eq_true rfl) (Nat.le_of_ble_eq_true rfl) ⟨1, Or.inr (Or.inl ⟨rfl, by omega⟩), zMP.of zu_s (zN.put zN.rf (by unfold zb; omega))⟩
  have h8 : 0 ≤ r ∧ r < 8 := by omega
  refine z_iconst C dX7_has__8 ?_
  refine z_goto (tgt := 13) C dX7_has__9 (by decide) ?_
  refine z_put C hM.obj rfl tyX7 tyX7_ok nmX7 0 (by decide) m_1010 inz7 rfl rfl (by rfl) (by rfl) (Nat.le_of_ble_eq_true rfl) dX7_has__13 ?_
  refine z_same hM.obj ?_
  refine z_aload_n C dX7_has__16 rfl ?_
  refine z_get C hM.obj rfl 0 (by decide) m_1010 inz7 rfl rfl dX7_has__17 ?_
  refine z_if_ne (tgt := 41) C dX7_has__20 (by decide) (fun hno => absurd hno (fun h => h rfl)) (fun _ => ?_)
  refine z_aload_n C dX7_has__23 rfl ?_
  refine z_get C hM.obj rfl 1 (by decide) m_1011 inz7 rfl rfl dX7_has__24 ?_
  refine z_iload_n C dX7_has__27 rfl ?_
  refine z_bald C hM.rows (by decide) (isMo.row_eq h8) dX7_has__28 ?_
  refine z_iload_n C dX7_has__29 rfl ?_
  refine z_iload_n C dX7_has__30 rfl ?_
  refine z_ci C (z_rS C Rm qs_X7_has m_1129 (m_has0 (hM.row h8) ha hb) dX7_has__31 rfl rfl (Nat.le_of_ble_eq_true rfl) rfl ⟨Nat.le_of_ble_eq_true rfl, Nat.le_of_ble_eq_true rfl, Nat.le_of_ble_eq_true rfl, Nat.le_of_ble_eq_true rfl⟩) (fun z2 μ2 hq => ?_)
  obtain ⟨rfl, rfl⟩ := hq
  refine z_if_eq (tgt := 41) C dX7_has__34 (by decide) (fun _ => ?_) (fun hno => absurd hno (fun h => h rfl))
  refine z_iconst C dX7_has__41 ?_
  exact z_zret C E (Or.inl rfl) dX7_has__42 (Nat.le_of_ble_eq_true rfl) (Nat.le_of_ble_eq_true rfl) ⟨0, Or.inl ⟨rfl, rfl, h8, trivial⟩, zMP.of hM.obj zN.rf⟩
set_option maxRecDepth 100000 in
set_option maxHeartbeats 4000000 in
theorem m_hatching {l : Launch} {D : va_G} {N0 : Nat} {M : Nat} {μ : zM} (hM : isMo D μ M) {r : Int} (hr : zir r) {k e f : Int} (hk : zir k) (he : zir e) (hf : zir f) {w : Int} : zMet l yX7_hatching cX7_hatching 11 (some .int) ({ frames := 3, cells := 0, slots := 0, locals := 120 } : Room) D N0 [.ref M, zi r, zi k, zi e, zi f, zi w] μ (zQI D N0 (fun z u => ∃ t, (t = 0 ∧ z = 0 ∧ (0 ≤ r ∧ r < 8) ∧ ((0 ≤ k ∧ k ≤ 3) ∧ (1 ≤ e ∧ e ≤ 20) ∧ -100 ≤ f ∧ f ≤ 100) ∨ t = 1 ∧ ¬ (0 ≤ r ∧ r < 8) ∨ t = 2 ∧ (0 ≤ r ∧ r < 8) ∧ ¬ ((0 ≤ k ∧ k ≤ 3) ∧ (1 ≤ e ∧ e ≤ 20) ∧ -100 ≤ f ∧ f ≤ 100)) ∧ zMP M μ t u)) := by
  refine zMet_of rfl (Nat.le_of_ble_eq_true rfl) (fun X C Rm hin E => ?_)
  refine z_aload_n C dX7_hatching_0 rfl ?_
  refine z_iconst C dX7_hatching_1 ?_
  refine z_put C hM.obj rfl tyX7 tyX7_ok nmX7 0 (by decide) m_1010 inz7 rfl rfl (by rfl) (by rfl) (Nat.le_of_ble_eq_true rfl) dX7_hatching_2 ?_
  refine z_same hM.obj ?_
  refine z_iload_n C dX7_hatching_5 rfl ?_
  refine z_ci C (z_rS C Rm qs_X7_isRegion m_1067 (m_isRegion hr) dX7_hatching_6 rfl rfl (Nat.le_of_ble_eq_true rfl) rfl ⟨Nat.le_of_ble_eq_true rfl, Nat.le_of_ble_eq_true rfl, Nat.le_of_ble_eq_true rfl, Nat.le_of_ble_eq_true rfl⟩) (fun z μ1 hp => ?_)
  obtain ⟨hp, rfl⟩ := hp
  refine z_if_ne (tgt := 18) C dX7_hatching_9 (by decide) (fun h1 => ?_) (fun h1 => ?_)
  rotate_left
  · refine z_aload_n C dX7_hatching_12 rfl ?_
    refine z_iconst C dX7_hatching_13 ?_
    refine z_ci C (z_rV C Rm qv_X7_no m_1047 (m_no hM.obj (k := 1)) hM.obj rfl dX7_hatching_14 rfl rfl (Nat.le_of_ble_eq_true rfl) rfl ⟨Nat.le_of_ble_eq_true rfl, Nat.le_of_ble_eq_true rfl, Nat.le_of_ble_eq_true rfl, Nat.le_of_ble_eq_true rfl⟩) (fun z2 μ2 hq => ?_)
    obtain ⟨rfl, rfl⟩ := hq
    exact z_iret C E dX7_hatching_17 (Nat.le_of_ble_eq_true rfl) (Nat.le_of_ble_eq_true rfl) ⟨1, Or.inr (Or.inl ⟨rfl, by omega⟩), zMP.of zu_s (zN.put zN.rf (by unfold zb; omega))⟩
  have h8 : 0 ≤ r ∧ r < 8 := by omega
  refine z_iload_n C dX7_hatching_18 rfl ?_
  refine z_iconst C dX7_hatching_19 ?_
  refine z_iconst C dX7_hatching_20 ?_
  refine z_ci C (z_rS C Rm qs_X7_isIn m_1044 (m_isIn hk (by decide) (by decide)) dX7_hatching_21 rfl rfl (Nat.le_of_ble_eq_true rfl) rfl ⟨Nat.le_of_ble_eq_true rfl, Nat.le_of_ble_eq_true rfl, Nat.le_of_ble_eq_true rfl, Nat.le_of_ble_eq_true rfl⟩) (fun z1 μ1 hp1 => ?_)
  obtain ⟨hp1, rfl⟩ := hp1
  refine z_if_eq (tgt := 49) C dX7_hatching_24 (by decide) (fun h2 => ?_) (fun h2 => ?_)
  · refine z_aload_n C dX7_hatching_49 rfl ?_
    refine z_iconst C dX7_hatching_50 ?_
    refine z_ci C (z_rV C Rm qv_X7_no m_1047 (m_no hM.obj (k := 2)) hM.obj rfl dX7_hatching_51 rfl rfl (Nat.le_of_ble_eq_true rfl) rfl ⟨Nat.le_of_ble_eq_true rfl, Nat.le_of_ble_eq_true rfl, Nat.le_of_ble_eq_true rfl, Nat.le_of_ble_eq_true rfl⟩) (fun z2 μ2 hq => ?_)
    obtain ⟨rfl, rfl⟩ := hq
    exact z_iret C E dX7_hatching_54 (Nat.le_of_ble_eq_true rfl) (Nat.le_of_ble_eq_true rfl) ⟨2, Or.inr (Or.inr ⟨rfl, h8, by omega⟩), zMP.of zu_s (zN.put zN.rf (by unfold zb; omega))⟩
  refine z_iload_n C dX7_hatching_27 rfl ?_
  refine z_iconst C dX7_hatching_28 ?_
  refine z_bipush C dX7_hatching_29 ?_
  refine z_ci C (z_rS C Rm qs_X7_isIn m_1044 (m_isIn he (by decide) (by decide)) dX7_hatching_31 rfl rfl (Nat.le_of_ble_eq_true rfl) rfl ⟨Nat.le_of_ble_eq_true rfl, Nat.le_of_ble_eq_true rfl, Nat.le_of_ble_eq_true rfl, Nat.le_of_ble_eq_true rfl⟩) (fun z2 μ1 hp2 => ?_)
  obtain ⟨hp2, rfl⟩ := hp2
  refine z_if_eq (tgt := 49) C dX7_hatching_34 (by decide) (fun h3 => ?_) (fun h3 => ?_)
  · refine z_aload_n C dX7_hatching_49 rfl ?_
    refine z_iconst C dX7_hatching_50 ?_
    refine z_ci C (z_rV C Rm qv_X7_no m_1047 (m_no hM.obj (k := 2)) hM.obj rfl dX7_hatching_51 rfl rfl (Nat.le_of_ble_eq_true rfl) rfl ⟨Nat.le_of_ble_eq_true rfl, Nat.le_of_ble_eq_true rfl, Nat.le_of_ble_eq_true rfl, Nat.le_of_ble_eq_true rfl⟩) (fun z2 μ2 hq => ?_)
    obtain ⟨rfl, rfl⟩ := hq
    exact z_iret C E dX7_hatching_54 (Nat.le_of_ble_eq_true rfl) (Nat.le_of_ble_eq_true rfl) ⟨2, Or.inr (Or.inr ⟨rfl, h8, by omega⟩), zMP.of zu_s (zN.put zN.rf (by unfold zb; omega))⟩
  refine z_iload C dX7_hatching_37 rfl ?_
  refine z_bipush C dX7_hatching_39 ?_
  refine z_bipush C dX7_hatching_41 ?_
  refine z_ci C (z_rS C Rm qs_X7_isIn m_1044 (m_isIn hf (by decide) (by decide)) dX7_hatching_43 rfl rfl (Nat.le_of_ble_eq_true rfl) rfl ⟨Nat.le_of_ble_eq_true rfl, Nat.le_of_ble_eq_true rfl, Nat.le_of_ble_eq_true rfl, Nat.le_of_ble_eq_true rfl⟩) (fun z3 μ1 hp3 => ?_)
  obtain ⟨hp3, rfl⟩ := hp3
  refine z_if_ne (tgt := 55) C dX7_hatching_46 (by decide) (fun h4 => ?_) (fun h4 => ?_)
  rotate_left
  · refine z_aload_n C dX7_hatching_49 rfl ?_
    refine z_iconst C dX7_hatching_50 ?_
    refine z_ci C (z_rV C Rm qv_X7_no m_1047 (m_no hM.obj (k := 2)) hM.obj rfl dX7_hatching_51 rfl rfl (Nat.le_of_ble_eq_true rfl) rfl ⟨Nat.le_of_ble_eq_true rfl, Nat.le_of_ble_eq_true rfl, Nat.le_of_ble_eq_true rfl, Nat.le_of_ble_eq_true rfl⟩) (fun z2 μ2 hq => ?_)
    obtain ⟨rfl, rfl⟩ := hq
    exact z_iret C E dX7_hatching_54 (Nat.le_of_ble_eq_true rfl) (Nat.le_of_ble_eq_true rfl) ⟨2, Or.inr (Or.inr ⟨rfl, h8, by omega⟩), zMP.of zu_s (zN.put zN.rf (by unfold zb; omega))⟩
  have hP : (0 ≤ k ∧ k ≤ 3) ∧ (1 ≤ e ∧ e ≤ 20) ∧ -100 ≤ f ∧ f ≤ 100 := by omega
  refine z_iconst C dX7_hatching_55 ?_
  refine z_istore (L' := [_, _, _, _, _, _, _, _, _, _, _]) C dX7_hatching_56 rfl ?_
  refine z_bipush C dX7_hatching_58 ?_
  refine z_istore (L' := [_, _, _, _, _, _, _, _, _, _, _]) C dX7_hatching_60 rfl ?_
  have grid : ∀ (n : Nat) (x : Int) (Ly : Option Value), x + n = 32 → -32 ≤ x → Z X μ1 0 0 62 [some (.ref M), some (zi r), some (zi k), some (zi e), some (zi f), some (zi w), some (zi 0), some (zi x), Ly, none, none] [] := by
    intro n
    induction n with
    | zero =>
      intro x Ly hn h0
      refine z_iload C dX7_hatching_62 rfl ?_
      refine z_bipush C dX7_hatching_64 ?_
      refine z_icmp_gt (tgt := 200) C dX7_hatching_66 (by decide) (fun _ => ?_) (fun hno => absurd hno (by omega))
      refine z_iload C dX7_hatching_200 rfl ?_
      exact z_iret C E dX7_hatching_202 (Nat.le_of_ble_eq_true rfl) (Nat.le_of_ble_eq_true rfl) ⟨0, Or.inl ⟨rfl, rfl, h8, hP⟩, zMP.of hM.obj zN.rf⟩
    | succ n ih =>
      intro x Ly hn h0
      have row : ∀ (j : Nat) (y : Int), y + j = 32 → -32 ≤ y → Z X μ1 0 0 73 [some (.ref M), some (zi r), some (zi k), some (zi e), some (zi f), some (zi w), some (zi 0), some (zi x), some (zi y), none, none] [] := by
        intro j
        induction j with
        | zero =>
          intro y hj hy
          refine z_iload C dX7_hatching_73 rfl ?_
          refine z_bipush C dX7_hatching_75 ?_
          refine z_icmp_gt (tgt := 194) C dX7_hatching_77 (by decide) (fun _ => ?_) (fun hno => absurd hno (by omega))
          refine z_iinc (L' := [_, _, _, _, _, _, _, _, _, _, _]) C dX7_hatching_194 rfl rfl ?_
          refine z_goto (tgt := 62) C dX7_hatching_197 (by decide) ?_
          exact ih (x + 1) _ (by omega) (by omega)
        | succ j ih2 =>
          intro y hj hy
          refine z_iload C dX7_hatching_73 rfl ?_
          refine z_bipush C dX7_hatching_75 ?_
          refine z_icmp_gt (tgt := 194) C dX7_hatching_77 (by decide) (fun hno => absurd hno (by omega)) (fun _ => ?_)
          refine z_aload_n C dX7_hatching_80 rfl ?_
          refine z_get C hM.obj rfl 1 (by decide) m_1011 inz7 rfl rfl dX7_hatching_81 ?_
          refine z_iload_n C dX7_hatching_84 rfl ?_
          refine z_bald C hM.rows (by decide) (isMo.row_eq h8) dX7_hatching_85 ?_
          refine z_iload C dX7_hatching_86 rfl ?_
          refine z_iload C dX7_hatching_88 rfl ?_
          refine z_ci C (z_rS C Rm qs_X7_at m_1075 (m_at (x := x) (y := y)) dX7_hatching_90 rfl rfl (Nat.le_of_ble_eq_true rfl) rfl ⟨Nat.le_of_ble_eq_true rfl, Nat.le_of_ble_eq_true rfl, Nat.le_of_ble_eq_true rfl, Nat.le_of_ble_eq_true rfl⟩) (fun z μ5 hq5 => ?_)
          obtain ⟨rfl, rfl⟩ := hq5
          refine z_zald C (hM.row h8) (by decide) dX7_hatching_93 ?_
          rw [show zIz ((y + 32) * 64 + x + 32).toNat = 0 from rfl]
          refine z_if_eq (tgt := 188) C dX7_hatching_94 (by decide) (fun _ => ?_) (fun hno => absurd hno (fun h => h rfl))
          refine z_iinc (L' := [_, _, _, _, _, _, _, _, _, _, _]) C dX7_hatching_188 rfl rfl ?_
          refine z_goto (tgt := 73) C dX7_hatching_191 (by decide) ?_
          exact ih2 (y + 1) (by omega) (by omega)
      refine z_iload C dX7_hatching_62 rfl ?_
      refine z_bipush C dX7_hatching_64 ?_
      refine z_icmp_gt (tgt := 200) C dX7_hatching_66 (by decide) (fun hno => absurd hno (by omega)) (fun _ => ?_)
      refine z_bipush C dX7_hatching_69 ?_
      refine z_istore (L' := [_, _, _, _, _, _, _, _, _, _, _]) C dX7_hatching_71 rfl ?_
      exact row 64 (-32) (by omega) (by omega)
  exact grid 64 (-32) _ (by omega) (by omega)
set_option maxRecDepth 100000 in
set_option maxHeartbeats 4000000 in
theorem m_hatch {l : Launch} {D : va_G} {N0 : Nat} {M : Nat} {μ : zM} (hM : isMo D μ M) {r : Int} (hr : zir r) {k e f : Int} (hk : zir k) (he : zir e) (hf : zir f) : zMet l yX7_hatch cX7_hatch 5 (some .int) ({ frames := 4, cells := 0, slots := 0, locals := 160 } : Room) D N0 [.ref M, zi r, zi k, zi e, zi f] μ (zQI D N0 (fun z u => ∃ t, (t = 0 ∧ z = 0 ∧ (0 ≤ r ∧ r < 8) ∧ ((0 ≤ k ∧ k ≤ 3) ∧ (1 ≤ e ∧ e ≤ 20) ∧ -100 ≤ f ∧ f ≤ 100) ∨ t = 1 ∧ ¬ (0 ≤ r ∧ r < 8) ∨ t = 2 ∧ (0 ≤ r ∧ r < 8) ∧ ¬ ((0 ≤ k ∧ k ≤ 3) ∧ (1 ≤ e ∧ e ≤ 20) ∧ -100 ≤ f ∧ f ≤ 100)) ∧ zMP M μ t u)) := by
  refine zMet_of rfl (Nat.le_of_ble_eq_true rfl) (fun X C Rm hin E => ?_)
  refine z_aload_n C dX7_hatch_0 rfl ?_
  refine z_iload_n C dX7_hatch_1 rfl ?_
  refine z_iload_n C dX7_hatch_2 rfl ?_
  refine z_iload_n C dX7_hatch_3 rfl ?_
  refine z_iload C dX7_hatch_4 rfl ?_
  refine z_iconst C dX7_hatch_6 ?_
  refine z_ci C (z_rV C Rm qv_X7_hatching m_1260 (m_hatching hM hr hk he hf) hM.obj rfl dX7_hatch_7 rfl rfl (Nat.le_of_ble_eq_true rfl) rfl ⟨Nat.le_of_ble_eq_true rfl, Nat.le_of_ble_eq_true rfl, Nat.le_of_ble_eq_true rfl, Nat.le_of_ble_eq_true rfl⟩) (fun z μ1 hp => ?_)
  exact z_iret C E dX7_hatch_10 (Nat.le_of_ble_eq_true rfl) (Nat.le_of_ble_eq_true rfl) hp
set_option maxRecDepth 100000 in
set_option maxHeartbeats 4000000 in
theorem m_hatched {l : Launch} {D : va_G} {N0 : Nat} {M : Nat} {μ : zM} (hM : isMo D μ M) {r : Int} (hr : zir r) {k e f : Int} (hk : zir k) (he : zir e) (hf : zir f) : zMet l yX7_hatched cX7_hatched 5 (some .int) ({ frames := 4, cells := 0, slots := 0, locals := 160 } : Room) D N0 [.ref M, zi r, zi k, zi e, zi f] μ (zQI D N0 (fun z u => ∃ t, (t = 0 ∧ z = 0 ∧ (0 ≤ r ∧ r < 8) ∧ ((0 ≤ k ∧ k ≤ 3) ∧ (1 ≤ e ∧ e ≤ 20) ∧ -100 ≤ f ∧ f ≤ 100) ∨ t = 1 ∧ ¬ (0 ≤ r ∧ r < 8) ∨ t = 2 ∧ (0 ≤ r ∧ r < 8) ∧ ¬ ((0 ≤ k ∧ k ≤ 3) ∧ (1 ≤ e ∧ e ≤ 20) ∧ -100 ≤ f ∧ f ≤ 100)) ∧ zMP M μ t u)) := by
  refine zMet_of rfl (Nat.le_of_ble_eq_true rfl) (fun X C Rm hin E => ?_)
  refine z_aload_n C dX7_hatched_0 rfl ?_
  refine z_iload_n C dX7_hatched_1 rfl ?_
  refine z_iload_n C dX7_hatched_2 rfl ?_
  refine z_iload_n C dX7_hatched_3 rfl ?_
  refine z_iload C dX7_hatched_4 rfl ?_
  refine z_iconst C dX7_hatched_6 ?_
  refine z_ci C (z_rV C Rm qv_X7_hatching m_1260 (m_hatching hM hr hk he hf) hM.obj rfl dX7_hatched_7 rfl rfl (Nat.le_of_ble_eq_true rfl) rfl ⟨Nat.le_of_ble_eq_true rfl, Nat.le_of_ble_eq_true rfl, Nat.le_of_ble_eq_true rfl, Nat.le_of_ble_eq_true rfl⟩) (fun z μ1 hp => ?_)
  exact z_iret C E dX7_hatched_10 (Nat.le_of_ble_eq_true rfl) (Nat.le_of_ble_eq_true rfl) hp
set_option maxRecDepth 100000 in
set_option maxHeartbeats 4000000 in
theorem m_apart {l : Launch} {D : va_G} {N0 : Nat} {M : Nat} {μ : zM} (hM : isMo D μ M) {p q : Int} (hp0 : zir p) (hq0 : zir q) : zMet l yX7_apart cX7_apart 9 (some .int) ({ frames := 3, cells := 0, slots := 0, locals := 120 } : Room) D N0 [.ref M, zi p, zi q] μ (zQI D N0 (fun z u => ∃ t, (t = 0 ∧ z = -1 ∧ ((0 ≤ p ∧ p < 8) ∧ 0 ≤ q ∧ q < 8) ∨ t = 1 ∧ ¬ ((0 ≤ p ∧ p < 8) ∧ 0 ≤ q ∧ q < 8)) ∧ zMP M μ t u)) := by
  refine zMet_of rfl (Nat.le_of_ble_eq_true rfl) (fun X C Rm hin E => ?_)
  refine z_aload_n C dX7_apart_0 rfl ?_
  refine z_iconst C dX7_apart_1 ?_
  refine z_put C hM.obj rfl tyX7 tyX7_ok nmX7 0 (by decide) m_1010 inz7 rfl rfl (by rfl) (by rfl) (Nat.le_of_ble_eq_true rfl) dX7_apart_2 ?_
  refine z_same hM.obj ?_
  refine z_iload_n C dX7_apart_5 rfl ?_
  refine z_ci C (z_rS C Rm qs_X7_isRegion m_1067 (m_isRegion hp0) dX7_apart_6 rfl rfl (Nat.le_of_ble_eq_true rfl) rfl ⟨Nat.le_of_ble_eq_true rfl, Nat.le_of_ble_eq_true rfl, Nat.le_of_ble_eq_true rfl, Nat.le_of_ble_eq_true rfl⟩) (fun z μ1 hp => ?_)
  obtain ⟨hp, rfl⟩ := hp
  refine z_if_eq (tgt := 19) C dX7_apart_9 (by decide) (fun h1 => ?_) (fun h1 => ?_)
  · refine z_aload_n C dX7_apart_19 rfl ?_
    refine z_iconst C dX7_apart_20 ?_
    refine z_ci C (z_rV C Rm qv_X7_no m_1047 (m_no hM.obj (k := 1)) hM.obj rfl dX7_apart_21 rfl rfl (Nat.le_of_ble_eq_true rfl) rfl ⟨Nat.le_of_ble_eq_true rfl, Nat.le_of_ble_eq_true rfl, Nat.le_of_ble_eq_true rfl, Nat.le_of_ble_eq_true rfl⟩) (fun z2 μ2 hq => ?_)
    obtain ⟨rfl, rfl⟩ := hq
    exact z_iret C E dX7_apart_24 (Nat.le_of_ble_eq_true rfl) (Nat.le_of_ble_eq_true rfl) ⟨1, Or.inr ⟨rfl, by omega⟩, zMP.of zu_s (zN.put zN.rf (by unfold zb; omega))⟩
  refine z_iload_n C dX7_apart_12 rfl ?_
  refine z_ci C (z_rS C Rm qs_X7_isRegion m_1067 (m_isRegion hq0) dX7_apart_13 rfl rfl (Nat.le_of_ble_eq_true rfl) rfl ⟨Nat.le_of_ble_eq_true rfl, Nat.le_of_ble_eq_true rfl, Nat.le_of_ble_eq_true rfl, Nat.le_of_ble_eq_true rfl⟩) (fun z1 μ1 hp1 => ?_)
  obtain ⟨hp1, rfl⟩ := hp1
  refine z_if_ne (tgt := 25) C dX7_apart_16 (by decide) (fun h2 => ?_) (fun h2 => ?_)
  rotate_left
  · refine z_aload_n C dX7_apart_19 rfl ?_
    refine z_iconst C dX7_apart_20 ?_
    refine z_ci C (z_rV C Rm qv_X7_no m_1047 (m_no hM.obj (k := 1)) hM.obj rfl dX7_apart_21 rfl rfl (Nat.le_of_ble_eq_true rfl) rfl ⟨Nat.le_of_ble_eq_true rfl, Nat.le_of_ble_eq_true rfl, Nat.le_of_ble_eq_true rfl, Nat.le_of_ble_eq_true rfl⟩) (fun z2 μ2 hq => ?_)
    obtain ⟨rfl, rfl⟩ := hq
    exact z_iret C E dX7_apart_24 (Nat.le_of_ble_eq_true rfl) (Nat.le_of_ble_eq_true rfl) ⟨1, Or.inr ⟨rfl, by omega⟩, zMP.of zu_s (zN.put zN.rf (by unfold zb; omega))⟩
  have p8 : 0 ≤ p ∧ p < 8 := by omega
  have q8 : 0 ≤ q ∧ q < 8 := by omega
  refine z_aload_n C dX7_apart_25 rfl ?_
  refine z_get C hM.obj rfl 1 (by decide) m_1011 inz7 rfl rfl dX7_apart_26 ?_
  refine z_iload_n C dX7_apart_29 rfl ?_
  refine z_bald C hM.rows (by decide) (isMo.row_eq p8) dX7_apart_30 ?_
  refine z_ci C (z_rS C Rm qs_X7_areaOf m_1085 (m_area (hM.row p8) (fun i => Or.inl rfl)) dX7_apart_31 rfl rfl (Nat.le_of_ble_eq_true rfl) rfl ⟨Nat.le_of_ble_eq_true rfl, Nat.le_of_ble_eq_true rfl, Nat.le_of_ble_eq_true rfl, Nat.le_of_ble_eq_true rfl⟩) (fun z2 μ2 hq => ?_)
  obtain ⟨rfl, rfl⟩ := hq
  rw [cntZ_z]
  refine z_if_eq (tgt := 49) C dX7_apart_34 (by decide) (fun _ => ?_) (fun hno => absurd hno (fun h => h rfl))
  refine z_iconst C dX7_apart_49 ?_
  exact z_iret C E dX7_apart_50 (Nat.le_of_ble_eq_true rfl) (Nat.le_of_ble_eq_true rfl) ⟨0, Or.inl ⟨rfl, rfl, p8, q8⟩, zMP.of hM.obj zN.rf⟩
set_option maxRecDepth 100000 in
set_option maxHeartbeats 4000000 in
theorem m_isSameForm {l : Launch} {D : va_G} {N0 : Nat} {M : Nat} {μ : zM} (hM : isMo D μ M) {p q : Int} (hp0 : zir p) (hq0 : zir q) : zMet l yX7_isSameForm cX7_isSameForm 7 (some .boolean) ({ frames := 3, cells := 0, slots := 0, locals := 120 } : Room) D N0 [.ref M, zi p, zi q] μ (zQI D N0 (fun z u => ∃ t, (t = 0 ∧ z = 1 ∧ ((0 ≤ p ∧ p < 8) ∧ 0 ≤ q ∧ q < 8) ∨ t = 1 ∧ ¬ ((0 ≤ p ∧ p < 8) ∧ 0 ≤ q ∧ q < 8)) ∧ zMP M μ t u)) := by
  refine zMet_of rfl (Nat.le_of_ble_eq_true rfl) (fun X C Rm hin E => ?_)
  have bad : ¬ ((0 ≤ p ∧ p < 8) ∧ 0 ≤ q ∧ q < 8) → Z X μ 0 0 19 [some (.ref M), some (zi p), some (zi q), none, none, none, none] [.ref M] := by
    intro hbad
    refine z_iconst C dX7_isSameForm_19 ?_
    refine z_put C hM.obj rfl tyX7 tyX7_ok nmX7 0 (by decide) m_1010 inz7 rfl rfl (by rfl) (by rfl) (Nat.le_of_ble_eq_true rfl) dX7_isSameForm_20 ?_
    refine z_aload_n C dX7_isSameForm_23 rfl ?_
    refine z_get C zu_s rfl 0 (by decide) m_1010 inz7 rfl rfl dX7_isSameForm_24 ?_
    refine z_if_eq (tgt := 32) C dX7_isSameForm_27 (by decide) (fun hno => absurd hno (by decide)) (fun _ => ?_)
    refine z_iconst C dX7_isSameForm_30 ?_
    exact z_zret C E (Or.inl rfl) dX7_isSameForm_31 (Nat.le_of_ble_eq_true rfl) (Nat.le_of_ble_eq_true rfl) ⟨1, Or.inr ⟨rfl, hbad⟩, zMP.of zu_s (zN.put zN.rf (by unfold zb; omega))⟩
  refine z_aload_n C dX7_isSameForm_0 rfl ?_
  refine z_iload_n C dX7_isSameForm_1 rfl ?_
  refine z_ci C (z_rS C Rm qs_X7_isRegion m_1067 (m_isRegion hp0) dX7_isSameForm_2 rfl rfl (Nat.le_of_ble_eq_true rfl) rfl ⟨Nat.le_of_ble_eq_true rfl, Nat.le_of_ble_eq_true rfl, Nat.le_of_ble_eq_true rfl, Nat.le_of_ble_eq_true rfl⟩) (fun z μ1 hp => ?_)
  obtain ⟨hp, rfl⟩ := hp
  refine z_if_eq (tgt := 19) C dX7_isSameForm_5 (by decide) (fun h1 => ?_) (fun h1 => ?_)
  · exact bad (by omega)
  refine z_iload_n C dX7_isSameForm_8 rfl ?_
  refine z_ci C (z_rS C Rm qs_X7_isRegion m_1067 (m_isRegion hq0) dX7_isSameForm_9 rfl rfl (Nat.le_of_ble_eq_true rfl) rfl ⟨Nat.le_of_ble_eq_true rfl, Nat.le_of_ble_eq_true rfl, Nat.le_of_ble_eq_true rfl, Nat.le_of_ble_eq_true rfl⟩) (fun z1 μ1 hp1 => ?_)
  obtain ⟨hp1, rfl⟩ := hp1
  refine z_if_eq (tgt := 19) C dX7_isSameForm_12 (by decide) (fun h2 => ?_) (fun h2 => ?_)
  · exact bad (by omega)
  have p8 : 0 ≤ p ∧ p < 8 := by omega
  have q8 : 0 ≤ q ∧ q < 8 := by omega
  refine z_iconst C dX7_isSameForm_15 ?_
  refine z_goto (tgt := 20) C dX7_isSameForm_16 (by decide) ?_
  refine z_put C hM.obj rfl tyX7 tyX7_ok nmX7 0 (by decide) m_1010 inz7 rfl rfl (by rfl) (by rfl) (Nat.le_of_ble_eq_true rfl) dX7_isSameForm_20 ?_
  refine z_same hM.obj ?_
  refine z_aload_n C dX7_isSameForm_23 rfl ?_
  refine z_get C hM.obj rfl 0 (by decide) m_1010 inz7 rfl rfl dX7_isSameForm_24 ?_
  refine z_if_eq (tgt := 32) C dX7_isSameForm_27 (by decide) (fun _ => ?_) (fun hno => absurd hno (fun h => h rfl))
  refine z_aload_n C dX7_isSameForm_32 rfl ?_
  refine z_iload_n C dX7_isSameForm_33 rfl ?_
  refine z_iconst C dX7_isSameForm_34 ?_
  refine z_ci C (z_rV C Rm qv_X7_boundNow m_1189 (m_boundNow hM q8 (s := 0)) hM.obj rfl dX7_isSameForm_35 rfl rfl (Nat.le_of_ble_eq_true rfl) rfl ⟨Nat.le_of_ble_eq_true rfl, Nat.le_of_ble_eq_true rfl, Nat.le_of_ble_eq_true rfl, Nat.le_of_ble_eq_true rfl⟩) (fun z2 μ2 hq => ?_)
  obtain ⟨rfl, rfl⟩ := hq
  refine z_aload_n C dX7_isSameForm_38 rfl ?_
  refine z_iload_n C dX7_isSameForm_39 rfl ?_
  refine z_iconst C dX7_isSameForm_40 ?_
  refine z_ci C (z_rV C Rm qv_X7_boundNow m_1189 (m_boundNow hM p8 (s := 0)) hM.obj rfl dX7_isSameForm_41 rfl rfl (Nat.le_of_ble_eq_true rfl) rfl ⟨Nat.le_of_ble_eq_true rfl, Nat.le_of_ble_eq_true rfl, Nat.le_of_ble_eq_true rfl, Nat.le_of_ble_eq_true rfl⟩) (fun z2 μ2 hq => ?_)
  obtain ⟨rfl, rfl⟩ := hq
  refine z_isub C dX7_isSameForm_44 ?_
  refine z_istore_n (L' := [_, _, _, _, _, _, _]) C dX7_isSameForm_45 rfl ?_
  refine z_aload_n C dX7_isSameForm_46 rfl ?_
  refine z_iload_n C dX7_isSameForm_47 rfl ?_
  refine z_iconst C dX7_isSameForm_48 ?_
  refine z_ci C (z_rV C Rm qv_X7_boundNow m_1189 (m_boundNow hM q8 (s := 1)) hM.obj rfl dX7_isSameForm_49 rfl rfl (Nat.le_of_ble_eq_true rfl) rfl ⟨Nat.le_of_ble_eq_true rfl, Nat.le_of_ble_eq_true rfl, Nat.le_of_ble_eq_true rfl, Nat.le_of_ble_eq_true rfl⟩) (fun z2 μ2 hq => ?_)
  obtain ⟨rfl, rfl⟩ := hq
  refine z_aload_n C dX7_isSameForm_52 rfl ?_
  refine z_iload_n C dX7_isSameForm_53 rfl ?_
  refine z_iconst C dX7_isSameForm_54 ?_
  refine z_ci C (z_rV C Rm qv_X7_boundNow m_1189 (m_boundNow hM p8 (s := 1)) hM.obj rfl dX7_isSameForm_55 rfl rfl (Nat.le_of_ble_eq_true rfl) rfl ⟨Nat.le_of_ble_eq_true rfl, Nat.le_of_ble_eq_true rfl, Nat.le_of_ble_eq_true rfl, Nat.le_of_ble_eq_true rfl⟩) (fun z2 μ2 hq => ?_)
  obtain ⟨rfl, rfl⟩ := hq
  refine z_isub C dX7_isSameForm_58 ?_
  refine z_istore (L' := [_, _, _, _, _, _, _]) C dX7_isSameForm_59 rfl ?_
  refine z_aload_n C dX7_isSameForm_61 rfl ?_
  refine z_get C hM.obj rfl 1 (by decide) m_1011 inz7 rfl rfl dX7_isSameForm_62 ?_
  refine z_iload_n C dX7_isSameForm_65 rfl ?_
  refine z_bald C hM.rows (by decide) (isMo.row_eq p8) dX7_isSameForm_66 ?_
  refine z_ci C (z_rS C Rm qs_X7_areaOf m_1085 (m_area (hM.row p8) (fun i => Or.inl rfl)) dX7_isSameForm_67 rfl rfl (Nat.le_of_ble_eq_true rfl) rfl ⟨Nat.le_of_ble_eq_true rfl, Nat.le_of_ble_eq_true rfl, Nat.le_of_ble_eq_true rfl, Nat.le_of_ble_eq_true rfl⟩) (fun z2 μ2 hq => ?_)
  obtain ⟨rfl, rfl⟩ := hq
  refine z_aload_n C dX7_isSameForm_70 rfl ?_
  refine z_get C hM.obj rfl 1 (by decide) m_1011 inz7 rfl rfl dX7_isSameForm_71 ?_
  refine z_iload_n C dX7_isSameForm_74 rfl ?_
  refine z_bald C hM.rows (by decide) (isMo.row_eq q8) dX7_isSameForm_75 ?_
  refine z_ci C (z_rS C Rm qs_X7_areaOf m_1085 (m_area (hM.row q8) (fun i => Or.inl rfl)) dX7_isSameForm_76 rfl rfl (Nat.le_of_ble_eq_true rfl) rfl ⟨Nat.le_of_ble_eq_true rfl, Nat.le_of_ble_eq_true rfl, Nat.le_of_ble_eq_true rfl, Nat.le_of_ble_eq_true rfl⟩) (fun z2 μ2 hq => ?_)
  obtain ⟨rfl, rfl⟩ := hq
  rw [cntZ_z]
  refine z_icmp_eq (tgt := 84) C dX7_isSameForm_79 (by decide) (fun _ => ?_) (fun hno => absurd hno (fun h => h rfl))
  refine z_bipush C dX7_isSameForm_84 ?_
  refine z_istore (L' := [_, _, _, _, _, _, _]) C dX7_isSameForm_86 rfl ?_
  have grid : ∀ (n : Nat) (x : Int) (Ly : Option Value), x + n = 32 → -32 ≤ x → Z X μ2 0 0 88 [some (.ref M), some (zi p), some (zi q), some (zi (0 - 0)), some (zi (0 - 0)), some (zi x), Ly] [] := by
    intro n
    induction n with
    | zero =>
      intro x Ly hn h0
      refine z_iload C dX7_isSameForm_88 rfl ?_
      refine z_bipush C dX7_isSameForm_90 ?_
      refine z_icmp_gt (tgt := 158) C dX7_isSameForm_92 (by decide) (fun _ => ?_) (fun hno => absurd hno (by omega))
      refine z_iconst C dX7_isSameForm_158 ?_
      exact z_zret C E (Or.inr rfl) dX7_isSameForm_159 (Nat.le_of_ble_eq_true rfl) (Nat.le_of_ble_eq_true rfl) ⟨0, Or.inl ⟨rfl, rfl, p8, q8⟩, zMP.of hM.obj zN.rf⟩
    | succ n ih =>
      intro x Ly hn h0
      have row : ∀ (j : Nat) (y : Int), y + j = 32 → -32 ≤ y → Z X μ2 0 0 99 [some (.ref M), some (zi p), some (zi q), some (zi (0 - 0)), some (zi (0 - 0)), some (zi x), some (zi y)] [] := by
        intro j
        induction j with
        | zero =>
          intro y hj hy
          refine z_iload C dX7_isSameForm_99 rfl ?_
          refine z_bipush C dX7_isSameForm_101 ?_
          refine z_icmp_gt (tgt := 152) C dX7_isSameForm_103 (by decide) (fun _ => ?_) (fun hno => absurd hno (by omega))
          refine z_iinc (L' := [_, _, _, _, _, _, _]) C dX7_isSameForm_152 rfl rfl ?_
          refine z_goto (tgt := 88) C dX7_isSameForm_155 (by decide) ?_
          exact ih (x + 1) _ (by omega) (by omega)
        | succ j ih2 =>
          intro y hj hy
          refine z_iload C dX7_isSameForm_99 rfl ?_
          refine z_bipush C dX7_isSameForm_101 ?_
          refine z_icmp_gt (tgt := 152) C dX7_isSameForm_103 (by decide) (fun hno => absurd hno (by omega)) (fun _ => ?_)
          refine z_aload_n C dX7_isSameForm_106 rfl ?_
          refine z_get C hM.obj rfl 1 (by decide) m_1011 inz7 rfl rfl dX7_isSameForm_107 ?_
          refine z_iload_n C dX7_isSameForm_110 rfl ?_
          refine z_bald C hM.rows (by decide) (isMo.row_eq p8) dX7_isSameForm_111 ?_
          refine z_iload C dX7_isSameForm_112 rfl ?_
          refine z_iload C dX7_isSameForm_114 rfl ?_
          refine z_ci C (z_rS C Rm qs_X7_at m_1075 (m_at (x := x) (y := y)) dX7_isSameForm_116 rfl rfl (Nat.le_of_ble_eq_true rfl) rfl ⟨Nat.le_of_ble_eq_true rfl, Nat.le_of_ble_eq_true rfl, Nat.le_of_ble_eq_true rfl, Nat.le_of_ble_eq_true rfl⟩) (fun z μ5 hq5 => ?_)
          obtain ⟨rfl, rfl⟩ := hq5
          refine z_zald C (hM.row p8) (by decide) dX7_isSameForm_119 ?_
          rw [show zIz ((y + 32) * 64 + x + 32).toNat = 0 from rfl]
          refine z_if_eq (tgt := 146) C dX7_isSameForm_120 (by decide) (fun _ => ?_) (fun hno => absurd hno (fun h => h rfl))
          refine z_iinc (L' := [_, _, _, _, _, _, _]) C dX7_isSameForm_146 rfl rfl ?_
          refine z_goto (tgt := 99) C dX7_isSameForm_149 (by decide) ?_
          exact ih2 (y + 1) (by omega) (by omega)
      refine z_iload C dX7_isSameForm_88 rfl ?_
      refine z_bipush C dX7_isSameForm_90 ?_
      refine z_icmp_gt (tgt := 158) C dX7_isSameForm_92 (by decide) (fun hno => absurd hno (by omega)) (fun _ => ?_)
      refine z_bipush C dX7_isSameForm_95 ?_
      refine z_istore (L' := [_, _, _, _, _, _, _]) C dX7_isSameForm_97 rfl ?_
      exact row 64 (-32) (by omega) (by omega)
  exact grid 64 (-32) _ (by omega) (by omega)
set_option maxRecDepth 100000 in
set_option maxHeartbeats 4000000 in
theorem m_middleX {l : Launch} {D : va_G} {N0 : Nat} {M : Nat} {μ : zM} (hM : isMo D μ M) {r : Int} (hr : zir r) : zMet l yX7_middleX cX7_middleX 5 (some .double) ({ frames := 3, cells := 0, slots := 0, locals := 120 } : Room) D N0 [.ref M, zi r] μ (zQD D N0 (fun z u => ∃ t, (t = 0 ∧ z = FP.dconst0 ∧ (0 ≤ r ∧ r < 8) ∨ t = 1 ∧ ¬ (0 ≤ r ∧ r < 8)) ∧ zMP M μ t u)) := by
  refine zMet_of rfl (Nat.le_of_ble_eq_true rfl) (fun X C Rm hin E => ?_)
  refine z_aload_n C dX7_middleX_0 rfl ?_
  refine z_iload_n C dX7_middleX_1 rfl ?_
  refine z_ci C (z_rS C Rm qs_X7_isRegion m_1067 (m_isRegion hr) dX7_middleX_2 rfl rfl (Nat.le_of_ble_eq_true rfl) rfl ⟨Nat.le_of_ble_eq_true rfl, Nat.le_of_ble_eq_true rfl, Nat.le_of_ble_eq_true rfl, Nat.le_of_ble_eq_true rfl⟩) (fun z μ1 hp => ?_)
  obtain ⟨hp, rfl⟩ := hp
  refine z_if_eq (tgt := 12) C dX7_middleX_5 (by decide) (fun h1 => ?_) (fun h1 => ?_)
  · refine z_iconst C dX7_middleX_12 ?_
    refine z_put C hM.obj rfl tyX7 tyX7_ok nmX7 0 (by decide) m_1010 inz7 rfl rfl (by rfl) (by rfl) (Nat.le_of_ble_eq_true rfl) dX7_middleX_13 ?_
    refine z_aload_n C dX7_middleX_16 rfl ?_
    refine z_get C zu_s rfl 0 (by decide) m_1010 inz7 rfl rfl dX7_middleX_17 ?_
    refine z_if_eq (tgt := 25) C dX7_middleX_20 (by decide) (fun hno => absurd hno (by decide)) (fun _ => ?_)
    refine z_dconst0 C dX7_middleX_23 ?_
    exact z_dret C E dX7_middleX_24 (Nat.le_of_ble_eq_true rfl) (Nat.le_of_ble_eq_true rfl) ⟨1, Or.inr ⟨rfl, by omega⟩, zMP.of zu_s (zN.put zN.rf (by unfold zb; omega))⟩
  have h8 : 0 ≤ r ∧ r < 8 := by omega
  refine z_iconst C dX7_middleX_8 ?_
  refine z_goto (tgt := 13) C dX7_middleX_9 (by decide) ?_
  refine z_put C hM.obj rfl tyX7 tyX7_ok nmX7 0 (by decide) m_1010 inz7 rfl rfl (by rfl) (by rfl) (Nat.le_of_ble_eq_true rfl) dX7_middleX_13 ?_
  refine z_same hM.obj ?_
  refine z_aload_n C dX7_middleX_16 rfl ?_
  refine z_get C hM.obj rfl 0 (by decide) m_1010 inz7 rfl rfl dX7_middleX_17 ?_
  refine z_if_eq (tgt := 25) C dX7_middleX_20 (by decide) (fun _ => ?_) (fun hno => absurd hno (fun h => h rfl))
  refine z_iconst C dX7_middleX_25 ?_
  refine z_istore_n (L' := [_, _, _, _, _]) C dX7_middleX_26 rfl ?_
  refine z_bipush C dX7_middleX_27 ?_
  refine z_istore_n (L' := [_, _, _, _, _]) C dX7_middleX_29 rfl ?_
  have grid : ∀ (n : Nat) (x : Int) (Ly : Option Value), x + n = 32 → -32 ≤ x → Z X μ1 0 0 30 [some (.ref M), some (zi r), some (zi 0), some (zi x), Ly] [] := by
    intro n
    induction n with
    | zero =>
      intro x Ly hn h0
      refine z_iload_n C dX7_middleX_30 rfl ?_
      refine z_bipush C dX7_middleX_31 ?_
      refine z_icmp_gt (tgt := 83) C dX7_middleX_33 (by decide) (fun _ => ?_) (fun hno => absurd hno (by omega))
      refine z_aload_n C dX7_middleX_83 rfl ?_
      refine z_get C hM.obj rfl 1 (by decide) m_1011 inz7 rfl rfl dX7_middleX_84 ?_
      refine z_iload_n C dX7_middleX_87 rfl ?_
      refine z_bald C hM.rows (by decide) (isMo.row_eq h8) dX7_middleX_88 ?_
      refine z_ci C (z_rS C Rm qs_X7_areaOf m_1085 (m_area (hM.row h8) (fun i => Or.inl rfl)) dX7_middleX_89 rfl rfl (Nat.le_of_ble_eq_true rfl) rfl ⟨Nat.le_of_ble_eq_true rfl, Nat.le_of_ble_eq_true rfl, Nat.le_of_ble_eq_true rfl, Nat.le_of_ble_eq_true rfl⟩) (fun z2 μ2 hq => ?_)
      obtain ⟨rfl, rfl⟩ := hq
      rw [cntZ_z]
      refine z_istore_n (L' := [_, _, _, _, _]) C dX7_middleX_92 rfl ?_
      refine z_iload_n C dX7_middleX_93 rfl ?_
      refine z_if_ne (tgt := 101) C dX7_middleX_94 (by decide) (fun hno => absurd hno (fun h => h rfl)) (fun _ => ?_)
      refine z_dconst0 C dX7_middleX_97 ?_
      refine z_goto (tgt := 106) C dX7_middleX_98 (by decide) ?_
      exact z_dret C E dX7_middleX_106 (Nat.le_of_ble_eq_true rfl) (Nat.le_of_ble_eq_true rfl) ⟨0, Or.inl ⟨rfl, rfl, h8⟩, zMP.of hM.obj zN.rf⟩
    | succ n ih =>
      intro x Ly hn h0
      have row : ∀ (j : Nat) (y : Int), y + j = 32 → -32 ≤ y → Z X μ1 0 0 40 [some (.ref M), some (zi r), some (zi 0), some (zi x), some (zi y)] [] := by
        intro j
        induction j with
        | zero =>
          intro y hj hy
          refine z_iload C dX7_middleX_40 rfl ?_
          refine z_bipush C dX7_middleX_42 ?_
          refine z_icmp_gt (tgt := 77) C dX7_middleX_44 (by decide) (fun _ => ?_) (fun hno => absurd hno (by omega))
          refine z_iinc (L' := [_, _, _, _, _]) C dX7_middleX_77 rfl rfl ?_
          refine z_goto (tgt := 30) C dX7_middleX_80 (by decide) ?_
          exact ih (x + 1) _ (by omega) (by omega)
        | succ j ih2 =>
          intro y hj hy
          refine z_iload C dX7_middleX_40 rfl ?_
          refine z_bipush C dX7_middleX_42 ?_
          refine z_icmp_gt (tgt := 77) C dX7_middleX_44 (by decide) (fun hno => absurd hno (by omega)) (fun _ => ?_)
          refine z_iload_n C dX7_middleX_47 rfl ?_
          refine z_aload_n C dX7_middleX_48 rfl ?_
          refine z_get C hM.obj rfl 1 (by decide) m_1011 inz7 rfl rfl dX7_middleX_49 ?_
          refine z_iload_n C dX7_middleX_52 rfl ?_
          refine z_bald C hM.rows (by decide) (isMo.row_eq h8) dX7_middleX_53 ?_
          refine z_iload_n C dX7_middleX_54 rfl ?_
          refine z_iload C dX7_middleX_55 rfl ?_
          refine z_ci C (z_rS C Rm qs_X7_at m_1075 (m_at (x := x) (y := y)) dX7_middleX_57 rfl rfl (Nat.le_of_ble_eq_true rfl) rfl ⟨Nat.le_of_ble_eq_true rfl, Nat.le_of_ble_eq_true rfl, Nat.le_of_ble_eq_true rfl, Nat.le_of_ble_eq_true rfl⟩) (fun z μ5 hq5 => ?_)
          obtain ⟨rfl, rfl⟩ := hq5
          refine z_zald C (hM.row h8) (by decide) dX7_middleX_60 ?_
          rw [show zIz ((y + 32) * 64 + x + 32).toNat = 0 from rfl]
          refine z_if_eq (tgt := 68) C dX7_middleX_61 (by decide) (fun _ => ?_) (fun hno => absurd hno (fun h => h rfl))
          refine z_iconst C dX7_middleX_68 ?_
          refine z_iadd C dX7_middleX_69 ?_
          refine z_istore_n (L' := [_, _, _, _, _]) C dX7_middleX_70 rfl ?_
          refine z_iinc (L' := [_, _, _, _, _]) C dX7_middleX_71 rfl rfl ?_
          refine z_goto (tgt := 40) C dX7_middleX_74 (by decide) ?_
          exact ih2 (y + 1) (by omega) (by omega)
      refine z_iload_n C dX7_middleX_30 rfl ?_
      refine z_bipush C dX7_middleX_31 ?_
      refine z_icmp_gt (tgt := 83) C dX7_middleX_33 (by decide) (fun hno => absurd hno (by omega)) (fun _ => ?_)
      refine z_bipush C dX7_middleX_36 ?_
      refine z_istore (L' := [_, _, _, _, _]) C dX7_middleX_38 rfl ?_
      exact row 64 (-32) (by omega) (by omega)
  exact grid 64 (-32) _ (by omega) (by omega)
