set_option maxRecDepth 100000 in
set_option maxHeartbeats 4000000 in
theorem m_combine {l : Launch} {D : va_G} {N0 : Nat} {M : Nat} {μ : zM} (hM : isMo D μ M) {r : Int} (hr : zir r) {p q o : Int} (hp0 : zir p) (hq0 : zir q) (ho : zir o) : zMet l yX7_combine cX7_combine 9 (some .int) ({ frames := 2, cells := 2, slots := 8192, locals := 80 } : Room) D N0 [.ref M, zi r, zi p, zi q, zi o] μ (zQI D N0 (fun z u => ∃ t, (t = 0 ∧ z = 0 ∧ ((0 ≤ r ∧ r < 8) ∧ (0 ≤ p ∧ p < 8) ∧ 0 ≤ q ∧ q < 8) ∧ (0 ≤ o ∧ o ≤ 3) ∨ t = 1 ∧ ¬ ((0 ≤ r ∧ r < 8) ∧ (0 ≤ p ∧ p < 8) ∧ 0 ≤ q ∧ q < 8) ∨ t = 2 ∧ ((0 ≤ r ∧ r < 8) ∧ (0 ≤ p ∧ p < 8) ∧ 0 ≤ q ∧ q < 8) ∧ ¬ (0 ≤ o ∧ o ≤ 3)) ∧ zMP M μ t u)) := by
  refine zMet_of rfl (Nat.le_of_ble_eq_true rfl) (fun X C Rm hin E => ?_)
  refine z_aload_n C dX7_combine_0 rfl ?_
  refine z_iconst C dX7_combine_1 ?_
  refine z_put C hM.obj rfl tyX7 tyX7_ok nmX7 0 (by decide) m_1010 inz7 rfl rfl (by rfl) (by rfl) (Nat.le_of_ble_eq_true rfl) dX7_combine_2 ?_
  refine z_same hM.obj ?_
  refine z_iload_n C dX7_combine_5 rfl ?_
  refine z_ci C (z_rS C Rm qs_X7_isRegion m_1067 (m_isRegion hr) dX7_combine_6 rfl rfl (Nat.le_of_ble_eq_true rfl) rfl ⟨Nat.le_of_ble_eq_true rfl, Nat.le_of_ble_eq_true rfl, Nat.le_of_ble_eq_true rfl, Nat.le_of_ble_eq_true rfl⟩) (fun z μ1 hp => ?_)
  obtain ⟨hp, rfl⟩ := hp
  refine z_if_eq (tgt := 26) C dX7_combine_9 (by decide) (fun h1 => ?_) (fun h1 => ?_)
  · refine z_aload_n C dX7_combine_26 rfl ?_
    refine z_iconst C dX7_combine_27 ?_
    refine z_ci C (z_rV C Rm qv_X7_no m_1047 (m_no hM.obj (k := 1)) hM.obj rfl dX7_combine_28 rfl rfl (Nat.le_of_ble_eq_true rfl) rfl ⟨Nat.le_of_ble_eq_true rfl, Nat.le_of_ble_eq_true rfl, Nat.le_of_ble_eq_true rfl, Nat.le_of_ble_eq_true rfl⟩) (fun z2 μ2 hq => ?_)
    obtain ⟨rfl, rfl⟩ := hq
    exact z_iret C E dX7_combine_31 (Nat.le_of_ble_eq_true rfl) (Nat.le_of_ble_eq_true rfl) ⟨1, Or.inr (Or.inl ⟨rfl, by omega⟩), zMP.of zu_s (zN.put zN.rf (by unfold zb; omega))⟩
  refine z_iload_n C dX7_combine_12 rfl ?_
  refine z_ci C (z_rS C Rm qs_X7_isRegion m_1067 (m_isRegion hp0) dX7_combine_13 rfl rfl (Nat.le_of_ble_eq_true rfl) rfl ⟨Nat.le_of_ble_eq_true rfl, Nat.le_of_ble_eq_true rfl, Nat.le_of_ble_eq_true rfl, Nat.le_of_ble_eq_true rfl⟩) (fun z1 μ1 hp1 => ?_)
  obtain ⟨hp1, rfl⟩ := hp1
  refine z_if_eq (tgt := 26) C dX7_combine_16 (by decide) (fun h2 => ?_) (fun h2 => ?_)
  · refine z_aload_n C dX7_combine_26 rfl ?_
    refine z_iconst C dX7_combine_27 ?_
    refine z_ci C (z_rV C Rm qv_X7_no m_1047 (m_no hM.obj (k := 1)) hM.obj rfl dX7_combine_28 rfl rfl (Nat.le_of_ble_eq_true rfl) rfl ⟨Nat.le_of_ble_eq_true rfl, Nat.le_of_ble_eq_true rfl, Nat.le_of_ble_eq_true rfl, Nat.le_of_ble_eq_true rfl⟩) (fun z2 μ2 hq => ?_)
    obtain ⟨rfl, rfl⟩ := hq
    exact z_iret C E dX7_combine_31 (Nat.le_of_ble_eq_true rfl) (Nat.le_of_ble_eq_true rfl) ⟨1, Or.inr (Or.inl ⟨rfl, by omega⟩), zMP.of zu_s (zN.put zN.rf (by unfold zb; omega))⟩
  refine z_iload_n C dX7_combine_19 rfl ?_
  refine z_ci C (z_rS C Rm qs_X7_isRegion m_1067 (m_isRegion hq0) dX7_combine_20 rfl rfl (Nat.le_of_ble_eq_true rfl) rfl ⟨Nat.le_of_ble_eq_true rfl, Nat.le_of_ble_eq_true rfl, Nat.le_of_ble_eq_true rfl, Nat.le_of_ble_eq_true rfl⟩) (fun z2 μ1 hp2 => ?_)
  obtain ⟨hp2, rfl⟩ := hp2
  refine z_if_ne (tgt := 32) C dX7_combine_23 (by decide) (fun h3 => ?_) (fun h3 => ?_)
  rotate_left
  · refine z_aload_n C dX7_combine_26 rfl ?_
    refine z_iconst C dX7_combine_27 ?_
    refine z_ci C (z_rV C Rm qv_X7_no m_1047 (m_no hM.obj (k := 1)) hM.obj rfl dX7_combine_28 rfl rfl (Nat.le_of_ble_eq_true rfl) rfl ⟨Nat.le_of_ble_eq_true rfl, Nat.le_of_ble_eq_true rfl, Nat.le_of_ble_eq_true rfl, Nat.le_of_ble_eq_true rfl⟩) (fun z2 μ2 hq => ?_)
    obtain ⟨rfl, rfl⟩ := hq
    exact z_iret C E dX7_combine_31 (Nat.le_of_ble_eq_true rfl) (Nat.le_of_ble_eq_true rfl) ⟨1, Or.inr (Or.inl ⟨rfl, by omega⟩), zMP.of zu_s (zN.put zN.rf (by unfold zb; omega))⟩
  have h8 : 0 ≤ r ∧ r < 8 := by omega
  have p8 : 0 ≤ p ∧ p < 8 := by omega
  have q8 : 0 ≤ q ∧ q < 8 := by omega
  refine z_iload C dX7_combine_32 rfl ?_
  refine z_iconst C dX7_combine_34 ?_
  refine z_iconst C dX7_combine_35 ?_
  refine z_ci C (z_rS C Rm qs_X7_isIn m_1044 (m_isIn ho (by decide) (by decide)) dX7_combine_36 rfl rfl (Nat.le_of_ble_eq_true rfl) rfl ⟨Nat.le_of_ble_eq_true rfl, Nat.le_of_ble_eq_true rfl, Nat.le_of_ble_eq_true rfl, Nat.le_of_ble_eq_true rfl⟩) (fun z3 μ1 hp3 => ?_)
  obtain ⟨hp3, rfl⟩ := hp3
  refine z_if_ne (tgt := 48) C dX7_combine_39 (by decide) (fun h4 => ?_) (fun h4 => ?_)
  rotate_left
  · refine z_aload_n C dX7_combine_42 rfl ?_
    refine z_iconst C dX7_combine_43 ?_
    refine z_ci C (z_rV C Rm qv_X7_no m_1047 (m_no hM.obj (k := 2)) hM.obj rfl dX7_combine_44 rfl rfl (Nat.le_of_ble_eq_true rfl) rfl ⟨Nat.le_of_ble_eq_true rfl, Nat.le_of_ble_eq_true rfl, Nat.le_of_ble_eq_true rfl, Nat.le_of_ble_eq_true rfl⟩) (fun z2 μ2 hq => ?_)
    obtain ⟨rfl, rfl⟩ := hq
    exact z_iret C E dX7_combine_47 (Nat.le_of_ble_eq_true rfl) (Nat.le_of_ble_eq_true rfl) ⟨2, Or.inr (Or.inr ⟨rfl, ⟨h8, p8, q8⟩, by omega⟩), zMP.of zu_s (zN.put zN.rf (by unfold zb; omega))⟩
  have hP : 0 ≤ o ∧ o ≤ 3 := by omega
  refine z_sipush C dX7_combine_48 ?_
  refine z_newM C Rm hM dX7_combine_51 (by decide) (fun qq ν hM1 hq1 hqb hN1 => ?_)
  have loop : ∀ (n : Nat) (f : Int) (L7 L8 : Option Value), f + n = 4096 → 0 ≤ f → Z X ν 1 4096 58 [some (.ref M), some (zi r), some (zi p), some (zi q), some (zi o), some (.ref qq), some (zi f), L7, L8] [] := by
    intro n
    induction n with
    | zero =>
      intro f L7 L8 hn h0
      refine z_iload C dX7_combine_58 rfl ?_
      refine z_sipush C dX7_combine_60 ?_
      refine z_icmp_ge (tgt := 182) C dX7_combine_63 (by decide) (fun _ => ?_) (fun hno => absurd hno (by omega))
      refine z_aload_n C dX7_combine_182 rfl ?_
      refine z_iload_n C dX7_combine_183 rfl ?_
      refine z_aload C dX7_combine_184 rfl ?_
      refine z_ci C (z_rV C Rm qv_X7_change m_1078 (m_change hM1 h8 hq1 (fun i => Or.inl rfl) (Or.inl hqb)) hM1.obj rfl dX7_combine_186 rfl rfl (Nat.le_of_ble_eq_true rfl) rfl ⟨Nat.le_of_ble_eq_true rfl, Nat.le_of_ble_eq_true rfl, Nat.le_of_ble_eq_true rfl, Nat.le_of_ble_eq_true rfl⟩) (fun z3 μ3 hq3 => ?_)
      exact z_iret C E dX7_combine_189 (Nat.le_of_ble_eq_true rfl) (Nat.le_of_ble_eq_true rfl) ⟨0, Or.inl ⟨rfl, hq3.1.trans (cntZ_z _), ⟨h8, p8, q8⟩, hP⟩, zMP.tr hN1 hq3.2⟩
    | succ n ih =>
      intro f L7 L8 hn h0
      refine z_iload C dX7_combine_58 rfl ?_
      refine z_sipush C dX7_combine_60 ?_
      refine z_icmp_ge (tgt := 182) C dX7_combine_63 (by decide) (fun hno => absurd hno (by omega)) (fun _ => ?_)
      refine z_aload_n C dX7_combine_66 rfl ?_
      refine z_get C hM1.obj rfl 1 (by decide) m_1011 inz7 rfl rfl dX7_combine_67 ?_
      refine z_iload_n C dX7_combine_70 rfl ?_
      refine z_bald C hM1.rows (by decide) (isMo.row_eq p8) dX7_combine_71 ?_
      refine z_iload C dX7_combine_72 rfl ?_
      refine z_zald C (hM1.row p8) (by decide) dX7_combine_74 ?_
      rw [show zIz f.toNat = 0 from rfl]
      refine z_istore (L' := [_, _, _, _, _, _, _, _, _]) C dX7_combine_75 rfl ?_
      refine z_aload_n C dX7_combine_77 rfl ?_
      refine z_get C hM1.obj rfl 1 (by decide) m_1011 inz7 rfl rfl dX7_combine_78 ?_
      refine z_iload_n C dX7_combine_81 rfl ?_
      refine z_bald C hM1.rows (by decide) (isMo.row_eq q8) dX7_combine_82 ?_
      refine z_iload C dX7_combine_83 rfl ?_
      refine z_zald C (hM1.row q8) (by decide) dX7_combine_85 ?_
      rw [show zIz f.toNat = 0 from rfl]
      refine z_istore (L' := [_, _, _, _, _, _, _, _, _]) C dX7_combine_86 rfl ?_
      refine z_aload C dX7_combine_88 rfl ?_
      refine z_iload C dX7_combine_90 rfl ?_
      refine z_iload C dX7_combine_92 rfl ?_
      have fin : Z X ν 1 4096 176 [some (.ref M), some (zi r), some (zi p), some (zi q), some (zi o), some (.ref qq), some (zi f), some (zi 0), some (zi 0)] [] := by
        refine z_iinc (L' := [_, _, _, _, _, _, _, _, _]) C dX7_combine_176 rfl rfl ?_
        refine z_goto (tgt := 58) C dX7_combine_179 (by decide) ?_
        exact ih (f + 1) _ _ (by omega) (by omega)
      rcases (by omega : o = 0 ∨ o = 1 ∨ o = 2 ∨ o = 3) with rfl | rfl | rfl | rfl
      · refine z_if_ne (tgt := 115) C dX7_combine_94 (by decide) (fun hno => absurd hno (fun h => h rfl)) (fun _ => ?_)
        refine z_iload C dX7_combine_97 rfl ?_
        refine z_if_ne (tgt := 107) C dX7_combine_99 (by decide) (fun hno => absurd hno (fun h => h rfl)) (fun _ => ?_)
        refine z_iload C dX7_combine_102 rfl ?_
        refine z_if_eq (tgt := 111) C dX7_combine_104 (by decide) (fun _ => ?_) (fun hno => absurd hno (fun h => h rfl))
        refine z_iconst C dX7_combine_111 ?_
        refine z_goto (tgt := 175) C dX7_combine_112 (by decide) ?_
        refine z_zast C hq1 (by decide) (Or.inl rfl) dX7_combine_175 ?_
        refine z_st0 hq1 ?_
        exact fin
      · refine z_if_ne (tgt := 115) C dX7_combine_94 (by decide) (fun _ => ?_) (fun hno => absurd hno (by decide))
        refine z_iload C dX7_combine_115 rfl ?_
        refine z_iconst C dX7_combine_117 ?_
        refine z_icmp_ne (tgt := 139) C dX7_combine_118 (by decide) (fun hno => absurd hno (fun h => h rfl)) (fun _ => ?_)
        refine z_iload C dX7_combine_121 rfl ?_
        refine z_if_eq (tgt := 135) C dX7_combine_123 (by decide) (fun _ => ?_) (fun hno => absurd hno (fun h => h rfl))
        refine z_iconst C dX7_combine_135 ?_
        refine z_goto (tgt := 175) C dX7_combine_136 (by decide) ?_
        refine z_zast C hq1 (by decide) (Or.inl rfl) dX7_combine_175 ?_
        refine z_st0 hq1 ?_
        exact fin
      · refine z_if_ne (tgt := 115) C dX7_combine_94 (by decide) (fun _ => ?_) (fun hno => absurd hno (by decide))
        refine z_iload C dX7_combine_115 rfl ?_
        refine z_iconst C dX7_combine_117 ?_
        refine z_icmp_ne (tgt := 139) C dX7_combine_118 (by decide) (fun _ => ?_) (fun hno => absurd hno (by decide))
        refine z_iload C dX7_combine_139 rfl ?_
        refine z_iconst C dX7_combine_141 ?_
        refine z_icmp_ne (tgt := 163) C dX7_combine_142 (by decide) (fun hno => absurd hno (fun h => h rfl)) (fun _ => ?_)
        refine z_iload C dX7_combine_145 rfl ?_
        refine z_if_eq (tgt := 159) C dX7_combine_147 (by decide) (fun _ => ?_) (fun hno => absurd hno (fun h => h rfl))
        refine z_iconst C dX7_combine_159 ?_
        refine z_goto (tgt := 175) C dX7_combine_160 (by decide) ?_
        refine z_zast C hq1 (by decide) (Or.inl rfl) dX7_combine_175 ?_
        refine z_st0 hq1 ?_
        exact fin
      · refine z_if_ne (tgt := 115) C dX7_combine_94 (by decide) (fun _ => ?_) (fun hno => absurd hno (by decide))
        refine z_iload C dX7_combine_115 rfl ?_
        refine z_iconst C dX7_combine_117 ?_
        refine z_icmp_ne (tgt := 139) C dX7_combine_118 (by decide) (fun _ => ?_) (fun hno => absurd hno (by decide))
        refine z_iload C dX7_combine_139 rfl ?_
        refine z_iconst C dX7_combine_141 ?_
        refine z_icmp_ne (tgt := 163) C dX7_combine_142 (by decide) (fun _ => ?_) (fun hno => absurd hno (by decide))
        refine z_iload C dX7_combine_163 rfl ?_
        refine z_iload C dX7_combine_165 rfl ?_
        refine z_icmp_eq (tgt := 174) C dX7_combine_167 (by decide) (fun _ => ?_) (fun hno => absurd hno (fun h => h rfl))
        refine z_iconst C dX7_combine_174 ?_
        refine z_zast C hq1 (by decide) (Or.inl rfl) dX7_combine_175 ?_
        refine z_st0 hq1 ?_
        exact fin
  refine z_astore (L' := [_, _, _, _, _, _, _, _, _]) C dX7_combine_53 rfl ?_
  refine z_iconst C dX7_combine_55 ?_
  refine z_istore (L' := [_, _, _, _, _, _, _, _, _]) C dX7_combine_56 rfl ?_
  exact loop 4096 0 _ _ (by omega) (by omega)
set_option maxRecDepth 100000 in
set_option maxHeartbeats 4000000 in
theorem m_turn {l : Launch} {D : va_G} {N0 : Nat} {M : Nat} {μ : zM} (hM : isMo D μ M) {r : Int} (hr : zir r) {w : Int} (hw : zir w) : zMet l yX7_turn cX7_turn 8 (some .int) ({ frames := 2, cells := 4, slots := 16384, locals := 80 } : Room) D N0 [.ref M, zi r, zi w] μ (zQI D N0 (fun z u => ∃ t, (t = 0 ∧ z = 0 ∧ (0 ≤ r ∧ r < 8) ∧ (0 ≤ w ∧ w ≤ 3) ∨ t = 1 ∧ ¬ (0 ≤ r ∧ r < 8) ∨ t = 2 ∧ (0 ≤ r ∧ r < 8) ∧ ¬ (0 ≤ w ∧ w ≤ 3)) ∧ zMP M μ t u)) := by
  refine zMet_of rfl (Nat.le_of_ble_eq_true rfl) (fun X C Rm hin E => ?_)
  refine z_aload_n C dX7_turn_0 rfl ?_
  refine z_iconst C dX7_turn_1 ?_
  refine z_put C hM.obj rfl tyX7 tyX7_ok nmX7 0 (by decide) m_1010 inz7 rfl rfl (by rfl) (by rfl) (Nat.le_of_ble_eq_true rfl) dX7_turn_2 ?_
  refine z_same hM.obj ?_
  refine z_iload_n C dX7_turn_5 rfl ?_
  refine z_ci C (z_rS C Rm qs_X7_isRegion m_1067 (m_isRegion hr) dX7_turn_6 rfl rfl (Nat.le_of_ble_eq_true rfl) rfl ⟨Nat.le_of_ble_eq_true rfl, Nat.le_of_ble_eq_true rfl, Nat.le_of_ble_eq_true rfl, Nat.le_of_ble_eq_true rfl⟩) (fun z μ1 hp => ?_)
  obtain ⟨hp, rfl⟩ := hp
  refine z_if_ne (tgt := 18) C dX7_turn_9 (by decide) (fun h1 => ?_) (fun h1 => ?_)
  rotate_left
  · refine z_aload_n C dX7_turn_12 rfl ?_
    refine z_iconst C dX7_turn_13 ?_
    refine z_ci C (z_rV C Rm qv_X7_no m_1047 (m_no hM.obj (k := 1)) hM.obj rfl dX7_turn_14 rfl rfl (Nat.le_of_ble_eq_true rfl) rfl ⟨Nat.le_of_ble_eq_true rfl, Nat.le_of_ble_eq_true rfl, Nat.le_of_ble_eq_true rfl, Nat.le_of_ble_eq_true rfl⟩) (fun z2 μ2 hq => ?_)
    obtain ⟨rfl, rfl⟩ := hq
    exact z_iret C E dX7_turn_17 (Nat.le_of_ble_eq_true rfl) (Nat.le_of_ble_eq_true rfl) ⟨1, Or.inr (Or.inl ⟨rfl, by omega⟩), zMP.of zu_s (zN.put zN.rf (by unfold zb; omega))⟩
  have h8 : 0 ≤ r ∧ r < 8 := by omega
  refine z_iload_n C dX7_turn_18 rfl ?_
  refine z_iconst C dX7_turn_19 ?_
  refine z_iconst C dX7_turn_20 ?_
  refine z_ci C (z_rS C Rm qs_X7_isIn m_1044 (m_isIn hw (by decide) (by decide)) dX7_turn_21 rfl rfl (Nat.le_of_ble_eq_true rfl) rfl ⟨Nat.le_of_ble_eq_true rfl, Nat.le_of_ble_eq_true rfl, Nat.le_of_ble_eq_true rfl, Nat.le_of_ble_eq_true rfl⟩) (fun z1 μ1 hp1 => ?_)
  obtain ⟨hp1, rfl⟩ := hp1
  refine z_if_ne (tgt := 33) C dX7_turn_24 (by decide) (fun h2 => ?_) (fun h2 => ?_)
  rotate_left
  · refine z_aload_n C dX7_turn_27 rfl ?_
    refine z_iconst C dX7_turn_28 ?_
    refine z_ci C (z_rV C Rm qv_X7_no m_1047 (m_no hM.obj (k := 2)) hM.obj rfl dX7_turn_29 rfl rfl (Nat.le_of_ble_eq_true rfl) rfl ⟨Nat.le_of_ble_eq_true rfl, Nat.le_of_ble_eq_true rfl, Nat.le_of_ble_eq_true rfl, Nat.le_of_ble_eq_true rfl⟩) (fun z2 μ2 hq => ?_)
    obtain ⟨rfl, rfl⟩ := hq
    exact z_iret C E dX7_turn_32 (Nat.le_of_ble_eq_true rfl) (Nat.le_of_ble_eq_true rfl) ⟨2, Or.inr (Or.inr ⟨rfl, h8, by omega⟩), zMP.of zu_s (zN.put zN.rf (by unfold zb; omega))⟩
  have hP : 0 ≤ w ∧ w ≤ 3 := by omega
  refine z_aload_n C dX7_turn_33 rfl ?_
  refine z_get C hM.obj rfl 1 (by decide) m_1011 inz7 rfl rfl dX7_turn_34 ?_
  refine z_iload_n C dX7_turn_37 rfl ?_
  refine z_bald C hM.rows (by decide) (isMo.row_eq h8) dX7_turn_38 ?_
  refine z_astore_n (L' := [_, _, _, _, _, _, _, _]) C dX7_turn_39 rfl ?_
  refine z_iconst C dX7_turn_40 ?_
  refine z_istore (L' := [_, _, _, _, _, _, _, _]) C dX7_turn_41 rfl ?_
  have loop : ∀ (n : Nat) (k : Int) (kc b : Nat) (ν : zM) (L5 L6 L7 : Option Value), k + n = w → (kc : Int) = k → isMo D ν M → ν b = some (zAZ D 4096 zIz) → (¬ zb M 14 b ∨ b = M + 2 + r.toNat) → zN M μ1 ν → Z X ν kc (4096 * kc) 43 [some (.ref M), some (zi r), some (zi w), some (.ref b), some (zi k), L5, L6, L7] [] := by
    intro n
    induction n with
    | zero =>
      intro k kc b ν L5 L6 L7 hn1 hkc hM1 hb1 hbb hN1
      refine z_iload C dX7_turn_43 rfl ?_
      refine z_iload_n C dX7_turn_45 rfl ?_
      refine z_icmp_ge (tgt := 121) C dX7_turn_46 (by decide) (fun _ => ?_) (fun hno => absurd hno (by omega))
      refine z_aload_n C dX7_turn_121 rfl ?_
      refine z_iload_n C dX7_turn_122 rfl ?_
      refine z_aload_n C dX7_turn_123 rfl ?_
      refine z_ci C (z_rV C Rm qv_X7_change m_1078 (m_change hM1 h8 hb1 (fun i => Or.inl rfl) hbb) hM1.obj rfl dX7_turn_124 rfl rfl (Nat.le_of_ble_eq_true rfl) rfl ⟨Nat.le_of_ble_eq_true rfl, Nat.le_of_ble_eq_true rfl, by (try dsimp only); omega, by (try dsimp only); omega⟩) (fun z3 μ3 hq3 => ?_)
      refine z_up (kc' := 4) (kn' := 16384) (by (try dsimp only); omega) (by (try dsimp only); omega) ?_
      exact z_iret C E dX7_turn_127 (Nat.le_of_ble_eq_true rfl) (Nat.le_of_ble_eq_true rfl) ⟨0, Or.inl ⟨rfl, hq3.1.trans (cntZ_z _), h8, hP⟩, zMP.tr hN1 hq3.2⟩
    | succ n ihq =>
      intro k kc b ν L5 L6 L7 hn1 hkc hM1 hb1 hbb hN1
      refine z_iload C dX7_turn_43 rfl ?_
      refine z_iload_n C dX7_turn_45 rfl ?_
      refine z_icmp_ge (tgt := 121) C dX7_turn_46 (by decide) (fun hno => absurd hno (by omega)) (fun _ => ?_)
      refine z_sipush C dX7_turn_49 ?_
      refine z_newM C Rm hM1 dX7_turn_52 ⟨by (try dsimp only); omega, by (try dsimp only); omega⟩ (fun q ν2 hM2 hq1 hqb hN2 => ?_)
      have hb2 : ν2 b = some (zAZ D 4096 zIz) := by
        rcases hbb with h | h
        · exact hN2 _ _ hb1 h
        · rw [h]; exact hM2.row h8
      refine z_astore (L' := [_, _, _, _, _, _, _, _]) C dX7_turn_54 rfl ?_
      refine z_bipush C dX7_turn_56 ?_
      refine z_istore (L' := [_, _, _, _, _, _, _, _]) C dX7_turn_58 rfl ?_
      have grid : ∀ (n : Nat) (x : Int) (Ly : Option Value), x + n = 32 → -32 ≤ x → Z X ν2 (kc + 1) (4096 * kc + 4096) 60 [some (.ref M), some (zi r), some (zi w), some (.ref b), some (zi k), some (.ref q), some (zi x), Ly] [] := by
        intro n
        induction n with
        | zero =>
          intro x Ly hn h0
          refine z_iload C dX7_turn_60 rfl ?_
          refine z_bipush C dX7_turn_62 ?_
          refine z_icmp_gt (tgt := 112) C dX7_turn_64 (by decide) (fun _ => ?_) (fun hno => absurd hno (by omega))
          refine z_aload C dX7_turn_112 rfl ?_
          refine z_astore_n (L' := [_, _, _, _, _, _, _, _]) C dX7_turn_114 rfl ?_
          refine z_iinc (L' := [_, _, _, _, _, _, _, _]) C dX7_turn_115 rfl rfl ?_
          refine z_goto (tgt := 43) C dX7_turn_118 (by decide) ?_
          exact z_up (kc' := kc + 1) (kn' := 4096 * (kc + 1)) (by omega) (by omega) (ihq (k + 1) (kc + 1) q _ _ _ _ (by omega) (by omega) hM2 hq1 (Or.inl hqb) (hN1.tr hN2))
        | succ n ih =>
          intro x Ly hn h0
          have row : ∀ (j : Nat) (y : Int), y + j = 32 → -32 ≤ y → Z X ν2 (kc + 1) (4096 * kc + 4096) 71 [some (.ref M), some (zi r), some (zi w), some (.ref b), some (zi k), some (.ref q), some (zi x), some (zi y)] [] := by
            intro j
            induction j with
            | zero =>
              intro y hj hy
              refine z_iload C dX7_turn_71 rfl ?_
              refine z_bipush C dX7_turn_73 ?_
              refine z_icmp_gt (tgt := 106) C dX7_turn_75 (by decide) (fun _ => ?_) (fun hno => absurd hno (by omega))
              refine z_iinc (L' := [_, _, _, _, _, _, _, _]) C dX7_turn_106 rfl rfl ?_
              refine z_goto (tgt := 60) C dX7_turn_109 (by decide) ?_
              exact ih (x + 1) _ (by omega) (by omega)
            | succ j ih2 =>
              intro y hj hy
              refine z_iload C dX7_turn_71 rfl ?_
              refine z_bipush C dX7_turn_73 ?_
              refine z_icmp_gt (tgt := 106) C dX7_turn_75 (by decide) (fun hno => absurd hno (by omega)) (fun _ => ?_)
              refine z_aload C dX7_turn_78 rfl ?_
              refine z_iload C dX7_turn_80 rfl ?_
              refine z_ineg C dX7_turn_82 ?_
              refine z_iconst C dX7_turn_83 ?_
              refine z_isub C dX7_turn_84 ?_
              refine z_iload C dX7_turn_85 rfl ?_
              refine z_ci C (z_rS C Rm qs_X7_at m_1075 (m_at (x := -y - 1) (y := x)) dX7_turn_87 rfl rfl (Nat.le_of_ble_eq_true rfl) rfl ⟨Nat.le_of_ble_eq_true rfl, Nat.le_of_ble_eq_true rfl, by (try dsimp only); omega, by (try dsimp only); omega⟩) (fun z μ4 hq4 => ?_)
              obtain ⟨rfl, rfl⟩ := hq4
              refine z_aload_n C dX7_turn_90 rfl ?_
              refine z_iload C dX7_turn_91 rfl ?_
              refine z_iload C dX7_turn_93 rfl ?_
              refine z_ci C (z_rS C Rm qs_X7_at m_1075 (m_at (x := x) (y := y)) dX7_turn_95 rfl rfl (Nat.le_of_ble_eq_true rfl) rfl ⟨Nat.le_of_ble_eq_true rfl, Nat.le_of_ble_eq_true rfl, by (try dsimp only); omega, by (try dsimp only); omega⟩) (fun z μ4 hq4 => ?_)
              obtain ⟨rfl, rfl⟩ := hq4
              refine z_zald C hb2 (by decide) dX7_turn_98 ?_
              rw [show zIz ((y + 32) * 64 + x + 32).toNat = 0 from rfl]
              refine z_zast C hq1 (by decide) (Or.inl rfl) dX7_turn_99 ?_
              refine z_st0 hq1 ?_
              refine z_iinc (L' := [_, _, _, _, _, _, _, _]) C dX7_turn_100 rfl rfl ?_
              refine z_goto (tgt := 71) C dX7_turn_103 (by decide) ?_
              exact ih2 (y + 1) (by omega) (by omega)
          refine z_iload C dX7_turn_60 rfl ?_
          refine z_bipush C dX7_turn_62 ?_
          refine z_icmp_gt (tgt := 112) C dX7_turn_64 (by decide) (fun hno => absurd hno (by omega)) (fun _ => ?_)
          refine z_bipush C dX7_turn_67 ?_
          refine z_istore (L' := [_, _, _, _, _, _, _, _]) C dX7_turn_69 rfl ?_
          exact row 64 (-32) (by omega) (by omega)
      exact grid 64 (-32) _ (by omega) (by omega)
  exact loop w.toNat 0 0 _ _ _ _ _ (by omega) (by omega) hM (hM.row h8) (Or.inr rfl) zN.rf
set_option maxRecDepth 100000 in
set_option maxHeartbeats 4000000 in
theorem m_digest {l : Launch} {D : va_G} {N0 : Nat} {M : Nat} {μ : zM} (hM : isMo D μ M) : zMet l yX7_digest cX7_digest 7 (some .long) ({ frames := 6, cells := 56, slots := 275616, locals := 240 } : Room) D N0 [.ref M] μ (zQL D N0 (fun z u => z = zmz (zdg 8) ∧ zMP M μ 0 u)) := by
  refine zMet_of rfl (Nat.le_of_ble_eq_true rfl) (fun X C Rm hin E => ?_)
  refine z_aload_n C dX7_digest_0 rfl ?_
  refine z_iconst C dX7_digest_1 ?_
  refine z_put C hM.obj rfl tyX7 tyX7_ok nmX7 0 (by decide) m_1010 inz7 rfl rfl (by rfl) (by rfl) (Nat.le_of_ble_eq_true rfl) dX7_digest_2 ?_
  refine z_same hM.obj ?_
  refine z_ldc2 C m_1287 dX7_digest_5 ?_
  refine z_aload_n C dX7_digest_8 rfl ?_
  refine z_get C hM.obj rfl 4 (by decide) m_1014 inz7 rfl rfl dX7_digest_9 ?_
  refine z_i2l C dX7_digest_12 ?_
  refine z_ladd C dX7_digest_13 ?_
  refine z_lstore_n (L' := [_, _, _, _, _, _, _]) C dX7_digest_14 rfl ?_
  refine z_iconst C dX7_digest_15 ?_
  refine z_istore_n (L' := [_, _, _, _, _, _, _]) C dX7_digest_16 rfl ?_
  have loop : ∀ (n i : Nat) (k : Int) (d : Int64) (L4 L5 L6 : Option Value) (ν : zM), i + n = 8 → k = (i : Int) → d = zdg i → isMo D ν M → zEx μ ν → Z X ν (7 * i) (34452 * i) 17 [some (.ref M), some (.long d), none, some (zi k), L4, L5, L6] [] := by
    intro n
    induction n with
    | zero =>
      intro i k d L4 L5 L6 ν hn hk hd hM1 hE
      refine z_iload_n C dX7_digest_17 rfl ?_
      refine z_bipush C dX7_digest_18 ?_
      refine z_icmp_ge (tgt := 255) C dX7_digest_20 (by decide) (fun _ => ?_) (fun hno => absurd hno (by omega))
      refine z_lload_n C dX7_digest_255 rfl ?_
      refine z_ldc2 C m_1288 dX7_digest_256 ?_
      refine z_lmul C dX7_digest_259 ?_
      refine z_aload_n C dX7_digest_260 rfl ?_
      refine z_get C hM1.obj rfl 5 (by decide) m_1015 inz7 rfl rfl dX7_digest_261 ?_
      refine z_i2l C dX7_digest_264 ?_
      refine z_ladd C dX7_digest_265 ?_
      refine z_up (kc' := 56) (kn' := 275616) (by omega) (by omega) ?_
      exact z_lret C E dX7_digest_266 (Nat.le_of_ble_eq_true rfl) (Nat.le_of_ble_eq_true rfl) ⟨by rw [hd, show i = 8 by omega]; rfl, zMP.of hM1.obj hE.n⟩
    | succ n ih =>
      intro i k d L4 L5 L6 ν hn hk hd hM1 hE
      have h8 : 0 ≤ k ∧ k < 8 := by omega
      refine z_iload_n C dX7_digest_17 rfl ?_
      refine z_bipush C dX7_digest_18 ?_
      refine z_icmp_ge (tgt := 255) C dX7_digest_20 (by decide) (fun hno => absurd hno (by omega)) (fun _ => ?_)
      refine z_lload_n C dX7_digest_23 rfl ?_
      refine z_ldc2 C m_1288 dX7_digest_24 ?_
      refine z_lmul C dX7_digest_27 ?_
      refine z_aload_n C dX7_digest_28 rfl ?_
      refine z_get C hM1.obj rfl 1 (by decide) m_1011 inz7 rfl rfl dX7_digest_29 ?_
      refine z_iload_n C dX7_digest_32 rfl ?_
      refine z_bald C hM1.rows (by decide) (isMo.row_eq h8) dX7_digest_33 ?_
      refine z_ci C (z_rS C Rm qs_X7_areaOf m_1085 (m_area (hM1.row h8) (fun i => Or.inl rfl)) dX7_digest_34 rfl rfl (Nat.le_of_ble_eq_true rfl) rfl ⟨Nat.le_of_ble_eq_true rfl, Nat.le_of_ble_eq_true rfl, by (try dsimp only); omega, by (try dsimp only); omega⟩) (fun z μ3 hq3 => ?_)
      obtain ⟨rfl, rfl⟩ := hq3
      rw [cntZ_z]
      refine z_i2l C dX7_digest_37 ?_
      refine z_ladd C dX7_digest_38 ?_
      refine z_ldc2 C m_1288 dX7_digest_39 ?_
      refine z_lmul C dX7_digest_42 ?_
      refine z_aload_n C dX7_digest_43 rfl ?_
      refine z_iload_n C dX7_digest_44 rfl ?_
      refine z_ci C (z_rV C Rm qv_X7_edgesNow m_1165 (m_edgesNow hM1 h8) hM1.obj rfl dX7_digest_45 rfl rfl (Nat.le_of_ble_eq_true rfl) rfl ⟨Nat.le_of_ble_eq_true rfl, Nat.le_of_ble_eq_true rfl, by (try dsimp only); omega, by (try dsimp only); omega⟩) (fun z μ3 hq3 => ?_)
      obtain ⟨rfl, rfl⟩ := hq3
      refine z_i2l C dX7_digest_48 ?_
      refine z_ladd C dX7_digest_49 ?_
      refine z_ldc2 C m_1288 dX7_digest_50 ?_
      refine z_lmul C dX7_digest_53 ?_
      refine z_aload_n C dX7_digest_54 rfl ?_
      refine z_get C hM1.obj rfl 1 (by decide) m_1011 inz7 rfl rfl dX7_digest_55 ?_
      refine z_iload_n C dX7_digest_58 rfl ?_
      refine z_bald C hM1.rows (by decide) (isMo.row_eq h8) dX7_digest_59 ?_
      refine z_iconst C dX7_digest_60 ?_
      refine z_cr C (z_rS C Rm qs_X7_parts m_1136 (m_parts1 (hM1.row h8)) dX7_digest_61 rfl rfl (Nat.le_of_ble_eq_true rfl) rfl ⟨Nat.le_of_ble_eq_true rfl, Nat.le_of_ble_eq_true rfl, by (try dsimp only); omega, by (try dsimp only); omega⟩) (fun q ν2 hq2 => ?_)
      have hM2 := hq2.2.mo hM1
      refine z_ci C (z_rS C Rm qs_X7_most m_1142 (m_most hq2.1 (fun i hi => rfl) (Or.inl rfl)) dX7_digest_64 rfl rfl (Nat.le_of_ble_eq_true rfl) rfl ⟨Nat.le_of_ble_eq_true rfl, Nat.le_of_ble_eq_true rfl, by (try dsimp only); omega, by (try dsimp only); omega⟩) (fun z μ3 hq3 => ?_)
      obtain ⟨rfl, rfl⟩ := hq3
      refine z_i2l C dX7_digest_67 ?_
      refine z_ladd C dX7_digest_68 ?_
      refine z_ldc2 C m_1288 dX7_digest_69 ?_
      refine z_lmul C dX7_digest_72 ?_
      refine z_aload_n C dX7_digest_73 rfl ?_
      refine z_iload_n C dX7_digest_74 rfl ?_
      refine z_ci C (z_rV C Rm qv_X7_holesNow m_1177 (m_holesNow hM2 h8) hM2.obj rfl dX7_digest_75 rfl rfl (Nat.le_of_ble_eq_true rfl) rfl ⟨Nat.le_of_ble_eq_true rfl, Nat.le_of_ble_eq_true rfl, by (try dsimp only); omega, by (try dsimp only); omega⟩) (fun z ν3 hq3 => ?_)
      obtain ⟨rfl, hE3⟩ := hq3
      have hM3 := hE3.mo hM2
      refine z_i2l C dX7_digest_78 ?_
      refine z_ladd C dX7_digest_79 ?_
      refine z_lstore_n (L' := [_, _, _, _, _, _, _]) C dX7_digest_80 rfl ?_
      refine z_iconst C dX7_digest_81 ?_
      refine z_istore (L' := [_, _, _, _, _, _, _]) C dX7_digest_82 rfl ?_
      refine z_iload C dX7_digest_84 rfl ?_
      refine z_iconst C dX7_digest_86 ?_
      refine z_icmp_ge (tgt := 111) C dX7_digest_87 (by decide) (fun hno => absurd hno (by omega)) (fun _ => ?_)
      refine z_lload_n C dX7_digest_90 rfl ?_
      refine z_ldc2 C m_1288 dX7_digest_91 ?_
      refine z_lmul C dX7_digest_94 ?_
      refine z_aload_n C dX7_digest_95 rfl ?_
      refine z_iload_n C dX7_digest_96 rfl ?_
      refine z_iload C dX7_digest_97 rfl ?_
      refine z_ci C (z_rV C Rm qv_X7_boundNow m_1189 (m_boundNow hM3 h8) hM3.obj rfl dX7_digest_99 rfl rfl (Nat.le_of_ble_eq_true rfl) rfl ⟨Nat.le_of_ble_eq_true rfl, Nat.le_of_ble_eq_true rfl, by (try dsimp only); omega, by (try dsimp only); omega⟩) (fun z μ3 hq3 => ?_)
      obtain ⟨rfl, rfl⟩ := hq3
      refine z_i2l C dX7_digest_102 ?_
      refine z_ladd C dX7_digest_103 ?_
      refine z_lstore_n (L' := [_, _, _, _, _, _, _]) C dX7_digest_104 rfl ?_
      refine z_iinc (L' := [_, _, _, _, _, _, _]) C dX7_digest_105 rfl rfl ?_
      refine z_goto (tgt := 84) C dX7_digest_108 (by decide) ?_
      refine z_iload C dX7_digest_84 rfl ?_
      refine z_iconst C dX7_digest_86 ?_
      refine z_icmp_ge (tgt := 111) C dX7_digest_87 (by decide) (fun hno => absurd hno (by omega)) (fun _ => ?_)
      refine z_lload_n C dX7_digest_90 rfl ?_
      refine z_ldc2 C m_1288 dX7_digest_91 ?_
      refine z_lmul C dX7_digest_94 ?_
      refine z_aload_n C dX7_digest_95 rfl ?_
      refine z_iload_n C dX7_digest_96 rfl ?_
      refine z_iload C dX7_digest_97 rfl ?_
      refine z_ci C (z_rV C Rm qv_X7_boundNow m_1189 (m_boundNow hM3 h8) hM3.obj rfl dX7_digest_99 rfl rfl (Nat.le_of_ble_eq_true rfl) rfl ⟨Nat.le_of_ble_eq_true rfl, Nat.le_of_ble_eq_true rfl, by (try dsimp only); omega, by (try dsimp only); omega⟩) (fun z μ3 hq3 => ?_)
      obtain ⟨rfl, rfl⟩ := hq3
      refine z_i2l C dX7_digest_102 ?_
      refine z_ladd C dX7_digest_103 ?_
      refine z_lstore_n (L' := [_, _, _, _, _, _, _]) C dX7_digest_104 rfl ?_
      refine z_iinc (L' := [_, _, _, _, _, _, _]) C dX7_digest_105 rfl rfl ?_
      refine z_goto (tgt := 84) C dX7_digest_108 (by decide) ?_
      refine z_iload C dX7_digest_84 rfl ?_
      refine z_iconst C dX7_digest_86 ?_
      refine z_icmp_ge (tgt := 111) C dX7_digest_87 (by decide) (fun hno => absurd hno (by omega)) (fun _ => ?_)
      refine z_lload_n C dX7_digest_90 rfl ?_
      refine z_ldc2 C m_1288 dX7_digest_91 ?_
      refine z_lmul C dX7_digest_94 ?_
      refine z_aload_n C dX7_digest_95 rfl ?_
      refine z_iload_n C dX7_digest_96 rfl ?_
      refine z_iload C dX7_digest_97 rfl ?_
      refine z_ci C (z_rV C Rm qv_X7_boundNow m_1189 (m_boundNow hM3 h8) hM3.obj rfl dX7_digest_99 rfl rfl (Nat.le_of_ble_eq_true rfl) rfl ⟨Nat.le_of_ble_eq_true rfl, Nat.le_of_ble_eq_true rfl, by (try dsimp only); omega, by (try dsimp only); omega⟩) (fun z μ3 hq3 => ?_)
      obtain ⟨rfl, rfl⟩ := hq3
      refine z_i2l C dX7_digest_102 ?_
      refine z_ladd C dX7_digest_103 ?_
      refine z_lstore_n (L' := [_, _, _, _, _, _, _]) C dX7_digest_104 rfl ?_
      refine z_iinc (L' := [_, _, _, _, _, _, _]) C dX7_digest_105 rfl rfl ?_
      refine z_goto (tgt := 84) C dX7_digest_108 (by decide) ?_
      refine z_iload C dX7_digest_84 rfl ?_
      refine z_iconst C dX7_digest_86 ?_
      refine z_icmp_ge (tgt := 111) C dX7_digest_87 (by decide) (fun hno => absurd hno (by omega)) (fun _ => ?_)
      refine z_lload_n C dX7_digest_90 rfl ?_
      refine z_ldc2 C m_1288 dX7_digest_91 ?_
      refine z_lmul C dX7_digest_94 ?_
      refine z_aload_n C dX7_digest_95 rfl ?_
      refine z_iload_n C dX7_digest_96 rfl ?_
      refine z_iload C dX7_digest_97 rfl ?_
      refine z_ci C (z_rV C Rm qv_X7_boundNow m_1189 (m_boundNow hM3 h8) hM3.obj rfl dX7_digest_99 rfl rfl (Nat.le_of_ble_eq_true rfl) rfl ⟨Nat.le_of_ble_eq_true rfl, Nat.le_of_ble_eq_true rfl, by (try dsimp only); omega, by (try dsimp only); omega⟩) (fun z μ3 hq3 => ?_)
      obtain ⟨rfl, rfl⟩ := hq3
      refine z_i2l C dX7_digest_102 ?_
      refine z_ladd C dX7_digest_103 ?_
      refine z_lstore_n (L' := [_, _, _, _, _, _, _]) C dX7_digest_104 rfl ?_
      refine z_iinc (L' := [_, _, _, _, _, _, _]) C dX7_digest_105 rfl rfl ?_
      refine z_goto (tgt := 84) C dX7_digest_108 (by decide) ?_
      refine z_iload C dX7_digest_84 rfl ?_
      refine z_iconst C dX7_digest_86 ?_
      refine z_icmp_ge (tgt := 111) C dX7_digest_87 (by decide) (fun _ => ?_) (fun hno => absurd hno (by omega))
      refine z_aload_n C dX7_digest_111 rfl ?_
      refine z_iload_n C dX7_digest_112 rfl ?_
      refine z_cr C (z_rV C Rm qv_X7_contoursNow m_1197 (m_contoursNow hM3 h8) hM3.obj rfl dX7_digest_113 rfl rfl (Nat.le_of_ble_eq_true rfl) rfl ⟨Nat.le_of_ble_eq_true rfl, Nat.le_of_ble_eq_true rfl, by (try dsimp only); omega, by (try dsimp only); omega⟩) (fun q4 ν4 hq4 => ?_)
      refine z_astore (L' := [_, _, _, _, _, _, _]) C dX7_digest_116 rfl ?_
      refine z_lload_n C dX7_digest_118 rfl ?_
      refine z_ldc2 C m_1288 dX7_digest_119 ?_
      refine z_lmul C dX7_digest_122 ?_
      refine z_aload C dX7_digest_123 rfl ?_
      refine z_iconst C dX7_digest_125 ?_
      refine z_iald C hq4.1 (by decide) dX7_digest_126 ?_
      rw [show zIz (0 : Int).toNat = 0 from rfl]
      have hM4 := hq4.2.mo hM3
      refine z_i2l C dX7_digest_127 ?_
      refine z_ladd C dX7_digest_128 ?_
      refine z_lstore_n (L' := [_, _, _, _, _, _, _]) C dX7_digest_129 rfl ?_
      refine z_iconst C dX7_digest_130 ?_
      refine z_istore (L' := [_, _, _, _, _, _, _]) C dX7_digest_131 rfl ?_
      refine z_iload C dX7_digest_133 rfl ?_
      refine z_aload C dX7_digest_135 rfl ?_
      refine z_iconst C dX7_digest_137 ?_
      refine z_iald C hq4.1 (by decide) dX7_digest_138 ?_
      rw [show zIz (0 : Int).toNat = 0 from rfl]
      refine z_icmp_ge (tgt := 209) C dX7_digest_139 (by decide) (fun _ => ?_) (fun hno => absurd hno (by omega))
      refine z_aload_n C dX7_digest_209 rfl ?_
      refine z_iload_n C dX7_digest_210 rfl ?_
      refine z_cr C (z_rV C Rm qv_X7_stripsNow m_1245 (m_stripsNow hM4 h8) hM4.obj rfl dX7_digest_211 rfl rfl (Nat.le_of_ble_eq_true rfl) rfl ⟨Nat.le_of_ble_eq_true rfl, Nat.le_of_ble_eq_true rfl, by (try dsimp only); omega, by (try dsimp only); omega⟩) (fun q5 ν5 hq5 => ?_)
      refine z_astore (L' := [_, _, _, _, _, _, _]) C dX7_digest_214 rfl ?_
      refine z_iconst C dX7_digest_216 ?_
      refine z_istore (L' := [_, _, _, _, _, _, _]) C dX7_digest_217 rfl ?_
      refine z_iload C dX7_digest_219 rfl ?_
      refine z_iconst C dX7_digest_221 ?_
      refine z_aload C dX7_digest_222 rfl ?_
      refine z_iconst C dX7_digest_224 ?_
      refine z_iald C hq5.1 (by decide) dX7_digest_225 ?_
      rw [show zIz (0 : Int).toNat = 0 from rfl]
      have hM5 := hq5.2.mo hM4
      refine z_imul C dX7_digest_226 ?_
      refine z_icmp_gt (tgt := 249) C dX7_digest_227 (by decide) (fun hno => absurd hno (by omega)) (fun _ => ?_)
      refine z_lload_n C dX7_digest_230 rfl ?_
      refine z_ldc2 C m_1288 dX7_digest_231 ?_
      refine z_lmul C dX7_digest_234 ?_
      refine z_aload C dX7_digest_235 rfl ?_
      refine z_iload C dX7_digest_237 rfl ?_
      refine z_iald C hq5.1 (by decide) dX7_digest_239 ?_
      rw [show zIz (0 : Int).toNat = 0 from rfl]
      refine z_i2l C dX7_digest_240 ?_
      refine z_ladd C dX7_digest_241 ?_
      refine z_lstore_n (L' := [_, _, _, _, _, _, _]) C dX7_digest_242 rfl ?_
      refine z_iinc (L' := [_, _, _, _, _, _, _]) C dX7_digest_243 rfl rfl ?_
      refine z_goto (tgt := 219) C dX7_digest_246 (by decide) ?_
      refine z_iload C dX7_digest_219 rfl ?_
      refine z_iconst C dX7_digest_221 ?_
      refine z_aload C dX7_digest_222 rfl ?_
      refine z_iconst C dX7_digest_224 ?_
      refine z_iald C hq5.1 (by decide) dX7_digest_225 ?_
      rw [show zIz (0 : Int).toNat = 0 from rfl]
      refine z_imul C dX7_digest_226 ?_
      refine z_icmp_gt (tgt := 249) C dX7_digest_227 (by decide) (fun _ => ?_) (fun hno => absurd hno (by omega))
      refine z_iinc (L' := [_, _, _, _, _, _, _]) C dX7_digest_249 rfl rfl ?_
      refine z_goto (tgt := 17) C dX7_digest_252 (by decide) ?_
      refine z_up (kc' := 7 * (i + 1)) (kn' := 34452 * (i + 1)) (by (try dsimp only); omega) (by (try dsimp only); omega) (ih (i + 1) (k + 1) _ _ _ _ _ (by omega) (by omega) ?_ hM5 (hE.tr (((hq2.2.tr hE3).tr hq4.2).tr hq5.2)))
      rw [hd]
      rfl
  exact loop 8 0 0 _ _ _ _ _ (by omega) rfl (by decide) hM zEx.rf
