theorem z_up {X : zX} {μ : zM} {kc kn kc' kn' pc : Nat} {L : List (Option Value)} {st : List Value} (h1 : kc ≤ kc') (h2 : kn ≤ kn') (k : Z X μ kc' kn' pc L st) : Z X μ kc kn pc L st := by
  obtain ⟨p, l', e, R, s, m, args, below, meth, c, D', N', Q⟩ := X
  intro H locs cells slots ls hH hS hc1 hs1 hl
  exact k H locs cells slots ls hH hS (Nat.le_trans hc1 h1) (Nat.le_trans hs1 h2) hl
set_option maxRecDepth 100000 in
set_option maxHeartbeats 4000000 in
theorem m_partAt1 {l : Launch} {D : va_G} {N0 : Nat} {a : Nat} {g : Nat → Int} {x y : Int} {μ : zM} (hA : μ a = some (zAI D 4356 g)) (hg : ∀ j, j < 4356 → g j = 1) (hx : -32 ≤ x ∧ x ≤ 31) (hy : -32 ≤ y ∧ y ≤ 31) : zMet l yX7_partAt cX7_partAt 3 (some .int) ({ frames := 0, cells := 0, slots := 0, locals := 0 } : Room) D N0 [.ref a, zi x, zi y] μ (zQI D N0 (fun z u => z = 1 ∧ u = μ)) := by
  refine zMet_of rfl (Nat.le_of_ble_eq_true rfl) (fun X C Rm hin E => ?_)
  refine z_aload_n C dX7_partAt_0 rfl ?_
  refine z_iload_n C dX7_partAt_1 rfl ?_
  refine z_bipush C dX7_partAt_2 ?_
  refine z_isub C dX7_partAt_4 ?_
  refine z_iconst C dX7_partAt_5 ?_
  refine z_iadd C dX7_partAt_6 ?_
  refine z_bipush C dX7_partAt_7 ?_
  refine z_imul C dX7_partAt_9 ?_
  refine z_iload_n C dX7_partAt_10 rfl ?_
  refine z_iadd C dX7_partAt_11 ?_
  refine z_bipush C dX7_partAt_12 ?_
  refine z_isub C dX7_partAt_14 ?_
  refine z_iconst C dX7_partAt_15 ?_
  refine z_iadd C dX7_partAt_16 ?_
  refine z_iald C hA (by decide) dX7_partAt_17 ?_
  rw [hg _ (by omega)]
  exact z_iret C E dX7_partAt_18 (Nat.le_of_ble_eq_true rfl) (Nat.le_of_ble_eq_true rfl) ⟨rfl, rfl⟩
set_option maxRecDepth 100000 in
set_option maxHeartbeats 4000000 in
theorem m_holesNow {l : Launch} {D : va_G} {N0 : Nat} {M : Nat} {μ : zM} (hM : isMo D μ M) {r : Int} (h8 : 0 ≤ r ∧ r < 8) : zMet l yX7_holesNow cX7_holesNow 2 (some .int) ({ frames := 5, cells := 2, slots := 8712, locals := 200 } : Room) D N0 [.ref M, zi r] μ (zQI D N0 (fun z u => z = 0 ∧ zEx μ u)) := by
  refine zMet_of rfl (Nat.le_of_ble_eq_true rfl) (fun X C Rm hin E => ?_)
  refine z_aload_n C dX7_holesNow_0 rfl ?_
  refine z_get C hM.obj rfl 1 (by decide) m_1011 inz7 rfl rfl dX7_holesNow_1 ?_
  refine z_iload_n C dX7_holesNow_4 rfl ?_
  refine z_bald C hM.rows (by decide) (isMo.row_eq h8) dX7_holesNow_5 ?_
  refine z_iconst C dX7_holesNow_6 ?_
  refine z_cr C (z_rS C Rm qs_X7_parts m_1136 (m_parts0 (hM.row h8)) dX7_holesNow_7 rfl rfl (Nat.le_of_ble_eq_true rfl) rfl ⟨Nat.le_of_ble_eq_true rfl, Nat.le_of_ble_eq_true rfl, Nat.le_of_ble_eq_true rfl, Nat.le_of_ble_eq_true rfl⟩) (fun q μ2 hq => ?_)
  obtain ⟨⟨g, hg1, hg⟩, hlt, hE⟩ := hq
  refine z_ci C (z_rS C Rm qs_X7_most m_1142 (m_most hg1 hg (Or.inr rfl)) dX7_holesNow_10 rfl rfl (Nat.le_of_ble_eq_true rfl) rfl ⟨Nat.le_of_ble_eq_true rfl, Nat.le_of_ble_eq_true rfl, Nat.le_of_ble_eq_true rfl, Nat.le_of_ble_eq_true rfl⟩) (fun z3 μ3 hq3 => ?_)
  refine z_iconst C dX7_holesNow_13 ?_
  refine z_isub C dX7_holesNow_14 ?_
  obtain ⟨rfl, rfl⟩ := hq3
  exact z_iret C E dX7_holesNow_15 (Nat.le_of_ble_eq_true rfl) (Nat.le_of_ble_eq_true rfl) ⟨rfl, hE⟩
set_option maxRecDepth 100000 in
set_option maxHeartbeats 4000000 in
theorem m_holes {l : Launch} {D : va_G} {N0 : Nat} {M : Nat} {μ : zM} (hM : isMo D μ M) {r : Int} (hr : zir r) : zMet l yX7_holes cX7_holes 2 (some .int) ({ frames := 6, cells := 2, slots := 8712, locals := 240 } : Room) D N0 [.ref M, zi r] μ (zQI D N0 (fun z u => ∃ t, (t = 0 ∧ z = 0 ∧ (0 ≤ r ∧ r < 8) ∧ (True) ∨ t = 1 ∧ ¬ (0 ≤ r ∧ r < 8) ∨ t = 2 ∧ (0 ≤ r ∧ r < 8) ∧ ¬ (True)) ∧ zMP M μ t u)) := by
  refine zMet_of rfl (Nat.le_of_ble_eq_true rfl) (fun X C Rm hin E => ?_)
  refine z_aload_n C dX7_holes_0 rfl ?_
  refine z_iconst C dX7_holes_1 ?_
  refine z_put C hM.obj rfl tyX7 tyX7_ok nmX7 0 (by decide) m_1010 inz7 rfl rfl (by rfl) (by rfl) (Nat.le_of_ble_eq_true rfl) dX7_holes_2 ?_
  refine z_same hM.obj ?_
  refine z_iload_n C dX7_holes_5 rfl ?_
  refine z_ci C (z_rS C Rm qs_X7_isRegion m_1067 (m_isRegion hr) dX7_holes_6 rfl rfl (Nat.le_of_ble_eq_true rfl) rfl ⟨Nat.le_of_ble_eq_true rfl, Nat.le_of_ble_eq_true rfl, Nat.le_of_ble_eq_true rfl, Nat.le_of_ble_eq_true rfl⟩) (fun z μ1 hp => ?_)
  obtain ⟨hp, rfl⟩ := hp
  refine z_if_eq (tgt := 20) C dX7_holes_9 (by decide) (fun h1 => ?_) (fun h1 => ?_)
  · refine z_aload_n C dX7_holes_20 rfl ?_
    refine z_iconst C dX7_holes_21 ?_
    refine z_ci C (z_rV C Rm qv_X7_no m_1047 (m_no hM.obj (k := 1)) hM.obj rfl dX7_holes_22 rfl rfl (Nat.le_of_ble_eq_true rfl) rfl ⟨Nat.le_of_ble_eq_true rfl, Nat.le_of_ble_eq_true rfl, Nat.le_of_ble_eq_true rfl, Nat.le_of_ble_eq_true rfl⟩) (fun z2 μ2 hq => ?_)
    obtain ⟨rfl, rfl⟩ := hq
    exact z_iret C E dX7_holes_25 (Nat.le_of_ble_eq_true rfl) (Nat.le_of_ble_eq_true rfl) ⟨1, Or.inr (Or.inl ⟨rfl, by omega⟩), zMP.of zu_s (zN.put zN.rf (by unfold zb; omega))⟩
  have h8 : 0 ≤ r ∧ r < 8 := by omega
  refine z_aload_n C dX7_holes_12 rfl ?_
  refine z_iload_n C dX7_holes_13 rfl ?_
  refine z_ci C (z_rV C Rm qv_X7_holesNow m_1177 (m_holesNow hM h8) hM.obj rfl dX7_holes_14 rfl rfl (Nat.le_of_ble_eq_true rfl) rfl ⟨Nat.le_of_ble_eq_true rfl, Nat.le_of_ble_eq_true rfl, Nat.le_of_ble_eq_true rfl, Nat.le_of_ble_eq_true rfl⟩) (fun z3 μ3 hq3 => ?_)
  refine z_goto (tgt := 25) C dX7_holes_17 (by decide) ?_
  exact z_iret C E dX7_holes_25 (Nat.le_of_ble_eq_true rfl) (Nat.le_of_ble_eq_true rfl) ⟨0, Or.inl ⟨rfl, hq3.1, h8, trivial⟩, zMP.of (hq3.2 _ _ hM.obj) hq3.2.n⟩
set_option maxRecDepth 100000 in
set_option maxHeartbeats 4000000 in
theorem m_fill {l : Launch} {D : va_G} {N0 : Nat} {M : Nat} {μ : zM} (hM : isMo D μ M) {r : Int} (hr : zir r) : zMet l yX7_fill cX7_fill 6 (some .int) ({ frames := 5, cells := 4, slots := 16904, locals := 200 } : Room) D N0 [.ref M, zi r] μ (zQI D N0 (fun z u => ∃ t, (t = 0 ∧ z = 0 ∧ (0 ≤ r ∧ r < 8) ∧ (True) ∨ t = 1 ∧ ¬ (0 ≤ r ∧ r < 8) ∨ t = 2 ∧ (0 ≤ r ∧ r < 8) ∧ ¬ (True)) ∧ zMP M μ t u)) := by
  refine zMet_of rfl (Nat.le_of_ble_eq_true rfl) (fun X C Rm hin E => ?_)
  refine z_aload_n C dX7_fill_0 rfl ?_
  refine z_iconst C dX7_fill_1 ?_
  refine z_put C hM.obj rfl tyX7 tyX7_ok nmX7 0 (by decide) m_1010 inz7 rfl rfl (by rfl) (by rfl) (Nat.le_of_ble_eq_true rfl) dX7_fill_2 ?_
  refine z_same hM.obj ?_
  refine z_iload_n C dX7_fill_5 rfl ?_
  refine z_ci C (z_rS C Rm qs_X7_isRegion m_1067 (m_isRegion hr) dX7_fill_6 rfl rfl (Nat.le_of_ble_eq_true rfl) rfl ⟨Nat.le_of_ble_eq_true rfl, Nat.le_of_ble_eq_true rfl, Nat.le_of_ble_eq_true rfl, Nat.le_of_ble_eq_true rfl⟩) (fun z μ1 hp => ?_)
  obtain ⟨hp, rfl⟩ := hp
  refine z_if_ne (tgt := 18) C dX7_fill_9 (by decide) (fun h1 => ?_) (fun h1 => ?_)
  rotate_left
  · refine z_aload_n C dX7_fill_12 rfl ?_
    refine z_iconst C dX7_fill_13 ?_
    refine z_ci C (z_rV C Rm qv_X7_no m_1047 (m_no hM.obj (k := 1)) hM.obj rfl dX7_fill_14 rfl rfl (Nat.le_of_ble_eq_true rfl) rfl ⟨Nat.le_of_ble_eq_true rfl, Nat.le_of_ble_eq_true rfl, Nat.le_of_ble_eq_true rfl, Nat.le_of_ble_eq_true rfl⟩) (fun z2 μ2 hq => ?_)
    obtain ⟨rfl, rfl⟩ := hq
    exact z_iret C E dX7_fill_17 (Nat.le_of_ble_eq_true rfl) (Nat.le_of_ble_eq_true rfl) ⟨1, Or.inr (Or.inl ⟨rfl, by omega⟩), zMP.of zu_s (zN.put zN.rf (by unfold zb; omega))⟩
  have h8 : 0 ≤ r ∧ r < 8 := by omega
  refine z_aload_n C dX7_fill_18 rfl ?_
  refine z_get C hM.obj rfl 1 (by decide) m_1011 inz7 rfl rfl dX7_fill_19 ?_
  refine z_iload_n C dX7_fill_22 rfl ?_
  refine z_bald C hM.rows (by decide) (isMo.row_eq h8) dX7_fill_23 ?_
  refine z_iconst C dX7_fill_24 ?_
  refine z_cr C (z_rS C Rm qs_X7_parts m_1136 (m_parts0 (hM.row h8)) dX7_fill_25 rfl rfl (Nat.le_of_ble_eq_true rfl) rfl ⟨Nat.le_of_ble_eq_true rfl, Nat.le_of_ble_eq_true rfl, Nat.le_of_ble_eq_true rfl, Nat.le_of_ble_eq_true rfl⟩) (fun qp μ2 hq => ?_)
  refine z_astore_n (L' := [_, _, _, _, _, _]) C dX7_fill_28 rfl ?_
  refine z_sipush C dX7_fill_29 ?_
  obtain ⟨⟨g, hg1, hg⟩, hlt, hE⟩ := hq
  have hM0 := hE.mo hM
  have hqp : ¬ zb M 14 qp := by have := hlt _ _ hM.kf; unfold zb; omega
  refine z_newM C Rm hM0 dX7_fill_32 (by decide) (fun q ν hM1 hq1 hqb hN1 => ?_)
  have hg2 := hN1 _ _ hg1 hqp
  have hN2 : zN M μ1 ν := (hE.n).tr hN1
  refine z_astore_n (L' := [_, _, _, _, _, _]) C dX7_fill_34 rfl ?_
  refine z_bipush C dX7_fill_35 ?_
  refine z_istore (L' := [_, _, _, _, _, _]) C dX7_fill_37 rfl ?_
  have grid : ∀ (n : Nat) (x : Int) (Ly : Option Value), x + n = 32 → -32 ≤ x → Z X ν 3 12808 39 [some (.ref M), some (zi r), some (.ref qp), some (.ref q), some (zi x), Ly] [] := by
    intro n
    induction n with
    | zero =>
      intro x Ly hn h0
      refine z_iload C dX7_fill_39 rfl ?_
      refine z_bipush C dX7_fill_41 ?_
      refine z_icmp_gt (tgt := 95) C dX7_fill_43 (by decide) (fun _ => ?_) (fun hno => absurd hno (by omega))
      refine z_aload_n C dX7_fill_95 rfl ?_
      refine z_iload_n C dX7_fill_96 rfl ?_
      refine z_aload_n C dX7_fill_97 rfl ?_
      refine z_ci C (z_rV C Rm qv_X7_change m_1078 (m_change hM1 h8 hq1 (fun i => Or.inl rfl) (Or.inl hqb)) hM1.obj rfl dX7_fill_98 rfl rfl (Nat.le_of_ble_eq_true rfl) rfl ⟨Nat.le_of_ble_eq_true rfl, Nat.le_of_ble_eq_true rfl, Nat.le_of_ble_eq_true rfl, Nat.le_of_ble_eq_true rfl⟩) (fun z3 μ3 hq3 => ?_)
      refine z_pop C dX7_fill_101 rfl ?_
      obtain ⟨hz3, ho3, hN3⟩ := hq3
      refine z_aload_n C dX7_fill_102 rfl ?_
      refine z_ci C (z_rS C Rm qs_X7_most m_1142 (m_most (hN3 _ _ hg2 hqp) hg (Or.inr rfl)) dX7_fill_103 rfl rfl (Nat.le_of_ble_eq_true rfl) rfl ⟨Nat.le_of_ble_eq_true rfl, Nat.le_of_ble_eq_true rfl, Nat.le_of_ble_eq_true rfl, Nat.le_of_ble_eq_true rfl⟩) (fun z5 μ5 hq5 => ?_)
      refine z_iconst C dX7_fill_106 ?_
      refine z_isub C dX7_fill_107 ?_
      obtain ⟨rfl, rfl⟩ := hq5
      exact z_iret C E dX7_fill_108 (Nat.le_of_ble_eq_true rfl) (Nat.le_of_ble_eq_true rfl) ⟨0, Or.inl ⟨rfl, rfl, h8, trivial⟩, ho3, hN2.tr hN3⟩
    | succ n ih =>
      intro x Ly hn h0
      have row : ∀ (j : Nat) (y : Int), y + j = 32 → -32 ≤ y → Z X ν 3 12808 50 [some (.ref M), some (zi r), some (.ref qp), some (.ref q), some (zi x), some (zi y)] [] := by
        intro j
        induction j with
        | zero =>
          intro y hj hy
          refine z_iload C dX7_fill_50 rfl ?_
          refine z_bipush C dX7_fill_52 ?_
          refine z_icmp_gt (tgt := 89) C dX7_fill_54 (by decide) (fun _ => ?_) (fun hno => absurd hno (by omega))
          refine z_iinc (L' := [_, _, _, _, _, _]) C dX7_fill_89 rfl rfl ?_
          refine z_goto (tgt := 39) C dX7_fill_92 (by decide) ?_
          exact ih (x + 1) _ (by omega) (by omega)
        | succ j ih2 =>
          intro y hj hy
          refine z_iload C dX7_fill_50 rfl ?_
          refine z_bipush C dX7_fill_52 ?_
          refine z_icmp_gt (tgt := 89) C dX7_fill_54 (by decide) (fun hno => absurd hno (by omega)) (fun _ => ?_)
          refine z_aload_n C dX7_fill_57 rfl ?_
          refine z_iload C dX7_fill_58 rfl ?_
          refine z_iload C dX7_fill_60 rfl ?_
          refine z_ci C (z_rS C Rm qs_X7_at m_1075 (m_at (x := x) (y := y)) dX7_fill_62 rfl rfl (Nat.le_of_ble_eq_true rfl) rfl ⟨Nat.le_of_ble_eq_true rfl, Nat.le_of_ble_eq_true rfl, Nat.le_of_ble_eq_true rfl, Nat.le_of_ble_eq_true rfl⟩) (fun z μ4 hq4 => ?_)
          obtain ⟨rfl, rfl⟩ := hq4
          refine z_aload_n C dX7_fill_65 rfl ?_
          refine z_iload C dX7_fill_66 rfl ?_
          refine z_iload C dX7_fill_68 rfl ?_
          refine z_ci C (z_rS C Rm qs_X7_partAt m_1139 (m_partAt1 hg2 hg (x := x) (y := y) (by omega) (by omega)) dX7_fill_70 rfl rfl (Nat.le_of_ble_eq_true rfl) rfl ⟨Nat.le_of_ble_eq_true rfl, Nat.le_of_ble_eq_true rfl, Nat.le_of_ble_eq_true rfl, Nat.le_of_ble_eq_true rfl⟩) (fun z μ4 hq4 => ?_)
          obtain ⟨rfl, rfl⟩ := hq4
          refine z_iconst C dX7_fill_73 ?_
          refine z_icmp_eq (tgt := 81) C dX7_fill_74 (by decide) (fun _ => ?_) (fun hno => absurd hno (fun h => h rfl))
          refine z_iconst C dX7_fill_81 ?_
          refine z_zast C hq1 (by decide) (Or.inl rfl) dX7_fill_82 ?_
          refine z_st0 hq1 ?_
          refine z_iinc (L' := [_, _, _, _, _, _]) C dX7_fill_83 rfl rfl ?_
          refine z_goto (tgt := 50) C dX7_fill_86 (by decide) ?_
          exact ih2 (y + 1) (by omega) (by omega)
      refine z_iload C dX7_fill_39 rfl ?_
      refine z_bipush C dX7_fill_41 ?_
      refine z_icmp_gt (tgt := 95) C dX7_fill_43 (by decide) (fun hno => absurd hno (by omega)) (fun _ => ?_)
      refine z_bipush C dX7_fill_46 ?_
      refine z_istore (L' := [_, _, _, _, _, _]) C dX7_fill_48 rfl ?_
      exact row 64 (-32) (by omega) (by omega)
  exact grid 64 (-32) _ (by omega) (by omega)
set_option maxRecDepth 100000 in
set_option maxHeartbeats 4000000 in
theorem m_cross0 {l : Launch} {D : va_G} {N0 : Nat} {a b : Nat} {x y : Int} {μ : zM} (hy : zir y) : zMet l yX7_cross cX7_cross 7 none ({ frames := 1, cells := 0, slots := 0, locals := 40 } : Room) D N0 [.ref a, .ref b, zi x, zi y, zi y] μ (zQV D N0 (fun u => u = μ)) := by
  refine zMet_of rfl (Nat.le_of_ble_eq_true rfl) (fun X C Rm hin E => ?_)
  refine z_iload_n C dX7_cross_0 rfl ?_
  refine z_iload C dX7_cross_1 rfl ?_
  refine z_mmin C Rm m_1073 m_347 m_50 m_348 dX7_cross_3 rfl ⟨Nat.le_of_ble_eq_true rfl, Nat.le_of_ble_eq_true rfl, Nat.le_of_ble_eq_true rfl, Nat.le_of_ble_eq_true rfl⟩ ?_
  refine z_istore (L' := [_, _, _, _, _, _, _]) C dX7_cross_6 rfl ?_
  refine z_iload C dX7_cross_8 rfl ?_
  refine z_iload_n C dX7_cross_10 rfl ?_
  refine z_iload C dX7_cross_11 rfl ?_
  refine z_mmax C Rm m_1074 m_350 m_50 m_351 dX7_cross_13 rfl ⟨Nat.le_of_ble_eq_true rfl, Nat.le_of_ble_eq_true rfl, Nat.le_of_ble_eq_true rfl, Nat.le_of_ble_eq_true rfl⟩ ?_
  refine z_icmp_ge (tgt := 77) C dX7_cross_16 (by decide) (fun _ => ?_) (fun hno => absurd hno (by omega))
  exact z_vret C E dX7_cross_77 (Nat.le_of_ble_eq_true rfl) (Nat.le_of_ble_eq_true rfl) rfl
set_option maxRecDepth 100000 in
set_option maxHeartbeats 4000000 in
theorem m_close {l : Launch} {D : va_G} {N0 : Nat} {M : Nat} {μ : zM} (hM : isMo D μ M) {r : Int} (hr : zir r) {k : Int} (hk : zir k) : zMet l yX7_close cX7_close 7 (some .int) ({ frames := 2, cells := 4, slots := 16384, locals := 80 } : Room) D N0 [.ref M, zi r, zi k] μ (zQI D N0 (fun z u => ∃ t, (t = 0 ∧ z = 0 ∧ (0 ≤ r ∧ r < 8) ∧ (0 ≤ k ∧ k ≤ 1) ∨ t = 1 ∧ ¬ (0 ≤ r ∧ r < 8) ∨ t = 2 ∧ (0 ≤ r ∧ r < 8) ∧ ¬ (0 ≤ k ∧ k ≤ 1)) ∧ zMP M μ t u)) := by
  refine zMet_of rfl (Nat.le_of_ble_eq_true rfl) (fun X C Rm hin E => ?_)
  refine z_aload_n C dX7_close_0 rfl ?_
  refine z_iconst C dX7_close_1 ?_
  refine z_put C hM.obj rfl tyX7 tyX7_ok nmX7 0 (by decide) m_1010 inz7 rfl rfl (by rfl) (by rfl) (Nat.le_of_ble_eq_true rfl) dX7_close_2 ?_
  refine z_same hM.obj ?_
  refine z_iload_n C dX7_close_5 rfl ?_
  refine z_ci C (z_rS C Rm qs_X7_isRegion m_1067 (m_isRegion hr) dX7_close_6 rfl rfl (Nat.le_of_ble_eq_true rfl) rfl ⟨Nat.le_of_ble_eq_true rfl, Nat.le_of_ble_eq_true rfl, Nat.le_of_ble_eq_true rfl, Nat.le_of_ble_eq_true rfl⟩) (fun z μ1 hp => ?_)
  obtain ⟨hp, rfl⟩ := hp
  refine z_if_ne (tgt := 18) C dX7_close_9 (by decide) (fun h1 => ?_) (fun h1 => ?_)
  rotate_left
  · refine z_aload_n C dX7_close_12 rfl ?_
    refine z_iconst C dX7_close_13 ?_
    refine z_ci C (z_rV C Rm qv_X7_no m_1047 (m_no hM.obj (k := 1)) hM.obj rfl dX7_close_14 rfl rfl (Nat.le_of_ble_eq_true rfl) rfl ⟨Nat.le_of_ble_eq_true rfl, Nat.le_of_ble_eq_true rfl, Nat.le_of_ble_eq_true rfl, Nat.le_of_ble_eq_true rfl⟩) (fun z2 μ2 hq => ?_)
    obtain ⟨rfl, rfl⟩ := hq
    exact z_iret C E dX7_close_17 (Nat.le_of_ble_eq_true rfl) (Nat.le_of_ble_eq_true rfl) ⟨1, Or.inr (Or.inl ⟨rfl, by omega⟩), zMP.of zu_s (zN.put zN.rf (by unfold zb; omega))⟩
  have h8 : 0 ≤ r ∧ r < 8 := by omega
  refine z_iload_n C dX7_close_18 rfl ?_
  refine z_iconst C dX7_close_19 ?_
  refine z_iconst C dX7_close_20 ?_
  refine z_ci C (z_rS C Rm qs_X7_isIn m_1044 (m_isIn hk (by decide) (by decide)) dX7_close_21 rfl rfl (Nat.le_of_ble_eq_true rfl) rfl ⟨Nat.le_of_ble_eq_true rfl, Nat.le_of_ble_eq_true rfl, Nat.le_of_ble_eq_true rfl, Nat.le_of_ble_eq_true rfl⟩) (fun z1 μ1 hp1 => ?_)
  obtain ⟨hp1, rfl⟩ := hp1
  refine z_if_ne (tgt := 33) C dX7_close_24 (by decide) (fun h2 => ?_) (fun h2 => ?_)
  rotate_left
  · refine z_aload_n C dX7_close_27 rfl ?_
    refine z_iconst C dX7_close_28 ?_
    refine z_ci C (z_rV C Rm qv_X7_no m_1047 (m_no hM.obj (k := 2)) hM.obj rfl dX7_close_29 rfl rfl (Nat.le_of_ble_eq_true rfl) rfl ⟨Nat.le_of_ble_eq_true rfl, Nat.le_of_ble_eq_true rfl, Nat.le_of_ble_eq_true rfl, Nat.le_of_ble_eq_true rfl⟩) (fun z2 μ2 hq => ?_)
    obtain ⟨rfl, rfl⟩ := hq
    exact z_iret C E dX7_close_32 (Nat.le_of_ble_eq_true rfl) (Nat.le_of_ble_eq_true rfl) ⟨2, Or.inr (Or.inr ⟨rfl, h8, by omega⟩), zMP.of zu_s (zN.put zN.rf (by unfold zb; omega))⟩
  have hP : 0 ≤ k ∧ k ≤ 1 := by omega
  refine z_sipush C dX7_close_33 ?_
  refine z_newI C Rm (by decide) m_105 dX7_close_36 (by decide) (fun q1 hNq1 hqq1 => ?_)
  refine z_astore_n (L' := [_, _, _, _, _, _, _]) C dX7_close_38 rfl ?_
  refine z_sipush C dX7_close_39 ?_
  refine z_newI C Rm (by decide) m_105 dX7_close_42 (by decide) (fun q2 hNq2 hqq2 => ?_)
  obtain ⟨ν0, hν⟩ : ∃ ν0, ν0 = zu (zu μ1 q1 (zAI D 4096 zIz)) q2 (zAI D 4096 zIz) := ⟨_, rfl⟩
  have hlt2 : ∀ (b : Nat) (e : va_E), μ1 b = some e → b < q2 := fun b e hb => hqq2 b e (zu_k hb (by have := hqq1 b e hb; omega))
  have hE0 : zEx μ1 ν0 := by rw [hν]; exact (zEx.rf.own hqq1).own hlt2
  have h12 : q1 < q2 := hqq2 q1 _ zu_s
  have g1 : ν0 q1 = some (zAI D 4096 zIz) := by rw [hν]; exact zu_k zu_s (by omega)
  have g2 : ν0 q2 = some (zAI D 4096 zIz) := by rw [hν]; exact zu_s
  have hM0 := hE0.mo hM
  have hqb1 : ¬ zb M 14 q1 := by have := hqq1 _ _ hM.kf; unfold zb; omega
  have hqb2 : ¬ zb M 14 q2 := by have := hlt2 _ _ hM.kf; unfold zb; omega
  refine (show Z X ν0 2 8192 (38 + 1 + 3 + 2) [some (.ref M), some (zi r), some (zi k), some (.ref q1), none, none, none] [.ref q2] → _ from fun h => by rw [hν] at h; exact h) ?_
  refine z_astore (L' := [_, _, _, _, _, _, _]) C dX7_close_44 rfl ?_
  refine z_iconst C dX7_close_46 ?_
  refine z_istore (L' := [_, _, _, _, _, _, _]) C dX7_close_47 rfl ?_
  refine z_iload C dX7_close_49 rfl ?_
  refine z_aload_n C dX7_close_51 rfl ?_
  refine z_get C hM0.obj rfl 4 (by decide) m_1014 inz7 rfl rfl dX7_close_52 ?_
  refine z_icmp_ge (tgt := 112) C dX7_close_55 (by decide) (fun _ => ?_) (fun hno => absurd hno (by omega))
  refine z_aload_n C dX7_close_112 rfl ?_
  refine z_aload C dX7_close_113 rfl ?_
  refine z_aload_n C dX7_close_115 rfl ?_
  refine z_get C hM0.obj rfl 2 (by decide) m_1012 inz7 rfl rfl dX7_close_116 ?_
  refine z_iconst C dX7_close_119 ?_
  refine z_iald C hM0.px (by decide) dX7_close_120 ?_
  rw [show zIz (0 : Int).toNat = 0 from rfl]
  refine z_aload_n C dX7_close_121 rfl ?_
  refine z_get C hM0.obj rfl 3 (by decide) m_1013 inz7 rfl rfl dX7_close_122 ?_
  refine z_aload_n C dX7_close_125 rfl ?_
  refine z_get C hM0.obj rfl 4 (by decide) m_1014 inz7 rfl rfl dX7_close_126 ?_
  refine z_iconst C dX7_close_129 ?_
  refine z_isub C dX7_close_130 ?_
  refine z_iald C hM0.py (by decide) dX7_close_131 ?_
  rw [show zIz ((1 : Int) - 1).toNat = 0 from rfl]
  refine z_aload_n C dX7_close_132 rfl ?_
  refine z_get C hM0.obj rfl 3 (by decide) m_1013 inz7 rfl rfl dX7_close_133 ?_
  refine z_iconst C dX7_close_136 ?_
  refine z_iald C hM0.py (by decide) dX7_close_137 ?_
  rw [show zIz (0 : Int).toNat = 0 from rfl]
  refine z_cv C (z_rS C Rm qs_X7_cross m_1070 (m_cross0 (by decide)) dX7_close_138 rfl rfl (Nat.le_of_ble_eq_true rfl) rfl ⟨Nat.le_of_ble_eq_true rfl, Nat.le_of_ble_eq_true rfl, Nat.le_of_ble_eq_true rfl, Nat.le_of_ble_eq_true rfl⟩) (fun μ4 hq4 => ?_)
  refine z_sipush C dX7_close_141 ?_
  subst hq4
  refine z_newM C Rm hM0 dX7_close_144 (by decide) (fun q ν hM1 hq1 hqb hN1 => ?_)
  have f1 := hN1 _ _ g1 hqb1
  have f2 := hN1 _ _ g2 hqb2
  have hN2 : zN M μ1 ν := (hE0.n).tr hN1
  have loop : ∀ (n : Nat) (f : Int), f + n = 4096 → 0 ≤ f → Z X ν 3 12288 151 [some (.ref M), some (zi r), some (zi k), some (.ref q1), some (.ref q2), some (.ref q), some (zi f)] [] := by
    intro n
    induction n with
    | zero =>
      intro f hn h0
      refine z_iload C dX7_close_151 rfl ?_
      refine z_sipush C dX7_close_153 ?_
      refine z_icmp_ge (tgt := 205) C dX7_close_156 (by decide) (fun _ => ?_) (fun hno => absurd hno (by omega))
      refine z_aload_n C dX7_close_205 rfl ?_
      refine z_iconst C dX7_close_206 ?_
      refine z_put C hM1.obj rfl tyX7 tyX7_ok nmX7 4 (by decide) m_1014 inz7 rfl rfl (by rfl) (by rfl) (Nat.le_of_ble_eq_true rfl) dX7_close_207 ?_
      refine z_same hM1.obj ?_
      refine z_aload_n C dX7_close_210 rfl ?_
      refine z_iload_n C dX7_close_211 rfl ?_
      refine z_aload C dX7_close_212 rfl ?_
      refine z_ci C (z_rV C Rm qv_X7_change m_1078 (m_change hM1 h8 hq1 (fun i => Or.inl rfl) (Or.inl hqb)) hM1.obj rfl dX7_close_214 rfl rfl (Nat.le_of_ble_eq_true rfl) rfl ⟨Nat.le_of_ble_eq_true rfl, Nat.le_of_ble_eq_true rfl, Nat.le_of_ble_eq_true rfl, Nat.le_of_ble_eq_true rfl⟩) (fun z3 μ3 hq3 => ?_)
      exact z_iret C E dX7_close_217 (Nat.le_of_ble_eq_true rfl) (Nat.le_of_ble_eq_true rfl) ⟨0, Or.inl ⟨rfl, hq3.1.trans (cntZ_z _), h8, hP⟩, zMP.tr hN2 hq3.2⟩
    | succ n ih =>
      intro f hn h0
      refine z_iload C dX7_close_151 rfl ?_
      refine z_sipush C dX7_close_153 ?_
      refine z_icmp_ge (tgt := 205) C dX7_close_156 (by decide) (fun hno => absurd hno (by omega)) (fun _ => ?_)
      refine z_aload C dX7_close_159 rfl ?_
      refine z_iload C dX7_close_161 rfl ?_
      refine z_iload_n C dX7_close_163 rfl ?_
      refine z_if_ne (tgt := 185) C dX7_close_164 (by decide) (fun h5 => ?_) (fun h5 => ?_)
      · refine z_aload C dX7_close_185 rfl ?_
        refine z_iload C dX7_close_187 rfl ?_
        refine z_iald C f2 (by decide) dX7_close_189 ?_
        rw [show zIz f.toNat = 0 from rfl]
        refine z_if_eq (tgt := 197) C dX7_close_190 (by decide) (fun _ => ?_) (fun hno => absurd hno (fun h => h rfl))
        refine z_iconst C dX7_close_197 ?_
        refine z_zast C hq1 (by decide) (Or.inl rfl) dX7_close_198 ?_
        refine z_st0 hq1 ?_
        refine z_iinc (L' := [_, _, _, _, _, _, _]) C dX7_close_199 rfl rfl ?_
        refine z_goto (tgt := 151) C dX7_close_202 (by decide) ?_
        exact ih (f + 1) (by omega) (by omega)
      · refine z_aload_n C dX7_close_167 rfl ?_
        refine z_iload C dX7_close_168 rfl ?_
        refine z_iald C f1 (by decide) dX7_close_170 ?_
        rw [show zIz f.toNat = 0 from rfl]
        refine z_iconst C dX7_close_171 ?_
        refine z_iremP C dX7_close_172 ?_
        refine z_iconst C dX7_close_173 ?_
        refine z_icmp_ne (tgt := 181) C dX7_close_174 (by decide) (fun _ => ?_) (fun hno => absurd hno (by decide))
        refine z_iconst C dX7_close_181 ?_
        refine z_goto (tgt := 198) C dX7_close_182 (by decide) ?_
        refine z_zast C hq1 (by decide) (Or.inl rfl) dX7_close_198 ?_
        refine z_st0 hq1 ?_
        refine z_iinc (L' := [_, _, _, _, _, _, _]) C dX7_close_199 rfl rfl ?_
        refine z_goto (tgt := 151) C dX7_close_202 (by decide) ?_
        exact ih (f + 1) (by omega) (by omega)
  refine z_astore (L' := [_, _, _, _, _, _, _]) C dX7_close_146 rfl ?_
  refine z_iconst C dX7_close_148 ?_
  refine z_istore (L' := [_, _, _, _, _, _, _]) C dX7_close_149 rfl ?_
  exact loop 4096 0 (by omega) (by omega)
