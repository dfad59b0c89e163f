set_option maxRecDepth 100000 in
set_option maxHeartbeats 4000000 in
theorem m_isEdge0 {l : Launch} {D : va_G} {N0 : Nat} {a : Nat} {x y d : Int} {μ : zM} (hA : μ a = some (zAZ D 4096 zIz)) (hx : -1000 ≤ x ∧ x ≤ 1000) (hy : -1000 ≤ y ∧ y ≤ 1000) (hd : d = 0 ∨ d = 1) : zMet l yX7_isEdge cX7_isEdge 4 (some .boolean) ({ frames := 3, cells := 0, slots := 0, locals := 120 } : Room) D N0 [.ref a, zi x, zi y, zi d] μ (zQI D N0 (fun z u => z = 0 ∧ u = μ)) := by
  refine zMet_of rfl (Nat.le_of_ble_eq_true rfl) (fun X C Rm hin E => ?_)
  rcases hd with rfl | rfl
  · refine z_iload_n C dX7_isEdge_0 rfl ?_
    refine z_tableIn (tgt := 28) C dX7_isEdge_1 (by decide) (by decide) rfl (by decide) ?_
    refine z_aload_n C dX7_isEdge_28 rfl ?_
    refine z_iload_n C dX7_isEdge_29 rfl ?_
    refine z_iload_n C dX7_isEdge_30 rfl ?_
    refine z_ci C (z_rS C Rm qs_X7_has m_1129 (m_has0 hA (x := x) (y := y) (by omega) (by omega)) dX7_isEdge_31 rfl rfl (Nat.le_of_ble_eq_true rfl) rfl ⟨Nat.le_of_ble_eq_true rfl, Nat.le_of_ble_eq_true rfl, Nat.le_of_ble_eq_true rfl, Nat.le_of_ble_eq_true rfl⟩) (fun z μ5 hq5 => ?_)
    obtain ⟨rfl, rfl⟩ := hq5
    refine z_if_eq (tgt := 52) C dX7_isEdge_34 (by decide) (fun _ => ?_) (fun hno => absurd hno (fun h => h rfl))
    refine z_iconst C dX7_isEdge_52 ?_
    exact z_zret C E (Or.inl rfl) dX7_isEdge_53 (Nat.le_of_ble_eq_true rfl) (Nat.le_of_ble_eq_true rfl) ⟨rfl, rfl⟩
  · refine z_iload_n C dX7_isEdge_0 rfl ?_
    refine z_tableIn (tgt := 54) C dX7_isEdge_1 (by decide) (by decide) rfl (by decide) ?_
    refine z_aload_n C dX7_isEdge_54 rfl ?_
    refine z_iload_n C dX7_isEdge_55 rfl ?_
    refine z_iconst C dX7_isEdge_56 ?_
    refine z_isub C dX7_isEdge_57 ?_
    refine z_iload_n C dX7_isEdge_58 rfl ?_
    refine z_ci C (z_rS C Rm qs_X7_has m_1129 (m_has0 hA (x := x - 1) (y := y) (by omega) (by omega)) dX7_isEdge_59 rfl rfl (Nat.le_of_ble_eq_true rfl) rfl ⟨Nat.le_of_ble_eq_true rfl, Nat.le_of_ble_eq_true rfl, Nat.le_of_ble_eq_true rfl, Nat.le_of_ble_eq_true rfl⟩) (fun z μ5 hq5 => ?_)
    obtain ⟨rfl, rfl⟩ := hq5
    refine z_if_eq (tgt := 78) C dX7_isEdge_62 (by decide) (fun _ => ?_) (fun hno => absurd hno (fun h => h rfl))
    refine z_iconst C dX7_isEdge_78 ?_
    exact z_zret C E (Or.inl rfl) dX7_isEdge_79 (Nat.le_of_ble_eq_true rfl) (Nat.le_of_ble_eq_true rfl) ⟨rfl, rfl⟩
set_option maxRecDepth 100000 in
set_option maxHeartbeats 4000000 in
theorem m_contoursNow {l : Launch} {D : va_G} {N0 : Nat} {M : Nat} {μ : zM} (hM : isMo D μ M) {r : Int} (h8 : 0 ≤ r ∧ r < 8) : zMet l yX7_contoursNow cX7_contoursNow 21 (some (.array .int)) ({ frames := 4, cells := 2, slots := 16964, locals := 160 } : Room) D N0 [.ref M, zi r] μ (zQR D N0 (fun q u => u q = some (zAI D 64 zIz) ∧ zEx μ u)) := by
  refine zMet_of rfl (Nat.le_of_ble_eq_true rfl) (fun X C Rm hin E => ?_)
  refine z_aload_n C dX7_contoursNow_0 rfl ?_
  refine z_get C hM.obj rfl 1 (by decide) m_1011 inz7 rfl rfl dX7_contoursNow_1 ?_
  refine z_iload_n C dX7_contoursNow_4 rfl ?_
  refine z_bald C hM.rows (by decide) (isMo.row_eq h8) dX7_contoursNow_5 ?_
  refine z_astore_n (L' := [_, _, _, _, _, _, _, _, _, _, _, _, _, _, _, _, _, _, _, _, _]) C dX7_contoursNow_6 rfl ?_
  refine z_sipush C dX7_contoursNow_7 ?_
  refine z_newZ C Rm (by decide) m_1035 dX7_contoursNow_10 (by decide) (fun q1 hNq1 hqq1 => ?_)
  refine z_astore_n (L' := [_, _, _, _, _, _, _, _, _, _, _, _, _, _, _, _, _, _, _, _, _]) C dX7_contoursNow_12 rfl ?_
  refine z_bipush C dX7_contoursNow_13 ?_
  refine z_newI C Rm (by decide) m_105 dX7_contoursNow_15 (by decide) (fun q2 hNq2 hqq2 => ?_)
  obtain ⟨ν, hν⟩ : ∃ ν, ν = zu (zu μ q1 (zAZ D 16900 zIz)) q2 (zAI D 64 zIz) := ⟨_, rfl⟩
  have hE : zEx μ ν := by rw [hν]; exact (zEx.rf.own hqq1).own (fun b e hb => hqq2 b e (zu_k hb (by have := hqq1 b e hb; omega)))
  have h2 : ν q2 = some (zAI D 64 zIz) := by rw [hν]; exact zu_s
  have hA : ν (M + 2 + r.toNat) = some (zAZ D 4096 zIz) := hE _ _ (hM.row h8)
  refine (show Z X ν 2 16964 (12 + 1 + 2 + 2) [some (.ref M), some (zi r), some (.ref (M + 2 + r.toNat)), some (.ref q1), none, none, none, none, none, none, none, none, none, none, none, none, none, none, none, none, none] [.ref q2] → _ from fun h => by rw [hν] at h; exact h) ?_
  have grid : ∀ (n : Nat) (y : Int) (Lx L8 L9 : Option Value), y + n = 33 → -32 ≤ y → Z X ν 2 16964 26 [some (.ref M), some (zi r), some (.ref (M + 2 + r.toNat)), some (.ref q1), some (.ref q2), some (zi 1), some (zi y), Lx, L8, L9, none, none, none, none, none, none, none, none, none, none, none] [] := by
    intro n
    induction n with
    | zero =>
      intro y Lx L8 L9 hn h0
      refine z_iload C dX7_contoursNow_26 rfl ?_
      refine z_bipush C dX7_contoursNow_28 ?_
      refine z_icmp_gt (tgt := 432) C dX7_contoursNow_30 (by decide) (fun _ => ?_) (fun hno => absurd hno (by omega))
      refine z_aload C dX7_contoursNow_432 rfl ?_
      exact z_aret C E (Or.inr ⟨_, rfl⟩) dX7_contoursNow_434 (Nat.le_of_ble_eq_true rfl) (Nat.le_of_ble_eq_true rfl) ⟨h2, hE⟩
    | succ n ih =>
      intro y Lx L8 L9 hn h0
      have row : ∀ (j : Nat) (x : Int) (L8 L9 : Option Value), x + j = 33 → -32 ≤ x → Z X ν 2 16964 37 [some (.ref M), some (zi r), some (.ref (M + 2 + r.toNat)), some (.ref q1), some (.ref q2), some (zi 1), some (zi y), some (zi x), L8, L9, none, none, none, none, none, none, none, none, none, none, none] [] := by
        intro j
        induction j with
        | zero =>
          intro x L8 L9 hj hx
          refine z_iload C dX7_contoursNow_37 rfl ?_
          refine z_bipush C dX7_contoursNow_39 ?_
          refine z_icmp_gt (tgt := 426) C dX7_contoursNow_41 (by decide) (fun _ => ?_) (fun hno => absurd hno (by omega))
          refine z_iinc (L' := [_, _, _, _, _, _, _, _, _, _, _, _, _, _, _, _, _, _, _, _, _]) C dX7_contoursNow_426 rfl rfl ?_
          refine z_goto (tgt := 26) C dX7_contoursNow_429 (by decide) ?_
          exact ih (y + 1) _ _ _ (by omega) (by omega)
        | succ j ih2 =>
          intro x L8 L9 hj hx
          refine z_iload C dX7_contoursNow_37 rfl ?_
          refine z_bipush C dX7_contoursNow_39 ?_
          refine z_icmp_gt (tgt := 426) C dX7_contoursNow_41 (by decide) (fun hno => absurd hno (by omega)) (fun _ => ?_)
          refine z_iconst C dX7_contoursNow_44 ?_
          refine z_istore (L' := [_, _, _, _, _, _, _, _, _, _, _, _, _, _, _, _, _, _, _, _, _]) C dX7_contoursNow_45 rfl ?_
          refine z_iload C dX7_contoursNow_47 rfl ?_
          refine z_iconst C dX7_contoursNow_49 ?_
          refine z_icmp_ge (tgt := 420) C dX7_contoursNow_50 (by decide) (fun hno => absurd hno (by omega)) (fun _ => ?_)
          refine z_iload C dX7_contoursNow_53 rfl ?_
          refine z_bipush C dX7_contoursNow_55 ?_
          refine z_isub C dX7_contoursNow_57 ?_
          refine z_bipush C dX7_contoursNow_58 ?_
          refine z_imul C dX7_contoursNow_60 ?_
          refine z_iload C dX7_contoursNow_61 rfl ?_
          refine z_iadd C dX7_contoursNow_63 ?_
          refine z_bipush C dX7_contoursNow_64 ?_
          refine z_isub C dX7_contoursNow_66 ?_
          refine z_iconst C dX7_contoursNow_67 ?_
          refine z_imul C dX7_contoursNow_68 ?_
          refine z_iload C dX7_contoursNow_69 rfl ?_
          refine z_iadd C dX7_contoursNow_71 ?_
          refine z_istore (L' := [_, _, _, _, _, _, _, _, _, _, _, _, _, _, _, _, _, _, _, _, _]) C dX7_contoursNow_72 rfl ?_
          refine z_aload_n C dX7_contoursNow_74 rfl ?_
          refine z_iload C dX7_contoursNow_75 rfl ?_
          refine z_iload C dX7_contoursNow_77 rfl ?_
          refine z_iload C dX7_contoursNow_79 rfl ?_
          refine z_ci C (z_rS C Rm qs_X7_isEdge m_1201 (m_isEdge0 hA (x := x) (y := y) (by omega) (by omega) (Or.inl rfl)) dX7_contoursNow_81 rfl rfl (Nat.le_of_ble_eq_true rfl) rfl ⟨Nat.le_of_ble_eq_true rfl, Nat.le_of_ble_eq_true rfl, Nat.le_of_ble_eq_true rfl, Nat.le_of_ble_eq_true rfl⟩) (fun z μ5 hq5 => ?_)
          obtain ⟨rfl, rfl⟩ := hq5
          refine z_if_eq (tgt := 414) C dX7_contoursNow_84 (by decide) (fun _ => ?_) (fun hno => absurd hno (fun h => h rfl))
          refine z_iinc (L' := [_, _, _, _, _, _, _, _, _, _, _, _, _, _, _, _, _, _, _, _, _]) C dX7_contoursNow_414 rfl rfl ?_
          refine z_goto (tgt := 47) C dX7_contoursNow_417 (by decide) ?_
          refine z_iload C dX7_contoursNow_47 rfl ?_
          refine z_iconst C dX7_contoursNow_49 ?_
          refine z_icmp_ge (tgt := 420) C dX7_contoursNow_50 (by decide) (fun hno => absurd hno (by omega)) (fun _ => ?_)
          refine z_iload C dX7_contoursNow_53 rfl ?_
          refine z_bipush C dX7_contoursNow_55 ?_
          refine z_isub C dX7_contoursNow_57 ?_
          refine z_bipush C dX7_contoursNow_58 ?_
          refine z_imul C dX7_contoursNow_60 ?_
          refine z_iload C dX7_contoursNow_61 rfl ?_
          refine z_iadd C dX7_contoursNow_63 ?_
          refine z_bipush C dX7_contoursNow_64 ?_
          refine z_isub C dX7_contoursNow_66 ?_
          refine z_iconst C dX7_contoursNow_67 ?_
          refine z_imul C dX7_contoursNow_68 ?_
          refine z_iload C dX7_contoursNow_69 rfl ?_
          refine z_iadd C dX7_contoursNow_71 ?_
          refine z_istore (L' := [_, _, _, _, _, _, _, _, _, _, _, _, _, _, _, _, _, _, _, _, _]) C dX7_contoursNow_72 rfl ?_
          refine z_aload_n C dX7_contoursNow_74 rfl ?_
          refine z_iload C dX7_contoursNow_75 rfl ?_
          refine z_iload C dX7_contoursNow_77 rfl ?_
          refine z_iload C dX7_contoursNow_79 rfl ?_
          refine z_ci C (z_rS C Rm qs_X7_isEdge m_1201 (m_isEdge0 hA (x := x) (y := y) (by omega) (by omega) (Or.inr rfl)) dX7_contoursNow_81 rfl rfl (Nat.le_of_ble_eq_true rfl) rfl ⟨Nat.le_of_ble_eq_true rfl, Nat.le_of_ble_eq_true rfl, Nat.le_of_ble_eq_true rfl, Nat.le_of_ble_eq_true rfl⟩) (fun z μ5 hq5 => ?_)
          obtain ⟨rfl, rfl⟩ := hq5
          refine z_if_eq (tgt := 414) C dX7_contoursNow_84 (by decide) (fun _ => ?_) (fun hno => absurd hno (fun h => h rfl))
          refine z_iinc (L' := [_, _, _, _, _, _, _, _, _, _, _, _, _, _, _, _, _, _, _, _, _]) C dX7_contoursNow_414 rfl rfl ?_
          refine z_goto (tgt := 47) C dX7_contoursNow_417 (by decide) ?_
          refine z_iload C dX7_contoursNow_47 rfl ?_
          refine z_iconst C dX7_contoursNow_49 ?_
          refine z_icmp_ge (tgt := 420) C dX7_contoursNow_50 (by decide) (fun _ => ?_) (fun hno => absurd hno (by omega))
          refine z_iinc (L' := [_, _, _, _, _, _, _, _, _, _, _, _, _, _, _, _, _, _, _, _, _]) C dX7_contoursNow_420 rfl rfl ?_
          refine z_goto (tgt := 37) C dX7_contoursNow_423 (by decide) ?_
          exact ih2 (x + 1) _ _ (by omega) (by omega)
      refine z_iload C dX7_contoursNow_26 rfl ?_
      refine z_bipush C dX7_contoursNow_28 ?_
      refine z_icmp_gt (tgt := 432) C dX7_contoursNow_30 (by decide) (fun hno => absurd hno (by omega)) (fun _ => ?_)
      refine z_bipush C dX7_contoursNow_33 ?_
      refine z_istore (L' := [_, _, _, _, _, _, _, _, _, _, _, _, _, _, _, _, _, _, _, _, _]) C dX7_contoursNow_35 rfl ?_
      exact row 65 (-32) _ _ (by omega) (by omega)
  refine z_astore (L' := [_, _, _, _, _, _, _, _, _, _, _, _, _, _, _, _, _, _, _, _, _]) C dX7_contoursNow_17 rfl ?_
  refine z_iconst C dX7_contoursNow_19 ?_
  refine z_istore (L' := [_, _, _, _, _, _, _, _, _, _, _, _, _, _, _, _, _, _, _, _, _]) C dX7_contoursNow_20 rfl ?_
  refine z_bipush C dX7_contoursNow_22 ?_
  refine z_istore (L' := [_, _, _, _, _, _, _, _, _, _, _, _, _, _, _, _, _, _, _, _, _]) C dX7_contoursNow_24 rfl ?_
  exact grid 65 (-32) _ _ _ (by omega) (by omega)
set_option maxRecDepth 100000 in
set_option maxHeartbeats 4000000 in
theorem m_headOf {l : Launch} {D : va_G} {N0 : Nat} {a : Nat} {c : Int} {μ : zM} (hA : μ a = some (zAI D 64 zIz)) (hc : zir c) : zMet l yX7_headOf cX7_headOf 4 (some .int) ({ frames := 1, cells := 0, slots := 0, locals := 40 } : Room) D N0 [.ref a, zi c] μ (zQI D N0 (fun z u => z = -1 ∧ u = μ)) := by
  refine zMet_of rfl (Nat.le_of_ble_eq_true rfl) (fun X C Rm hin E => ?_)
  refine z_iload_n C dX7_headOf_0 rfl ?_
  refine z_iconst C dX7_headOf_1 ?_
  refine z_aload_n C dX7_headOf_2 rfl ?_
  refine z_iconst C dX7_headOf_3 ?_
  refine z_iald C hA (by decide) dX7_headOf_4 ?_
  rw [show zIz (0 : Int).toNat = 0 from rfl]
  refine z_iconst C dX7_headOf_5 ?_
  refine z_isub C dX7_headOf_6 ?_
  refine z_ci C (z_rS C Rm qs_X7_isIn m_1044 (m_isIn hc (by decide) (by decide)) dX7_headOf_7 rfl rfl (Nat.le_of_ble_eq_true rfl) rfl ⟨Nat.le_of_ble_eq_true rfl, Nat.le_of_ble_eq_true rfl, Nat.le_of_ble_eq_true rfl, Nat.le_of_ble_eq_true rfl⟩) (fun z μ5 hq5 => ?_)
  obtain ⟨hz, rfl⟩ := hq5
  refine z_if_ne (tgt := 15) C dX7_headOf_10 (by decide) (fun hno => absurd hno (by omega)) (fun _ => ?_)
  refine z_iconst C dX7_headOf_13 ?_
  exact z_iret C E dX7_headOf_14 (Nat.le_of_ble_eq_true rfl) (Nat.le_of_ble_eq_true rfl) ⟨rfl, rfl⟩
set_option maxRecDepth 100000 in
set_option maxHeartbeats 4000000 in
theorem m_contours {l : Launch} {D : va_G} {N0 : Nat} {M : Nat} {μ : zM} (hM : isMo D μ M) {r : Int} (hr : zir r) : zMet l yX7_contours cX7_contours 2 (some .int) ({ frames := 5, cells := 2, slots := 16964, locals := 200 } : Room) D N0 [.ref M, zi r] μ (zQI D N0 (fun z u => ∃ t, (t = 0 ∧ z = 0 ∧ (0 ≤ r ∧ r < 8) ∧ (True) ∨ t = 1 ∧ ¬ (0 ≤ r ∧ r < 8) ∨ t = 2 ∧ (0 ≤ r ∧ r < 8) ∧ ¬ (True)) ∧ zMP M μ t u)) := by
  refine zMet_of rfl (Nat.le_of_ble_eq_true rfl) (fun X C Rm hin E => ?_)
  refine z_aload_n C dX7_contours_0 rfl ?_
  refine z_iconst C dX7_contours_1 ?_
  refine z_put C hM.obj rfl tyX7 tyX7_ok nmX7 0 (by decide) m_1010 inz7 rfl rfl (by rfl) (by rfl) (Nat.le_of_ble_eq_true rfl) dX7_contours_2 ?_
  refine z_same hM.obj ?_
  refine z_iload_n C dX7_contours_5 rfl ?_
  refine z_ci C (z_rS C Rm qs_X7_isRegion m_1067 (m_isRegion hr) dX7_contours_6 rfl rfl (Nat.le_of_ble_eq_true rfl) rfl ⟨Nat.le_of_ble_eq_true rfl, Nat.le_of_ble_eq_true rfl, Nat.le_of_ble_eq_true rfl, Nat.le_of_ble_eq_true rfl⟩) (fun z μ1 hp => ?_)
  obtain ⟨hp, rfl⟩ := hp
  refine z_if_eq (tgt := 22) C dX7_contours_9 (by decide) (fun h1 => ?_) (fun h1 => ?_)
  · refine z_aload_n C dX7_contours_22 rfl ?_
    refine z_iconst C dX7_contours_23 ?_
    refine z_ci C (z_rV C Rm qv_X7_no m_1047 (m_no hM.obj (k := 1)) hM.obj rfl dX7_contours_24 rfl rfl (Nat.le_of_ble_eq_true rfl) rfl ⟨Nat.le_of_ble_eq_true rfl, Nat.le_of_ble_eq_true rfl, Nat.le_of_ble_eq_true rfl, Nat.le_of_ble_eq_true rfl⟩) (fun z2 μ2 hq => ?_)
    obtain ⟨rfl, rfl⟩ := hq
    exact z_iret C E dX7_contours_27 (Nat.le_of_ble_eq_true rfl) (Nat.le_of_ble_eq_true rfl) ⟨1, Or.inr (Or.inl ⟨rfl, by omega⟩), zMP.of zu_s (zN.put zN.rf (by unfold zb; omega))⟩
  have h8 : 0 ≤ r ∧ r < 8 := by omega
  refine z_aload_n C dX7_contours_12 rfl ?_
  refine z_iload_n C dX7_contours_13 rfl ?_
  refine z_cr C (z_rV C Rm qv_X7_contoursNow m_1197 (m_contoursNow hM h8) hM.obj rfl dX7_contours_14 rfl rfl (Nat.le_of_ble_eq_true rfl) rfl ⟨Nat.le_of_ble_eq_true rfl, Nat.le_of_ble_eq_true rfl, Nat.le_of_ble_eq_true rfl, Nat.le_of_ble_eq_true rfl⟩) (fun q μ2 hq => ?_)
  refine z_iconst C dX7_contours_17 ?_
  refine z_iald C hq.1 (by decide) dX7_contours_18 ?_
  refine z_goto (tgt := 27) C dX7_contours_19 (by decide) ?_
  exact z_iret C E dX7_contours_27 (Nat.le_of_ble_eq_true rfl) (Nat.le_of_ble_eq_true rfl) ⟨0, Or.inl ⟨rfl, rfl, h8, trivial⟩, zMP.of (hq.2 _ _ hM.obj) hq.2.n⟩
set_option maxRecDepth 100000 in
set_option maxHeartbeats 4000000 in
theorem m_ofContour {l : Launch} {D : va_G} {N0 : Nat} {M : Nat} {μ : zM} (hM : isMo D μ M) {r : Int} (hr : zir r) {c p : Int} (hc : zir c) : zMet l yX7_ofContour cX7_ofContour 6 (some .int) ({ frames := 5, cells := 2, slots := 16964, locals := 200 } : Room) D N0 [.ref M, zi r, zi c, zi p] μ (zQI D N0 (fun z u => z = 0 ∧ zMP M μ 1 u)) := by
  refine zMet_of rfl (Nat.le_of_ble_eq_true rfl) (fun X C Rm hin E => ?_)
  refine z_aload_n C dX7_ofContour_0 rfl ?_
  refine z_iconst C dX7_ofContour_1 ?_
  refine z_put C hM.obj rfl tyX7 tyX7_ok nmX7 0 (by decide) m_1010 inz7 rfl rfl (by rfl) (by rfl) (Nat.le_of_ble_eq_true rfl) dX7_ofContour_2 ?_
  refine z_same hM.obj ?_
  refine z_iload_n C dX7_ofContour_5 rfl ?_
  refine z_ci C (z_rS C Rm qs_X7_isRegion m_1067 (m_isRegion hr) dX7_ofContour_6 rfl rfl (Nat.le_of_ble_eq_true rfl) rfl ⟨Nat.le_of_ble_eq_true rfl, Nat.le_of_ble_eq_true rfl, Nat.le_of_ble_eq_true rfl, Nat.le_of_ble_eq_true rfl⟩) (fun z μ1 hp => ?_)
  obtain ⟨hp, rfl⟩ := hp
  refine z_if_ne (tgt := 18) C dX7_ofContour_9 (by decide) (fun h1 => ?_) (fun h1 => ?_)
  rotate_left
  · refine z_aload_n C dX7_ofContour_12 rfl ?_
    refine z_iconst C dX7_ofContour_13 ?_
    refine z_ci C (z_rV C Rm qv_X7_no m_1047 (m_no hM.obj (k := 1)) hM.obj rfl dX7_ofContour_14 rfl rfl (Nat.le_of_ble_eq_true rfl) rfl ⟨Nat.le_of_ble_eq_true rfl, Nat.le_of_ble_eq_true rfl, Nat.le_of_ble_eq_true rfl, Nat.le_of_ble_eq_true rfl⟩) (fun z2 μ2 hq => ?_)
    obtain ⟨rfl, rfl⟩ := hq
    exact z_iret C E dX7_ofContour_17 (Nat.le_of_ble_eq_true rfl) (Nat.le_of_ble_eq_true rfl) ⟨rfl, zMP.of zu_s (zN.put zN.rf (by unfold zb; omega))⟩
  have h8 : 0 ≤ r ∧ r < 8 := by omega
  refine z_aload_n C dX7_ofContour_18 rfl ?_
  refine z_iload_n C dX7_ofContour_19 rfl ?_
  refine z_cr C (z_rV C Rm qv_X7_contoursNow m_1197 (m_contoursNow hM h8) hM.obj rfl dX7_ofContour_20 rfl rfl (Nat.le_of_ble_eq_true rfl) rfl ⟨Nat.le_of_ble_eq_true rfl, Nat.le_of_ble_eq_true rfl, Nat.le_of_ble_eq_true rfl, Nat.le_of_ble_eq_true rfl⟩) (fun q μ2 hq => ?_)
  refine z_astore (L' := [_, _, _, _, _, _]) C dX7_ofContour_23 rfl ?_
  refine z_aload C dX7_ofContour_25 rfl ?_
  refine z_iload_n C dX7_ofContour_27 rfl ?_
  refine z_ci C (z_rS C Rm qs_X7_headOf m_1221 (m_headOf hq.1 hc) dX7_ofContour_28 rfl rfl (Nat.le_of_ble_eq_true rfl) rfl ⟨Nat.le_of_ble_eq_true rfl, Nat.le_of_ble_eq_true rfl, Nat.le_of_ble_eq_true rfl, Nat.le_of_ble_eq_true rfl⟩) (fun z3 μ3 hq3 => ?_)
  obtain ⟨rfl, rfl⟩ := hq3
  have hM2 := hq.2.mo hM
  refine z_istore (L' := [_, _, _, _, _, _]) C dX7_ofContour_31 rfl ?_
  refine z_iload C dX7_ofContour_33 rfl ?_
  refine z_iconst C dX7_ofContour_35 ?_
  refine z_icmp_ne (tgt := 47) C dX7_ofContour_36 (by decide) (fun hno => absurd hno (fun h => h rfl)) (fun _ => ?_)
  refine z_aload_n C dX7_ofContour_39 rfl ?_
  refine z_iconst C dX7_ofContour_40 ?_
  refine z_ci C (z_rV C Rm qv_X7_no m_1047 (m_no hM2.obj (k := 1)) hM2.obj rfl dX7_ofContour_41 rfl rfl (Nat.le_of_ble_eq_true rfl) rfl ⟨Nat.le_of_ble_eq_true rfl, Nat.le_of_ble_eq_true rfl, Nat.le_of_ble_eq_true rfl, Nat.le_of_ble_eq_true rfl⟩) (fun z4 μ4 hq4 => ?_)
  refine z_goto (tgt := 54) C dX7_ofContour_44 (by decide) ?_
  obtain ⟨rfl, rfl⟩ := hq4
  exact z_iret C E dX7_ofContour_54 (Nat.le_of_ble_eq_true rfl) (Nat.le_of_ble_eq_true rfl) ⟨rfl, zMP.of zu_s (zN.put hq.2.n (by unfold zb; omega))⟩
set_option maxRecDepth 100000 in
set_option maxHeartbeats 4000000 in
theorem m_corners {l : Launch} {D : va_G} {N0 : Nat} {M : Nat} {μ : zM} (hM : isMo D μ M) {r : Int} (hr : zir r) {c : Int} (hc : zir c) : zMet l yX7_corners cX7_corners 3 (some .int) ({ frames := 6, cells := 2, slots := 16964, locals := 240 } : Room) D N0 [.ref M, zi r, zi c] μ (zQI D N0 (fun z u => z = 0 ∧ zMP M μ 1 u)) := by
  refine zMet_of rfl (Nat.le_of_ble_eq_true rfl) (fun X C Rm hin E => ?_)
  refine z_aload_n C dX7_corners_0 rfl ?_
  refine z_iload_n C dX7_corners_1 rfl ?_
  refine z_iload_n C dX7_corners_2 rfl ?_
  refine z_iconst C dX7_corners_3 ?_
  refine z_ci C (z_rV C Rm qv_X7_ofContour m_1217 (m_ofContour hM hr hc) hM.obj rfl dX7_corners_4 rfl rfl (Nat.le_of_ble_eq_true rfl) rfl ⟨Nat.le_of_ble_eq_true rfl, Nat.le_of_ble_eq_true rfl, Nat.le_of_ble_eq_true rfl, Nat.le_of_ble_eq_true rfl⟩) (fun z μ1 hp => ?_)
  exact z_iret C E dX7_corners_7 (Nat.le_of_ble_eq_true rfl) (Nat.le_of_ble_eq_true rfl) hp
set_option maxRecDepth 100000 in
set_option maxHeartbeats 4000000 in
theorem m_areaOf {l : Launch} {D : va_G} {N0 : Nat} {M : Nat} {μ : zM} (hM : isMo D μ M) {r : Int} (hr : zir r) {c : Int} (hc : zir c) : zMet l yX7_areaOf_ cX7_areaOf_ 3 (some .int) ({ frames := 6, cells := 2, slots := 16964, locals := 240 } : Room) D N0 [.ref M, zi r, zi c] μ (zQI D N0 (fun z u => z = 0 ∧ zMP M μ 1 u)) := by
  refine zMet_of rfl (Nat.le_of_ble_eq_true rfl) (fun X C Rm hin E => ?_)
  refine z_aload_n C dX7_areaOf__0 rfl ?_
  refine z_iload_n C dX7_areaOf__1 rfl ?_
  refine z_iload_n C dX7_areaOf__2 rfl ?_
  refine z_iconst C dX7_areaOf__3 ?_
  refine z_ci C (z_rV C Rm qv_X7_ofContour m_1217 (m_ofContour hM hr hc) hM.obj rfl dX7_areaOf__4 rfl rfl (Nat.le_of_ble_eq_true rfl) rfl ⟨Nat.le_of_ble_eq_true rfl, Nat.le_of_ble_eq_true rfl, Nat.le_of_ble_eq_true rfl, Nat.le_of_ble_eq_true rfl⟩) (fun z μ1 hp => ?_)
  exact z_iret C E dX7_areaOf__7 (Nat.le_of_ble_eq_true rfl) (Nat.le_of_ble_eq_true rfl) hp
set_option maxRecDepth 100000 in
set_option maxHeartbeats 4000000 in
theorem m_corner {l : Launch} {D : va_G} {N0 : Nat} {M : Nat} {μ : zM} (hM : isMo D μ M) {r : Int} (hr : zir r) {c : Int} (hc : zir c) {k w : Int} : zMet l yX7_corner cX7_corner 6 (some .int) ({ frames := 7, cells := 2, slots := 16964, locals := 280 } : Room) D N0 [.ref M, zi r, zi c, zi k, zi w] μ (zQI D N0 (fun z u => zMP M μ 1 u)) := by
  refine zMet_of rfl (Nat.le_of_ble_eq_true rfl) (fun X C Rm hin E => ?_)
  refine z_aload_n C dX7_corner_0 rfl ?_
  refine z_iload_n C dX7_corner_1 rfl ?_
  refine z_iload_n C dX7_corner_2 rfl ?_
  refine z_ci C (z_rV C Rm qv_X7_corners m_1236 (m_corners hM hr hc) hM.obj rfl dX7_corner_3 rfl rfl (Nat.le_of_ble_eq_true rfl) rfl ⟨Nat.le_of_ble_eq_true rfl, Nat.le_of_ble_eq_true rfl, Nat.le_of_ble_eq_true rfl, Nat.le_of_ble_eq_true rfl⟩) (fun z μ1 hp => ?_)
  obtain ⟨hz, ⟨fs, hfs⟩, hN⟩ := hp
  refine z_istore (L' := [_, _, _, _, _, _]) C dX7_corner_6 rfl ?_
  refine z_aload_n C dX7_corner_8 rfl ?_
  refine z_get C hfs rfl 0 (by decide) m_1010 inz7 rfl rfl dX7_corner_9 ?_
  refine z_if_eq (tgt := 17) C dX7_corner_12 (by decide) (fun hno => absurd hno (by decide)) (fun _ => ?_)
  refine z_iconst C dX7_corner_15 ?_
  exact z_iret C E dX7_corner_16 (Nat.le_of_ble_eq_true rfl) (Nat.le_of_ble_eq_true rfl) ⟨⟨fs, hfs⟩, hN⟩
set_option maxRecDepth 100000 in
set_option maxHeartbeats 4000000 in
theorem m_cornerX {l : Launch} {D : va_G} {N0 : Nat} {M : Nat} {μ : zM} (hM : isMo D μ M) {r : Int} (hr : zir r) {c : Int} (hc : zir c) {k : Int} : zMet l yX7_cornerX cX7_cornerX 4 (some .int) ({ frames := 8, cells := 2, slots := 16964, locals := 320 } : Room) D N0 [.ref M, zi r, zi c, zi k] μ (zQI D N0 (fun z u => zMP M μ 1 u)) := by
  refine zMet_of rfl (Nat.le_of_ble_eq_true rfl) (fun X C Rm hin E => ?_)
  refine z_aload_n C dX7_cornerX_0 rfl ?_
  refine z_iload_n C dX7_cornerX_1 rfl ?_
  refine z_iload_n C dX7_cornerX_2 rfl ?_
  refine z_iload_n C dX7_cornerX_3 rfl ?_
  refine z_iconst C dX7_cornerX_4 ?_
  refine z_ci C (z_rV C Rm qv_X7_corner m_1232 (m_corner hM hr hc) hM.obj rfl dX7_cornerX_5 rfl rfl (Nat.le_of_ble_eq_true rfl) rfl ⟨Nat.le_of_ble_eq_true rfl, Nat.le_of_ble_eq_true rfl, Nat.le_of_ble_eq_true rfl, Nat.le_of_ble_eq_true rfl⟩) (fun z μ1 hp => ?_)
  exact z_iret C E dX7_cornerX_8 (Nat.le_of_ble_eq_true rfl) (Nat.le_of_ble_eq_true rfl) hp
set_option maxRecDepth 100000 in
set_option maxHeartbeats 4000000 in
theorem m_cornerY {l : Launch} {D : va_G} {N0 : Nat} {M : Nat} {μ : zM} (hM : isMo D μ M) {r : Int} (hr : zir r) {c : Int} (hc : zir c) {k : Int} : zMet l yX7_cornerY cX7_cornerY 4 (some .int) ({ frames := 8, cells := 2, slots := 16964, locals := 320 } : Room) D N0 [.ref M, zi r, zi c, zi k] μ (zQI D N0 (fun z u => zMP M μ 1 u)) := by
  refine zMet_of rfl (Nat.le_of_ble_eq_true rfl) (fun X C Rm hin E => ?_)
  refine z_aload_n C dX7_cornerY_0 rfl ?_
  refine z_iload_n C dX7_cornerY_1 rfl ?_
  refine z_iload_n C dX7_cornerY_2 rfl ?_
  refine z_iload_n C dX7_cornerY_3 rfl ?_
  refine z_iconst C dX7_cornerY_4 ?_
  refine z_ci C (z_rV C Rm qv_X7_corner m_1232 (m_corner hM hr hc) hM.obj rfl dX7_cornerY_5 rfl rfl (Nat.le_of_ble_eq_true rfl) rfl ⟨Nat.le_of_ble_eq_true rfl, Nat.le_of_ble_eq_true rfl, Nat.le_of_ble_eq_true rfl, Nat.le_of_ble_eq_true rfl⟩) (fun z μ1 hp => ?_)
  exact z_iret C E dX7_cornerY_8 (Nat.le_of_ble_eq_true rfl) (Nat.le_of_ble_eq_true rfl) hp
set_option maxRecDepth 100000 in
set_option maxHeartbeats 4000000 in
theorem m_stripsNow {l : Launch} {D : va_G} {N0 : Nat} {M : Nat} {μ : zM} (hM : isMo D μ M) {r : Int} (h8 : 0 ≤ r ∧ r < 8) : zMet l yX7_stripsNow cX7_stripsNow 9 (some (.array .int)) ({ frames := 4, cells := 1, slots := 64, locals := 160 } : Room) D N0 [.ref M, zi r] μ (zQR D N0 (fun q u => u q = some (zAI D 64 zIz) ∧ zEx μ u)) := by
  refine zMet_of rfl (Nat.le_of_ble_eq_true rfl) (fun X C Rm hin E => ?_)
  refine z_aload_n C dX7_stripsNow_0 rfl ?_
  refine z_get C hM.obj rfl 1 (by decide) m_1011 inz7 rfl rfl dX7_stripsNow_1 ?_
  refine z_iload_n C dX7_stripsNow_4 rfl ?_
  refine z_bald C hM.rows (by decide) (isMo.row_eq h8) dX7_stripsNow_5 ?_
  refine z_astore_n (L' := [_, _, _, _, _, _, _, _, _]) C dX7_stripsNow_6 rfl ?_
  refine z_bipush C dX7_stripsNow_7 ?_
  refine z_newI C Rm (by decide) m_105 dX7_stripsNow_9 (by decide) (fun q1 hNq1 hqq1 => ?_)
  obtain ⟨ν, hν⟩ : ∃ ν, ν = zu μ q1 (zAI D 64 zIz) := ⟨_, rfl⟩
  have hE : zEx μ ν := by rw [hν]; exact zEx.rf.own hqq1
  have h2 : ν q1 = some (zAI D 64 zIz) := by rw [hν]; exact zu_s
  have hA : ν (M + 2 + r.toNat) = some (zAZ D 4096 zIz) := hE _ _ (hM.row h8)
  refine (show Z X ν 1 64 (7 + 2 + 2) [some (.ref M), some (zi r), some (.ref (M + 2 + r.toNat)), none, none, none, none, none, none] [.ref q1] → _ from fun h => by rw [hν] at h; exact h) ?_
  have grid : ∀ (n : Nat) (x : Int) (Ly : Option Value), x + n = 32 → -32 ≤ x → Z X ν 1 64 19 [some (.ref M), some (zi r), some (.ref (M + 2 + r.toNat)), some (.ref q1), some (zi 1), some (zi x), Ly, none, none] [] := by
    intro n
    induction n with
    | zero =>
      intro x Ly hn h0
      refine z_iload C dX7_stripsNow_19 rfl ?_
      refine z_bipush C dX7_stripsNow_21 ?_
      refine z_icmp_gt (tgt := 178) C dX7_stripsNow_23 (by decide) (fun _ => ?_) (fun hno => absurd hno (by omega))
      refine z_aload_n C dX7_stripsNow_178 rfl ?_
      exact z_aret C E (Or.inr ⟨_, rfl⟩) dX7_stripsNow_179 (Nat.le_of_ble_eq_true rfl) (Nat.le_of_ble_eq_true rfl) ⟨h2, hE⟩
    | succ n ih =>
      intro x Ly hn h0
      have row : ∀ (j : Nat) (y : Int), y + j = 32 → -32 ≤ y → Z X ν 1 64 30 [some (.ref M), some (zi r), some (.ref (M + 2 + r.toNat)), some (.ref q1), some (zi 1), some (zi x), some (zi y), none, none] [] := by
        intro j
        induction j with
        | zero =>
          intro y hj hy
          refine z_iload C dX7_stripsNow_30 rfl ?_
          refine z_bipush C dX7_stripsNow_32 ?_
          refine z_icmp_gt (tgt := 172) C dX7_stripsNow_34 (by decide) (fun _ => ?_) (fun hno => absurd hno (by omega))
          refine z_iinc (L' := [_, _, _, _, _, _, _, _, _]) C dX7_stripsNow_172 rfl rfl ?_
          refine z_goto (tgt := 19) C dX7_stripsNow_175 (by decide) ?_
          exact ih (x + 1) _ (by omega) (by omega)
        | succ j ih2 =>
          intro y hj hy
          refine z_iload C dX7_stripsNow_30 rfl ?_
          refine z_bipush C dX7_stripsNow_32 ?_
          refine z_icmp_gt (tgt := 172) C dX7_stripsNow_34 (by decide) (fun hno => absurd hno (by omega)) (fun _ => ?_)
          refine z_aload_n C dX7_stripsNow_37 rfl ?_
          refine z_iload C dX7_stripsNow_38 rfl ?_
          refine z_iload C dX7_stripsNow_40 rfl ?_
          refine z_ci C (z_rS C Rm qs_X7_has m_1129 (m_has0 hA (x := y) (y := x) (by omega) (by omega)) dX7_stripsNow_42 rfl rfl (Nat.le_of_ble_eq_true rfl) rfl ⟨Nat.le_of_ble_eq_true rfl, Nat.le_of_ble_eq_true rfl, Nat.le_of_ble_eq_true rfl, Nat.le_of_ble_eq_true rfl⟩) (fun z μ5 hq5 => ?_)
          obtain ⟨rfl, rfl⟩ := hq5
          refine z_if_eq (tgt := 166) C dX7_stripsNow_45 (by decide) (fun _ => ?_) (fun hno => absurd hno (fun h => h rfl))
          refine z_iinc (L' := [_, _, _, _, _, _, _, _, _]) C dX7_stripsNow_166 rfl rfl ?_
          refine z_goto (tgt := 30) C dX7_stripsNow_169 (by decide) ?_
          exact ih2 (y + 1) (by omega) (by omega)
      refine z_iload C dX7_stripsNow_19 rfl ?_
      refine z_bipush C dX7_stripsNow_21 ?_
      refine z_icmp_gt (tgt := 178) C dX7_stripsNow_23 (by decide) (fun hno => absurd hno (by omega)) (fun _ => ?_)
      refine z_bipush C dX7_stripsNow_26 ?_
      refine z_istore (L' := [_, _, _, _, _, _, _, _, _]) C dX7_stripsNow_28 rfl ?_
      exact row 64 (-32) (by omega) (by omega)
  refine z_astore_n (L' := [_, _, _, _, _, _, _, _, _]) C dX7_stripsNow_11 rfl ?_
  refine z_iconst C dX7_stripsNow_12 ?_
  refine z_istore (L' := [_, _, _, _, _, _, _, _, _]) C dX7_stripsNow_13 rfl ?_
  refine z_bipush C dX7_stripsNow_15 ?_
  refine z_istore (L' := [_, _, _, _, _, _, _, _, _]) C dX7_stripsNow_17 rfl ?_
  exact grid 64 (-32) _ (by omega) (by omega)
set_option maxRecDepth 100000 in
set_option maxHeartbeats 4000000 in
theorem m_strips {l : Launch} {D : va_G} {N0 : Nat} {M : Nat} {μ : zM} (hM : isMo D μ M) {r : Int} (hr : zir r) : zMet l yX7_strips cX7_strips 2 (some .int) ({ frames := 5, cells := 1, slots := 64, locals := 200 } : Room) D N0 [.ref M, zi r] μ (zQI D N0 (fun z u => ∃ t, (t = 0 ∧ z = 0 ∧ (0 ≤ r ∧ r < 8) ∧ (True) ∨ t = 1 ∧ ¬ (0 ≤ r ∧ r < 8) ∨ t = 2 ∧ (0 ≤ r ∧ r < 8) ∧ ¬ (True)) ∧ zMP M μ t u)) := by
  refine zMet_of rfl (Nat.le_of_ble_eq_true rfl) (fun X C Rm hin E => ?_)
  refine z_aload_n C dX7_strips_0 rfl ?_
  refine z_iconst C dX7_strips_1 ?_
  refine z_put C hM.obj rfl tyX7 tyX7_ok nmX7 0 (by decide) m_1010 inz7 rfl rfl (by rfl) (by rfl) (Nat.le_of_ble_eq_true rfl) dX7_strips_2 ?_
  refine z_same hM.obj ?_
  refine z_iload_n C dX7_strips_5 rfl ?_
  refine z_ci C (z_rS C Rm qs_X7_isRegion m_1067 (m_isRegion hr) dX7_strips_6 rfl rfl (Nat.le_of_ble_eq_true rfl) rfl ⟨Nat.le_of_ble_eq_true rfl, Nat.le_of_ble_eq_true rfl, Nat.le_of_ble_eq_true rfl, Nat.le_of_ble_eq_true rfl⟩) (fun z μ1 hp => ?_)
  obtain ⟨hp, rfl⟩ := hp
  refine z_if_eq (tgt := 22) C dX7_strips_9 (by decide) (fun h1 => ?_) (fun h1 => ?_)
  · refine z_aload_n C dX7_strips_22 rfl ?_
    refine z_iconst C dX7_strips_23 ?_
    refine z_ci C (z_rV C Rm qv_X7_no m_1047 (m_no hM.obj (k := 1)) hM.obj rfl dX7_strips_24 rfl rfl (Nat.le_of_ble_eq_true rfl) rfl ⟨Nat.le_of_ble_eq_true rfl, Nat.le_of_ble_eq_true rfl, Nat.le_of_ble_eq_true rfl, Nat.le_of_ble_eq_true rfl⟩) (fun z2 μ2 hq => ?_)
    obtain ⟨rfl, rfl⟩ := hq
    exact z_iret C E dX7_strips_27 (Nat.le_of_ble_eq_true rfl) (Nat.le_of_ble_eq_true rfl) ⟨1, Or.inr (Or.inl ⟨rfl, by omega⟩), zMP.of zu_s (zN.put zN.rf (by unfold zb; omega))⟩
  have h8 : 0 ≤ r ∧ r < 8 := by omega
  refine z_aload_n C dX7_strips_12 rfl ?_
  refine z_iload_n C dX7_strips_13 rfl ?_
  refine z_cr C (z_rV C Rm qv_X7_stripsNow m_1245 (m_stripsNow hM h8) hM.obj rfl dX7_strips_14 rfl rfl (Nat.le_of_ble_eq_true rfl) rfl ⟨Nat.le_of_ble_eq_true rfl, Nat.le_of_ble_eq_true rfl, Nat.le_of_ble_eq_true rfl, Nat.le_of_ble_eq_true rfl⟩) (fun q μ2 hq => ?_)
  refine z_iconst C dX7_strips_17 ?_
  refine z_iald C hq.1 (by decide) dX7_strips_18 ?_
  refine z_goto (tgt := 27) C dX7_strips_19 (by decide) ?_
  exact z_iret C E dX7_strips_27 (Nat.le_of_ble_eq_true rfl) (Nat.le_of_ble_eq_true rfl) ⟨0, Or.inl ⟨rfl, rfl, h8, trivial⟩, zMP.of (hq.2 _ _ hM.obj) hq.2.n⟩
set_option maxRecDepth 100000 in
set_option maxHeartbeats 4000000 in
theorem m_strip {l : Launch} {D : va_G} {N0 : Nat} {M : Nat} {μ : zM} (hM : isMo D μ M) {r : Int} (hr : zir r) {c : Int} (hc : zir c) {k : Int} : zMet l yX7_strip cX7_strip 5 (some .int) ({ frames := 5, cells := 1, slots := 64, locals := 200 } : Room) D N0 [.ref M, zi r, zi c, zi k] μ (zQI D N0 (fun z u => zMP M μ 1 u)) := by
  refine zMet_of rfl (Nat.le_of_ble_eq_true rfl) (fun X C Rm hin E => ?_)
  refine z_aload_n C dX7_strip_0 rfl ?_
  refine z_iconst C dX7_strip_1 ?_
  refine z_put C hM.obj rfl tyX7 tyX7_ok nmX7 0 (by decide) m_1010 inz7 rfl rfl (by rfl) (by rfl) (Nat.le_of_ble_eq_true rfl) dX7_strip_2 ?_
  refine z_same hM.obj ?_
  refine z_iload_n C dX7_strip_5 rfl ?_
  refine z_ci C (z_rS C Rm qs_X7_isRegion m_1067 (m_isRegion hr) dX7_strip_6 rfl rfl (Nat.le_of_ble_eq_true rfl) rfl ⟨Nat.le_of_ble_eq_true rfl, Nat.le_of_ble_eq_true rfl, Nat.le_of_ble_eq_true rfl, Nat.le_of_ble_eq_true rfl⟩) (fun z μ1 hp => ?_)
  obtain ⟨hp, rfl⟩ := hp
  refine z_if_ne (tgt := 18) C dX7_strip_9 (by decide) (fun h1 => ?_) (fun h1 => ?_)
  rotate_left
  · refine z_aload_n C dX7_strip_12 rfl ?_
    refine z_iconst C dX7_strip_13 ?_
    refine z_ci C (z_rV C Rm qv_X7_no m_1047 (m_no hM.obj (k := 1)) hM.obj rfl dX7_strip_14 rfl rfl (Nat.le_of_ble_eq_true rfl) rfl ⟨Nat.le_of_ble_eq_true rfl, Nat.le_of_ble_eq_true rfl, Nat.le_of_ble_eq_true rfl, Nat.le_of_ble_eq_true rfl⟩) (fun z2 μ2 hq => ?_)
    obtain ⟨rfl, rfl⟩ := hq
    exact z_iret C E dX7_strip_17 (Nat.le_of_ble_eq_true rfl) (Nat.le_of_ble_eq_true rfl) (zMP.of zu_s (zN.put zN.rf (by unfold zb; omega)))
  have h8 : 0 ≤ r ∧ r < 8 := by omega
  refine z_aload_n C dX7_strip_18 rfl ?_
  refine z_iload_n C dX7_strip_19 rfl ?_
  refine z_cr C (z_rV C Rm qv_X7_stripsNow m_1245 (m_stripsNow hM h8) hM.obj rfl dX7_strip_20 rfl rfl (Nat.le_of_ble_eq_true rfl) rfl ⟨Nat.le_of_ble_eq_true rfl, Nat.le_of_ble_eq_true rfl, Nat.le_of_ble_eq_true rfl, Nat.le_of_ble_eq_true rfl⟩) (fun q μ2 hq => ?_)
  refine z_astore (L' := [_, _, _, _, _]) C dX7_strip_23 rfl ?_
  refine z_iload_n C dX7_strip_25 rfl ?_
  refine z_iconst C dX7_strip_26 ?_
  refine z_aload C dX7_strip_27 rfl ?_
  refine z_iconst C dX7_strip_29 ?_
  refine z_iald C hq.1 (by decide) dX7_strip_30 ?_
  rw [show zIz (0 : Int).toNat = 0 from rfl]
  refine z_iconst C dX7_strip_31 ?_
  refine z_isub C dX7_strip_32 ?_
  refine z_ci C (z_rS C Rm qs_X7_isIn m_1044 (m_isIn hc (by decide) (by decide)) dX7_strip_33 rfl rfl (Nat.le_of_ble_eq_true rfl) rfl ⟨Nat.le_of_ble_eq_true rfl, Nat.le_of_ble_eq_true rfl, Nat.le_of_ble_eq_true rfl, Nat.le_of_ble_eq_true rfl⟩) (fun z3 μ3 hq3 => ?_)
  obtain ⟨hz3, rfl⟩ := hq3
  have hM2 := hq.2.mo hM
  refine z_if_ne (tgt := 45) C dX7_strip_36 (by decide) (fun hno => absurd hno (by omega)) (fun _ => ?_)
  refine z_aload_n C dX7_strip_39 rfl ?_
  refine z_iconst C dX7_strip_40 ?_
  refine z_ci C (z_rV C Rm qv_X7_no m_1047 (m_no hM2.obj (k := 1)) hM2.obj rfl dX7_strip_41 rfl rfl (Nat.le_of_ble_eq_true rfl) rfl ⟨Nat.le_of_ble_eq_true rfl, Nat.le_of_ble_eq_true rfl, Nat.le_of_ble_eq_true rfl, Nat.le_of_ble_eq_true rfl⟩) (fun z4 μ4 hq4 => ?_)
  obtain ⟨rfl, rfl⟩ := hq4
  exact z_iret C E dX7_strip_44 (Nat.le_of_ble_eq_true rfl) (Nat.le_of_ble_eq_true rfl) (zMP.of zu_s (zN.put hq.2.n (by unfold zb; omega)))
