-- ---- changes
/-- on a region that is empty all the same -/
abbrev zXR (K : Nat) (μ : zM) (r : Int) (P : Prop) (En : String) (u : zM) : Prop := (En = eIOB ∧ ¬ (0 ≤ r ∧ r < 8) ∨ En = eIAE ∧ (0 ≤ r ∧ r < 8) ∧ ¬ P) ∧ zKO K μ u
set_option maxRecDepth 100000 in
set_option maxHeartbeats 4000000 in
theorem k_combined0 {l : Launch} {D : va_G} {N0 : Nat} {μ : zM} {o : Int} (ho : 0 ≤ o ∧ o ≤ 3) : zMet l yX6_combined cX6_combined 5 (some .long) ({ frames := 0, cells := 0, slots := 0, locals := 0 } : Room) D N0 [.long 0, .long 0, zi o] μ (zQL D N0 (fun z u => z = 0 ∧ u = μ)) := by
  refine zMet_of rfl (Nat.le_of_ble_eq_true rfl) (fun X C Rm hin E => ?_)
  rcases (by omega : o = 0 ∨ o = 1 ∨ o = 2 ∨ o = 3) with rfl | rfl | rfl | rfl
  · refine z_iload C dX6_combined_0 rfl ?_
    refine z_tableIn (tgt := 28) C dX6_combined_2 (by decide) (by decide) rfl (by decide) ?_
    refine z_lload_n C dX6_combined_28 rfl ?_
    refine z_lload_n C dX6_combined_29 rfl ?_
    refine z_lor C dX6_combined_30 ?_
    exact z_lret C E dX6_combined_31 (Nat.le_of_ble_eq_true rfl) (Nat.le_of_ble_eq_true rfl) ⟨Int64.zero_or, rfl⟩
  · refine z_iload C dX6_combined_0 rfl ?_
    refine z_tableIn (tgt := 32) C dX6_combined_2 (by decide) (by decide) rfl (by decide) ?_
    refine z_lload_n C dX6_combined_32 rfl ?_
    refine z_lload_n C dX6_combined_33 rfl ?_
    refine z_land C dX6_combined_34 ?_
    exact z_lret C E dX6_combined_35 (Nat.le_of_ble_eq_true rfl) (Nat.le_of_ble_eq_true rfl) ⟨Int64.zero_and, rfl⟩
  · refine z_iload C dX6_combined_0 rfl ?_
    refine z_tableIn (tgt := 36) C dX6_combined_2 (by decide) (by decide) rfl (by decide) ?_
    refine z_lload_n C dX6_combined_36 rfl ?_
    refine z_lload_n C dX6_combined_37 rfl ?_
    refine z_ldc2 C m_713 dX6_combined_38 ?_
    refine z_lxor C dX6_combined_41 ?_
    refine z_land C dX6_combined_42 ?_
    exact z_lret C E dX6_combined_43 (Nat.le_of_ble_eq_true rfl) (Nat.le_of_ble_eq_true rfl) ⟨Int64.zero_and, rfl⟩
  · refine z_iload C dX6_combined_0 rfl ?_
    refine z_tableOut (tgt := 44) C dX6_combined_2 (by omega) (by decide) ?_
    refine z_lload_n C dX6_combined_44 rfl ?_
    refine z_lload_n C dX6_combined_45 rfl ?_
    refine z_lxor C dX6_combined_46 ?_
    exact z_lret C E dX6_combined_47 (Nat.le_of_ble_eq_true rfl) (Nat.le_of_ble_eq_true rfl) ⟨by decide, rfl⟩
set_option maxRecDepth 100000 in
set_option maxHeartbeats 4000000 in
theorem k_combine {l : Launch} {D : va_G} {N0 : Nat} (hl0 : l.stackTraces = false) {K : Nat} {μ : zM} (hK : isKe D μ K) {r p q o : Int} (hr : zir r) (hp0 : zir p) (hq0 : zir q) (ho : zir o) : zxMet l yX6_combine cX6_combine 9 (some .int) ({ frames := 7, cells := 4, slots := 24, locals := 280 } : Room) D N0 [.ref K, zi r, zi p, zi q, zi o] μ (zQI D N0 (fun z u => z = 0 ∧ (((0 ≤ r ∧ r < 8) ∧ (0 ≤ p ∧ p < 8) ∧ 0 ≤ q ∧ q < 8) ∧ 0 ≤ o ∧ o ≤ 3) ∧ zKO K μ u)) (fun En u => (En = eIOB ∧ ¬ ((0 ≤ r ∧ r < 8) ∧ (0 ≤ p ∧ p < 8) ∧ 0 ≤ q ∧ q < 8) ∨ En = eIAE ∧ ((0 ≤ r ∧ r < 8) ∧ (0 ≤ p ∧ p < 8) ∧ 0 ≤ q ∧ q < 8) ∧ ¬ (0 ≤ o ∧ o ≤ 3)) ∧ zKO K μ u) := by
  refine zxMet_of rfl (Nat.le_of_ble_eq_true rfl) (fun X C Rm Tb E => ?_)
  refine z_aload_n C dX6_combine_0 rfl ?_
  refine z_iload_n C dX6_combine_1 rfl ?_
  refine zx_cr C (zx_rV C Rm qv_X6_regionAt m_646 (k_regionAt hl0 hK hr) hK.obj rfl dX6_combine_2 rfl rfl (Nat.le_of_ble_eq_true rfl) rfl (by decide)) (fun En μx hx => zx_prop C Tb E (by decide) (⟨Or.inl ⟨hx.1, fun w => hx.2.1 w.1⟩, zO.eq hx.2.2⟩)) (fun z μ1 hp => ?_)
  obtain ⟨rfl, h8, rfl⟩ := hp
  refine z_astore (L' := [_, _, _, _, _, _, _, _, _]) C dX6_combine_5 rfl ?_
  refine z_aload_n C dX6_combine_7 rfl ?_
  refine z_iload_n C dX6_combine_8 rfl ?_
  refine zx_cr C (zx_rV C Rm qv_X6_regionAt m_646 (k_regionAt hl0 hK hp0) hK.obj rfl dX6_combine_9 rfl rfl (Nat.le_of_ble_eq_true rfl) rfl (by decide)) (fun En μx hx => zx_prop C Tb E (by decide) (⟨Or.inl ⟨hx.1, fun w => hx.2.1 w.2.1⟩, zO.eq hx.2.2⟩)) (fun z μ1 hp => ?_)
  obtain ⟨rfl, p8, rfl⟩ := hp
  refine z_astore (L' := [_, _, _, _, _, _, _, _, _]) C dX6_combine_12 rfl ?_
  refine z_aload_n C dX6_combine_14 rfl ?_
  refine z_iload_n C dX6_combine_15 rfl ?_
  refine zx_cr C (zx_rV C Rm qv_X6_regionAt m_646 (k_regionAt hl0 hK hq0) hK.obj rfl dX6_combine_16 rfl rfl (Nat.le_of_ble_eq_true rfl) rfl (by decide)) (fun En μx hx => zx_prop C Tb E (by decide) (⟨Or.inl ⟨hx.1, fun w => hx.2.1 w.2.2⟩, zO.eq hx.2.2⟩)) (fun z μ1 hp => ?_)
  obtain ⟨rfl, q8, rfl⟩ := hp
  have b8 := zReg_b (K := K) h8
  refine z_astore (L' := [_, _, _, _, _, _, _, _, _]) C dX6_combine_19 rfl ?_
  refine z_iconst C dX6_combine_21 ?_
  refine z_iload C dX6_combine_22 rfl ?_
  refine z_iconst C dX6_combine_24 ?_
  refine z_ci C (z_rS C Rm qs_X6_isFrom m_666 (k_isFrom (by decide) ho (by decide)) dX6_combine_25 rfl rfl (Nat.le_of_ble_eq_true rfl) rfl ⟨Nat.le_of_ble_eq_true rfl, Nat.le_of_ble_eq_true rfl, Nat.le_of_ble_eq_true rfl, Nat.le_of_ble_eq_true rfl⟩) (fun z μ1 hp => ?_)
  obtain ⟨hp, rfl⟩ := hp
  refine z_if_ne (tgt := 41) C dX6_combine_28 (by decide) (fun h1 => ?_) (fun h1 => ?_)
  rotate_left
  · exact zx_throwS C Rm Tb E hl0 thr_A st_126 dX6_combine_31 dX6_combine_34 dX6_combine_35 dX6_combine_37 dX6_combine_40 rfl (by decide) (by decide) (⟨Or.inr ⟨rfl, ⟨h8, p8, q8⟩, by omega⟩, zO.rf⟩)
  have ho4 : 0 ≤ o ∧ o ≤ 3 := by omega
  refine z_aload_n C dX6_combine_41 rfl ?_
  refine z_get C hK.obj rfl 3 (by decide) m_226 inz6 rfl rfl dX6_combine_42 ?_
  refine z_iload_n C dX6_combine_45 rfl ?_
  refine z_aload C dX6_combine_46 rfl ?_
  refine z_cv C (z_rV C Rm qv_X2_keep m_670 (c_keep hK.his hK.kept (hK.at h8) (by omega) (by omega)) hK.his.1 rfl dX6_combine_48 rfl rfl (Nat.le_of_ble_eq_true rfl) rfl ⟨Nat.le_of_ble_eq_true rfl, Nat.le_of_ble_eq_true rfl, Nat.le_of_ble_eq_true rfl, Nat.le_of_ble_eq_true rfl⟩) (fun μ1 hq => ?_)
  obtain ⟨k1, k2, k3, k4, k5, k6⟩ := hK.hist hq
  have hF := k2 r h8
  have hP := k2 p p8
  have hQ := k2 q q8
  refine z_bipush C dX6_combine_51 ?_
  refine z_istore (L' := [_, _, _, _, _, _, _, _, _]) C dX6_combine_53 rfl ?_
  have loop : ∀ (n : Nat) (y : Int), y + n = 32 → -32 ≤ y → Z X μ1 3 18 55 [some (.ref K), some (zi r), some (zi p), some (zi q), some (zi o), some (.ref (zReg K r)), some (.ref (zReg K p)), some (.ref (zReg K q)), some (zi y)] [] := by
    intro n
    induction n with
    | zero =>
      intro y hn h0
      refine z_iload C dX6_combine_55 rfl ?_
      refine z_bipush C dX6_combine_57 ?_
      refine z_icmp_gt (tgt := 94) C dX6_combine_59 (by decide) (fun _ => ?_) (fun hno => absurd hno (by omega))
      refine z_aload C dX6_combine_94 rfl ?_
      refine z_ci C (z_rV C Rm qv_X0_count m_290 (c_count hF) hF.1 rfl dX6_combine_96 rfl rfl (Nat.le_of_ble_eq_true rfl) rfl ⟨Nat.le_of_ble_eq_true rfl, Nat.le_of_ble_eq_true rfl, Nat.le_of_ble_eq_true rfl, Nat.le_of_ble_eq_true rfl⟩) (fun z3 μ3 hq3 => ?_)
      obtain ⟨rfl, rfl⟩ := hq3
      refine zx_ret C E (fun X C E => ?_)
      exact z_iret C E dX6_combine_99 (Nat.le_of_ble_eq_true rfl) (Nat.le_of_ble_eq_true rfl) ⟨cntF_z, ⟨⟨h8, p8, q8⟩, ho4⟩, k6⟩
    | succ n ih =>
      intro y hn h0
      refine z_iload C dX6_combine_55 rfl ?_
      refine z_bipush C dX6_combine_57 ?_
      refine z_icmp_gt (tgt := 94) C dX6_combine_59 (by decide) (fun hno => absurd hno (by omega)) (fun _ => ?_)
      refine z_aload C dX6_combine_62 rfl ?_
      refine z_iload C dX6_combine_64 rfl ?_
      refine z_aload C dX6_combine_66 rfl ?_
      refine z_iload C dX6_combine_68 rfl ?_
      refine z_cl C (z_rV C Rm qv_X0_row m_714 (c_row hP (y := y) (by omega)) hP.1 rfl dX6_combine_70 rfl rfl (Nat.le_of_ble_eq_true rfl) rfl ⟨Nat.le_of_ble_eq_true rfl, Nat.le_of_ble_eq_true rfl, Nat.le_of_ble_eq_true rfl, Nat.le_of_ble_eq_true rfl⟩) (fun z3 μ3 hq3 => ?_)
      obtain ⟨rfl, rfl⟩ := hq3
      rw [rowv_z]
      refine z_aload C dX6_combine_73 rfl ?_
      refine z_iload C dX6_combine_75 rfl ?_
      refine z_cl C (z_rV C Rm qv_X0_row m_714 (c_row hQ (y := y) (by omega)) hQ.1 rfl dX6_combine_77 rfl rfl (Nat.le_of_ble_eq_true rfl) rfl ⟨Nat.le_of_ble_eq_true rfl, Nat.le_of_ble_eq_true rfl, Nat.le_of_ble_eq_true rfl, Nat.le_of_ble_eq_true rfl⟩) (fun z3 μ3 hq3 => ?_)
      obtain ⟨rfl, rfl⟩ := hq3
      rw [rowv_z]
      refine z_iload C dX6_combine_80 rfl ?_
      refine z_cl C (z_rS C Rm qs_X6_combined m_724 (k_combined0 ho4) dX6_combine_82 rfl rfl (Nat.le_of_ble_eq_true rfl) rfl ⟨Nat.le_of_ble_eq_true rfl, Nat.le_of_ble_eq_true rfl, Nat.le_of_ble_eq_true rfl, Nat.le_of_ble_eq_true rfl⟩) (fun z3 μ3 hq3 => ?_)
      obtain ⟨rfl, rfl⟩ := hq3
      refine z_cv C (z_rV C Rm qv_X0_putRow m_715 (c_putRow hF (y := y) (by omega) (v := 0)) hF.1 rfl dX6_combine_85 rfl rfl (Nat.le_of_ble_eq_true rfl) rfl ⟨Nat.le_of_ble_eq_true rfl, Nat.le_of_ble_eq_true rfl, Nat.le_of_ble_eq_true rfl, Nat.le_of_ble_eq_true rfl⟩) (fun μ3 hq3 => ?_)
      rw [setF_z hF] at hq3
      subst hq3
      refine z_iinc (L' := [_, _, _, _, _, _, _, _, _]) C dX6_combine_88 rfl rfl ?_
      refine z_goto (tgt := 55) C dX6_combine_91 (by decide) ?_
      exact ih (y + 1) (by omega) (by omega)
  exact loop 64 (-32) (by omega) (by omega)
set_option maxRecDepth 100000 in
set_option maxHeartbeats 4000000 in
theorem k_move {l : Launch} {D : va_G} {N0 : Nat} (hl0 : l.stackTraces = false) {K : Nat} {μ : zM} (hK : isKe D μ K) {r x y : Int} (hr : zir r) (hx : zir x) (hy : zir y) : zxMet l yX6_move cX6_move 5 (some .int) ({ frames := 7, cells := 2, slots := 12, locals := 280 } : Room) D N0 [.ref K, zi r, zi x, zi y] μ (zQI D N0 (fun z u => z = 0 ∧ ((0 ≤ r ∧ r < 8) ∧ (-64 ≤ x ∧ x ≤ 64) ∧ -64 ≤ y ∧ y ≤ 64) ∧ zKO K μ u)) (zXR K μ r ((-64 ≤ x ∧ x ≤ 64) ∧ -64 ≤ y ∧ y ≤ 64)) := by
  refine zxMet_of rfl (Nat.le_of_ble_eq_true rfl) (fun X C Rm Tb E => ?_)
  refine z_aload_n C dX6_move_0 rfl ?_
  refine z_iload_n C dX6_move_1 rfl ?_
  refine zx_cr C (zx_rV C Rm qv_X6_regionAt m_646 (k_regionAt hl0 hK hr) hK.obj rfl dX6_move_2 rfl rfl (Nat.le_of_ble_eq_true rfl) rfl (by decide)) (fun En μx hx => zx_prop C Tb E (by decide) (⟨Or.inl ⟨hx.1, hx.2.1⟩, zO.eq hx.2.2⟩)) (fun z μ1 hp => ?_)
  obtain ⟨rfl, h8, rfl⟩ := hp
  have b8 := zReg_b (K := K) h8
  refine z_astore (L' := [_, _, _, _, _]) C dX6_move_5 rfl ?_
  refine z_bipush C dX6_move_7 ?_
  refine z_iload_n C dX6_move_9 rfl ?_
  refine z_bipush C dX6_move_10 ?_
  refine z_ci C (z_rS C Rm qs_X6_isFrom m_666 (k_isFrom (by decide) hx (by decide)) dX6_move_12 rfl rfl (Nat.le_of_ble_eq_true rfl) rfl ⟨Nat.le_of_ble_eq_true rfl, Nat.le_of_ble_eq_true rfl, Nat.le_of_ble_eq_true rfl, Nat.le_of_ble_eq_true rfl⟩) (fun z μ1 hp => ?_)
  obtain ⟨hp, rfl⟩ := hp
  refine z_if_eq (tgt := 29) C dX6_move_15 (by decide) (fun h1 => ?_) (fun h1 => ?_)
  · exact zx_throwS C Rm Tb E hl0 thr_A st_132 dX6_move_29 dX6_move_32 dX6_move_33 dX6_move_35 dX6_move_38 rfl (by decide) (by decide) (⟨Or.inr ⟨rfl, h8, by omega⟩, zO.rf⟩)
  refine z_bipush C dX6_move_18 ?_
  refine z_iload_n C dX6_move_20 rfl ?_
  refine z_bipush C dX6_move_21 ?_
  refine z_ci C (z_rS C Rm qs_X6_isFrom m_666 (k_isFrom (by decide) hy (by decide)) dX6_move_23 rfl rfl (Nat.le_of_ble_eq_true rfl) rfl ⟨Nat.le_of_ble_eq_true rfl, Nat.le_of_ble_eq_true rfl, Nat.le_of_ble_eq_true rfl, Nat.le_of_ble_eq_true rfl⟩) (fun z2 μ1 hp2 => ?_)
  obtain ⟨hp2, rfl⟩ := hp2
  refine z_if_ne (tgt := 39) C dX6_move_26 (by decide) (fun h2 => ?_) (fun h2 => ?_)
  rotate_left
  · exact zx_throwS C Rm Tb E hl0 thr_A st_132 dX6_move_29 dX6_move_32 dX6_move_33 dX6_move_35 dX6_move_38 rfl (by decide) (by decide) (⟨Or.inr ⟨rfl, h8, by omega⟩, zO.rf⟩)
  have hxy : (-64 ≤ x ∧ x ≤ 64) ∧ -64 ≤ y ∧ y ≤ 64 := by omega
  refine z_aload C dX6_move_39 rfl ?_
  refine z_ci C (z_rV C Rm qv_X0_isEmpty m_735 (c_isEmpty0 (hK.at h8)) (hK.at h8).1 rfl dX6_move_41 rfl rfl (Nat.le_of_ble_eq_true rfl) rfl ⟨Nat.le_of_ble_eq_true rfl, Nat.le_of_ble_eq_true rfl, Nat.le_of_ble_eq_true rfl, Nat.le_of_ble_eq_true rfl⟩) (fun z3 μ3 hq3 => ?_)
  obtain ⟨rfl, rfl⟩ := hq3
  refine z_if_ne (tgt := 85) C dX6_move_44 (by decide) (fun _ => ?_) (fun hno => absurd hno (by omega))
  refine z_aload_n C dX6_move_85 rfl ?_
  refine z_get C hK.obj rfl 3 (by decide) m_226 inz6 rfl rfl dX6_move_86 ?_
  refine z_iload_n C dX6_move_89 rfl ?_
  refine z_aload C dX6_move_90 rfl ?_
  refine z_cv C (z_rV C Rm qv_X2_keep m_670 (c_keep hK.his hK.kept (hK.at h8) (by omega) (by omega)) hK.his.1 rfl dX6_move_92 rfl rfl (Nat.le_of_ble_eq_true rfl) rfl ⟨Nat.le_of_ble_eq_true rfl, Nat.le_of_ble_eq_true rfl, Nat.le_of_ble_eq_true rfl, Nat.le_of_ble_eq_true rfl⟩) (fun μ1 hq => ?_)
  obtain ⟨k1, k2, k3, k4, k5, k6⟩ := hK.hist hq
  have hF := k2 r h8
  refine z_aload C dX6_move_95 rfl ?_
  refine z_iload_n C dX6_move_97 rfl ?_
  refine z_iload_n C dX6_move_98 rfl ?_
  refine z_cv C (z_rV C Rm qv_X0_shift m_739 (c_shift0 hF (x := x) (y := y) (by omega) (by omega)) hF.1 rfl dX6_move_99 rfl rfl (Nat.le_of_ble_eq_true rfl) rfl ⟨Nat.le_of_ble_eq_true rfl, Nat.le_of_ble_eq_true rfl, Nat.le_of_ble_eq_true rfl, Nat.le_of_ble_eq_true rfl⟩) (fun μ3 hq3 => ?_)
  subst hq3
  refine z_aload C dX6_move_102 rfl ?_
  refine z_ci C (z_rV C Rm qv_X0_count m_290 (c_count hF) hF.1 rfl dX6_move_104 rfl rfl (Nat.le_of_ble_eq_true rfl) rfl ⟨Nat.le_of_ble_eq_true rfl, Nat.le_of_ble_eq_true rfl, Nat.le_of_ble_eq_true rfl, Nat.le_of_ble_eq_true rfl⟩) (fun z3 μ3 hq3 => ?_)
  obtain ⟨rfl, rfl⟩ := hq3
  refine zx_ret C E (fun X C E => ?_)
  exact z_iret C E dX6_move_107 (Nat.le_of_ble_eq_true rfl) (Nat.le_of_ble_eq_true rfl) ⟨cntF_z, ⟨h8, hxy⟩, k6⟩
set_option maxRecDepth 100000 in
set_option maxHeartbeats 4000000 in
theorem k_turn {l : Launch} {D : va_G} {N0 : Nat} (hl0 : l.stackTraces = false) {K : Nat} {μ : zM} (hK : isKe D μ K) {r q : Int} (hr : zir r) (hq0 : zir q) : zxMet l yX6_turn cX6_turn 5 (some .int) ({ frames := 7, cells := 2, slots := 12, locals := 280 } : Room) D N0 [.ref K, zi r, zi q] μ (zQI D N0 (fun z u => z = 0 ∧ ((0 ≤ r ∧ r < 8) ∧ 0 ≤ q ∧ q ≤ 3) ∧ zKO K μ u)) (zXR K μ r (0 ≤ q ∧ q ≤ 3)) := by
  refine zxMet_of rfl (Nat.le_of_ble_eq_true rfl) (fun X C Rm Tb E => ?_)
  refine z_aload_n C dX6_turn_0 rfl ?_
  refine z_iload_n C dX6_turn_1 rfl ?_
  refine zx_cr C (zx_rV C Rm qv_X6_regionAt m_646 (k_regionAt hl0 hK hr) hK.obj rfl dX6_turn_2 rfl rfl (Nat.le_of_ble_eq_true rfl) rfl (by decide)) (fun En μx hx => zx_prop C Tb E (by decide) (⟨Or.inl ⟨hx.1, hx.2.1⟩, zO.eq hx.2.2⟩)) (fun z μ1 hp => ?_)
  obtain ⟨rfl, h8, rfl⟩ := hp
  have b8 := zReg_b (K := K) h8
  refine z_astore_n (L' := [_, _, _, _, _]) C dX6_turn_5 rfl ?_
  refine z_iconst C dX6_turn_6 ?_
  refine z_iload_n C dX6_turn_7 rfl ?_
  refine z_iconst C dX6_turn_8 ?_
  refine z_ci C (z_rS C Rm qs_X6_isFrom m_666 (k_isFrom (by decide) hq0 (by decide)) dX6_turn_9 rfl rfl (Nat.le_of_ble_eq_true rfl) rfl ⟨Nat.le_of_ble_eq_true rfl, Nat.le_of_ble_eq_true rfl, Nat.le_of_ble_eq_true rfl, Nat.le_of_ble_eq_true rfl⟩) (fun z μ1 hp => ?_)
  obtain ⟨hp, rfl⟩ := hp
  refine z_if_ne (tgt := 25) C dX6_turn_12 (by decide) (fun h1 => ?_) (fun h1 => ?_)
  rotate_left
  · exact zx_throwS C Rm Tb E hl0 thr_A st_153 dX6_turn_15 dX6_turn_18 dX6_turn_19 dX6_turn_21 dX6_turn_24 rfl (by decide) (by decide) (⟨Or.inr ⟨rfl, h8, by omega⟩, zO.rf⟩)
  have hq4 : 0 ≤ q ∧ q ≤ 3 := by omega
  refine z_aload_n C dX6_turn_25 rfl ?_
  refine z_get C hK.obj rfl 3 (by decide) m_226 inz6 rfl rfl dX6_turn_26 ?_
  refine z_iload_n C dX6_turn_29 rfl ?_
  refine z_aload_n C dX6_turn_30 rfl ?_
  refine z_cv C (z_rV C Rm qv_X2_keep m_670 (c_keep hK.his hK.kept (hK.at h8) (by omega) (by omega)) hK.his.1 rfl dX6_turn_31 rfl rfl (Nat.le_of_ble_eq_true rfl) rfl ⟨Nat.le_of_ble_eq_true rfl, Nat.le_of_ble_eq_true rfl, Nat.le_of_ble_eq_true rfl, Nat.le_of_ble_eq_true rfl⟩) (fun μ1 hq => ?_)
  obtain ⟨k1, k2, k3, k4, k5, k6⟩ := hK.hist hq
  have hF := k2 r h8
  refine z_iconst C dX6_turn_34 ?_
  refine z_istore (L' := [_, _, _, _, _]) C dX6_turn_35 rfl ?_
  have loop : ∀ (n : Nat) (k : Int), k + n = q → 0 ≤ k → Z X μ1 1 6 37 [some (.ref K), some (zi r), some (zi q), some (.ref (zReg K r)), some (zi k)] [] := by
    intro n
    induction n with
    | zero =>
      intro k hn h0
      refine z_iload C dX6_turn_37 rfl ?_
      refine z_iload_n C dX6_turn_39 rfl ?_
      refine z_icmp_ge (tgt := 65) C dX6_turn_40 (by decide) (fun _ => ?_) (fun hno => absurd hno (by omega))
      refine z_aload_n C dX6_turn_65 rfl ?_
      refine z_ci C (z_rV C Rm qv_X0_count m_290 (c_count hF) hF.1 rfl dX6_turn_66 rfl rfl (Nat.le_of_ble_eq_true rfl) rfl ⟨Nat.le_of_ble_eq_true rfl, Nat.le_of_ble_eq_true rfl, Nat.le_of_ble_eq_true rfl, Nat.le_of_ble_eq_true rfl⟩) (fun z3 μ3 hq3 => ?_)
      obtain ⟨rfl, rfl⟩ := hq3
      refine zx_ret C E (fun X C E => ?_)
      exact z_iret C E dX6_turn_69 (Nat.le_of_ble_eq_true rfl) (Nat.le_of_ble_eq_true rfl) ⟨cntF_z, ⟨h8, hq4⟩, k6⟩
    | succ n ih =>
      intro k hn h0
      refine z_iload C dX6_turn_37 rfl ?_
      refine z_iload_n C dX6_turn_39 rfl ?_
      refine z_icmp_ge (tgt := 65) C dX6_turn_40 (by decide) (fun hno => absurd hno (by omega)) (fun _ => ?_)
      refine z_aload_n C dX6_turn_43 rfl ?_
      refine z_get C k1 rfl 1 (by decide) m_224 inz6 rfl rfl dX6_turn_44 ?_
      refine z_aload_n C dX6_turn_47 rfl ?_
      refine z_cv C (z_rV C Rm qv_X0_copy m_754 (c_copy k3 hF (by omega)) k3.1 rfl dX6_turn_48 rfl rfl (Nat.le_of_ble_eq_true rfl) rfl ⟨Nat.le_of_ble_eq_true rfl, Nat.le_of_ble_eq_true rfl, Nat.le_of_ble_eq_true rfl, Nat.le_of_ble_eq_true rfl⟩) (fun μ3 hq3 => ?_)
      rw [setF_i k3] at hq3
      subst hq3
      refine z_aload_n C dX6_turn_51 rfl ?_
      refine z_aload_n C dX6_turn_52 rfl ?_
      refine z_get C k1 rfl 1 (by decide) m_224 inz6 rfl rfl dX6_turn_53 ?_
      refine z_cv C (z_rV C Rm qv_X0_putTurned m_755 (c_putTurned0 hF k3) hF.1 rfl dX6_turn_56 rfl rfl (Nat.le_of_ble_eq_true rfl) rfl ⟨Nat.le_of_ble_eq_true rfl, Nat.le_of_ble_eq_true rfl, Nat.le_of_ble_eq_true rfl, Nat.le_of_ble_eq_true rfl⟩) (fun μ3 hq3 => ?_)
      subst hq3
      refine z_iinc (L' := [_, _, _, _, _]) C dX6_turn_59 rfl rfl ?_
      refine z_goto (tgt := 37) C dX6_turn_62 (by decide) ?_
      exact ih (k + 1) (by omega) (by omega)
  exact loop q.toNat 0 (by omega) (by omega)
set_option maxRecDepth 100000 in
set_option maxHeartbeats 4000000 in
theorem k_mirrored0 {l : Launch} {D : va_G} {N0 : Nat} {μ : zM} : zMet l yX6_mirrored cX6_mirrored 5 (some .long) ({ frames := 0, cells := 0, slots := 0, locals := 0 } : Room) D N0 [.long 0] μ (zQL D N0 (fun z u => z = 0 ∧ u = μ)) := by
  refine zMet_of rfl (Nat.le_of_ble_eq_true rfl) (fun X C Rm hin E => ?_)
  refine z_lconst_0 C dX6_mirrored_0 ?_
  refine z_lstore_n (L' := [_, _, _, _, _]) C dX6_mirrored_1 rfl ?_
  refine z_iconst C dX6_mirrored_2 ?_
  refine z_istore (L' := [_, _, _, _, _]) C dX6_mirrored_3 rfl ?_
  have loop : ∀ (n : Nat) (k : Int), k + n = 64 → 0 ≤ k → Z X μ 0 0 5 [some (.long 0), none, some (.long 0), none, some (zi k)] [] := by
    intro n
    induction n with
    | zero =>
      intro k hn h0
      refine z_iload C dX6_mirrored_5 rfl ?_
      refine z_bipush C dX6_mirrored_7 ?_
      refine z_icmp_ge (tgt := 29) C dX6_mirrored_9 (by decide) (fun _ => ?_) (fun hno => absurd hno (by omega))
      refine z_lload_n C dX6_mirrored_29 rfl ?_
      exact z_lret C E dX6_mirrored_30 (Nat.le_of_ble_eq_true rfl) (Nat.le_of_ble_eq_true rfl) ⟨rfl, rfl⟩
    | succ n ih =>
      intro k hn h0
      refine z_iload C dX6_mirrored_5 rfl ?_
      refine z_bipush C dX6_mirrored_7 ?_
      refine z_icmp_ge (tgt := 29) C dX6_mirrored_9 (by decide) (fun hno => absurd hno (by omega)) (fun _ => ?_)
      refine z_lload_n C dX6_mirrored_12 rfl ?_
      refine z_iconst C dX6_mirrored_13 ?_
      refine z_lshl C dX6_mirrored_14 ?_
      refine z_lload_n C dX6_mirrored_15 rfl ?_
      refine z_iload C dX6_mirrored_16 rfl ?_
      refine z_lushr C dX6_mirrored_18 ?_
      refine z_lconst_1 C dX6_mirrored_19 ?_
      refine z_land C dX6_mirrored_20 ?_
      rw [zushr_0, show zshl 0 1 = 0 by decide, Int64.zero_and]
      refine z_lor C dX6_mirrored_21 ?_
      rw [Int64.zero_or]
      refine z_lstore_n (L' := [_, _, _, _, _]) C dX6_mirrored_22 rfl ?_
      refine z_iinc (L' := [_, _, _, _, _]) C dX6_mirrored_23 rfl rfl ?_
      refine z_goto (tgt := 5) C dX6_mirrored_26 (by decide) ?_
      exact ih (k + 1) (by omega) (by omega)
  exact loop 64 0 (by omega) (by omega)
set_option maxRecDepth 100000 in
set_option maxHeartbeats 4000000 in
theorem k_mirror {l : Launch} {D : va_G} {N0 : Nat} (hl0 : l.stackTraces = false) {K : Nat} {μ : zM} (hK : isKe D μ K) {r : Int} (hr : zir r) : zxMet l yX6_mirror cX6_mirror 4 (some .int) ({ frames := 7, cells := 2, slots := 12, locals := 280 } : Room) D N0 [.ref K, zi r] μ (zQI D N0 (fun z u => z = 0 ∧ (0 ≤ r ∧ r < 8) ∧ zKO K μ u)) (zXR K μ r True) := by
  refine zxMet_of rfl (Nat.le_of_ble_eq_true rfl) (fun X C Rm Tb E => ?_)
  refine z_aload_n C dX6_mirror_0 rfl ?_
  refine z_iload_n C dX6_mirror_1 rfl ?_
  refine zx_cr C (zx_rV C Rm qv_X6_regionAt m_646 (k_regionAt hl0 hK hr) hK.obj rfl dX6_mirror_2 rfl rfl (Nat.le_of_ble_eq_true rfl) rfl (by decide)) (fun En μx hx => zx_prop C Tb E (by decide) (⟨Or.inl ⟨hx.1, hx.2.1⟩, zO.eq hx.2.2⟩)) (fun z μ1 hp => ?_)
  obtain ⟨rfl, h8, rfl⟩ := hp
  have b8 := zReg_b (K := K) h8
  refine z_astore_n (L' := [_, _, _, _]) C dX6_mirror_5 rfl ?_
  refine z_aload_n C dX6_mirror_6 rfl ?_
  refine z_get C hK.obj rfl 3 (by decide) m_226 inz6 rfl rfl dX6_mirror_7 ?_
  refine z_iload_n C dX6_mirror_10 rfl ?_
  refine z_aload_n C dX6_mirror_11 rfl ?_
  refine z_cv C (z_rV C Rm qv_X2_keep m_670 (c_keep hK.his hK.kept (hK.at h8) (by omega) (by omega)) hK.his.1 rfl dX6_mirror_12 rfl rfl (Nat.le_of_ble_eq_true rfl) rfl ⟨Nat.le_of_ble_eq_true rfl, Nat.le_of_ble_eq_true rfl, Nat.le_of_ble_eq_true rfl, Nat.le_of_ble_eq_true rfl⟩) (fun μ1 hq => ?_)
  obtain ⟨k1, k2, k3, k4, k5, k6⟩ := hK.hist hq
  have hF := k2 r h8
  refine z_bipush C dX6_mirror_15 ?_
  refine z_istore_n (L' := [_, _, _, _]) C dX6_mirror_17 rfl ?_
  have loop : ∀ (n : Nat) (y : Int), y + n = 32 → -32 ≤ y → Z X μ1 1 6 18 [some (.ref K), some (zi r), some (.ref (zReg K r)), some (zi y)] [] := by
    intro n
    induction n with
    | zero =>
      intro y hn h0
      refine z_iload_n C dX6_mirror_18 rfl ?_
      refine z_bipush C dX6_mirror_19 ?_
      refine z_icmp_gt (tgt := 43) C dX6_mirror_21 (by decide) (fun _ => ?_) (fun hno => absurd hno (by omega))
      refine z_aload_n C dX6_mirror_43 rfl ?_
      refine z_ci C (z_rV C Rm qv_X0_count m_290 (c_count hF) hF.1 rfl dX6_mirror_44 rfl rfl (Nat.le_of_ble_eq_true rfl) rfl ⟨Nat.le_of_ble_eq_true rfl, Nat.le_of_ble_eq_true rfl, Nat.le_of_ble_eq_true rfl, Nat.le_of_ble_eq_true rfl⟩) (fun z3 μ3 hq3 => ?_)
      obtain ⟨rfl, rfl⟩ := hq3
      refine zx_ret C E (fun X C E => ?_)
      exact z_iret C E dX6_mirror_47 (Nat.le_of_ble_eq_true rfl) (Nat.le_of_ble_eq_true rfl) ⟨cntF_z, h8, k6⟩
    | succ n ih =>
      intro y hn h0
      refine z_iload_n C dX6_mirror_18 rfl ?_
      refine z_bipush C dX6_mirror_19 ?_
      refine z_icmp_gt (tgt := 43) C dX6_mirror_21 (by decide) (fun hno => absurd hno (by omega)) (fun _ => ?_)
      refine z_aload_n C dX6_mirror_24 rfl ?_
      refine z_iload_n C dX6_mirror_25 rfl ?_
      refine z_aload_n C dX6_mirror_26 rfl ?_
      refine z_iload_n C dX6_mirror_27 rfl ?_
      refine z_cl C (z_rV C Rm qv_X0_row m_714 (c_row hF (y := y) (by omega)) hF.1 rfl dX6_mirror_28 rfl rfl (Nat.le_of_ble_eq_true rfl) rfl ⟨Nat.le_of_ble_eq_true rfl, Nat.le_of_ble_eq_true rfl, Nat.le_of_ble_eq_true rfl, Nat.le_of_ble_eq_true rfl⟩) (fun z3 μ3 hq3 => ?_)
      obtain ⟨rfl, rfl⟩ := hq3
      rw [rowv_z]
      refine z_cl C (z_rS C Rm qs_X6_mirrored m_767 (k_mirrored0) dX6_mirror_31 rfl rfl (Nat.le_of_ble_eq_true rfl) rfl ⟨Nat.le_of_ble_eq_true rfl, Nat.le_of_ble_eq_true rfl, Nat.le_of_ble_eq_true rfl, Nat.le_of_ble_eq_true rfl⟩) (fun z3 μ3 hq3 => ?_)
      obtain ⟨rfl, rfl⟩ := hq3
      refine z_cv C (z_rV C Rm qv_X0_putRow m_715 (c_putRow hF (y := y) (by omega) (v := 0)) hF.1 rfl dX6_mirror_34 rfl rfl (Nat.le_of_ble_eq_true rfl) rfl ⟨Nat.le_of_ble_eq_true rfl, Nat.le_of_ble_eq_true rfl, Nat.le_of_ble_eq_true rfl, Nat.le_of_ble_eq_true rfl⟩) (fun μ3 hq3 => ?_)
      rw [setF_z hF] at hq3
      subst hq3
      refine z_iinc (L' := [_, _, _, _]) C dX6_mirror_37 rfl rfl ?_
      refine z_goto (tgt := 18) C dX6_mirror_40 (by decide) ?_
      exact ih (y + 1) (by omega) (by omega)
  exact loop 64 (-32) (by omega) (by omega)
set_option maxRecDepth 100000 in
set_option maxHeartbeats 4000000 in
theorem k_grow {l : Launch} {D : va_G} {N0 : Nat} (hl0 : l.stackTraces = false) {K : Nat} {μ : zM} (hK : isKe D μ K) {r b k : Int} (hr : zir r) (hb : zir b) (hk : zir k) : zxMet l yX6_grow cX6_grow 6 (some .int) ({ frames := 7, cells := 4, slots := 24, locals := 280 } : Room) D N0 [.ref K, zi r, zi b, zi k] μ (zQI D N0 (fun z u => z = 0 ∧ ((0 ≤ r ∧ r < 8) ∧ (0 ≤ b ∧ b ≤ 8) ∧ 0 ≤ k ∧ k ≤ 1) ∧ zKO K μ u)) (zXR K μ r ((0 ≤ b ∧ b ≤ 8) ∧ 0 ≤ k ∧ k ≤ 1)) := by
  refine zxMet_of rfl (Nat.le_of_ble_eq_true rfl) (fun X C Rm Tb E => ?_)
  refine z_aload_n C dX6_grow_0 rfl ?_
  refine z_iload_n C dX6_grow_1 rfl ?_
  refine zx_cr C (zx_rV C Rm qv_X6_regionAt m_646 (k_regionAt hl0 hK hr) hK.obj rfl dX6_grow_2 rfl rfl (Nat.le_of_ble_eq_true rfl) rfl (by decide)) (fun En μx hx => zx_prop C Tb E (by decide) (⟨Or.inl ⟨hx.1, hx.2.1⟩, zO.eq hx.2.2⟩)) (fun z μ1 hp => ?_)
  obtain ⟨rfl, h8, rfl⟩ := hp
  have b8 := zReg_b (K := K) h8
  refine z_astore (L' := [_, _, _, _, _, _]) C dX6_grow_5 rfl ?_
  refine z_iload_n C dX6_grow_7 rfl ?_
  refine z_iload_n C dX6_grow_8 rfl ?_
  refine zx_cv C (zx_rS C Rm qs_X6_checkGrowth m_777 (k_checkGrowth hl0 hb hk) dX6_grow_9 rfl rfl (by decide) rfl (by decide)) (fun En μx hx => zx_prop C Tb E (by decide) (⟨Or.inr ⟨hx.1, h8, hx.2.1⟩, zO.eq hx.2.2⟩)) (fun μ1 hp => ?_)
  obtain ⟨hbk, rfl⟩ := hp
  refine z_aload C dX6_grow_12 rfl ?_
  refine z_ci C (z_rV C Rm qv_X0_isEmpty m_735 (c_isEmpty0 (hK.at h8)) (hK.at h8).1 rfl dX6_grow_14 rfl rfl (Nat.le_of_ble_eq_true rfl) rfl ⟨Nat.le_of_ble_eq_true rfl, Nat.le_of_ble_eq_true rfl, Nat.le_of_ble_eq_true rfl, Nat.le_of_ble_eq_true rfl⟩) (fun z3 μ3 hq3 => ?_)
  obtain ⟨rfl, rfl⟩ := hq3
  refine z_if_ne (tgt := 58) C dX6_grow_17 (by decide) (fun _ => ?_) (fun hno => absurd hno (by omega))
  refine z_aload_n C dX6_grow_58 rfl ?_
  refine z_get C hK.obj rfl 3 (by decide) m_226 inz6 rfl rfl dX6_grow_59 ?_
  refine z_iload_n C dX6_grow_62 rfl ?_
  refine z_aload C dX6_grow_63 rfl ?_
  refine z_cv C (z_rV C Rm qv_X2_keep m_670 (c_keep hK.his hK.kept (hK.at h8) (by omega) (by omega)) hK.his.1 rfl dX6_grow_65 rfl rfl (Nat.le_of_ble_eq_true rfl) rfl ⟨Nat.le_of_ble_eq_true rfl, Nat.le_of_ble_eq_true rfl, Nat.le_of_ble_eq_true rfl, Nat.le_of_ble_eq_true rfl⟩) (fun μ1 hq => ?_)
  obtain ⟨k1, k2, k3, k4, k5, k6⟩ := hK.hist hq
  have hF := k2 r h8
  refine z_iconst C dX6_grow_68 ?_
  refine z_istore (L' := [_, _, _, _, _, _]) C dX6_grow_69 rfl ?_
  have loop : ∀ (n : Nat) (j : Int), j + n = b → 0 ≤ j → Z X μ1 2 12 71 [some (.ref K), some (zi r), some (zi b), some (zi k), some (.ref (zReg K r)), some (zi j)] [] := by
    intro n
    induction n with
    | zero =>
      intro j hn h0
      refine z_iload C dX6_grow_71 rfl ?_
      refine z_iload_n C dX6_grow_73 rfl ?_
      refine z_icmp_ge (tgt := 89) C dX6_grow_74 (by decide) (fun _ => ?_) (fun hno => absurd hno (by omega))
      refine z_aload C dX6_grow_89 rfl ?_
      refine z_ci C (z_rV C Rm qv_X0_count m_290 (c_count hF) hF.1 rfl dX6_grow_91 rfl rfl (Nat.le_of_ble_eq_true rfl) rfl ⟨Nat.le_of_ble_eq_true rfl, Nat.le_of_ble_eq_true rfl, Nat.le_of_ble_eq_true rfl, Nat.le_of_ble_eq_true rfl⟩) (fun z3 μ3 hq3 => ?_)
      obtain ⟨rfl, rfl⟩ := hq3
      refine zx_ret C E (fun X C E => ?_)
      exact z_iret C E dX6_grow_94 (Nat.le_of_ble_eq_true rfl) (Nat.le_of_ble_eq_true rfl) ⟨cntF_z, ⟨h8, hbk⟩, k6⟩
    | succ n ih =>
      intro j hn h0
      refine z_iload C dX6_grow_71 rfl ?_
      refine z_iload_n C dX6_grow_73 rfl ?_
      refine z_icmp_ge (tgt := 89) C dX6_grow_74 (by decide) (fun hno => absurd hno (by omega)) (fun _ => ?_)
      refine z_aload C dX6_grow_77 rfl ?_
      refine z_iload_n C dX6_grow_79 rfl ?_
      refine z_cv C (z_rV C Rm qv_X0_widen m_781 (c_widen0 hF (k := k) (by omega)) hF.1 rfl dX6_grow_80 rfl rfl (Nat.le_of_ble_eq_true rfl) rfl ⟨Nat.le_of_ble_eq_true rfl, Nat.le_of_ble_eq_true rfl, Nat.le_of_ble_eq_true rfl, Nat.le_of_ble_eq_true rfl⟩) (fun μ3 hq3 => ?_)
      subst hq3
      refine z_iinc (L' := [_, _, _, _, _, _]) C dX6_grow_83 rfl rfl ?_
      refine z_goto (tgt := 71) C dX6_grow_86 (by decide) ?_
      exact ih (j + 1) (by omega) (by omega)
  exact loop b.toNat 0 (by omega) (by omega)
set_option maxRecDepth 100000 in
set_option maxHeartbeats 4000000 in
theorem k_shrink {l : Launch} {D : va_G} {N0 : Nat} (hl0 : l.stackTraces = false) {K : Nat} {μ : zM} (hK : isKe D μ K) {r b k : Int} (hr : zir r) (hb : zir b) (hk : zir k) : zxMet l yX6_shrink cX6_shrink 6 (some .int) ({ frames := 7, cells := 4, slots := 24, locals := 280 } : Room) D N0 [.ref K, zi r, zi b, zi k] μ (zQI D N0 (fun z u => z = 0 ∧ ((0 ≤ r ∧ r < 8) ∧ (0 ≤ b ∧ b ≤ 8) ∧ 0 ≤ k ∧ k ≤ 1) ∧ zKO K μ u)) (zXR K μ r ((0 ≤ b ∧ b ≤ 8) ∧ 0 ≤ k ∧ k ≤ 1)) := by
  refine zxMet_of rfl (Nat.le_of_ble_eq_true rfl) (fun X C Rm Tb E => ?_)
  refine z_aload_n C dX6_shrink_0 rfl ?_
  refine z_iload_n C dX6_shrink_1 rfl ?_
  refine zx_cr C (zx_rV C Rm qv_X6_regionAt m_646 (k_regionAt hl0 hK hr) hK.obj rfl dX6_shrink_2 rfl rfl (Nat.le_of_ble_eq_true rfl) rfl (by decide)) (fun En μx hx => zx_prop C Tb E (by decide) (⟨Or.inl ⟨hx.1, hx.2.1⟩, zO.eq hx.2.2⟩)) (fun z μ1 hp => ?_)
  obtain ⟨rfl, h8, rfl⟩ := hp
  have b8 := zReg_b (K := K) h8
  refine z_astore (L' := [_, _, _, _, _, _]) C dX6_shrink_5 rfl ?_
  refine z_iload_n C dX6_shrink_7 rfl ?_
  refine z_iload_n C dX6_shrink_8 rfl ?_
  refine zx_cv C (zx_rS C Rm qs_X6_checkGrowth m_777 (k_checkGrowth hl0 hb hk) dX6_shrink_9 rfl rfl (by decide) rfl (by decide)) (fun En μx hx => zx_prop C Tb E (by decide) (⟨Or.inr ⟨hx.1, h8, hx.2.1⟩, zO.eq hx.2.2⟩)) (fun μ1 hp => ?_)
  obtain ⟨hbk, rfl⟩ := hp
  refine z_aload_n C dX6_shrink_12 rfl ?_
  refine z_get C hK.obj rfl 3 (by decide) m_226 inz6 rfl rfl dX6_shrink_13 ?_
  refine z_iload_n C dX6_shrink_16 rfl ?_
  refine z_aload C dX6_shrink_17 rfl ?_
  refine z_cv C (z_rV C Rm qv_X2_keep m_670 (c_keep hK.his hK.kept (hK.at h8) (by omega) (by omega)) hK.his.1 rfl dX6_shrink_19 rfl rfl (Nat.le_of_ble_eq_true rfl) rfl ⟨Nat.le_of_ble_eq_true rfl, Nat.le_of_ble_eq_true rfl, Nat.le_of_ble_eq_true rfl, Nat.le_of_ble_eq_true rfl⟩) (fun μ1 hq => ?_)
  obtain ⟨k1, k2, k3, k4, k5, k6⟩ := hK.hist hq
  have hF := k2 r h8
  refine z_iconst C dX6_shrink_22 ?_
  refine z_istore (L' := [_, _, _, _, _, _]) C dX6_shrink_23 rfl ?_
  have loop : ∀ (n : Nat) (j : Int), j + n = b → 0 ≤ j → Z X μ1 2 12 25 [some (.ref K), some (zi r), some (zi b), some (zi k), some (.ref (zReg K r)), some (zi j)] [] := by
    intro n
    induction n with
    | zero =>
      intro j hn h0
      refine z_iload C dX6_shrink_25 rfl ?_
      refine z_iload_n C dX6_shrink_27 rfl ?_
      refine z_icmp_ge (tgt := 43) C dX6_shrink_28 (by decide) (fun _ => ?_) (fun hno => absurd hno (by omega))
      refine z_aload C dX6_shrink_43 rfl ?_
      refine z_ci C (z_rV C Rm qv_X0_count m_290 (c_count hF) hF.1 rfl dX6_shrink_45 rfl rfl (Nat.le_of_ble_eq_true rfl) rfl ⟨Nat.le_of_ble_eq_true rfl, Nat.le_of_ble_eq_true rfl, Nat.le_of_ble_eq_true rfl, Nat.le_of_ble_eq_true rfl⟩) (fun z3 μ3 hq3 => ?_)
      obtain ⟨rfl, rfl⟩ := hq3
      refine zx_ret C E (fun X C E => ?_)
      exact z_iret C E dX6_shrink_48 (Nat.le_of_ble_eq_true rfl) (Nat.le_of_ble_eq_true rfl) ⟨cntF_z, ⟨h8, hbk⟩, k6⟩
    | succ n ih =>
      intro j hn h0
      refine z_iload C dX6_shrink_25 rfl ?_
      refine z_iload_n C dX6_shrink_27 rfl ?_
      refine z_icmp_ge (tgt := 43) C dX6_shrink_28 (by decide) (fun hno => absurd hno (by omega)) (fun _ => ?_)
      refine z_aload C dX6_shrink_31 rfl ?_
      refine z_iload_n C dX6_shrink_33 rfl ?_
      refine z_cv C (z_rV C Rm qv_X0_narrow m_792 (c_narrow0 hF (k := k) (by omega)) hF.1 rfl dX6_shrink_34 rfl rfl (Nat.le_of_ble_eq_true rfl) rfl ⟨Nat.le_of_ble_eq_true rfl, Nat.le_of_ble_eq_true rfl, Nat.le_of_ble_eq_true rfl, Nat.le_of_ble_eq_true rfl⟩) (fun μ3 hq3 => ?_)
      subst hq3
      refine z_iinc (L' := [_, _, _, _, _, _]) C dX6_shrink_37 rfl rfl ?_
      refine z_goto (tgt := 25) C dX6_shrink_40 (by decide) ?_
      exact ih (j + 1) (by omega) (by omega)
  exact loop b.toNat 0 (by omega) (by omega)
set_option maxRecDepth 100000 in
set_option maxHeartbeats 4000000 in
theorem k_fill {l : Launch} {D : va_G} {N0 : Nat} (hl0 : l.stackTraces = false) {K : Nat} {μ : zM} (hK : isKe D μ K) {r : Int} (hr : zir r) : zxMet l yX6_fill cX6_fill 3 (some .int) ({ frames := 7, cells := 2, slots := 12, locals := 280 } : Room) D N0 [.ref K, zi r] μ (zQI D N0 (fun z u => z = 0 ∧ (0 ≤ r ∧ r < 8) ∧ zKO K μ u)) (zXR K μ r True) := by
  refine zxMet_of rfl (Nat.le_of_ble_eq_true rfl) (fun X C Rm Tb E => ?_)
  refine z_aload_n C dX6_fill_0 rfl ?_
  refine z_iload_n C dX6_fill_1 rfl ?_
  refine zx_cr C (zx_rV C Rm qv_X6_regionAt m_646 (k_regionAt hl0 hK hr) hK.obj rfl dX6_fill_2 rfl rfl (Nat.le_of_ble_eq_true rfl) rfl (by decide)) (fun En μx hx => zx_prop C Tb E (by decide) (⟨Or.inl ⟨hx.1, hx.2.1⟩, zO.eq hx.2.2⟩)) (fun z μ1 hp => ?_)
  obtain ⟨rfl, h8, rfl⟩ := hp
  have b8 := zReg_b (K := K) h8
  refine z_astore_n (L' := [_, _, _]) C dX6_fill_5 rfl ?_
  refine z_aload_n C dX6_fill_6 rfl ?_
  refine z_get C hK.obj rfl 3 (by decide) m_226 inz6 rfl rfl dX6_fill_7 ?_
  refine z_iload_n C dX6_fill_10 rfl ?_
  refine z_aload_n C dX6_fill_11 rfl ?_
  refine z_cv C (z_rV C Rm qv_X2_keep m_670 (c_keep hK.his hK.kept (hK.at h8) (by omega) (by omega)) hK.his.1 rfl dX6_fill_12 rfl rfl (Nat.le_of_ble_eq_true rfl) rfl ⟨Nat.le_of_ble_eq_true rfl, Nat.le_of_ble_eq_true rfl, Nat.le_of_ble_eq_true rfl, Nat.le_of_ble_eq_true rfl⟩) (fun μ1 hq => ?_)
  obtain ⟨k1, k2, k3, k4, k5, k6⟩ := hK.hist hq
  have hF := k2 r h8
  have hne : ¬ zb (K + 35) 5 (zReg K r) ∧ ¬ zb (K + 35) 5 (zReg K r + 1) := ⟨by unfold zb; omega, by unfold zb; omega⟩
  refine z_aload_n C dX6_fill_15 rfl ?_
  refine z_get C k1 rfl 4 (by decide) m_227 inz6 rfl rfl dX6_fill_16 ?_
  refine z_aload_n C dX6_fill_19 rfl ?_
  refine z_ci C (z_rV C Rm qv_X1_fillHoles m_803 (c_fillHoles0 k5 hF hne) k5.1 rfl dX6_fill_20 rfl rfl (Nat.le_of_ble_eq_true rfl) rfl ⟨Nat.le_of_ble_eq_true rfl, Nat.le_of_ble_eq_true rfl, Nat.le_of_ble_eq_true rfl, Nat.le_of_ble_eq_true rfl⟩) (fun z3 μ3 hq3 => ?_)
  refine zx_ret C E (fun X C E => ?_)
  exact z_iret C E dX6_fill_23 (Nat.le_of_ble_eq_true rfl) (Nat.le_of_ble_eq_true rfl) ⟨hq3.1, h8, k6.tr (zkeep hq3.2 (fun q hq => by unfold zb at hq; omega))⟩
set_option maxRecDepth 100000 in
set_option maxHeartbeats 4000000 in
theorem k_keepPiece {l : Launch} {D : va_G} {N0 : Nat} (hl0 : l.stackTraces = false) {K : Nat} {μ : zM} (hK : isKe D μ K) {r x y : Int} (hr : zir r) (hx : zir x) (hy : zir y) : zxMet l yX6_keepPiece cX6_keepPiece 5 (some .int) ({ frames := 7, cells := 2, slots := 12, locals := 280 } : Room) D N0 [.ref K, zi r, zi x, zi y] μ (zQI D N0 (fun z u => z = 0 ∧ (0 ≤ r ∧ r < 8) ∧ zKO K μ u)) (zXR K μ r True) := by
  refine zxMet_of rfl (Nat.le_of_ble_eq_true rfl) (fun X C Rm Tb E => ?_)
  refine z_aload_n C dX6_keepPiece_0 rfl ?_
  refine z_iload_n C dX6_keepPiece_1 rfl ?_
  refine zx_cr C (zx_rV C Rm qv_X6_regionAt m_646 (k_regionAt hl0 hK hr) hK.obj rfl dX6_keepPiece_2 rfl rfl (Nat.le_of_ble_eq_true rfl) rfl (by decide)) (fun En μx hx => zx_prop C Tb E (by decide) (⟨Or.inl ⟨hx.1, hx.2.1⟩, zO.eq hx.2.2⟩)) (fun z μ1 hp => ?_)
  obtain ⟨rfl, h8, rfl⟩ := hp
  have b8 := zReg_b (K := K) h8
  refine z_astore (L' := [_, _, _, _, _]) C dX6_keepPiece_5 rfl ?_
  refine z_aload_n C dX6_keepPiece_7 rfl ?_
  refine z_get C hK.obj rfl 3 (by decide) m_226 inz6 rfl rfl dX6_keepPiece_8 ?_
  refine z_iload_n C dX6_keepPiece_11 rfl ?_
  refine z_aload C dX6_keepPiece_12 rfl ?_
  refine z_cv C (z_rV C Rm qv_X2_keep m_670 (c_keep hK.his hK.kept (hK.at h8) (by omega) (by omega)) hK.his.1 rfl dX6_keepPiece_14 rfl rfl (Nat.le_of_ble_eq_true rfl) rfl ⟨Nat.le_of_ble_eq_true rfl, Nat.le_of_ble_eq_true rfl, Nat.le_of_ble_eq_true rfl, Nat.le_of_ble_eq_true rfl⟩) (fun μ1 hq => ?_)
  obtain ⟨k1, k2, k3, k4, k5, k6⟩ := hK.hist hq
  have hF := k2 r h8
  have hne : ¬ zb (K + 35) 5 (zReg K r) ∧ ¬ zb (K + 35) 5 (zReg K r + 1) := ⟨by unfold zb; omega, by unfold zb; omega⟩
  refine z_aload_n C dX6_keepPiece_17 rfl ?_
  refine z_get C k1 rfl 4 (by decide) m_227 inz6 rfl rfl dX6_keepPiece_18 ?_
  refine z_aload C dX6_keepPiece_21 rfl ?_
  refine z_iload_n C dX6_keepPiece_23 rfl ?_
  refine z_iload_n C dX6_keepPiece_24 rfl ?_
  refine z_cv C (z_rV C Rm qv_X1_leavePiece m_818 (c_leave0 k5 hF hne hx hy) k5.1 rfl dX6_keepPiece_25 rfl rfl (Nat.le_of_ble_eq_true rfl) rfl ⟨Nat.le_of_ble_eq_true rfl, Nat.le_of_ble_eq_true rfl, Nat.le_of_ble_eq_true rfl, Nat.le_of_ble_eq_true rfl⟩) (fun μ3 hq3 => ?_)
  have hF3 := hF.o hq3 hne.1 hne.2
  refine z_aload C dX6_keepPiece_28 rfl ?_
  refine z_ci C (z_rV C Rm qv_X0_count m_290 (c_count hF3) hF3.1 rfl dX6_keepPiece_30 rfl rfl (Nat.le_of_ble_eq_true rfl) rfl ⟨Nat.le_of_ble_eq_true rfl, Nat.le_of_ble_eq_true rfl, Nat.le_of_ble_eq_true rfl, Nat.le_of_ble_eq_true rfl⟩) (fun z3 μ4 hq4 => ?_)
  obtain ⟨rfl, rfl⟩ := hq4
  refine zx_ret C E (fun X C E => ?_)
  exact z_iret C E dX6_keepPiece_33 (Nat.le_of_ble_eq_true rfl) (Nat.le_of_ble_eq_true rfl) ⟨cntF_z, h8, k6.tr (zkeep hq3 (fun q hq => by unfold zb at hq; omega))⟩
set_option maxRecDepth 100000 in
set_option maxHeartbeats 4000000 in
theorem k_clear {l : Launch} {D : va_G} {N0 : Nat} (hl0 : l.stackTraces = false) {K : Nat} {μ : zM} (hK : isKe D μ K) {r : Int} (hr : zir r) : zxMet l yX6_clear cX6_clear 4 (some .int) ({ frames := 7, cells := 2, slots := 12, locals := 280 } : Room) D N0 [.ref K, zi r] μ (zQI D N0 (fun z u => z = 0 ∧ (0 ≤ r ∧ r < 8) ∧ zKO K μ u)) (zXR K μ r True) := by
  refine zxMet_of rfl (Nat.le_of_ble_eq_true rfl) (fun X C Rm Tb E => ?_)
  refine z_aload_n C dX6_clear_0 rfl ?_
  refine z_iload_n C dX6_clear_1 rfl ?_
  refine zx_cr C (zx_rV C Rm qv_X6_regionAt m_646 (k_regionAt hl0 hK hr) hK.obj rfl dX6_clear_2 rfl rfl (Nat.le_of_ble_eq_true rfl) rfl (by decide)) (fun En μx hx => zx_prop C Tb E (by decide) (⟨Or.inl ⟨hx.1, hx.2.1⟩, zO.eq hx.2.2⟩)) (fun z μ1 hp => ?_)
  obtain ⟨rfl, h8, rfl⟩ := hp
  have b8 := zReg_b (K := K) h8
  refine z_astore_n (L' := [_, _, _, _]) C dX6_clear_5 rfl ?_
  refine z_aload_n C dX6_clear_6 rfl ?_
  refine z_get C hK.obj rfl 3 (by decide) m_226 inz6 rfl rfl dX6_clear_7 ?_
  refine z_iload_n C dX6_clear_10 rfl ?_
  refine z_aload_n C dX6_clear_11 rfl ?_
  refine z_cv C (z_rV C Rm qv_X2_keep m_670 (c_keep hK.his hK.kept (hK.at h8) (by omega) (by omega)) hK.his.1 rfl dX6_clear_12 rfl rfl (Nat.le_of_ble_eq_true rfl) rfl ⟨Nat.le_of_ble_eq_true rfl, Nat.le_of_ble_eq_true rfl, Nat.le_of_ble_eq_true rfl, Nat.le_of_ble_eq_true rfl⟩) (fun μ1 hq => ?_)
  obtain ⟨k1, k2, k3, k4, k5, k6⟩ := hK.hist hq
  have hF := k2 r h8
  refine z_aload_n C dX6_clear_15 rfl ?_
  refine z_ci C (z_rV C Rm qv_X0_count m_290 (c_count hF) hF.1 rfl dX6_clear_16 rfl rfl (Nat.le_of_ble_eq_true rfl) rfl ⟨Nat.le_of_ble_eq_true rfl, Nat.le_of_ble_eq_true rfl, Nat.le_of_ble_eq_true rfl, Nat.le_of_ble_eq_true rfl⟩) (fun z3 μ3 hq3 => ?_)
  obtain ⟨rfl, rfl⟩ := hq3
  rw [cntF_z]
  refine z_istore_n (L' := [_, _, _, _]) C dX6_clear_19 rfl ?_
  refine z_aload_n C dX6_clear_20 rfl ?_
  refine z_cv C (z_rV C Rm qv_X0_empty m_830 (c_empty hF) hF.1 rfl dX6_clear_21 rfl rfl (Nat.le_of_ble_eq_true rfl) rfl ⟨Nat.le_of_ble_eq_true rfl, Nat.le_of_ble_eq_true rfl, Nat.le_of_ble_eq_true rfl, Nat.le_of_ble_eq_true rfl⟩) (fun μ3 hq3 => ?_)
  rw [setF_i hF] at hq3
  subst hq3
  refine z_iload_n C dX6_clear_24 rfl ?_
  refine zx_ret C E (fun X C E => ?_)
  exact z_iret C E dX6_clear_25 (Nat.le_of_ble_eq_true rfl) (Nat.le_of_ble_eq_true rfl) ⟨rfl, h8, k6⟩
set_option maxRecDepth 100000 in
set_option maxHeartbeats 4000000 in
theorem k_undo {l : Launch} {D : va_G} {N0 : Nat} {K : Nat} {μ : zM} (hK : isKe D μ K) : zMet l yX6_undo cX6_undo 2 (some .int) ({ frames := 1, cells := 0, slots := 0, locals := 40 } : Room) D N0 [.ref K] μ (zQI D N0 (fun z u => z = -1 ∧ zKO K μ u)) := by
  refine zMet_of rfl (Nat.le_of_ble_eq_true rfl) (fun X C Rm hin E => ?_)
  refine z_aload_n C dX6_undo_0 rfl ?_
  refine z_get C hK.obj rfl 3 (by decide) m_226 inz6 rfl rfl dX6_undo_1 ?_
  refine z_ci C (z_rV C Rm qv_X2_latestRegion m_257 (c_latest hK.his) hK.his.1 rfl dX6_undo_4 rfl rfl (Nat.le_of_ble_eq_true rfl) rfl ⟨Nat.le_of_ble_eq_true rfl, Nat.le_of_ble_eq_true rfl, Nat.le_of_ble_eq_true rfl, Nat.le_of_ble_eq_true rfl⟩) (fun z μ1 hp => ?_)
  obtain ⟨rfl, rfl⟩ := hp
  refine z_istore_n (L' := [_, _]) C dX6_undo_7 rfl ?_
  refine z_iload_n C dX6_undo_8 rfl ?_
  refine z_if_lt (tgt := 34) C dX6_undo_9 (by decide) (fun _ => ?_) (fun hno => absurd hno (by omega))
  refine z_iload_n C dX6_undo_34 rfl ?_
  exact z_iret C E dX6_undo_35 (Nat.le_of_ble_eq_true rfl) (Nat.le_of_ble_eq_true rfl) ⟨rfl, zO.rf⟩
