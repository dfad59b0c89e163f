theorem isKe.hist {D : va_G} {μ u : zM} {K : Nat} (h : isKe D μ K) (hO : zO (fun q => q = K + 8 ∨ q = K + 8 + 2) μ u) : u K = some (.inr (6, [.ref (K + 1), .ref (K + 2), .ref (K + 4), .ref (K + 8), .ref (K + 35), .ref (K + 40), .ref (K + 47)])) ∧ (∀ r, 0 ≤ r ∧ r < 8 → isF D u (zReg K r) zF) ∧ isF D u (K + 2) zF ∧ isPen D u (K + 4) 1 0 0 0 0 (zw zIz 0 0) (zw zIz 0 0) zIz ∧ isFl D u (K + 35) zF zF 0 0 ∧ zKO K μ u :=
  ⟨hO.at (by omega) h.obj, fun r hr => (h.at hr).o hO (by have := zReg_b (K := K) hr; omega) (by have := zReg_b (K := K) hr; omega), h.spare.o hO (by omega) (by omega), h.pen.o hO (fun q h1 h2 => by omega), h.fl.o hO (fun q h1 h2 => by omega), zkeep hO (fun q hq => by omega)⟩
set_option maxRecDepth 100000 in
set_option maxHeartbeats 4000000 in
theorem k_points {l : Launch} {D : va_G} {N0 : Nat} {K : Nat} {μ : zM} (hK : isKe D μ K) : zMet l yX6_points cX6_points 1 (some .int) ({ frames := 1, cells := 0, slots := 0, locals := 40 } : Room) D N0 [.ref K] μ (zQI D N0 (fun z u => z = 1 ∧ zKO K μ u)) := by
  refine zMet_of rfl (Nat.le_of_ble_eq_true rfl) (fun X C Rm hin E => ?_)
  refine z_aload_n C dX6_points_0 rfl ?_
  refine z_get C hK.obj rfl 2 (by decide) m_225 inz6 rfl rfl dX6_points_1 ?_
  refine z_ci C (z_rV C Rm qv_X4_length m_249 (c_plen hK.pen) hK.pen.1 rfl dX6_points_4 rfl rfl (Nat.le_of_ble_eq_true rfl) rfl ⟨Nat.le_of_ble_eq_true rfl, Nat.le_of_ble_eq_true rfl, Nat.le_of_ble_eq_true rfl, Nat.le_of_ble_eq_true rfl⟩) (fun z μ1 hp => ?_)
  obtain ⟨rfl, rfl⟩ := hp
  exact z_iret C E dX6_points_7 (Nat.le_of_ble_eq_true rfl) (Nat.le_of_ble_eq_true rfl) ⟨rfl, zO.rf⟩
set_option maxRecDepth 100000 in
set_option maxHeartbeats 4000000 in
theorem k_moveTo {l : Launch} {D : va_G} {N0 : Nat} (hl0 : l.stackTraces = false) {K : Nat} {μ : zM} (hK : isKe D μ K) {x y : Int} (hx : zir x) (hy : zir y) : zxMet l yX6_moveTo cX6_moveTo 4 (some .int) ({ frames := 7, cells := 2, slots := 12, locals := 280 } : Room) D N0 [.ref K, zi x, zi y] μ (zQI D N0 (fun z u => z = 1 ∧ ((-24 ≤ x ∧ x ≤ 24) ∧ -24 ≤ y ∧ y ≤ 24) ∧ zKO K μ u)) (fun En u => En = eIAE ∧ ¬ ((-24 ≤ x ∧ x ≤ 24) ∧ -24 ≤ y ∧ y ≤ 24) ∧ zKO K μ u) := by
  refine zxMet_of rfl (Nat.le_of_ble_eq_true rfl) (fun X C Rm Tb E => ?_)
  refine z_iload_n C dX6_moveTo_0 rfl ?_
  refine z_i2l C dX6_moveTo_1 ?_
  rw [zl_i2l]
  refine z_ci C (z_rS C Rm qs_X6_isInReach m_508 (k_reach (by omega)) dX6_moveTo_2 rfl rfl (Nat.le_of_ble_eq_true rfl) rfl ⟨Nat.le_of_ble_eq_true rfl, Nat.le_of_ble_eq_true rfl, Nat.le_of_ble_eq_true rfl, Nat.le_of_ble_eq_true rfl⟩) (fun z μ1 hp => ?_)
  obtain ⟨hp, rfl⟩ := hp
  refine z_if_eq (tgt := 16) C dX6_moveTo_5 (by decide) (fun h1 => ?_) (fun h1 => ?_)
  · exact zx_throwS C Rm Tb E hl0 thr_A st_61 dX6_moveTo_16 dX6_moveTo_19 dX6_moveTo_20 dX6_moveTo_22 dX6_moveTo_25 rfl (by decide) (by decide) (⟨rfl, by omega, zO.rf⟩)
  · refine z_iload_n C dX6_moveTo_8 rfl ?_
    refine z_i2l C dX6_moveTo_9 ?_
    rw [zl_i2l]
    refine z_ci C (z_rS C Rm qs_X6_isInReach m_508 (k_reach (by omega)) dX6_moveTo_10 rfl rfl (Nat.le_of_ble_eq_true rfl) rfl ⟨Nat.le_of_ble_eq_true rfl, Nat.le_of_ble_eq_true rfl, Nat.le_of_ble_eq_true rfl, Nat.le_of_ble_eq_true rfl⟩) (fun z2 μ1 hq => ?_)
    obtain ⟨hq, rfl⟩ := hq
    refine z_if_ne (tgt := 26) C dX6_moveTo_13 (by decide) (fun h2 => ?_) (fun h2 => ?_)
    · refine z_aload_n C dX6_moveTo_26 rfl ?_
      refine z_get C hK.obj rfl 2 (by decide) m_225 inz6 rfl rfl dX6_moveTo_27 ?_
      refine z_ci C (z_rV C Rm qv_X4_length m_249 (c_plen hK.pen) hK.pen.1 rfl dX6_moveTo_30 rfl rfl (Nat.le_of_ble_eq_true rfl) rfl ⟨Nat.le_of_ble_eq_true rfl, Nat.le_of_ble_eq_true rfl, Nat.le_of_ble_eq_true rfl, Nat.le_of_ble_eq_true rfl⟩) (fun z3 μ2 hr => ?_)
      obtain ⟨rfl, rfl⟩ := hr
      refine z_istore_n (L' := [_, _, _, _]) C dX6_moveTo_33 rfl ?_
      refine z_aload_n C dX6_moveTo_34 rfl ?_
      refine z_get C hK.obj rfl 2 (by decide) m_225 inz6 rfl rfl dX6_moveTo_35 ?_
      refine z_iload_n C dX6_moveTo_38 rfl ?_
      refine z_iload_n C dX6_moveTo_39 rfl ?_
      refine z_cv C (z_rV C Rm qv_X4_begin m_581 (c_pbegin hK.pen (x := x) (y := y)) hK.pen.1 rfl dX6_moveTo_40 rfl rfl (Nat.le_of_ble_eq_true rfl) rfl ⟨Nat.le_of_ble_eq_true rfl, Nat.le_of_ble_eq_true rfl, Nat.le_of_ble_eq_true rfl, Nat.le_of_ble_eq_true rfl⟩) (fun μ2 hr => ?_)
      refine z_iload_n C dX6_moveTo_43 rfl ?_
      refine zx_ret C E (fun X C E => ?_)
      exact z_iret C E dX6_moveTo_44 (Nat.le_of_ble_eq_true rfl) (Nat.le_of_ble_eq_true rfl) ⟨rfl, by omega, zkeep hr.2 (fun q hq => by unfold zb at hq; omega)⟩
    · exact zx_throwS C Rm Tb E hl0 thr_A st_61 dX6_moveTo_16 dX6_moveTo_19 dX6_moveTo_20 dX6_moveTo_22 dX6_moveTo_25 rfl (by decide) (by decide) (⟨rfl, by omega, zO.rf⟩)
set_option maxRecDepth 100000 in
set_option maxHeartbeats 4000000 in
theorem k_lineX {l : Launch} {D : va_G} {N0 : Nat} (hl0 : l.stackTraces = false) {K : Nat} {μ : zM} (hK : isKe D μ K) {b : Int} (hb : zir b) : zxMet l yX6_lineX cX6_lineX 4 (some .int) ({ frames := 7, cells := 2, slots := 12, locals := 280 } : Room) D N0 [.ref K, zi b] μ (zQI D N0 (fun z u => z = b ∧ (-24 ≤ b ∧ b ≤ 24) ∧ zKO K μ u)) (fun En u => En = eIAE ∧ ¬ (-24 ≤ b ∧ b ≤ 24) ∧ zKO K μ u) := by
  refine zxMet_of rfl (Nat.le_of_ble_eq_true rfl) (fun X C Rm Tb E => ?_)
  refine z_aload_n C dX6_lineX_0 rfl ?_
  refine z_get C hK.obj rfl 2 (by decide) m_225 inz6 rfl rfl dX6_lineX_1 ?_
  refine z_ci C (z_rV C Rm qv_X4_atX m_597 (c_pax hK.pen) hK.pen.1 rfl dX6_lineX_4 rfl rfl (Nat.le_of_ble_eq_true rfl) rfl ⟨Nat.le_of_ble_eq_true rfl, Nat.le_of_ble_eq_true rfl, Nat.le_of_ble_eq_true rfl, Nat.le_of_ble_eq_true rfl⟩) (fun z μ1 hp => ?_)
  obtain ⟨rfl, rfl⟩ := hp
  refine z_i2l C dX6_lineX_7 ?_
  refine z_iload_n C dX6_lineX_8 rfl ?_
  refine z_i2l C dX6_lineX_9 ?_
  rw [zl_i2l, zl_i2l]
  refine z_ladd C dX6_lineX_10 ?_
  rw [zl_add]
  refine z_lstore_n (L' := [_, _, _, _]) C dX6_lineX_11 rfl ?_
  refine z_aload_n C dX6_lineX_12 rfl ?_
  refine z_iload_n C dX6_lineX_13 rfl ?_
  refine z_lload_n C dX6_lineX_14 rfl ?_
  refine zx_cv C (zx_rV C Rm qv_X6_checkLine m_601 (k_checkLine hl0 hK hb (x := 0 + b) (by omega)) hK.obj rfl dX6_lineX_15 rfl rfl (Nat.le_of_ble_eq_true rfl) rfl (by decide)) (fun En μx hx => zx_prop C Tb E (by decide) (⟨hx.1, by omega, zO.eq hx.2.2⟩)) (fun μ1 hp => ?_)
  obtain ⟨h24, rfl⟩ := hp
  refine z_iload_n C dX6_lineX_18 rfl ?_
  refine z_if_eq (tgt := 38) C dX6_lineX_19 (by decide) (fun h1 => ?_) (fun h1 => ?_)
  · refine z_aload_n C dX6_lineX_38 rfl ?_
    refine z_get C hK.obj rfl 2 (by decide) m_225 inz6 rfl rfl dX6_lineX_39 ?_
    refine z_ci C (z_rV C Rm qv_X4_atX m_597 (c_pax hK.pen) hK.pen.1 rfl dX6_lineX_42 rfl rfl (Nat.le_of_ble_eq_true rfl) rfl ⟨Nat.le_of_ble_eq_true rfl, Nat.le_of_ble_eq_true rfl, Nat.le_of_ble_eq_true rfl, Nat.le_of_ble_eq_true rfl⟩) (fun z μ1 hp => ?_)
    obtain ⟨rfl, rfl⟩ := hp
    refine zx_ret C E (fun X C E => ?_)
    exact z_iret C E dX6_lineX_45 (Nat.le_of_ble_eq_true rfl) (Nat.le_of_ble_eq_true rfl) ⟨h1.symm, by omega, zO.rf⟩
  · refine z_aload_n C dX6_lineX_22 rfl ?_
    refine z_get C hK.obj rfl 2 (by decide) m_225 inz6 rfl rfl dX6_lineX_23 ?_
    refine z_lload_n C dX6_lineX_26 rfl ?_
    refine z_l2i C dX6_lineX_27 ?_
    rw [zl_l2i]
    refine z_aload_n C dX6_lineX_28 rfl ?_
    refine z_get C hK.obj rfl 2 (by decide) m_225 inz6 rfl rfl dX6_lineX_29 ?_
    refine z_ci C (z_rV C Rm qv_X4_atY m_626 (c_pay hK.pen) hK.pen.1 rfl dX6_lineX_32 rfl rfl (Nat.le_of_ble_eq_true rfl) rfl ⟨Nat.le_of_ble_eq_true rfl, Nat.le_of_ble_eq_true rfl, Nat.le_of_ble_eq_true rfl, Nat.le_of_ble_eq_true rfl⟩) (fun z μ1 hp => ?_)
    obtain ⟨rfl, rfl⟩ := hp
    refine z_cv C (z_rV C Rm qv_X4_add m_630 (c_padd hK.pen (x := 0 + b) (y := 0) (by omega)) hK.pen.1 rfl dX6_lineX_35 rfl rfl (Nat.le_of_ble_eq_true rfl) rfl ⟨Nat.le_of_ble_eq_true rfl, Nat.le_of_ble_eq_true rfl, Nat.le_of_ble_eq_true rfl, Nat.le_of_ble_eq_true rfl⟩) (fun μ2 hq => ?_)
    have hO := zkeep (K := K) hq.2 (fun q hq => by unfold zb at hq; omega)
    have hob := hq.2.at (by unfold zb; omega) hK.obj
    refine z_aload_n C dX6_lineX_38 rfl ?_
    refine z_get C hob rfl 2 (by decide) m_225 inz6 rfl rfl dX6_lineX_39 ?_
    refine z_ci C (z_rV C Rm qv_X4_atX m_597 (c_pax hq.1) hq.1.1 rfl dX6_lineX_42 rfl rfl (Nat.le_of_ble_eq_true rfl) rfl ⟨Nat.le_of_ble_eq_true rfl, Nat.le_of_ble_eq_true rfl, Nat.le_of_ble_eq_true rfl, Nat.le_of_ble_eq_true rfl⟩) (fun z μ3 hp => ?_)
    obtain ⟨rfl, rfl⟩ := hp
    refine zx_ret C E (fun X C E => ?_)
    exact z_iret C E dX6_lineX_45 (Nat.le_of_ble_eq_true rfl) (Nat.le_of_ble_eq_true rfl) ⟨by omega, by omega, hO⟩
set_option maxRecDepth 100000 in
set_option maxHeartbeats 4000000 in
theorem k_lineY {l : Launch} {D : va_G} {N0 : Nat} (hl0 : l.stackTraces = false) {K : Nat} {μ : zM} (hK : isKe D μ K) {b : Int} (hb : zir b) : zxMet l yX6_lineY cX6_lineY 4 (some .int) ({ frames := 7, cells := 2, slots := 12, locals := 280 } : Room) D N0 [.ref K, zi b] μ (zQI D N0 (fun z u => z = b ∧ (-24 ≤ b ∧ b ≤ 24) ∧ zKO K μ u)) (fun En u => En = eIAE ∧ ¬ (-24 ≤ b ∧ b ≤ 24) ∧ zKO K μ u) := by
  refine zxMet_of rfl (Nat.le_of_ble_eq_true rfl) (fun X C Rm Tb E => ?_)
  refine z_aload_n C dX6_lineY_0 rfl ?_
  refine z_get C hK.obj rfl 2 (by decide) m_225 inz6 rfl rfl dX6_lineY_1 ?_
  refine z_ci C (z_rV C Rm qv_X4_atY m_626 (c_pay hK.pen) hK.pen.1 rfl dX6_lineY_4 rfl rfl (Nat.le_of_ble_eq_true rfl) rfl ⟨Nat.le_of_ble_eq_true rfl, Nat.le_of_ble_eq_true rfl, Nat.le_of_ble_eq_true rfl, Nat.le_of_ble_eq_true rfl⟩) (fun z μ1 hp => ?_)
  obtain ⟨rfl, rfl⟩ := hp
  refine z_i2l C dX6_lineY_7 ?_
  refine z_iload_n C dX6_lineY_8 rfl ?_
  refine z_i2l C dX6_lineY_9 ?_
  rw [zl_i2l, zl_i2l]
  refine z_ladd C dX6_lineY_10 ?_
  rw [zl_add]
  refine z_lstore_n (L' := [_, _, _, _]) C dX6_lineY_11 rfl ?_
  refine z_aload_n C dX6_lineY_12 rfl ?_
  refine z_iload_n C dX6_lineY_13 rfl ?_
  refine z_lload_n C dX6_lineY_14 rfl ?_
  refine zx_cv C (zx_rV C Rm qv_X6_checkLine m_601 (k_checkLine hl0 hK hb (x := 0 + b) (by omega)) hK.obj rfl dX6_lineY_15 rfl rfl (Nat.le_of_ble_eq_true rfl) rfl (by decide)) (fun En μx hx => zx_prop C Tb E (by decide) (⟨hx.1, by omega, zO.eq hx.2.2⟩)) (fun μ1 hp => ?_)
  obtain ⟨h24, rfl⟩ := hp
  refine z_iload_n C dX6_lineY_18 rfl ?_
  refine z_if_eq (tgt := 38) C dX6_lineY_19 (by decide) (fun h1 => ?_) (fun h1 => ?_)
  · refine z_aload_n C dX6_lineY_38 rfl ?_
    refine z_get C hK.obj rfl 2 (by decide) m_225 inz6 rfl rfl dX6_lineY_39 ?_
    refine z_ci C (z_rV C Rm qv_X4_atY m_626 (c_pay hK.pen) hK.pen.1 rfl dX6_lineY_42 rfl rfl (Nat.le_of_ble_eq_true rfl) rfl ⟨Nat.le_of_ble_eq_true rfl, Nat.le_of_ble_eq_true rfl, Nat.le_of_ble_eq_true rfl, Nat.le_of_ble_eq_true rfl⟩) (fun z μ1 hp => ?_)
    obtain ⟨rfl, rfl⟩ := hp
    refine zx_ret C E (fun X C E => ?_)
    exact z_iret C E dX6_lineY_45 (Nat.le_of_ble_eq_true rfl) (Nat.le_of_ble_eq_true rfl) ⟨h1.symm, by omega, zO.rf⟩
  · refine z_aload_n C dX6_lineY_22 rfl ?_
    refine z_get C hK.obj rfl 2 (by decide) m_225 inz6 rfl rfl dX6_lineY_23 ?_
    refine z_aload_n C dX6_lineY_26 rfl ?_
    refine z_get C hK.obj rfl 2 (by decide) m_225 inz6 rfl rfl dX6_lineY_27 ?_
    refine z_ci C (z_rV C Rm qv_X4_atX m_597 (c_pax hK.pen) hK.pen.1 rfl dX6_lineY_30 rfl rfl (Nat.le_of_ble_eq_true rfl) rfl ⟨Nat.le_of_ble_eq_true rfl, Nat.le_of_ble_eq_true rfl, Nat.le_of_ble_eq_true rfl, Nat.le_of_ble_eq_true rfl⟩) (fun z μ1 hp => ?_)
    obtain ⟨rfl, rfl⟩ := hp
    refine z_lload_n C dX6_lineY_33 rfl ?_
    refine z_l2i C dX6_lineY_34 ?_
    rw [zl_l2i]
    refine z_cv C (z_rV C Rm qv_X4_add m_630 (c_padd hK.pen (x := 0) (y := 0 + b) (by omega)) hK.pen.1 rfl dX6_lineY_35 rfl rfl (Nat.le_of_ble_eq_true rfl) rfl ⟨Nat.le_of_ble_eq_true rfl, Nat.le_of_ble_eq_true rfl, Nat.le_of_ble_eq_true rfl, Nat.le_of_ble_eq_true rfl⟩) (fun μ2 hq => ?_)
    have hO := zkeep (K := K) hq.2 (fun q hq => by unfold zb at hq; omega)
    have hob := hq.2.at (by unfold zb; omega) hK.obj
    refine z_aload_n C dX6_lineY_38 rfl ?_
    refine z_get C hob rfl 2 (by decide) m_225 inz6 rfl rfl dX6_lineY_39 ?_
    refine z_ci C (z_rV C Rm qv_X4_atY m_626 (c_pay hq.1) hq.1.1 rfl dX6_lineY_42 rfl rfl (Nat.le_of_ble_eq_true rfl) rfl ⟨Nat.le_of_ble_eq_true rfl, Nat.le_of_ble_eq_true rfl, Nat.le_of_ble_eq_true rfl, Nat.le_of_ble_eq_true rfl⟩) (fun z μ3 hp => ?_)
    obtain ⟨rfl, rfl⟩ := hp
    refine zx_ret C E (fun X C E => ?_)
    exact z_iret C E dX6_lineY_45 (Nat.le_of_ble_eq_true rfl) (Nat.le_of_ble_eq_true rfl) ⟨by omega, by omega, hO⟩
set_option maxRecDepth 100000 in
set_option maxHeartbeats 4000000 in
theorem k_close {l : Launch} {D : va_G} {N0 : Nat} (hl0 : l.stackTraces = false) {K : Nat} {μ : zM} (hK : isKe D μ K) {r ru : Int} (hr : zir r) (hru : zir ru) : zxMet l yX6_close cX6_close 4 (some .int) ({ frames := 7, cells := 2, slots := 12, locals := 280 } : Room) D N0 [.ref K, zi r, zi ru] μ (zQI D N0 (fun z u => z = 0 ∧ ((0 ≤ r ∧ r < 8) ∧ 0 ≤ ru ∧ ru ≤ 1) ∧ zKO K μ u)) (fun En u => (En = eIOB ∧ ¬ (0 ≤ r ∧ r < 8) ∨ En = eIAE ∧ (0 ≤ r ∧ r < 8) ∧ ¬ (0 ≤ ru ∧ ru ≤ 1)) ∧ zKO K μ u) := by
  refine zxMet_of rfl (Nat.le_of_ble_eq_true rfl) (fun X C Rm Tb E => ?_)
  refine z_aload_n C dX6_close_0 rfl ?_
  refine z_iload_n C dX6_close_1 rfl ?_
  refine zx_cr C (zx_rV C Rm qv_X6_regionAt m_646 (k_regionAt hl0 hK hr) hK.obj rfl dX6_close_2 rfl rfl (Nat.le_of_ble_eq_true rfl) rfl (by decide)) (fun En μx hx => zx_prop C Tb E (by decide) (⟨Or.inl ⟨hx.1, hx.2.1⟩, zO.eq hx.2.2⟩)) (fun z μ1 hp => ?_)
  obtain ⟨rfl, h8, rfl⟩ := hp
  have b8 := zReg_b (K := K) h8
  refine z_astore_n (L' := [_, _, _, _]) C dX6_close_5 rfl ?_
  refine z_iconst C dX6_close_6 ?_
  refine z_iload_n C dX6_close_7 rfl ?_
  refine z_iconst C dX6_close_8 ?_
  refine z_ci C (z_rS C Rm qs_X6_isFrom m_666 (k_isFrom (by decide) hru (by decide)) dX6_close_9 rfl rfl (Nat.le_of_ble_eq_true rfl) rfl ⟨Nat.le_of_ble_eq_true rfl, Nat.le_of_ble_eq_true rfl, Nat.le_of_ble_eq_true rfl, Nat.le_of_ble_eq_true rfl⟩) (fun z μ1 hp => ?_)
  obtain ⟨hp, rfl⟩ := hp
  refine z_if_ne (tgt := 25) C dX6_close_12 (by decide) (fun h1 => ?_) (fun h1 => ?_)
  · have h01 : 0 ≤ ru ∧ ru ≤ 1 := by omega
    refine z_aload_n C dX6_close_25 rfl ?_
    refine z_get C hK.obj rfl 3 (by decide) m_226 inz6 rfl rfl dX6_close_26 ?_
    refine z_iload_n C dX6_close_29 rfl ?_
    refine z_aload_n C dX6_close_30 rfl ?_
    refine z_cv C (z_rV C Rm qv_X2_keep m_670 (c_keep hK.his hK.kept (hK.at h8) (by omega) (by omega)) hK.his.1 rfl dX6_close_31 rfl rfl (Nat.le_of_ble_eq_true rfl) rfl ⟨Nat.le_of_ble_eq_true rfl, Nat.le_of_ble_eq_true rfl, Nat.le_of_ble_eq_true rfl, Nat.le_of_ble_eq_true rfl⟩) (fun μ1 hq => ?_)
    obtain ⟨k1, k2, k3, k4, k5, k6⟩ := hK.hist hq
    refine z_aload_n C dX6_close_34 rfl ?_
    refine z_get C k1 rfl 2 (by decide) m_225 inz6 rfl rfl dX6_close_35 ?_
    refine z_aload_n C dX6_close_38 rfl ?_
    refine z_iload_n C dX6_close_39 rfl ?_
    refine z_cv C (z_rV C Rm qv_X4_putInside m_675 (c_pput k4 (k2 r h8) (by omega)) k4.1 rfl dX6_close_40 rfl rfl (Nat.le_of_ble_eq_true rfl) rfl ⟨Nat.le_of_ble_eq_true rfl, Nat.le_of_ble_eq_true rfl, Nat.le_of_ble_eq_true rfl, Nat.le_of_ble_eq_true rfl⟩) (fun μ2 hq2 => ?_)
    subst hq2
    refine z_aload_n C dX6_close_43 rfl ?_
    refine z_get C k1 rfl 2 (by decide) m_225 inz6 rfl rfl dX6_close_44 ?_
    refine z_cv C (z_rV C Rm qv_X4_beginAnew m_695 (c_pagain k4) k4.1 rfl dX6_close_47 rfl rfl (Nat.le_of_ble_eq_true rfl) rfl ⟨Nat.le_of_ble_eq_true rfl, Nat.le_of_ble_eq_true rfl, Nat.le_of_ble_eq_true rfl, Nat.le_of_ble_eq_true rfl⟩) (fun μ2 hq2 => ?_)
    have hF := (k2 r h8).o hq2.2 (by unfold zb; omega) (by unfold zb; omega)
    refine z_aload_n C dX6_close_50 rfl ?_
    refine z_ci C (z_rV C Rm qv_X0_count m_290 (c_count hF) hF.1 rfl dX6_close_51 rfl rfl (Nat.le_of_ble_eq_true rfl) rfl ⟨Nat.le_of_ble_eq_true rfl, Nat.le_of_ble_eq_true rfl, Nat.le_of_ble_eq_true rfl, Nat.le_of_ble_eq_true rfl⟩) (fun z2 μ3 hq3 => ?_)
    obtain ⟨rfl, rfl⟩ := hq3
    refine zx_ret C E (fun X C E => ?_)
    exact z_iret C E dX6_close_54 (Nat.le_of_ble_eq_true rfl) (Nat.le_of_ble_eq_true rfl) ⟨cntF_z, ⟨h8, h01⟩, k6.tr (zkeep hq2.2 (fun q hq => by unfold zb at hq; omega))⟩
  · exact zx_throwS C Rm Tb E hl0 thr_A st_95 dX6_close_15 dX6_close_18 dX6_close_19 dX6_close_21 dX6_close_24 rfl (by decide) (by decide) (⟨Or.inr ⟨rfl, h8, by omega⟩, zO.rf⟩)

-- ---- a rectangle
def zRect (y : Int) (k : Nat) (m : Int64) : Nat → Int64 := fun i => if y + 32 ≤ (i : Int) ∧ (i : Int) < y + 32 + k then m else 0
theorem zRect_0 {y : Int} {m : Int64} : zRect y 0 m = zF := by
  funext i
  unfold zRect
  rw [if_neg (by omega)]
  rfl
theorem zRect_s {y : Int} {k : Nat} {m : Int64} {i : Nat} (h : y + k + 32 = (i : Int)) : zw (zRect y k m) i m = zRect y (k + 1) m := by
  funext j
  unfold zw
  by_cases hj : j = i
  · subst hj
    rw [if_pos rfl]
    unfold zRect
    rw [if_pos (by omega)]
  · rw [if_neg hj]
    unfold zRect
    by_cases h1 : y + 32 ≤ (j : Int) ∧ (j : Int) < y + 32 + k
    · rw [if_pos h1, if_pos (by omega)]
    · rw [if_neg h1, if_neg (by omega)]
theorem zRect_r {y : Int} {k : Nat} {m : Int64} (h : -32 ≤ y ∧ y + k ≤ 31) : rowv (zRect y k m) (y + k) = 0 := by
  unfold rowv
  rw [if_pos (by omega)]
  unfold zRect
  rw [if_neg (by omega)]
theorem zRect_cnt {y : Int} {k : Nat} {m : Int64} (hy : -32 ≤ y) : ∀ n : Nat, cntF (zRect y k m) n = (if (n : Int) ≤ y + 32 then 0 else if (n : Int) ≤ y + 32 + k then (n - (y + 32)) * zbc m else (k : Int) * zbc m)
  | 0 => by
    rw [if_pos (by omega)]
    rfl
  | n + 1 => by
    show cntF (zRect y k m) n + zbc (zRect y k m n) = _
    rw [zRect_cnt hy n]
    unfold zRect
    have z0 : zbc 0 = 0 := by decide +kernel
    by_cases a1 : y + 32 ≤ (n : Int) ∧ (n : Int) < y + 32 + k
    · rw [if_pos a1]
      by_cases a2 : (n : Int) = y + 32
      · rw [if_pos (by omega), if_neg (by omega), if_pos (by omega), show ((n + 1 : Nat) : Int) - (y + 32) = 1 by omega]
        omega
      · rw [if_neg (by omega), if_pos (by omega), if_neg (by omega), if_pos (by omega), show ((n + 1 : Nat) : Int) - (y + 32) = (n - (y + 32)) + 1 by omega, Int.add_mul, Int.one_mul]
    · rw [if_neg a1, z0, Int.add_zero]
      by_cases a2 : (n : Int) < y + 32
      · rw [if_pos (by omega), if_pos (by omega)]
      · by_cases a3 : k = 0
        · subst a3
          by_cases a4 : (n : Int) = y + 32
          · rw [if_pos (by omega), if_neg (by omega), if_neg (by omega)]
            simp
          · rw [if_neg (by omega), if_neg (by omega), if_neg (by omega), if_neg (by omega)]
        · by_cases a4 : (n : Int) = y + 32 + k
          · rw [if_neg (by omega), if_pos (by omega), if_neg (by omega), if_neg (by omega), show (n : Int) - (y + 32) = k by omega]
          · rw [if_neg (by omega), if_neg (by omega), if_neg (by omega), if_neg (by omega)]
def zMask (w s : Nat) : Int64 := zshl (zushr (-1) (64 - (w : Int))) (s : Int)
set_option maxRecDepth 100000 in
theorem zMask_all : ∀ w : Fin 65, ∀ s : Fin 64, 1 ≤ w.1 → w.1 + s.1 ≤ 64 → zbc (zMask w.1 s.1) = (w.1 : Int) := by decide +kernel
theorem zMask_bc {w x : Int} (hw : 1 ≤ w ∧ w ≤ 64) (hx : -32 ≤ x) (h : x + w - 1 ≤ 31) : zbc (zshl (zushr (-1) (64 - w)) (x - -32)) = w := by
  have h1 := zMask_all ⟨w.toNat, by omega⟩ ⟨(x + 32).toNat, by omega⟩ (by show 1 ≤ w.toNat; omega) (by show w.toNat + (x + 32).toNat ≤ 64; omega)
  unfold zMask at h1
  simp only at h1
  rw [show ((w.toNat : Nat) : Int) = w by omega, show (((x + 32).toNat : Nat) : Int) = x - -32 by omega] at h1
  exact h1
