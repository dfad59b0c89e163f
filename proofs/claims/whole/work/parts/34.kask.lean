-- ---- asking
set_option maxRecDepth 100000 in
set_option maxHeartbeats 4000000 in
theorem k_area {l : Launch} {D : va_G} {N0 : Nat} (hl0 : l.stackTraces = false) {K : Nat} {μ : zM} (hK : isKe D μ K) {r : Int} (hr : zir r) : zxMet l yX6_area cX6_area 2 (some .int) ({ frames := 7, cells := 2, slots := 12, locals := 280 } : Room) D N0 [.ref K, zi r] μ (zQI D N0 (fun z u => z = 0 ∧ (0 ≤ r ∧ r < 8) ∧ zKO K μ u)) (zXR K μ r True) := by
  refine zxMet_of rfl (Nat.le_of_ble_eq_true rfl) (fun X C Rm Tb E => ?_)
  refine z_aload_n C dX6_area_0 rfl ?_
  refine z_iload_n C dX6_area_1 rfl ?_
  refine zx_cr C (zx_rV C Rm qv_X6_regionAt m_646 (k_regionAt hl0 hK hr) hK.obj rfl dX6_area_2 rfl rfl (Nat.le_of_ble_eq_true rfl) rfl (by decide)) (fun En μx hx => zx_prop C Tb E (by decide) (⟨Or.inl ⟨hx.1, hx.2.1⟩, zO.eq hx.2.2⟩)) (fun z μ1 hp => ?_)
  obtain ⟨rfl, h8, rfl⟩ := hp
  have b8 := zReg_b (K := K) h8
  refine z_ci C (z_rV C Rm qv_X0_count m_290 (c_count (hK.at h8)) (hK.at h8).1 rfl dX6_area_5 rfl rfl (Nat.le_of_ble_eq_true rfl) rfl ⟨Nat.le_of_ble_eq_true rfl, Nat.le_of_ble_eq_true rfl, Nat.le_of_ble_eq_true rfl, Nat.le_of_ble_eq_true rfl⟩) (fun z3 μ3 hq3 => ?_)
  obtain ⟨rfl, rfl⟩ := hq3
  refine zx_ret C E (fun X C E => ?_)
  exact z_iret C E dX6_area_8 (Nat.le_of_ble_eq_true rfl) (Nat.le_of_ble_eq_true rfl) ⟨cntF_z, h8, zO.rf⟩
set_option maxRecDepth 100000 in
set_option maxHeartbeats 4000000 in
theorem k_edges {l : Launch} {D : va_G} {N0 : Nat} (hl0 : l.stackTraces = false) {K : Nat} {μ : zM} (hK : isKe D μ K) {r : Int} (hr : zir r) : zxMet l yX6_edges cX6_edges 2 (some .int) ({ frames := 7, cells := 2, slots := 12, locals := 280 } : Room) D N0 [.ref K, zi r] μ (zQI D N0 (fun z u => z = 0 ∧ (0 ≤ r ∧ r < 8) ∧ zKO K μ u)) (zXR K μ r True) := by
  refine zxMet_of rfl (Nat.le_of_ble_eq_true rfl) (fun X C Rm Tb E => ?_)
  refine z_aload_n C dX6_edges_0 rfl ?_
  refine z_iload_n C dX6_edges_1 rfl ?_
  refine zx_cr C (zx_rV C Rm qv_X6_regionAt m_646 (k_regionAt hl0 hK hr) hK.obj rfl dX6_edges_2 rfl rfl (Nat.le_of_ble_eq_true rfl) rfl (by decide)) (fun En μx hx => zx_prop C Tb E (by decide) (⟨Or.inl ⟨hx.1, hx.2.1⟩, zO.eq hx.2.2⟩)) (fun z μ1 hp => ?_)
  obtain ⟨rfl, h8, rfl⟩ := hp
  have b8 := zReg_b (K := K) h8
  refine z_ci C (z_rV C Rm qv_X0_countEdges m_300 (c_countEdges0 (hK.at h8)) (hK.at h8).1 rfl dX6_edges_5 rfl rfl (Nat.le_of_ble_eq_true rfl) rfl ⟨Nat.le_of_ble_eq_true rfl, Nat.le_of_ble_eq_true rfl, Nat.le_of_ble_eq_true rfl, Nat.le_of_ble_eq_true rfl⟩) (fun z3 μ3 hq3 => ?_)
  obtain ⟨rfl, rfl⟩ := hq3
  refine zx_ret C E (fun X C E => ?_)
  exact z_iret C E dX6_edges_8 (Nat.le_of_ble_eq_true rfl) (Nat.le_of_ble_eq_true rfl) ⟨rfl, h8, zO.rf⟩
set_option maxRecDepth 100000 in
set_option maxHeartbeats 4000000 in
theorem k_pieces {l : Launch} {D : va_G} {N0 : Nat} (hl0 : l.stackTraces = false) {K : Nat} {μ : zM} (hK : isKe D μ K) {r : Int} (hr : zir r) : zxMet l yX6_pieces cX6_pieces 2 (some .int) ({ frames := 7, cells := 2, slots := 12, locals := 280 } : Room) D N0 [.ref K, zi r] μ (zQI D N0 (fun z u => z = 0 ∧ (0 ≤ r ∧ r < 8) ∧ zKO K μ u)) (zXR K μ r True) := by
  refine zxMet_of rfl (Nat.le_of_ble_eq_true rfl) (fun X C Rm Tb E => ?_)
  refine z_aload_n C dX6_pieces_0 rfl ?_
  refine z_get C hK.obj rfl 4 (by decide) m_227 inz6 rfl rfl dX6_pieces_1 ?_
  refine z_aload_n C dX6_pieces_4 rfl ?_
  refine z_iload_n C dX6_pieces_5 rfl ?_
  refine zx_cr C (zx_rV C Rm qv_X6_regionAt m_646 (k_regionAt hl0 hK hr) hK.obj rfl dX6_pieces_6 rfl rfl (Nat.le_of_ble_eq_true rfl) rfl (by decide)) (fun En μx hx => zx_prop C Tb E (by decide) (⟨Or.inl ⟨hx.1, hx.2.1⟩, zO.eq hx.2.2⟩)) (fun z μ1 hp => ?_)
  obtain ⟨rfl, h8, rfl⟩ := hp
  have b8 := zReg_b (K := K) h8
  refine z_ci C (z_rV C Rm qv_X1_countPieces m_305 (c_pieces0 hK.fl (hK.at h8) (by omega)) hK.fl.1 rfl dX6_pieces_9 rfl rfl (Nat.le_of_ble_eq_true rfl) rfl ⟨Nat.le_of_ble_eq_true rfl, Nat.le_of_ble_eq_true rfl, Nat.le_of_ble_eq_true rfl, Nat.le_of_ble_eq_true rfl⟩) (fun z3 μ3 hq3 => ?_)
  obtain ⟨rfl, rfl⟩ := hq3
  refine zx_ret C E (fun X C E => ?_)
  exact z_iret C E dX6_pieces_12 (Nat.le_of_ble_eq_true rfl) (Nat.le_of_ble_eq_true rfl) ⟨rfl, h8, zO.rf⟩
set_option maxRecDepth 100000 in
set_option maxHeartbeats 4000000 in
theorem k_holes {l : Launch} {D : va_G} {N0 : Nat} (hl0 : l.stackTraces = false) {K : Nat} {μ : zM} (hK : isKe D μ K) {r : Int} (hr : zir r) : zxMet l yX6_holes cX6_holes 2 (some .int) ({ frames := 7, cells := 2, slots := 12, locals := 280 } : Room) D N0 [.ref K, zi r] μ (zQI D N0 (fun z u => z = 0 ∧ (0 ≤ r ∧ r < 8) ∧ zKO K μ u)) (zXR K μ r True) := by
  refine zxMet_of rfl (Nat.le_of_ble_eq_true rfl) (fun X C Rm Tb E => ?_)
  refine z_aload_n C dX6_holes_0 rfl ?_
  refine z_get C hK.obj rfl 4 (by decide) m_227 inz6 rfl rfl dX6_holes_1 ?_
  refine z_aload_n C dX6_holes_4 rfl ?_
  refine z_iload_n C dX6_holes_5 rfl ?_
  refine zx_cr C (zx_rV C Rm qv_X6_regionAt m_646 (k_regionAt hl0 hK hr) hK.obj rfl dX6_holes_6 rfl rfl (Nat.le_of_ble_eq_true rfl) rfl (by decide)) (fun En μx hx => zx_prop C Tb E (by decide) (⟨Or.inl ⟨hx.1, hx.2.1⟩, zO.eq hx.2.2⟩)) (fun z μ1 hp => ?_)
  obtain ⟨rfl, h8, rfl⟩ := hp
  have b8 := zReg_b (K := K) h8
  have hne : ¬ zb (K + 35) 5 (zReg K r) ∧ ¬ zb (K + 35) 5 (zReg K r + 1) := ⟨by unfold zb; omega, by unfold zb; omega⟩
  refine z_ci C (z_rV C Rm qv_X1_countHoles m_357 (c_holes0 hK.fl (hK.at h8) hne) hK.fl.1 rfl dX6_holes_9 rfl rfl (Nat.le_of_ble_eq_true rfl) rfl ⟨Nat.le_of_ble_eq_true rfl, Nat.le_of_ble_eq_true rfl, Nat.le_of_ble_eq_true rfl, Nat.le_of_ble_eq_true rfl⟩) (fun z3 μ3 hq3 => ?_)
  obtain ⟨rfl, hq1, hq2⟩ := hq3
  refine zx_ret C E (fun X C E => ?_)
  exact z_iret C E dX6_holes_12 (Nat.le_of_ble_eq_true rfl) (Nat.le_of_ble_eq_true rfl) ⟨rfl, h8, zkeep hq2 (fun q hq => by unfold zb at hq; omega)⟩
set_option maxRecDepth 100000 in
set_option maxHeartbeats 4000000 in
theorem k_has {l : Launch} {D : va_G} {N0 : Nat} (hl0 : l.stackTraces = false) {K : Nat} {μ : zM} (hK : isKe D μ K) {r x y : Int} (hr : zir r) (hx0 : zir x) (hy : zir y) : zxMet l yX6_has cX6_has 4 (some .boolean) ({ frames := 7, cells := 2, slots := 12, locals := 280 } : Room) D N0 [.ref K, zi r, zi x, zi y] μ (zQI D N0 (fun z u => z = 0 ∧ (0 ≤ r ∧ r < 8) ∧ zKO K μ u)) (zXR K μ r True) := by
  refine zxMet_of rfl (Nat.le_of_ble_eq_true rfl) (fun X C Rm Tb E => ?_)
  refine z_aload_n C dX6_has_0 rfl ?_
  refine z_iload_n C dX6_has_1 rfl ?_
  refine zx_cr C (zx_rV C Rm qv_X6_regionAt m_646 (k_regionAt hl0 hK hr) hK.obj rfl dX6_has_2 rfl rfl (Nat.le_of_ble_eq_true rfl) rfl (by decide)) (fun En μx hx => zx_prop C Tb E (by decide) (⟨Or.inl ⟨hx.1, hx.2.1⟩, zO.eq hx.2.2⟩)) (fun z μ1 hp => ?_)
  obtain ⟨rfl, h8, rfl⟩ := hp
  have b8 := zReg_b (K := K) h8
  refine z_iload_n C dX6_has_5 rfl ?_
  refine z_iload_n C dX6_has_6 rfl ?_
  refine z_ci C (z_rV C Rm qv_X0_holds m_866 (c_holds0 (hK.at h8) hx0 hy) (hK.at h8).1 rfl dX6_has_7 rfl rfl (Nat.le_of_ble_eq_true rfl) rfl ⟨Nat.le_of_ble_eq_true rfl, Nat.le_of_ble_eq_true rfl, Nat.le_of_ble_eq_true rfl, Nat.le_of_ble_eq_true rfl⟩) (fun z3 μ3 hq3 => ?_)
  obtain ⟨rfl, rfl⟩ := hq3
  refine zx_ret C E (fun X C E => ?_)
  exact z_zret C E (Or.inl rfl) dX6_has_10 (Nat.le_of_ble_eq_true rfl) (Nat.le_of_ble_eq_true rfl) ⟨rfl, h8, zO.rf⟩
set_option maxRecDepth 100000 in
set_option maxHeartbeats 4000000 in
theorem k_boundOf0 {l : Launch} {D : va_G} {N0 : Nat} {o : Nat} {s : Int} {μ : zM} (hF : isF D μ o zF) (hs : 0 ≤ s ∧ s ≤ 3) : zMet l yX6_boundOf cX6_boundOf 2 (some .int) ({ frames := 3, cells := 0, slots := 0, locals := 120 } : Room) D N0 [.ref o, zi s] μ (zQI D N0 (fun z u => z = 0 ∧ u = μ)) := by
  refine zMet_of rfl (Nat.le_of_ble_eq_true rfl) (fun X C Rm hin E => ?_)
  rcases (by omega : s = 0 ∨ s = 1 ∨ s = 2 ∨ s = 3) with rfl | rfl | rfl | rfl
  · refine z_iload_n C dX6_boundOf_0 rfl ?_
    refine z_tableIn (tgt := 28) C dX6_boundOf_1 (by decide) (by decide) rfl (by decide) ?_
    refine z_aload_n C dX6_boundOf_28 rfl ?_
    refine z_ci C (z_rV C Rm qv_X0_leastX m_371 (c_leastX0 hF) hF.1 rfl dX6_boundOf_29 rfl rfl (Nat.le_of_ble_eq_true rfl) rfl ⟨Nat.le_of_ble_eq_true rfl, Nat.le_of_ble_eq_true rfl, Nat.le_of_ble_eq_true rfl, Nat.le_of_ble_eq_true rfl⟩) (fun z μ1 hp => ?_)
    exact z_iret C E dX6_boundOf_32 (Nat.le_of_ble_eq_true rfl) (Nat.le_of_ble_eq_true rfl) hp
  · refine z_iload_n C dX6_boundOf_0 rfl ?_
    refine z_tableIn (tgt := 33) C dX6_boundOf_1 (by decide) (by decide) rfl (by decide) ?_
    refine z_aload_n C dX6_boundOf_33 rfl ?_
    refine z_ci C (z_rV C Rm qv_X0_leastY m_380 (c_leastY0 hF) hF.1 rfl dX6_boundOf_34 rfl rfl (Nat.le_of_ble_eq_true rfl) rfl ⟨Nat.le_of_ble_eq_true rfl, Nat.le_of_ble_eq_true rfl, Nat.le_of_ble_eq_true rfl, Nat.le_of_ble_eq_true rfl⟩) (fun z μ1 hp => ?_)
    exact z_iret C E dX6_boundOf_37 (Nat.le_of_ble_eq_true rfl) (Nat.le_of_ble_eq_true rfl) hp
  · refine z_iload_n C dX6_boundOf_0 rfl ?_
    refine z_tableIn (tgt := 38) C dX6_boundOf_1 (by decide) (by decide) rfl (by decide) ?_
    refine z_aload_n C dX6_boundOf_38 rfl ?_
    refine z_ci C (z_rV C Rm qv_X0_greatestX m_384 (c_greatestX0 hF) hF.1 rfl dX6_boundOf_39 rfl rfl (Nat.le_of_ble_eq_true rfl) rfl ⟨Nat.le_of_ble_eq_true rfl, Nat.le_of_ble_eq_true rfl, Nat.le_of_ble_eq_true rfl, Nat.le_of_ble_eq_true rfl⟩) (fun z μ1 hp => ?_)
    exact z_iret C E dX6_boundOf_42 (Nat.le_of_ble_eq_true rfl) (Nat.le_of_ble_eq_true rfl) hp
  · refine z_iload_n C dX6_boundOf_0 rfl ?_
    refine z_tableOut (tgt := 43) C dX6_boundOf_1 (by omega) (by decide) ?_
    refine z_aload_n C dX6_boundOf_43 rfl ?_
    refine z_ci C (z_rV C Rm qv_X0_greatestY m_389 (c_greatestY0 hF) hF.1 rfl dX6_boundOf_44 rfl rfl (Nat.le_of_ble_eq_true rfl) rfl ⟨Nat.le_of_ble_eq_true rfl, Nat.le_of_ble_eq_true rfl, Nat.le_of_ble_eq_true rfl, Nat.le_of_ble_eq_true rfl⟩) (fun z μ1 hp => ?_)
    exact z_iret C E dX6_boundOf_47 (Nat.le_of_ble_eq_true rfl) (Nat.le_of_ble_eq_true rfl) hp
set_option maxRecDepth 100000 in
set_option maxHeartbeats 4000000 in
theorem k_bound {l : Launch} {D : va_G} {N0 : Nat} (hl0 : l.stackTraces = false) {K : Nat} {μ : zM} (hK : isKe D μ K) {r s : Int} (hr : zir r) (hs : zir s) : zxMet l yX6_bound cX6_bound 4 (some .int) ({ frames := 7, cells := 2, slots := 12, locals := 280 } : Room) D N0 [.ref K, zi r, zi s] μ (zQI D N0 (fun z u => z = 0 ∧ ((0 ≤ r ∧ r < 8) ∧ 0 ≤ s ∧ s ≤ 3) ∧ zKO K μ u)) (zXR K μ r (0 ≤ s ∧ s ≤ 3)) := by
  refine zxMet_of rfl (Nat.le_of_ble_eq_true rfl) (fun X C Rm Tb E => ?_)
  refine z_aload_n C dX6_bound_0 rfl ?_
  refine z_iload_n C dX6_bound_1 rfl ?_
  refine zx_cr C (zx_rV C Rm qv_X6_regionAt m_646 (k_regionAt hl0 hK hr) hK.obj rfl dX6_bound_2 rfl rfl (Nat.le_of_ble_eq_true rfl) rfl (by decide)) (fun En μx hx => zx_prop C Tb E (by decide) (⟨Or.inl ⟨hx.1, hx.2.1⟩, zO.eq hx.2.2⟩)) (fun z μ1 hp => ?_)
  obtain ⟨rfl, h8, rfl⟩ := hp
  have b8 := zReg_b (K := K) h8
  refine z_astore_n (L' := [_, _, _, _]) C dX6_bound_5 rfl ?_
  refine z_iconst C dX6_bound_6 ?_
  refine z_iload_n C dX6_bound_7 rfl ?_
  refine z_iconst C dX6_bound_8 ?_
  refine z_ci C (z_rS C Rm qs_X6_isFrom m_666 (k_isFrom (by decide) hs (by decide)) dX6_bound_9 rfl rfl (Nat.le_of_ble_eq_true rfl) rfl ⟨Nat.le_of_ble_eq_true rfl, Nat.le_of_ble_eq_true rfl, Nat.le_of_ble_eq_true rfl, Nat.le_of_ble_eq_true rfl⟩) (fun z μ1 hp => ?_)
  obtain ⟨hp, rfl⟩ := hp
  refine z_if_ne (tgt := 25) C dX6_bound_12 (by decide) (fun h1 => ?_) (fun h1 => ?_)
  rotate_left
  · exact zx_throwS C Rm Tb E hl0 thr_A st_206 dX6_bound_15 dX6_bound_18 dX6_bound_19 dX6_bound_21 dX6_bound_24 rfl (by decide) (by decide) (⟨Or.inr ⟨rfl, h8, by omega⟩, zO.rf⟩)
  refine z_aload_n C dX6_bound_25 rfl ?_
  refine z_iload_n C dX6_bound_26 rfl ?_
  refine z_ci C (z_rS C Rm qs_X6_boundOf m_368 (k_boundOf0 (hK.at h8) (s := s) (by omega)) dX6_bound_27 rfl rfl (Nat.le_of_ble_eq_true rfl) rfl ⟨Nat.le_of_ble_eq_true rfl, Nat.le_of_ble_eq_true rfl, Nat.le_of_ble_eq_true rfl, Nat.le_of_ble_eq_true rfl⟩) (fun z3 μ3 hq3 => ?_)
  obtain ⟨rfl, rfl⟩ := hq3
  refine zx_ret C E (fun X C E => ?_)
  exact z_iret C E dX6_bound_30 (Nat.le_of_ble_eq_true rfl) (Nat.le_of_ble_eq_true rfl) ⟨rfl, ⟨h8, by omega⟩, zO.rf⟩
set_option maxRecDepth 100000 in
set_option maxHeartbeats 4000000 in
theorem k_contours {l : Launch} {D : va_G} {N0 : Nat} (hl0 : l.stackTraces = false) {K : Nat} {μ : zM} (hK : isKe D μ K) {r : Int} (hr : zir r) : zxMet l yX6_contours cX6_contours 2 (some .int) ({ frames := 7, cells := 2, slots := 12, locals := 280 } : Room) D N0 [.ref K, zi r] μ (zQI D N0 (fun z u => z = 0 ∧ (0 ≤ r ∧ r < 8) ∧ zKO K μ u)) (zXR K μ r True) := by
  refine zxMet_of rfl (Nat.le_of_ble_eq_true rfl) (fun X C Rm Tb E => ?_)
  refine z_aload_n C dX6_contours_0 rfl ?_
  refine z_get C hK.obj rfl 5 (by decide) m_228 inz6 rfl rfl dX6_contours_1 ?_
  refine z_aload_n C dX6_contours_4 rfl ?_
  refine z_iload_n C dX6_contours_5 rfl ?_
  refine zx_cr C (zx_rV C Rm qv_X6_regionAt m_646 (k_regionAt hl0 hK hr) hK.obj rfl dX6_contours_6 rfl rfl (Nat.le_of_ble_eq_true rfl) rfl (by decide)) (fun En μx hx => zx_prop C Tb E (by decide) (⟨Or.inl ⟨hx.1, hx.2.1⟩, zO.eq hx.2.2⟩)) (fun z μ1 hp => ?_)
  obtain ⟨rfl, h8, rfl⟩ := hp
  have b8 := zReg_b (K := K) h8
  refine z_ci C (z_rV C Rm qv_X3_countContours m_393 (c_contours0 hK.ou (hK.at h8) (by omega)) hK.ou.1 rfl dX6_contours_9 rfl rfl (Nat.le_of_ble_eq_true rfl) rfl ⟨Nat.le_of_ble_eq_true rfl, Nat.le_of_ble_eq_true rfl, Nat.le_of_ble_eq_true rfl, Nat.le_of_ble_eq_true rfl⟩) (fun z3 μ3 hq3 => ?_)
  obtain ⟨rfl, hq1, hq2⟩ := hq3
  refine zx_ret C E (fun X C E => ?_)
  exact z_iret C E dX6_contours_12 (Nat.le_of_ble_eq_true rfl) (Nat.le_of_ble_eq_true rfl) ⟨rfl, h8, zkeep hq2 (fun q hq => by omega)⟩
set_option maxRecDepth 100000 in
set_option maxHeartbeats 4000000 in
theorem k_corners {l : Launch} {D : va_G} {N0 : Nat} (hl0 : l.stackTraces = false) {K : Nat} {μ : zM} (hK : isKe D μ K) {r c : Int} (hr : zir r) (hc : zir c) : zxMet l yX6_corners cX6_corners 3 (some .int) ({ frames := 8, cells := 3, slots := 18, locals := 320 } : Room) D N0 [.ref K, zi r, zi c] μ (zQI D N0 (fun _ _ => False)) (fun En u => En = eIOB ∧ zKO K μ u) := by
  refine zxMet_of rfl (Nat.le_of_ble_eq_true rfl) (fun X C Rm Tb E => ?_)
  refine z_aload_n C dX6_corners_0 rfl ?_
  refine z_iload_n C dX6_corners_1 rfl ?_
  refine z_iload_n C dX6_corners_2 rfl ?_
  refine z_iconst C dX6_corners_3 ?_
  refine zx_cv C (zx_rV C Rm qv_X6_walkTo m_889 (k_walkTo hl0 hK hr hc (k := 0) (by decide)) hK.obj rfl dX6_corners_4 rfl rfl (Nat.le_of_ble_eq_true rfl) rfl (by decide)) (fun En μx hx => zx_prop C Tb E (by decide) (hx)) (fun μ1 hp => ?_)
  exact hp.elim
set_option maxRecDepth 100000 in
set_option maxHeartbeats 4000000 in
theorem k_areaOf {l : Launch} {D : va_G} {N0 : Nat} (hl0 : l.stackTraces = false) {K : Nat} {μ : zM} (hK : isKe D μ K) {r c : Int} (hr : zir r) (hc : zir c) : zxMet l yX6_areaOf cX6_areaOf 3 (some .int) ({ frames := 8, cells := 3, slots := 18, locals := 320 } : Room) D N0 [.ref K, zi r, zi c] μ (zQI D N0 (fun _ _ => False)) (fun En u => En = eIOB ∧ zKO K μ u) := by
  refine zxMet_of rfl (Nat.le_of_ble_eq_true rfl) (fun X C Rm Tb E => ?_)
  refine z_aload_n C dX6_areaOf_0 rfl ?_
  refine z_iload_n C dX6_areaOf_1 rfl ?_
  refine z_iload_n C dX6_areaOf_2 rfl ?_
  refine z_iconst C dX6_areaOf_3 ?_
  refine zx_cv C (zx_rV C Rm qv_X6_walkTo m_889 (k_walkTo hl0 hK hr hc (k := 0) (by decide)) hK.obj rfl dX6_areaOf_4 rfl rfl (Nat.le_of_ble_eq_true rfl) rfl (by decide)) (fun En μx hx => zx_prop C Tb E (by decide) (hx)) (fun μ1 hp => ?_)
  exact hp.elim
set_option maxRecDepth 100000 in
set_option maxHeartbeats 4000000 in
theorem k_cornerX {l : Launch} {D : va_G} {N0 : Nat} (hl0 : l.stackTraces = false) {K : Nat} {μ : zM} (hK : isKe D μ K) {r c k : Int} (hr : zir r) (hc : zir c) (hk : zir k) : zxMet l yX6_cornerX cX6_cornerX 4 (some .int) ({ frames := 8, cells := 3, slots := 18, locals := 320 } : Room) D N0 [.ref K, zi r, zi c, zi k] μ (zQI D N0 (fun _ _ => False)) (fun En u => En = eIOB ∧ zKO K μ u) := by
  refine zxMet_of rfl (Nat.le_of_ble_eq_true rfl) (fun X C Rm Tb E => ?_)
  refine z_aload_n C dX6_cornerX_0 rfl ?_
  refine z_iload_n C dX6_cornerX_1 rfl ?_
  refine z_iload_n C dX6_cornerX_2 rfl ?_
  refine z_iload_n C dX6_cornerX_3 rfl ?_
  refine zx_cv C (zx_rV C Rm qv_X6_walkTo m_889 (k_walkTo hl0 hK hr hc hk) hK.obj rfl dX6_cornerX_4 rfl rfl (Nat.le_of_ble_eq_true rfl) rfl (by decide)) (fun En μx hx => zx_prop C Tb E (by decide) (hx)) (fun μ1 hp => ?_)
  exact hp.elim
set_option maxRecDepth 100000 in
set_option maxHeartbeats 4000000 in
theorem k_cornerY {l : Launch} {D : va_G} {N0 : Nat} (hl0 : l.stackTraces = false) {K : Nat} {μ : zM} (hK : isKe D μ K) {r c k : Int} (hr : zir r) (hc : zir c) (hk : zir k) : zxMet l yX6_cornerY cX6_cornerY 4 (some .int) ({ frames := 8, cells := 3, slots := 18, locals := 320 } : Room) D N0 [.ref K, zi r, zi c, zi k] μ (zQI D N0 (fun _ _ => False)) (fun En u => En = eIOB ∧ zKO K μ u) := by
  refine zxMet_of rfl (Nat.le_of_ble_eq_true rfl) (fun X C Rm Tb E => ?_)
  refine z_aload_n C dX6_cornerY_0 rfl ?_
  refine z_iload_n C dX6_cornerY_1 rfl ?_
  refine z_iload_n C dX6_cornerY_2 rfl ?_
  refine z_iload_n C dX6_cornerY_3 rfl ?_
  refine zx_cv C (zx_rV C Rm qv_X6_walkTo m_889 (k_walkTo hl0 hK hr hc hk) hK.obj rfl dX6_cornerY_4 rfl rfl (Nat.le_of_ble_eq_true rfl) rfl (by decide)) (fun En μx hx => zx_prop C Tb E (by decide) (hx)) (fun μ1 hp => ?_)
  exact hp.elim
set_option maxRecDepth 100000 in
set_option maxHeartbeats 4000000 in
theorem k_strips {l : Launch} {D : va_G} {N0 : Nat} (hl0 : l.stackTraces = false) {K : Nat} {μ : zM} (hK : isKe D μ K) {r : Int} (hr : zir r) : zxMet l yX6_strips cX6_strips 2 (some .int) ({ frames := 7, cells := 2, slots := 12, locals := 280 } : Room) D N0 [.ref K, zi r] μ (zQI D N0 (fun z u => z = 0 ∧ (0 ≤ r ∧ r < 8) ∧ zKO K μ u)) (zXR K μ r True) := by
  refine zxMet_of rfl (Nat.le_of_ble_eq_true rfl) (fun X C Rm Tb E => ?_)
  refine z_aload_n C dX6_strips_0 rfl ?_
  refine z_get C hK.obj rfl 6 (by decide) m_229 inz6 rfl rfl dX6_strips_1 ?_
  refine z_aload_n C dX6_strips_4 rfl ?_
  refine z_iload_n C dX6_strips_5 rfl ?_
  refine zx_cr C (zx_rV C Rm qv_X6_regionAt m_646 (k_regionAt hl0 hK hr) hK.obj rfl dX6_strips_6 rfl rfl (Nat.le_of_ble_eq_true rfl) rfl (by decide)) (fun En μx hx => zx_prop C Tb E (by decide) (⟨Or.inl ⟨hx.1, hx.2.1⟩, zO.eq hx.2.2⟩)) (fun z μ1 hp => ?_)
  obtain ⟨rfl, h8, rfl⟩ := hp
  have b8 := zReg_b (K := K) h8
  refine z_ci C (z_rV C Rm qv_X5_countStrips m_458 (c_strips0 hK.st (hK.at h8) (by omega)) hK.st.1 rfl dX6_strips_9 rfl rfl (Nat.le_of_ble_eq_true rfl) rfl ⟨Nat.le_of_ble_eq_true rfl, Nat.le_of_ble_eq_true rfl, Nat.le_of_ble_eq_true rfl, Nat.le_of_ble_eq_true rfl⟩) (fun z3 μ3 hq3 => ?_)
  obtain ⟨rfl, hq1, hq2⟩ := hq3
  refine zx_ret C E (fun X C E => ?_)
  exact z_iret C E dX6_strips_12 (Nat.le_of_ble_eq_true rfl) (Nat.le_of_ble_eq_true rfl) ⟨rfl, h8, zkeep hq2 (fun q hq => by omega)⟩
set_option maxRecDepth 100000 in
set_option maxHeartbeats 4000000 in
theorem k_strip {l : Launch} {D : va_G} {N0 : Nat} (hl0 : l.stackTraces = false) {K : Nat} {μ : zM} (hK : isKe D μ K) {r c k : Int} (hr : zir r) (hc : zir c) (hk : zir k) : zxMet l yX6_strip cX6_strip 5 (some .int) ({ frames := 7, cells := 2, slots := 12, locals := 280 } : Room) D N0 [.ref K, zi r, zi c, zi k] μ (zQI D N0 (fun _ _ => False)) (fun En u => En = eIOB ∧ zKO K μ u) := by
  refine zxMet_of rfl (Nat.le_of_ble_eq_true rfl) (fun X C Rm Tb E => ?_)
  refine z_aload_n C dX6_strip_0 rfl ?_
  refine z_iload_n C dX6_strip_1 rfl ?_
  refine zx_cr C (zx_rV C Rm qv_X6_regionAt m_646 (k_regionAt hl0 hK hr) hK.obj rfl dX6_strip_2 rfl rfl (Nat.le_of_ble_eq_true rfl) rfl (by decide)) (fun En μx hx => zx_prop C Tb E (by decide) (⟨hx.1, zO.eq hx.2.2⟩)) (fun z μ1 hp => ?_)
  obtain ⟨rfl, h8, rfl⟩ := hp
  have b8 := zReg_b (K := K) h8
  refine z_astore (L' := [_, _, _, _, _]) C dX6_strip_5 rfl ?_
  refine z_aload_n C dX6_strip_7 rfl ?_
  refine z_get C hK.obj rfl 6 (by decide) m_229 inz6 rfl rfl dX6_strip_8 ?_
  refine z_aload C dX6_strip_11 rfl ?_
  refine z_iload_n C dX6_strip_13 rfl ?_
  refine z_ci C (z_rV C Rm qv_X5_goTo m_934 (c_sgoTo0 hK.st (hK.at h8) (by omega) hc) hK.st.1 rfl dX6_strip_14 rfl rfl (Nat.le_of_ble_eq_true rfl) rfl ⟨Nat.le_of_ble_eq_true rfl, Nat.le_of_ble_eq_true rfl, Nat.le_of_ble_eq_true rfl, Nat.le_of_ble_eq_true rfl⟩) (fun z3 μ3 hq3 => ?_)
  obtain ⟨rfl, hq1, hq2⟩ := hq3
  refine z_if_ne (tgt := 30) C dX6_strip_17 (by decide) (fun hno => absurd hno (by omega)) (fun _ => ?_)
  exact zx_throwS C Rm Tb E hl0 thr_B st_240 dX6_strip_20 dX6_strip_23 dX6_strip_24 dX6_strip_26 dX6_strip_29 rfl (by decide) (by decide) (⟨rfl, zkeep hq2 (fun q hq => by omega)⟩)
set_option maxRecDepth 100000 in
set_option maxHeartbeats 4000000 in
theorem k_num {l : Launch} {D : va_G} {N0 : Nat} {x y k : Int} {μ : zM} (hx : -32 ≤ x ∧ x ≤ 31) (hy : -32 ≤ y ∧ y ≤ 31) (hk : 0 ≤ k ∧ k ≤ 3) : zMet l yX6_numberOfLine cX6_numberOfLine 3 (some .int) ({ frames := 0, cells := 0, slots := 0, locals := 0 } : Room) D N0 [zi x, zi y, zi k] μ (zQI D N0 (fun z u => (-64 ≤ z ∧ z ≤ 64) ∧ u = μ)) := by
  refine zMet_of rfl (Nat.le_of_ble_eq_true rfl) (fun X C Rm hin E => ?_)
  rcases (by omega : k = 0 ∨ k = 1 ∨ k = 2 ∨ k = 3) with rfl | rfl | rfl | rfl
  · refine z_iload_n C dX6_numberOfLine_0 rfl ?_
    refine z_tableIn (tgt := 28) C dX6_numberOfLine_1 (by decide) (by decide) rfl (by decide) ?_
    refine z_iload_n C dX6_numberOfLine_28 rfl ?_
    exact z_iret C E dX6_numberOfLine_29 (Nat.le_of_ble_eq_true rfl) (Nat.le_of_ble_eq_true rfl) ⟨by omega, rfl⟩
  · refine z_iload_n C dX6_numberOfLine_0 rfl ?_
    refine z_tableIn (tgt := 30) C dX6_numberOfLine_1 (by decide) (by decide) rfl (by decide) ?_
    refine z_iload_n C dX6_numberOfLine_30 rfl ?_
    exact z_iret C E dX6_numberOfLine_31 (Nat.le_of_ble_eq_true rfl) (Nat.le_of_ble_eq_true rfl) ⟨by omega, rfl⟩
  · refine z_iload_n C dX6_numberOfLine_0 rfl ?_
    refine z_tableIn (tgt := 32) C dX6_numberOfLine_1 (by decide) (by decide) rfl (by decide) ?_
    refine z_iload_n C dX6_numberOfLine_32 rfl ?_
    refine z_iload_n C dX6_numberOfLine_33 rfl ?_
    refine z_iadd C dX6_numberOfLine_34 ?_
    exact z_iret C E dX6_numberOfLine_35 (Nat.le_of_ble_eq_true rfl) (Nat.le_of_ble_eq_true rfl) ⟨by omega, rfl⟩
  · refine z_iload_n C dX6_numberOfLine_0 rfl ?_
    refine z_tableOut (tgt := 36) C dX6_numberOfLine_1 (by omega) (by decide) ?_
    refine z_iload_n C dX6_numberOfLine_36 rfl ?_
    refine z_iload_n C dX6_numberOfLine_37 rfl ?_
    refine z_isub C dX6_numberOfLine_38 ?_
    exact z_iret C E dX6_numberOfLine_39 (Nat.le_of_ble_eq_true rfl) (Nat.le_of_ble_eq_true rfl) ⟨by omega, rfl⟩
set_option maxRecDepth 100000 in
set_option maxHeartbeats 4000000 in
theorem k_onLines {l : Launch} {D : va_G} {N0 : Nat} {y k e f : Int} {μ : zM} (hy : -32 ≤ y ∧ y ≤ 31) (hk : 0 ≤ k ∧ k ≤ 3) (he : 1 ≤ e ∧ e ≤ 20) (hf : -100 ≤ f ∧ f ≤ 100) : zMet l yX6_fieldsOnLines cX6_fieldsOnLines 7 (some .long) ({ frames := 1, cells := 0, slots := 0, locals := 40 } : Room) D N0 [zi y, zi k, zi e, zi f] μ (zQL D N0 (fun _ u => u = μ)) := by
  refine zMet_of rfl (Nat.le_of_ble_eq_true rfl) (fun X C Rm hin E => ?_)
  refine z_lconst_0 C dX6_fieldsOnLines_0 ?_
  refine z_lstore (L' := [_, _, _, _, _, _, _]) C dX6_fieldsOnLines_1 rfl ?_
  refine z_bipush C dX6_fieldsOnLines_3 ?_
  refine z_istore (L' := [_, _, _, _, _, _, _]) C dX6_fieldsOnLines_5 rfl ?_
  have loop : ∀ (n : Nat) (x : Int) (on : Int64), x + n = 32 → -32 ≤ x → Z X μ 0 0 7 [some (zi y), some (zi k), some (zi e), some (zi f), some (.long on), none, some (zi x)] [] := by
    intro n
    induction n with
    | zero =>
      intro x on hn h0
      refine z_iload C dX6_fieldsOnLines_7 rfl ?_
      refine z_bipush C dX6_fieldsOnLines_9 ?_
      refine z_icmp_gt (tgt := 48) C dX6_fieldsOnLines_11 (by decide) (fun _ => ?_) (fun hno => absurd hno (by omega))
      refine z_lload C dX6_fieldsOnLines_48 rfl ?_
      exact z_lret C E dX6_fieldsOnLines_50 (Nat.le_of_ble_eq_true rfl) (Nat.le_of_ble_eq_true rfl) rfl
    | succ n ih =>
      intro x on hn h0
      refine z_iload C dX6_fieldsOnLines_7 rfl ?_
      refine z_bipush C dX6_fieldsOnLines_9 ?_
      refine z_icmp_gt (tgt := 48) C dX6_fieldsOnLines_11 (by decide) (fun hno => absurd hno (by omega)) (fun _ => ?_)
      refine z_iload_n C dX6_fieldsOnLines_14 rfl ?_
      refine z_if_le (tgt := 42) C dX6_fieldsOnLines_15 (by decide) (fun hno => absurd hno (by omega)) (fun _ => ?_)
      refine z_iload C dX6_fieldsOnLines_18 rfl ?_
      refine z_iload_n C dX6_fieldsOnLines_20 rfl ?_
      refine z_iload_n C dX6_fieldsOnLines_21 rfl ?_
      refine z_ci C (z_rS C Rm qs_X6_numberOfLine m_957 (k_num (x := x) (by omega) hy hk) dX6_fieldsOnLines_22 rfl rfl (Nat.le_of_ble_eq_true rfl) rfl ⟨Nat.le_of_ble_eq_true rfl, Nat.le_of_ble_eq_true rfl, Nat.le_of_ble_eq_true rfl, Nat.le_of_ble_eq_true rfl⟩) (fun z3 μ3 hq3 => ?_)
      refine z_iload_n C dX6_fieldsOnLines_25 rfl ?_
      refine z_isub C dX6_fieldsOnLines_26 ?_
      refine z_iload_n C dX6_fieldsOnLines_27 rfl ?_
      obtain ⟨hz3, rfl⟩ := hq3
      refine z_iremA C dX6_fieldsOnLines_28 (by omega) (by omega) (fun v hv => ?_)
      refine z_if_ne (tgt := 42) C dX6_fieldsOnLines_29 (by decide) (fun h5 => ?_) (fun h5 => ?_)
      · refine z_iinc (L' := [_, _, _, _, _, _, _]) C dX6_fieldsOnLines_42 rfl rfl ?_
        refine z_goto (tgt := 7) C dX6_fieldsOnLines_45 (by decide) ?_
        exact ih (x + 1) _ (by omega) (by omega)
      · refine z_lload C dX6_fieldsOnLines_32 rfl ?_
        refine z_iload C dX6_fieldsOnLines_34 rfl ?_
        refine z_cl C (z_rS C Rm qs_X6_bit m_960 (c_bit) dX6_fieldsOnLines_36 rfl rfl (Nat.le_of_ble_eq_true rfl) rfl ⟨Nat.le_of_ble_eq_true rfl, Nat.le_of_ble_eq_true rfl, Nat.le_of_ble_eq_true rfl, Nat.le_of_ble_eq_true rfl⟩) (fun z4 μ4 hq4 => ?_)
        obtain ⟨rfl, rfl⟩ := hq4
        refine z_lor C dX6_fieldsOnLines_39 ?_
        refine z_lstore (L' := [_, _, _, _, _, _, _]) C dX6_fieldsOnLines_40 rfl ?_
        refine z_iinc (L' := [_, _, _, _, _, _, _]) C dX6_fieldsOnLines_42 rfl rfl ?_
        refine z_goto (tgt := 7) C dX6_fieldsOnLines_45 (by decide) ?_
        exact ih (x + 1) _ (by omega) (by omega)
  exact loop 64 (-32) 0 (by omega) (by omega)
set_option maxRecDepth 100000 in
set_option maxHeartbeats 4000000 in
theorem k_behind0 {l : Launch} {D : va_G} {N0 : Nat} {o : Nat} {y k : Int} {μ : zM} (hF : isF D μ o zF) (hy : -32 ≤ y ∧ y ≤ 31) (hk : 0 ≤ k ∧ k ≤ 3) : zMet l yX6_fieldsBehind cX6_fieldsBehind 3 (some .long) ({ frames := 1, cells := 0, slots := 0, locals := 40 } : Room) D N0 [.ref o, zi y, zi k] μ (zQL D N0 (fun _ u => u = μ)) := by
  refine zMet_of rfl (Nat.le_of_ble_eq_true rfl) (fun X C Rm hin E => ?_)
  rcases (by omega : k = 0 ∨ k = 1 ∨ k = 2 ∨ k = 3) with rfl | rfl | rfl | rfl
  · refine z_iload_n C dX6_fieldsBehind_0 rfl ?_
    refine z_tableIn (tgt := 28) C dX6_fieldsBehind_1 (by decide) (by decide) rfl (by decide) ?_
    refine z_aload_n C dX6_fieldsBehind_28 rfl ?_
    refine z_iload_n C dX6_fieldsBehind_29 rfl ?_
    refine z_cl C (z_rV C Rm qv_X0_row m_714 (c_row hF (y := y) (by omega)) hF.1 rfl dX6_fieldsBehind_30 rfl rfl (Nat.le_of_ble_eq_true rfl) rfl ⟨Nat.le_of_ble_eq_true rfl, Nat.le_of_ble_eq_true rfl, Nat.le_of_ble_eq_true rfl, Nat.le_of_ble_eq_true rfl⟩) (fun z3 μ3 hq3 => ?_)
    refine z_iconst C dX6_fieldsBehind_33 ?_
    refine z_lshl C dX6_fieldsBehind_34 ?_
    obtain ⟨rfl, rfl⟩ := hq3
    exact z_lret C E dX6_fieldsBehind_35 (Nat.le_of_ble_eq_true rfl) (Nat.le_of_ble_eq_true rfl) rfl
  · refine z_iload_n C dX6_fieldsBehind_0 rfl ?_
    refine z_tableIn (tgt := 36) C dX6_fieldsBehind_1 (by decide) (by decide) rfl (by decide) ?_
    refine z_aload_n C dX6_fieldsBehind_36 rfl ?_
    refine z_iload_n C dX6_fieldsBehind_37 rfl ?_
    refine z_iconst C dX6_fieldsBehind_38 ?_
    refine z_isub C dX6_fieldsBehind_39 ?_
    refine z_cl C (z_rV C Rm qv_X0_row m_714 (c_row hF (y := y - 1) (by omega)) hF.1 rfl dX6_fieldsBehind_40 rfl rfl (Nat.le_of_ble_eq_true rfl) rfl ⟨Nat.le_of_ble_eq_true rfl, Nat.le_of_ble_eq_true rfl, Nat.le_of_ble_eq_true rfl, Nat.le_of_ble_eq_true rfl⟩) (fun z3 μ3 hq3 => ?_)
    obtain ⟨rfl, rfl⟩ := hq3
    exact z_lret C E dX6_fieldsBehind_43 (Nat.le_of_ble_eq_true rfl) (Nat.le_of_ble_eq_true rfl) rfl
  · refine z_iload_n C dX6_fieldsBehind_0 rfl ?_
    refine z_tableIn (tgt := 44) C dX6_fieldsBehind_1 (by decide) (by decide) rfl (by decide) ?_
    refine z_aload_n C dX6_fieldsBehind_44 rfl ?_
    refine z_iload_n C dX6_fieldsBehind_45 rfl ?_
    refine z_iconst C dX6_fieldsBehind_46 ?_
    refine z_iadd C dX6_fieldsBehind_47 ?_
    refine z_cl C (z_rV C Rm qv_X0_row m_714 (c_row hF (y := y + 1) (by omega)) hF.1 rfl dX6_fieldsBehind_48 rfl rfl (Nat.le_of_ble_eq_true rfl) rfl ⟨Nat.le_of_ble_eq_true rfl, Nat.le_of_ble_eq_true rfl, Nat.le_of_ble_eq_true rfl, Nat.le_of_ble_eq_true rfl⟩) (fun z3 μ3 hq3 => ?_)
    refine z_iconst C dX6_fieldsBehind_51 ?_
    refine z_lshl C dX6_fieldsBehind_52 ?_
    obtain ⟨rfl, rfl⟩ := hq3
    exact z_lret C E dX6_fieldsBehind_53 (Nat.le_of_ble_eq_true rfl) (Nat.le_of_ble_eq_true rfl) rfl
  · refine z_iload_n C dX6_fieldsBehind_0 rfl ?_
    refine z_tableOut (tgt := 54) C dX6_fieldsBehind_1 (by omega) (by decide) ?_
    refine z_aload_n C dX6_fieldsBehind_54 rfl ?_
    refine z_iload_n C dX6_fieldsBehind_55 rfl ?_
    refine z_iconst C dX6_fieldsBehind_56 ?_
    refine z_isub C dX6_fieldsBehind_57 ?_
    refine z_cl C (z_rV C Rm qv_X0_row m_714 (c_row hF (y := y - 1) (by omega)) hF.1 rfl dX6_fieldsBehind_58 rfl rfl (Nat.le_of_ble_eq_true rfl) rfl ⟨Nat.le_of_ble_eq_true rfl, Nat.le_of_ble_eq_true rfl, Nat.le_of_ble_eq_true rfl, Nat.le_of_ble_eq_true rfl⟩) (fun z3 μ3 hq3 => ?_)
    refine z_iconst C dX6_fieldsBehind_61 ?_
    refine z_lshl C dX6_fieldsBehind_62 ?_
    obtain ⟨rfl, rfl⟩ := hq3
    exact z_lret C E dX6_fieldsBehind_63 (Nat.le_of_ble_eq_true rfl) (Nat.le_of_ble_eq_true rfl) rfl
set_option maxRecDepth 100000 in
set_option maxHeartbeats 4000000 in
theorem k_hatch {l : Launch} {D : va_G} {N0 : Nat} (hl0 : l.stackTraces = false) {K : Nat} {μ : zM} (hK : isKe D μ K) {r k e f : Int} (hr : zir r) (hk : zir k) (he : zir e) (hf : zir f) : zxMet l yX6_hatch cX6_hatch 10 (some .int) ({ frames := 7, cells := 2, slots := 12, locals := 280 } : Room) D N0 [.ref K, zi r, zi k, zi e, zi f] μ (zQI D N0 (fun z u => z = 0 ∧ ((0 ≤ r ∧ r < 8) ∧ (0 ≤ k ∧ k ≤ 3) ∧ (1 ≤ e ∧ e ≤ 20) ∧ -100 ≤ f ∧ f ≤ 100) ∧ zKO K μ u)) (zXR K μ r ((0 ≤ k ∧ k ≤ 3) ∧ (1 ≤ e ∧ e ≤ 20) ∧ -100 ≤ f ∧ f ≤ 100)) := by
  refine zxMet_of rfl (Nat.le_of_ble_eq_true rfl) (fun X C Rm Tb E => ?_)
  refine z_aload_n C dX6_hatch_0 rfl ?_
  refine z_iload_n C dX6_hatch_1 rfl ?_
  refine zx_cr C (zx_rV C Rm qv_X6_regionAt m_646 (k_regionAt hl0 hK hr) hK.obj rfl dX6_hatch_2 rfl rfl (Nat.le_of_ble_eq_true rfl) rfl (by decide)) (fun En μx hx => zx_prop C Tb E (by decide) (⟨Or.inl ⟨hx.1, hx.2.1⟩, zO.eq hx.2.2⟩)) (fun z μ1 hp => ?_)
  obtain ⟨rfl, h8, rfl⟩ := hp
  have b8 := zReg_b (K := K) h8
  refine z_astore (L' := [_, _, _, _, _, _, _, _, _, _]) C dX6_hatch_5 rfl ?_
  refine z_iload_n C dX6_hatch_7 rfl ?_
  refine z_iload_n C dX6_hatch_8 rfl ?_
  refine z_iload C dX6_hatch_9 rfl ?_
  refine zx_cv C (zx_rS C Rm qs_X6_checkHatching m_947 (k_checkHatching hl0 hk he hf) dX6_hatch_11 rfl rfl (by decide) rfl (by decide)) (fun En μx hx => zx_prop C Tb E (by decide) (⟨Or.inr ⟨hx.1, h8, hx.2.1⟩, zO.eq hx.2.2⟩)) (fun μ1 hp => ?_)
  obtain ⟨hc, rfl⟩ := hp
  have hF := hK.at h8
  refine z_iconst C dX6_hatch_14 ?_
  refine z_istore (L' := [_, _, _, _, _, _, _, _, _, _]) C dX6_hatch_15 rfl ?_
  refine z_bipush C dX6_hatch_17 ?_
  refine z_istore (L' := [_, _, _, _, _, _, _, _, _, _]) C dX6_hatch_19 rfl ?_
  have loop : ∀ (n : Nat) (y : Int) (L8 : Option Value), y + n = 32 → -32 ≤ y → Z X μ1 2 12 21 [some (.ref K), some (zi r), some (zi k), some (zi e), some (zi f), some (.ref (zReg K r)), some (zi 0), some (zi y), L8, none] [] := by
    intro n
    induction n with
    | zero =>
      intro y L8 hn h0
      refine z_iload C dX6_hatch_21 rfl ?_
      refine z_bipush C dX6_hatch_23 ?_
      refine z_icmp_gt (tgt := 76) C dX6_hatch_25 (by decide) (fun _ => ?_) (fun hno => absurd hno (by omega))
      refine z_iload C dX6_hatch_76 rfl ?_
      refine zx_ret C E (fun X C E => ?_)
      exact z_iret C E dX6_hatch_78 (Nat.le_of_ble_eq_true rfl) (Nat.le_of_ble_eq_true rfl) ⟨rfl, ⟨h8, hc⟩, zO.rf⟩
    | succ n ih =>
      intro y L8 hn h0
      refine z_iload C dX6_hatch_21 rfl ?_
      refine z_bipush C dX6_hatch_23 ?_
      refine z_icmp_gt (tgt := 76) C dX6_hatch_25 (by decide) (fun hno => absurd hno (by omega)) (fun _ => ?_)
      refine z_aload C dX6_hatch_28 rfl ?_
      refine z_iload C dX6_hatch_30 rfl ?_
      refine z_cl C (z_rV C Rm qv_X0_row m_714 (c_row hF (y := y) (by omega)) hF.1 rfl dX6_hatch_32 rfl rfl (Nat.le_of_ble_eq_true rfl) rfl ⟨Nat.le_of_ble_eq_true rfl, Nat.le_of_ble_eq_true rfl, Nat.le_of_ble_eq_true rfl, Nat.le_of_ble_eq_true rfl⟩) (fun z3 μ3 hq3 => ?_)
      obtain ⟨rfl, rfl⟩ := hq3
      rw [rowv_z]
      refine z_aload C dX6_hatch_35 rfl ?_
      refine z_iload C dX6_hatch_37 rfl ?_
      refine z_iload_n C dX6_hatch_39 rfl ?_
      refine z_cl C (z_rS C Rm qs_X6_fieldsBehind m_951 (k_behind0 hF (y := y) (by omega) hc.1) dX6_hatch_40 rfl rfl (Nat.le_of_ble_eq_true rfl) rfl ⟨Nat.le_of_ble_eq_true rfl, Nat.le_of_ble_eq_true rfl, Nat.le_of_ble_eq_true rfl, Nat.le_of_ble_eq_true rfl⟩) (fun z3 μ3 hq3 => ?_)
      subst hq3
      refine z_ldc2 C m_713 dX6_hatch_43 ?_
      refine z_lxor C dX6_hatch_46 ?_
      refine z_land C dX6_hatch_47 ?_
      rw [Int64.zero_and]
      refine z_lstore (L' := [_, _, _, _, _, _, _, _, _, _]) C dX6_hatch_48 rfl ?_
      refine z_iload C dX6_hatch_50 rfl ?_
      refine z_lload C dX6_hatch_52 rfl ?_
      refine z_iload C dX6_hatch_54 rfl ?_
      refine z_iload_n C dX6_hatch_56 rfl ?_
      refine z_iload_n C dX6_hatch_57 rfl ?_
      refine z_iload C dX6_hatch_58 rfl ?_
      refine z_cl C (z_rS C Rm qs_X6_fieldsOnLines m_954 (k_onLines (y := y) (by omega) hc.1 hc.2.1 hc.2.2) dX6_hatch_60 rfl rfl (Nat.le_of_ble_eq_true rfl) rfl ⟨Nat.le_of_ble_eq_true rfl, Nat.le_of_ble_eq_true rfl, Nat.le_of_ble_eq_true rfl, Nat.le_of_ble_eq_true rfl⟩) (fun z4 μ3 hq3 => ?_)
      subst hq3
      refine z_land C dX6_hatch_63 ?_
      rw [Int64.zero_and]
      refine z_ci C (z_rS C Rm qs_J13_bitCount_95d88 m_318 (c_bitCount) dX6_hatch_64 rfl rfl (Nat.le_of_ble_eq_true rfl) rfl ⟨Nat.le_of_ble_eq_true rfl, Nat.le_of_ble_eq_true rfl, Nat.le_of_ble_eq_true rfl, Nat.le_of_ble_eq_true rfl⟩) (fun z5 μ3 hq3 => ?_)
      obtain ⟨rfl, rfl⟩ := hq3
      rw [show zbc 0 = 0 by decide +kernel]
      refine z_iadd C dX6_hatch_67 ?_
      refine z_istore (L' := [_, _, _, _, _, _, _, _, _, _]) C dX6_hatch_68 rfl ?_
      refine z_iinc (L' := [_, _, _, _, _, _, _, _, _, _]) C dX6_hatch_70 rfl rfl ?_
      refine z_goto (tgt := 21) C dX6_hatch_73 (by decide) ?_
      exact ih (y + 1) _ (by omega) (by omega)
  exact loop 64 (-32) none (by omega) (by omega)
set_option maxRecDepth 100000 in
set_option maxHeartbeats 4000000 in
theorem k_hatched {l : Launch} {D : va_G} {N0 : Nat} (hl0 : l.stackTraces = false) {K : Nat} {μ : zM} (hK : isKe D μ K) {r k e f : Int} (hr : zir r) (hk : zir k) (he : zir e) (hf : zir f) : zxMet l yX6_hatched cX6_hatched 8 (some .int) ({ frames := 7, cells := 2, slots := 12, locals := 280 } : Room) D N0 [.ref K, zi r, zi k, zi e, zi f] μ (zQI D N0 (fun z u => z = 0 ∧ ((0 ≤ r ∧ r < 8) ∧ (0 ≤ k ∧ k ≤ 3) ∧ (1 ≤ e ∧ e ≤ 20) ∧ -100 ≤ f ∧ f ≤ 100) ∧ zKO K μ u)) (zXR K μ r ((0 ≤ k ∧ k ≤ 3) ∧ (1 ≤ e ∧ e ≤ 20) ∧ -100 ≤ f ∧ f ≤ 100)) := by
  refine zxMet_of rfl (Nat.le_of_ble_eq_true rfl) (fun X C Rm Tb E => ?_)
  refine z_aload_n C dX6_hatched_0 rfl ?_
  refine z_iload_n C dX6_hatched_1 rfl ?_
  refine zx_cr C (zx_rV C Rm qv_X6_regionAt m_646 (k_regionAt hl0 hK hr) hK.obj rfl dX6_hatched_2 rfl rfl (Nat.le_of_ble_eq_true rfl) rfl (by decide)) (fun En μx hx => zx_prop C Tb E (by decide) (⟨Or.inl ⟨hx.1, hx.2.1⟩, zO.eq hx.2.2⟩)) (fun z μ1 hp => ?_)
  obtain ⟨rfl, h8, rfl⟩ := hp
  have b8 := zReg_b (K := K) h8
  refine z_astore (L' := [_, _, _, _, _, _, _, _]) C dX6_hatched_5 rfl ?_
  refine z_iload_n C dX6_hatched_7 rfl ?_
  refine z_iload_n C dX6_hatched_8 rfl ?_
  refine z_iload C dX6_hatched_9 rfl ?_
  refine zx_cv C (zx_rS C Rm qs_X6_checkHatching m_947 (k_checkHatching hl0 hk he hf) dX6_hatched_11 rfl rfl (by decide) rfl (by decide)) (fun En μx hx => zx_prop C Tb E (by decide) (⟨Or.inr ⟨hx.1, h8, hx.2.1⟩, zO.eq hx.2.2⟩)) (fun μ1 hp => ?_)
  obtain ⟨hc, rfl⟩ := hp
  have hF := hK.at h8
  refine z_iconst C dX6_hatched_14 ?_
  refine z_istore (L' := [_, _, _, _, _, _, _, _]) C dX6_hatched_15 rfl ?_
  refine z_bipush C dX6_hatched_17 ?_
  refine z_istore (L' := [_, _, _, _, _, _, _, _]) C dX6_hatched_19 rfl ?_
  have loop : ∀ (n : Nat) (y : Int), y + n = 32 → -32 ≤ y → Z X μ1 2 12 21 [some (.ref K), some (zi r), some (zi k), some (zi e), some (zi f), some (.ref (zReg K r)), some (zi 0), some (zi y)] [] := by
    intro n
    induction n with
    | zero =>
      intro y hn h0
      refine z_iload C dX6_hatched_21 rfl ?_
      refine z_bipush C dX6_hatched_23 ?_
      refine z_icmp_gt (tgt := 59) C dX6_hatched_25 (by decide) (fun _ => ?_) (fun hno => absurd hno (by omega))
      refine z_iload C dX6_hatched_59 rfl ?_
      refine zx_ret C E (fun X C E => ?_)
      exact z_iret C E dX6_hatched_61 (Nat.le_of_ble_eq_true rfl) (Nat.le_of_ble_eq_true rfl) ⟨rfl, ⟨h8, hc⟩, zO.rf⟩
    | succ n ih =>
      intro y hn h0
      refine z_iload C dX6_hatched_21 rfl ?_
      refine z_bipush C dX6_hatched_23 ?_
      refine z_icmp_gt (tgt := 59) C dX6_hatched_25 (by decide) (fun hno => absurd hno (by omega)) (fun _ => ?_)
      refine z_iload C dX6_hatched_28 rfl ?_
      refine z_aload C dX6_hatched_30 rfl ?_
      refine z_iload C dX6_hatched_32 rfl ?_
      refine z_cl C (z_rV C Rm qv_X0_row m_714 (c_row hF (y := y) (by omega)) hF.1 rfl dX6_hatched_34 rfl rfl (Nat.le_of_ble_eq_true rfl) rfl ⟨Nat.le_of_ble_eq_true rfl, Nat.le_of_ble_eq_true rfl, Nat.le_of_ble_eq_true rfl, Nat.le_of_ble_eq_true rfl⟩) (fun z3 μ3 hq3 => ?_)
      obtain ⟨rfl, rfl⟩ := hq3
      rw [rowv_z]
      refine z_iload C dX6_hatched_37 rfl ?_
      refine z_iload_n C dX6_hatched_39 rfl ?_
      refine z_iload_n C dX6_hatched_40 rfl ?_
      refine z_iload C dX6_hatched_41 rfl ?_
      refine z_cl C (z_rS C Rm qs_X6_fieldsOnLines m_954 (k_onLines (y := y) (by omega) hc.1 hc.2.1 hc.2.2) dX6_hatched_43 rfl rfl (Nat.le_of_ble_eq_true rfl) rfl ⟨Nat.le_of_ble_eq_true rfl, Nat.le_of_ble_eq_true rfl, Nat.le_of_ble_eq_true rfl, Nat.le_of_ble_eq_true rfl⟩) (fun z4 μ3 hq3 => ?_)
      subst hq3
      refine z_land C dX6_hatched_46 ?_
      rw [Int64.zero_and]
      refine z_ci C (z_rS C Rm qs_J13_bitCount_95d88 m_318 (c_bitCount) dX6_hatched_47 rfl rfl (Nat.le_of_ble_eq_true rfl) rfl ⟨Nat.le_of_ble_eq_true rfl, Nat.le_of_ble_eq_true rfl, Nat.le_of_ble_eq_true rfl, Nat.le_of_ble_eq_true rfl⟩) (fun z5 μ3 hq3 => ?_)
      obtain ⟨rfl, rfl⟩ := hq3
      rw [show zbc 0 = 0 by decide +kernel]
      refine z_iadd C dX6_hatched_50 ?_
      refine z_istore (L' := [_, _, _, _, _, _, _, _]) C dX6_hatched_51 rfl ?_
      refine z_iinc (L' := [_, _, _, _, _, _, _, _]) C dX6_hatched_53 rfl rfl ?_
      refine z_goto (tgt := 21) C dX6_hatched_56 (by decide) ?_
      exact ih (y + 1) (by omega) (by omega)
  exact loop 64 (-32) (by omega) (by omega)
set_option maxRecDepth 100000 in
set_option maxHeartbeats 4000000 in
theorem k_apart {l : Launch} {D : va_G} {N0 : Nat} (hl0 : l.stackTraces = false) {K : Nat} {μ : zM} (hK : isKe D μ K) {p q : Int} (hr : zir p) (hq0 : zir q) : zxMet l yX6_apart cX6_apart 6 (some .int) ({ frames := 7, cells := 2, slots := 12, locals := 280 } : Room) D N0 [.ref K, zi p, zi q] μ (zQI D N0 (fun z u => z = -1 ∧ ((0 ≤ p ∧ p < 8) ∧ 0 ≤ q ∧ q < 8) ∧ zKO K μ u)) (fun En u => En = eIOB ∧ ¬ ((0 ≤ p ∧ p < 8) ∧ 0 ≤ q ∧ q < 8) ∧ zKO K μ u) := by
  refine zxMet_of rfl (Nat.le_of_ble_eq_true rfl) (fun X C Rm Tb E => ?_)
  refine z_aload_n C dX6_apart_0 rfl ?_
  refine z_iload_n C dX6_apart_1 rfl ?_
  refine zx_cr C (zx_rV C Rm qv_X6_regionAt m_646 (k_regionAt hl0 hK hr) hK.obj rfl dX6_apart_2 rfl rfl (Nat.le_of_ble_eq_true rfl) rfl (by decide)) (fun En μx hx => zx_prop C Tb E (by decide) (⟨hx.1, fun w => hx.2.1 w.1, zO.eq hx.2.2⟩)) (fun z μ1 hp => ?_)
  obtain ⟨rfl, p8, rfl⟩ := hp
  refine z_astore_n (L' := [_, _, _, _, _, _]) C dX6_apart_5 rfl ?_
  refine z_aload_n C dX6_apart_6 rfl ?_
  refine z_iload_n C dX6_apart_7 rfl ?_
  refine zx_cr C (zx_rV C Rm qv_X6_regionAt m_646 (k_regionAt hl0 hK hq0) hK.obj rfl dX6_apart_8 rfl rfl (Nat.le_of_ble_eq_true rfl) rfl (by decide)) (fun En μx hx => zx_prop C Tb E (by decide) (⟨hx.1, fun w => hx.2.1 w.2, zO.eq hx.2.2⟩)) (fun z μ1 hp => ?_)
  obtain ⟨rfl, q8, rfl⟩ := hp
  have b8 := zReg_b (K := K) p8
  have c8 := zReg_b (K := K) q8
  refine z_astore (L' := [_, _, _, _, _, _]) C dX6_apart_11 rfl ?_
  refine z_aload_n C dX6_apart_13 rfl ?_
  refine z_ci C (z_rV C Rm qv_X0_isEmpty m_735 (c_isEmpty0 (hK.at p8)) (hK.at p8).1 rfl dX6_apart_14 rfl rfl (Nat.le_of_ble_eq_true rfl) rfl ⟨Nat.le_of_ble_eq_true rfl, Nat.le_of_ble_eq_true rfl, Nat.le_of_ble_eq_true rfl, Nat.le_of_ble_eq_true rfl⟩) (fun z3 μ3 hq3 => ?_)
  obtain ⟨rfl, rfl⟩ := hq3
  refine z_if_ne (tgt := 28) C dX6_apart_17 (by decide) (fun _ => ?_) (fun hno => absurd hno (by omega))
  refine z_iconst C dX6_apart_28 ?_
  refine zx_ret C E (fun X C E => ?_)
  exact z_iret C E dX6_apart_29 (Nat.le_of_ble_eq_true rfl) (Nat.le_of_ble_eq_true rfl) ⟨rfl, ⟨p8, q8⟩, zO.rf⟩
set_option maxRecDepth 100000 in
set_option maxHeartbeats 4000000 in
theorem k_isSameForm {l : Launch} {D : va_G} {N0 : Nat} (hl0 : l.stackTraces = false) {K : Nat} {μ : zM} (hK : isKe D μ K) {p q : Int} (hr : zir p) (hq0 : zir q) : zxMet l yX6_isSameForm cX6_isSameForm 5 (some .boolean) ({ frames := 7, cells := 2, slots := 12, locals := 280 } : Room) D N0 [.ref K, zi p, zi q] μ (zQI D N0 (fun z u => z = 1 ∧ ((0 ≤ p ∧ p < 8) ∧ 0 ≤ q ∧ q < 8) ∧ zKO K μ u)) (fun En u => En = eIOB ∧ ¬ ((0 ≤ p ∧ p < 8) ∧ 0 ≤ q ∧ q < 8) ∧ zKO K μ u) := by
  refine zxMet_of rfl (Nat.le_of_ble_eq_true rfl) (fun X C Rm Tb E => ?_)
  refine z_aload_n C dX6_isSameForm_0 rfl ?_
  refine z_iload_n C dX6_isSameForm_1 rfl ?_
  refine zx_cr C (zx_rV C Rm qv_X6_regionAt m_646 (k_regionAt hl0 hK hr) hK.obj rfl dX6_isSameForm_2 rfl rfl (Nat.le_of_ble_eq_true rfl) rfl (by decide)) (fun En μx hx => zx_prop C Tb E (by decide) (⟨hx.1, fun w => hx.2.1 w.1, zO.eq hx.2.2⟩)) (fun z μ1 hp => ?_)
  obtain ⟨rfl, p8, rfl⟩ := hp
  refine z_astore_n (L' := [_, _, _, _, _]) C dX6_isSameForm_5 rfl ?_
  refine z_aload_n C dX6_isSameForm_6 rfl ?_
  refine z_iload_n C dX6_isSameForm_7 rfl ?_
  refine zx_cr C (zx_rV C Rm qv_X6_regionAt m_646 (k_regionAt hl0 hK hq0) hK.obj rfl dX6_isSameForm_8 rfl rfl (Nat.le_of_ble_eq_true rfl) rfl (by decide)) (fun En μx hx => zx_prop C Tb E (by decide) (⟨hx.1, fun w => hx.2.1 w.2, zO.eq hx.2.2⟩)) (fun z μ1 hp => ?_)
  obtain ⟨rfl, q8, rfl⟩ := hp
  have b8 := zReg_b (K := K) p8
  have c8 := zReg_b (K := K) q8
  have hP := hK.at p8
  have hQ := hK.at q8
  have k3 := hK.spare
  refine z_astore (L' := [_, _, _, _, _]) C dX6_isSameForm_11 rfl ?_
  refine z_aload_n C dX6_isSameForm_13 rfl ?_
  refine z_ci C (z_rV C Rm qv_X0_count m_290 (c_count hP) hP.1 rfl dX6_isSameForm_14 rfl rfl (Nat.le_of_ble_eq_true rfl) rfl ⟨Nat.le_of_ble_eq_true rfl, Nat.le_of_ble_eq_true rfl, Nat.le_of_ble_eq_true rfl, Nat.le_of_ble_eq_true rfl⟩) (fun z3 μ3 hq3 => ?_)
  obtain ⟨rfl, rfl⟩ := hq3
  refine z_aload C dX6_isSameForm_17 rfl ?_
  refine z_ci C (z_rV C Rm qv_X0_count m_290 (c_count hQ) hQ.1 rfl dX6_isSameForm_19 rfl rfl (Nat.le_of_ble_eq_true rfl) rfl ⟨Nat.le_of_ble_eq_true rfl, Nat.le_of_ble_eq_true rfl, Nat.le_of_ble_eq_true rfl, Nat.le_of_ble_eq_true rfl⟩) (fun z3 μ3 hq3 => ?_)
  obtain ⟨rfl, rfl⟩ := hq3
  rw [cntF_z]
  refine z_icmp_eq (tgt := 27) C dX6_isSameForm_22 (by decide) (fun _ => ?_) (fun hno => absurd hno (fun h => h rfl))
  refine z_aload_n C dX6_isSameForm_27 rfl ?_
  refine z_get C hK.obj rfl 1 (by decide) m_224 inz6 rfl rfl dX6_isSameForm_28 ?_
  refine z_aload_n C dX6_isSameForm_31 rfl ?_
  refine z_cv C (z_rV C Rm qv_X0_copy m_754 (c_copy k3 hP (by omega)) k3.1 rfl dX6_isSameForm_32 rfl rfl (Nat.le_of_ble_eq_true rfl) rfl ⟨Nat.le_of_ble_eq_true rfl, Nat.le_of_ble_eq_true rfl, Nat.le_of_ble_eq_true rfl, Nat.le_of_ble_eq_true rfl⟩) (fun μ3 hq3 => ?_)
  rw [setF_i k3] at hq3
  subst hq3
  refine z_aload_n C dX6_isSameForm_35 rfl ?_
  refine z_get C hK.obj rfl 1 (by decide) m_224 inz6 rfl rfl dX6_isSameForm_36 ?_
  refine z_aload C dX6_isSameForm_39 rfl ?_
  refine z_ci C (z_rV C Rm qv_X0_leastX m_371 (c_leastX0 hQ) hQ.1 rfl dX6_isSameForm_41 rfl rfl (Nat.le_of_ble_eq_true rfl) rfl ⟨Nat.le_of_ble_eq_true rfl, Nat.le_of_ble_eq_true rfl, Nat.le_of_ble_eq_true rfl, Nat.le_of_ble_eq_true rfl⟩) (fun z3 μ3 hq3 => ?_)
  obtain ⟨rfl, rfl⟩ := hq3
  refine z_aload_n C dX6_isSameForm_44 rfl ?_
  refine z_ci C (z_rV C Rm qv_X0_leastX m_371 (c_leastX0 hP) hP.1 rfl dX6_isSameForm_45 rfl rfl (Nat.le_of_ble_eq_true rfl) rfl ⟨Nat.le_of_ble_eq_true rfl, Nat.le_of_ble_eq_true rfl, Nat.le_of_ble_eq_true rfl, Nat.le_of_ble_eq_true rfl⟩) (fun z3 μ3 hq3 => ?_)
  refine z_isub C dX6_isSameForm_48 ?_
  obtain ⟨rfl, rfl⟩ := hq3
  refine z_aload C dX6_isSameForm_49 rfl ?_
  refine z_ci C (z_rV C Rm qv_X0_leastY m_380 (c_leastY0 hQ) hQ.1 rfl dX6_isSameForm_51 rfl rfl (Nat.le_of_ble_eq_true rfl) rfl ⟨Nat.le_of_ble_eq_true rfl, Nat.le_of_ble_eq_true rfl, Nat.le_of_ble_eq_true rfl, Nat.le_of_ble_eq_true rfl⟩) (fun z3 μ3 hq3 => ?_)
  obtain ⟨rfl, rfl⟩ := hq3
  refine z_aload_n C dX6_isSameForm_54 rfl ?_
  refine z_ci C (z_rV C Rm qv_X0_leastY m_380 (c_leastY0 hP) hP.1 rfl dX6_isSameForm_55 rfl rfl (Nat.le_of_ble_eq_true rfl) rfl ⟨Nat.le_of_ble_eq_true rfl, Nat.le_of_ble_eq_true rfl, Nat.le_of_ble_eq_true rfl, Nat.le_of_ble_eq_true rfl⟩) (fun z3 μ3 hq3 => ?_)
  refine z_isub C dX6_isSameForm_58 ?_
  obtain ⟨rfl, rfl⟩ := hq3
  refine z_cv C (z_rV C Rm qv_X0_shift m_739 (c_shift0 k3 (x := 0 - 0) (y := 0 - 0) (by omega) (by omega)) k3.1 rfl dX6_isSameForm_59 rfl rfl (Nat.le_of_ble_eq_true rfl) rfl ⟨Nat.le_of_ble_eq_true rfl, Nat.le_of_ble_eq_true rfl, Nat.le_of_ble_eq_true rfl, Nat.le_of_ble_eq_true rfl⟩) (fun μ3 hq3 => ?_)
  subst hq3
  refine z_aload_n C dX6_isSameForm_62 rfl ?_
  refine z_get C hK.obj rfl 1 (by decide) m_224 inz6 rfl rfl dX6_isSameForm_63 ?_
  refine z_aload C dX6_isSameForm_66 rfl ?_
  refine z_ci C (z_rV C Rm qv_X0_isSame m_986 (c_isSame0 k3 hQ) k3.1 rfl dX6_isSameForm_68 rfl rfl (Nat.le_of_ble_eq_true rfl) rfl ⟨Nat.le_of_ble_eq_true rfl, Nat.le_of_ble_eq_true rfl, Nat.le_of_ble_eq_true rfl, Nat.le_of_ble_eq_true rfl⟩) (fun z3 μ3 hq3 => ?_)
  obtain ⟨rfl, rfl⟩ := hq3
  refine zx_ret C E (fun X C E => ?_)
  exact z_zret C E (Or.inr rfl) dX6_isSameForm_71 (Nat.le_of_ble_eq_true rfl) (Nat.le_of_ble_eq_true rfl) ⟨rfl, ⟨p8, q8⟩, zO.rf⟩
set_option maxRecDepth 100000 in
set_option maxHeartbeats 4000000 in
theorem k_middleX {l : Launch} {D : va_G} {N0 : Nat} (hl0 : l.stackTraces = false) {K : Nat} {μ : zM} (hK : isKe D μ K) {r : Int} (hr : zir r) : zxMet l yX6_middleX cX6_middleX 4 (some .double) ({ frames := 7, cells := 2, slots := 12, locals := 280 } : Room) D N0 [.ref K, zi r] μ (zQD D N0 (fun z u => z = FP.dconst0 ∧ (0 ≤ r ∧ r < 8) ∧ zKO K μ u)) (zXR K μ r True) := by
  refine zxMet_of rfl (Nat.le_of_ble_eq_true rfl) (fun X C Rm Tb E => ?_)
  refine z_aload_n C dX6_middleX_0 rfl ?_
  refine z_iload_n C dX6_middleX_1 rfl ?_
  refine zx_cr C (zx_rV C Rm qv_X6_regionAt m_646 (k_regionAt hl0 hK hr) hK.obj rfl dX6_middleX_2 rfl rfl (Nat.le_of_ble_eq_true rfl) rfl (by decide)) (fun En μx hx => zx_prop C Tb E (by decide) (⟨Or.inl ⟨hx.1, hx.2.1⟩, zO.eq hx.2.2⟩)) (fun z μ1 hp => ?_)
  obtain ⟨rfl, h8, rfl⟩ := hp
  have b8 := zReg_b (K := K) h8
  refine z_astore_n (L' := [_, _, _, _]) C dX6_middleX_5 rfl ?_
  refine z_aload_n C dX6_middleX_6 rfl ?_
  refine z_ci C (z_rV C Rm qv_X0_count m_290 (c_count (hK.at h8)) (hK.at h8).1 rfl dX6_middleX_7 rfl rfl (Nat.le_of_ble_eq_true rfl) rfl ⟨Nat.le_of_ble_eq_true rfl, Nat.le_of_ble_eq_true rfl, Nat.le_of_ble_eq_true rfl, Nat.le_of_ble_eq_true rfl⟩) (fun z3 μ3 hq3 => ?_)
  obtain ⟨rfl, rfl⟩ := hq3
  rw [cntF_z]
  refine z_istore_n (L' := [_, _, _, _]) C dX6_middleX_10 rfl ?_
  refine z_iload_n C dX6_middleX_11 rfl ?_
  refine z_if_ne (tgt := 19) C dX6_middleX_12 (by decide) (fun hno => absurd hno (fun h => h rfl)) (fun _ => ?_)
  refine z_dconst0 C dX6_middleX_15 ?_
  refine z_goto (tgt := 27) C dX6_middleX_16 (by decide) ?_
  refine zx_ret C E (fun X C E => ?_)
  exact z_dret C E dX6_middleX_27 (Nat.le_of_ble_eq_true rfl) (Nat.le_of_ble_eq_true rfl) ⟨rfl, h8, zO.rf⟩
