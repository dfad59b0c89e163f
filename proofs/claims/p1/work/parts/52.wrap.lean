/-! the law's own methods: a call, and what it throws as a number -/
theorem ng_A : Cond.castable eIAE eIAE ∈ zNG := by decide +kernel
theorem ng_B : Cond.castable eIOB eIOB ∈ zNG := by decide +kernel
theorem ng_S : Cond.castable eISE eISE ∈ zNG := by decide +kernel
theorem nc_AB : (eIAE, eIOB) ∈ zNC := by decide +kernel
theorem nc_AS : (eIAE, eISE) ∈ zNC := by decide +kernel
theorem nc_BA : (eIOB, eIAE) ∈ zNC := by decide +kernel
theorem nc_BS : (eIOB, eISE) ∈ zNC := by decide +kernel
theorem nc_SA : (eISE, eIAE) ∈ zNC := by decide +kernel
theorem nc_SB : (eISE, eIOB) ∈ zNC := by decide +kernel
theorem qw_L_moveTo : zCalW yL_moveTo cL_moveTo 5 (some .int) [(0, 10, 13, 13)] 4 := ⟨m_501, m_35, m_502, by decide +kernel⟩
set_option maxRecDepth 100000 in
set_option maxHeartbeats 4000000 in
theorem w_moveTo {l : Launch} {D : va_G} {N0 : Nat} (hl0 : l.stackTraces = false) {K O : Nat} {f0 : Nat → Int64} {μ : zM} (hK : isKe D μ K) (hout : μ O = some (zAL D 1 f0)) (hOK : ¬ zb K 66 O) {x y : Int} (hx : zir x) (hy : zir y) : zwMet l yL_moveTo cL_moveTo 5 (some .int) [(0, 10, 13, 13)] ({ frames := 8, cells := 2, slots := 12, locals := 320 } : Room) D N0 [.ref K, zi x, zi y, .ref O] μ (zQI D N0 (fun z u => ∃ fo : Nat → Int64, u O = some (zAL D 1 fo) ∧ zO (fun q => zb K 66 q ∨ q = O) μ u ∧ (z = 0 ∧ fo 0 = (Int32.ofInt (1)).toInt64 ∧ (-24 ≤ x ∧ x ≤ 24) ∧ -24 ≤ y ∧ y ≤ 24 ∨ z = 1 ∧ ¬ ((-24 ≤ x ∧ x ≤ 24) ∧ -24 ≤ y ∧ y ≤ 24)))) := by
  refine zwMet_of rfl (Nat.le_of_ble_eq_true rfl) m_502 (fun X C Rm Tb E => ?_)
  refine z_aload_n C dL_moveTo_0 rfl ?_
  refine z_iconst C dL_moveTo_1 ?_
  refine z_aload_n C dL_moveTo_2 rfl ?_
  refine z_iload_n C dL_moveTo_3 rfl ?_
  refine z_iload_n C dL_moveTo_4 rfl ?_
  refine zx_ci C (zx_rV C Rm qv_X6_moveTo m_504 (k_moveTo hl0 hK hx hy) hK.obj rfl dL_moveTo_5 rfl rfl (Nat.le_of_ble_eq_true rfl) rfl (by decide)) (fun En μ1 hx => ?_) (fun z μ1 hp => ?_)
  · obtain ⟨rfl, hc, hO⟩ := hx
    refine zx_catch C Tb [] (0, 10, 13, 13) [] rfl (fun z hz => absurd hz List.not_mem_nil) (by decide) (by decide) m_503 ng_A (fun q9 => ?_)
    refine z_astore (L' := [_, _, _, _, _]) C dL_moveTo_13 rfl ?_
    refine z_iconst C dL_moveTo_15 ?_
    refine zx_ret C E (fun X C E => ?_)
    exact z_iret C E dL_moveTo_16 (Nat.le_of_ble_eq_true rfl) (Nat.le_of_ble_eq_true rfl) ⟨f0, hO.at hOK hout, hO.mo (fun q hq => Or.inl hq), Or.inr (⟨rfl, hc⟩)⟩
  · obtain ⟨rfl, hc, hO⟩ := hp
    have hout1 := hO.at hOK hout
    refine z_i2l C dL_moveTo_8 ?_
    refine z_last C hout1 (by decide) dL_moveTo_9 ?_
    refine z_goto (tgt := 17) C dL_moveTo_10 (by decide) ?_
    refine z_iconst C dL_moveTo_17 ?_
    refine zx_ret C E (fun X C E => ?_)
    exact z_iret C E dL_moveTo_18 (Nat.le_of_ble_eq_true rfl) (Nat.le_of_ble_eq_true rfl) ⟨_, zu_s, zO.zu (hO.mo (fun q hq => Or.inl hq)) (Or.inr rfl), Or.inl ⟨rfl, zw_s, hc⟩⟩
theorem qw_L_lineX : zCalW yL_lineX cL_lineX 4 (some .int) [(0, 9, 12, 13), (0, 9, 15, 19)] 3 := ⟨m_590, m_35, m_591, by decide +kernel⟩
set_option maxRecDepth 100000 in
set_option maxHeartbeats 4000000 in
theorem w_lineX {l : Launch} {D : va_G} {N0 : Nat} (hl0 : l.stackTraces = false) {K O : Nat} {f0 : Nat → Int64} {μ : zM} (hK : isKe D μ K) (hout : μ O = some (zAL D 1 f0)) (hOK : ¬ zb K 66 O) {b : Int} (hb : zir b) : zwMet l yL_lineX cL_lineX 4 (some .int) [(0, 9, 12, 13), (0, 9, 15, 19)] ({ frames := 8, cells := 2, slots := 12, locals := 320 } : Room) D N0 [.ref K, zi b, .ref O] μ (zQI D N0 (fun z u => ∃ fo : Nat → Int64, u O = some (zAL D 1 fo) ∧ zO (fun q => zb K 66 q ∨ q = O) μ u ∧ (z = 0 ∧ fo 0 = (Int32.ofInt (b)).toInt64 ∧ -24 ≤ b ∧ b ≤ 24 ∨ z = 1 ∧ ¬ (-24 ≤ b ∧ b ≤ 24)))) := by
  refine zwMet_of rfl (Nat.le_of_ble_eq_true rfl) m_591 (fun X C Rm Tb E => ?_)
  refine z_aload_n C dL_lineX_0 rfl ?_
  refine z_iconst C dL_lineX_1 ?_
  refine z_aload_n C dL_lineX_2 rfl ?_
  refine z_iload_n C dL_lineX_3 rfl ?_
  refine zx_ci C (zx_rV C Rm qv_X6_lineX m_593 (k_lineX hl0 hK hb) hK.obj rfl dL_lineX_4 rfl rfl (Nat.le_of_ble_eq_true rfl) rfl (by decide)) (fun En μ1 hx => ?_) (fun z μ1 hp => ?_)
  · obtain ⟨rfl, hc, hO⟩ := hx
    refine zx_catch C Tb [] (0, 9, 12, 13) [(0, 9, 15, 19)] rfl (fun z hz => absurd hz List.not_mem_nil) (by decide) (by decide) m_503 ng_A (fun q9 => ?_)
    refine z_astore_n (L' := [_, _, _, _]) C dL_lineX_12 rfl ?_
    refine z_iconst C dL_lineX_13 ?_
    refine zx_ret C E (fun X C E => ?_)
    exact z_iret C E dL_lineX_14 (Nat.le_of_ble_eq_true rfl) (Nat.le_of_ble_eq_true rfl) ⟨f0, hO.at hOK hout, hO.mo (fun q hq => Or.inl hq), Or.inr (⟨rfl, hc⟩)⟩
  · obtain ⟨rfl, hc, hO⟩ := hp
    have hout1 := hO.at hOK hout
    refine z_i2l C dL_lineX_7 ?_
    refine z_last C hout1 (by decide) dL_lineX_8 ?_
    refine z_goto (tgt := 18) C dL_lineX_9 (by decide) ?_
    refine z_iconst C dL_lineX_18 ?_
    refine zx_ret C E (fun X C E => ?_)
    exact z_iret C E dL_lineX_19 (Nat.le_of_ble_eq_true rfl) (Nat.le_of_ble_eq_true rfl) ⟨_, zu_s, zO.zu (hO.mo (fun q hq => Or.inl hq)) (Or.inr rfl), Or.inl ⟨rfl, zw_s, hc⟩⟩
theorem qw_L_lineY : zCalW yL_lineY cL_lineY 4 (some .int) [(0, 9, 12, 13), (0, 9, 15, 19)] 3 := ⟨m_632, m_35, m_633, by decide +kernel⟩
set_option maxRecDepth 100000 in
set_option maxHeartbeats 4000000 in
theorem w_lineY {l : Launch} {D : va_G} {N0 : Nat} (hl0 : l.stackTraces = false) {K O : Nat} {f0 : Nat → Int64} {μ : zM} (hK : isKe D μ K) (hout : μ O = some (zAL D 1 f0)) (hOK : ¬ zb K 66 O) {b : Int} (hb : zir b) : zwMet l yL_lineY cL_lineY 4 (some .int) [(0, 9, 12, 13), (0, 9, 15, 19)] ({ frames := 8, cells := 2, slots := 12, locals := 320 } : Room) D N0 [.ref K, zi b, .ref O] μ (zQI D N0 (fun z u => ∃ fo : Nat → Int64, u O = some (zAL D 1 fo) ∧ zO (fun q => zb K 66 q ∨ q = O) μ u ∧ (z = 0 ∧ fo 0 = (Int32.ofInt (b)).toInt64 ∧ -24 ≤ b ∧ b ≤ 24 ∨ z = 1 ∧ ¬ (-24 ≤ b ∧ b ≤ 24)))) := by
  refine zwMet_of rfl (Nat.le_of_ble_eq_true rfl) m_633 (fun X C Rm Tb E => ?_)
  refine z_aload_n C dL_lineY_0 rfl ?_
  refine z_iconst C dL_lineY_1 ?_
  refine z_aload_n C dL_lineY_2 rfl ?_
  refine z_iload_n C dL_lineY_3 rfl ?_
  refine zx_ci C (zx_rV C Rm qv_X6_lineY m_634 (k_lineY hl0 hK hb) hK.obj rfl dL_lineY_4 rfl rfl (Nat.le_of_ble_eq_true rfl) rfl (by decide)) (fun En μ1 hx => ?_) (fun z μ1 hp => ?_)
  · obtain ⟨rfl, hc, hO⟩ := hx
    refine zx_catch C Tb [] (0, 9, 12, 13) [(0, 9, 15, 19)] rfl (fun z hz => absurd hz List.not_mem_nil) (by decide) (by decide) m_503 ng_A (fun q9 => ?_)
    refine z_astore_n (L' := [_, _, _, _]) C dL_lineY_12 rfl ?_
    refine z_iconst C dL_lineY_13 ?_
    refine zx_ret C E (fun X C E => ?_)
    exact z_iret C E dL_lineY_14 (Nat.le_of_ble_eq_true rfl) (Nat.le_of_ble_eq_true rfl) ⟨f0, hO.at hOK hout, hO.mo (fun q hq => Or.inl hq), Or.inr (⟨rfl, hc⟩)⟩
  · obtain ⟨rfl, hc, hO⟩ := hp
    have hout1 := hO.at hOK hout
    refine z_i2l C dL_lineY_7 ?_
    refine z_last C hout1 (by decide) dL_lineY_8 ?_
    refine z_goto (tgt := 18) C dL_lineY_9 (by decide) ?_
    refine z_iconst C dL_lineY_18 ?_
    refine zx_ret C E (fun X C E => ?_)
    exact z_iret C E dL_lineY_19 (Nat.le_of_ble_eq_true rfl) (Nat.le_of_ble_eq_true rfl) ⟨_, zu_s, zO.zu (hO.mo (fun q hq => Or.inl hq)) (Or.inr rfl), Or.inl ⟨rfl, zw_s, hc⟩⟩
theorem qw_L_close : zCalW yL_close cL_close 5 (some .int) [(0, 10, 13, 27), (0, 10, 17, 13)] 4 := ⟨m_639, m_35, m_640, by decide +kernel⟩
set_option maxRecDepth 100000 in
set_option maxHeartbeats 4000000 in
theorem w_close {l : Launch} {D : va_G} {N0 : Nat} (hl0 : l.stackTraces = false) {K O : Nat} {f0 : Nat → Int64} {μ : zM} (hK : isKe D μ K) (hout : μ O = some (zAL D 1 f0)) (hOK : ¬ zb K 66 O) {r o : Int} (hr : zir r) (ho : zir o) : zwMet l yL_close cL_close 5 (some .int) [(0, 10, 13, 27), (0, 10, 17, 13)] ({ frames := 8, cells := 2, slots := 12, locals := 320 } : Room) D N0 [.ref K, zi r, zi o, .ref O] μ (zQI D N0 (fun z u => ∃ fo : Nat → Int64, u O = some (zAL D 1 fo) ∧ zO (fun q => zb K 66 q ∨ q = O) μ u ∧ (z = 0 ∧ fo 0 = (Int32.ofInt (0)).toInt64 ∧ (0 ≤ r ∧ r < 8) ∧ 0 ≤ o ∧ o ≤ 1 ∨ z = 1 ∧ ¬ (0 ≤ r ∧ r < 8) ∨ z = 2 ∧ (0 ≤ r ∧ r < 8) ∧ ¬ (0 ≤ o ∧ o ≤ 1)))) := by
  refine zwMet_of rfl (Nat.le_of_ble_eq_true rfl) m_640 (fun X C Rm Tb E => ?_)
  refine z_aload_n C dL_close_0 rfl ?_
  refine z_iconst C dL_close_1 ?_
  refine z_aload_n C dL_close_2 rfl ?_
  refine z_iload_n C dL_close_3 rfl ?_
  refine z_iload_n C dL_close_4 rfl ?_
  refine zx_ci C (zx_rV C Rm qv_X6_close m_642 (k_close hl0 hK hr ho) hK.obj rfl dL_close_5 rfl rfl (Nat.le_of_ble_eq_true rfl) rfl (by decide)) (fun En μ1 hx => ?_) (fun z μ1 hp => ?_)
  · rcases hx with ⟨⟨rfl, hc⟩ | ⟨rfl, hc⟩, hO⟩
    · refine zx_catch C Tb [] (0, 10, 13, 27) [(0, 10, 17, 13)] rfl (fun z hz => absurd hz List.not_mem_nil) (by decide) (by decide) m_641 ng_B (fun q9 => ?_)
      refine z_astore (L' := [_, _, _, _, _]) C dL_close_13 rfl ?_
      refine z_iconst C dL_close_15 ?_
      refine zx_ret C E (fun X C E => ?_)
      exact z_iret C E dL_close_16 (Nat.le_of_ble_eq_true rfl) (Nat.le_of_ble_eq_true rfl) ⟨f0, hO.at hOK hout, hO.mo (fun q hq => Or.inl hq), Or.inr (Or.inl ⟨rfl, hc⟩)⟩
    · refine zx_catch C Tb [(0, 10, 13, 27)] (0, 10, 17, 13) [] rfl (fun z hz => by obtain rfl := List.mem_singleton.mp hz; exact ⟨by decide, _, m_641, nc_AB⟩) (by decide) (by decide) m_503 ng_A (fun q9 => ?_)
      refine z_astore (L' := [_, _, _, _, _]) C dL_close_17 rfl ?_
      refine z_iconst C dL_close_19 ?_
      refine zx_ret C E (fun X C E => ?_)
      exact z_iret C E dL_close_20 (Nat.le_of_ble_eq_true rfl) (Nat.le_of_ble_eq_true rfl) ⟨f0, hO.at hOK hout, hO.mo (fun q hq => Or.inl hq), Or.inr (Or.inr (⟨rfl, hc⟩))⟩
  · obtain ⟨rfl, hc, hO⟩ := hp
    have hout1 := hO.at hOK hout
    refine z_i2l C dL_close_8 ?_
    refine z_last C hout1 (by decide) dL_close_9 ?_
    refine z_goto (tgt := 21) C dL_close_10 (by decide) ?_
    refine z_iconst C dL_close_21 ?_
    refine zx_ret C E (fun X C E => ?_)
    exact z_iret C E dL_close_22 (Nat.le_of_ble_eq_true rfl) (Nat.le_of_ble_eq_true rfl) ⟨_, zu_s, zO.zu (hO.mo (fun q hq => Or.inl hq)) (Or.inr rfl), Or.inl ⟨rfl, zw_s, hc⟩⟩
theorem qw_L_addRectangle : zCalW yL_addRectangle cL_addRectangle 8 (some .int) [(0, 16, 19, 27), (0, 16, 23, 13), (0, 16, 27, 19)] 7 := ⟨m_701, m_35, m_702, by decide +kernel⟩
set_option maxRecDepth 100000 in
set_option maxHeartbeats 4000000 in
theorem w_addRectangle {l : Launch} {D : va_G} {N0 : Nat} (hl0 : l.stackTraces = false) {K O : Nat} {f0 : Nat → Int64} {μ : zM} (hK : isKe D μ K) (hout : μ O = some (zAL D 1 f0)) (hOK : ¬ zb K 66 O) {r x y w h : Int} (hr : zir r) (hx : zir x) (hy : zir y) (hw : zir w) (hh : zir h) : zwMet l yL_addRectangle cL_addRectangle 8 (some .int) [(0, 16, 19, 27), (0, 16, 23, 13), (0, 16, 27, 19)] ({ frames := 8, cells := 3, slots := 18, locals := 320 } : Room) D N0 [.ref K, zi r, zi x, zi y, zi w, zi h, .ref O] μ (zQI D N0 (fun z u => ∃ fo : Nat → Int64, u O = some (zAL D 1 fo) ∧ zO (fun q => zb K 66 q ∨ q = O) μ u ∧ (z = 0 ∧ fo 0 = (Int32.ofInt (h * w)).toInt64 ∧ (0 ≤ r ∧ r < 8) ∧ ((1 ≤ w ∧ w ≤ 64) ∧ 1 ≤ h ∧ h ≤ 64) ∧ (-32 ≤ x ∧ x + w - 1 ≤ 31) ∧ -32 ≤ y ∧ y + h - 1 ≤ 31 ∨ z = 1 ∧ ¬ (0 ≤ r ∧ r < 8) ∨ z = 2 ∧ (0 ≤ r ∧ r < 8) ∧ ¬ ((1 ≤ w ∧ w ≤ 64) ∧ 1 ≤ h ∧ h ≤ 64) ∨ z = 3 ∧ (0 ≤ r ∧ r < 8) ∧ ((1 ≤ w ∧ w ≤ 64) ∧ 1 ≤ h ∧ h ≤ 64) ∧ ¬ ((-32 ≤ x ∧ x + w - 1 ≤ 31) ∧ -32 ≤ y ∧ y + h - 1 ≤ 31)))) := by
  refine zwMet_of rfl (Nat.le_of_ble_eq_true rfl) m_702 (fun X C Rm Tb E => ?_)
  refine z_aload C dL_addRectangle_0 rfl ?_
  refine z_iconst C dL_addRectangle_2 ?_
  refine z_aload_n C dL_addRectangle_3 rfl ?_
  refine z_iload_n C dL_addRectangle_4 rfl ?_
  refine z_iload_n C dL_addRectangle_5 rfl ?_
  refine z_iload_n C dL_addRectangle_6 rfl ?_
  refine z_iload C dL_addRectangle_7 rfl ?_
  refine z_iload C dL_addRectangle_9 rfl ?_
  refine zx_ci C (zx_rV C Rm qv_X6_addRectangle m_703 (k_addRect hl0 hK hr hx hy hw hh) hK.obj rfl dL_addRectangle_11 rfl rfl (Nat.le_of_ble_eq_true rfl) rfl (by decide)) (fun En μ1 hx => ?_) (fun z μ1 hp => ?_)
  · rcases hx with ⟨⟨rfl, hc⟩ | ⟨rfl, hc⟩ | ⟨rfl, hc⟩, hO⟩
    · refine zx_catch C Tb [] (0, 16, 19, 27) [(0, 16, 23, 13), (0, 16, 27, 19)] rfl (fun z hz => absurd hz List.not_mem_nil) (by decide) (by decide) m_641 ng_B (fun q9 => ?_)
      refine z_astore (L' := [_, _, _, _, _, _, _, _]) C dL_addRectangle_19 rfl ?_
      refine z_iconst C dL_addRectangle_21 ?_
      refine zx_ret C E (fun X C E => ?_)
      exact z_iret C E dL_addRectangle_22 (Nat.le_of_ble_eq_true rfl) (Nat.le_of_ble_eq_true rfl) ⟨f0, hO.at hOK hout, hO.mo (fun q hq => Or.inl hq), Or.inr (Or.inl ⟨rfl, hc⟩)⟩
    · refine zx_catch C Tb [(0, 16, 19, 27)] (0, 16, 23, 13) [(0, 16, 27, 19)] rfl (fun z hz => by obtain rfl := List.mem_singleton.mp hz; exact ⟨by decide, _, m_641, nc_AB⟩) (by decide) (by decide) m_503 ng_A (fun q9 => ?_)
      refine z_astore (L' := [_, _, _, _, _, _, _, _]) C dL_addRectangle_23 rfl ?_
      refine z_iconst C dL_addRectangle_25 ?_
      refine zx_ret C E (fun X C E => ?_)
      exact z_iret C E dL_addRectangle_26 (Nat.le_of_ble_eq_true rfl) (Nat.le_of_ble_eq_true rfl) ⟨f0, hO.at hOK hout, hO.mo (fun q hq => Or.inl hq), Or.inr (Or.inr (Or.inl ⟨rfl, hc⟩))⟩
    · refine zx_catch C Tb [(0, 16, 19, 27), (0, 16, 23, 13)] (0, 16, 27, 19) [] rfl (fun z hz => by rcases List.mem_cons.mp hz with rfl | hz; exact ⟨by decide, _, m_641, nc_SB⟩; obtain rfl := List.mem_singleton.mp hz; exact ⟨by decide, _, m_503, nc_SA⟩) (by decide) (by decide) m_592 ng_S (fun q9 => ?_)
      refine z_astore (L' := [_, _, _, _, _, _, _, _]) C dL_addRectangle_27 rfl ?_
      refine z_iconst C dL_addRectangle_29 ?_
      refine zx_ret C E (fun X C E => ?_)
      exact z_iret C E dL_addRectangle_30 (Nat.le_of_ble_eq_true rfl) (Nat.le_of_ble_eq_true rfl) ⟨f0, hO.at hOK hout, hO.mo (fun q hq => Or.inl hq), Or.inr (Or.inr (Or.inr (⟨rfl, hc⟩)))⟩
  · obtain ⟨rfl, hc, hO⟩ := hp
    have hout1 := hO.at hOK hout
    refine z_i2l C dL_addRectangle_14 ?_
    refine z_last C hout1 (by decide) dL_addRectangle_15 ?_
    refine z_goto (tgt := 31) C dL_addRectangle_16 (by decide) ?_
    refine z_iconst C dL_addRectangle_31 ?_
    refine zx_ret C E (fun X C E => ?_)
    exact z_iret C E dL_addRectangle_32 (Nat.le_of_ble_eq_true rfl) (Nat.le_of_ble_eq_true rfl) ⟨_, zu_s, zO.zu (hO.mo (fun q hq => Or.inl hq)) (Or.inr rfl), Or.inl ⟨rfl, zw_s, hc⟩⟩
theorem qw_L_combine : zCalW yL_combine cL_combine 7 (some .int) [(0, 14, 17, 27), (0, 14, 21, 13)] 6 := ⟨m_717, m_35, m_718, by decide +kernel⟩
set_option maxRecDepth 100000 in
set_option maxHeartbeats 4000000 in
theorem w_combine {l : Launch} {D : va_G} {N0 : Nat} (hl0 : l.stackTraces = false) {K O : Nat} {f0 : Nat → Int64} {μ : zM} (hK : isKe D μ K) (hout : μ O = some (zAL D 1 f0)) (hOK : ¬ zb K 66 O) {r p q o : Int} (hr : zir r) (hp : zir p) (hq : zir q) (ho : zir o) : zwMet l yL_combine cL_combine 7 (some .int) [(0, 14, 17, 27), (0, 14, 21, 13)] ({ frames := 8, cells := 4, slots := 24, locals := 320 } : Room) D N0 [.ref K, zi r, zi p, zi q, zi o, .ref O] μ (zQI D N0 (fun z u => ∃ fo : Nat → Int64, u O = some (zAL D 1 fo) ∧ zO (fun q => zb K 66 q ∨ q = O) μ u ∧ (z = 0 ∧ fo 0 = (Int32.ofInt (0)).toInt64 ∧ ((0 ≤ r ∧ r < 8) ∧ (0 ≤ p ∧ p < 8) ∧ 0 ≤ q ∧ q < 8) ∧ 0 ≤ o ∧ o ≤ 3 ∨ z = 1 ∧ ¬ ((0 ≤ r ∧ r < 8) ∧ (0 ≤ p ∧ p < 8) ∧ 0 ≤ q ∧ q < 8) ∨ z = 2 ∧ ((0 ≤ r ∧ r < 8) ∧ (0 ≤ p ∧ p < 8) ∧ 0 ≤ q ∧ q < 8) ∧ ¬ (0 ≤ o ∧ o ≤ 3)))) := by
  refine zwMet_of rfl (Nat.le_of_ble_eq_true rfl) m_718 (fun X C Rm Tb E => ?_)
  refine z_aload C dL_combine_0 rfl ?_
  refine z_iconst C dL_combine_2 ?_
  refine z_aload_n C dL_combine_3 rfl ?_
  refine z_iload_n C dL_combine_4 rfl ?_
  refine z_iload_n C dL_combine_5 rfl ?_
  refine z_iload_n C dL_combine_6 rfl ?_
  refine z_iload C dL_combine_7 rfl ?_
  refine zx_ci C (zx_rV C Rm qv_X6_combine m_719 (k_combine hl0 hK hr hp hq ho) hK.obj rfl dL_combine_9 rfl rfl (Nat.le_of_ble_eq_true rfl) rfl (by decide)) (fun En μ1 hx => ?_) (fun z μ1 hp => ?_)
  · rcases hx with ⟨⟨rfl, hc⟩ | ⟨rfl, hc⟩, hO⟩
    · refine zx_catch C Tb [] (0, 14, 17, 27) [(0, 14, 21, 13)] rfl (fun z hz => absurd hz List.not_mem_nil) (by decide) (by decide) m_641 ng_B (fun q9 => ?_)
      refine z_astore (L' := [_, _, _, _, _, _, _]) C dL_combine_17 rfl ?_
      refine z_iconst C dL_combine_19 ?_
      refine zx_ret C E (fun X C E => ?_)
      exact z_iret C E dL_combine_20 (Nat.le_of_ble_eq_true rfl) (Nat.le_of_ble_eq_true rfl) ⟨f0, hO.at hOK hout, hO.mo (fun q hq => Or.inl hq), Or.inr (Or.inl ⟨rfl, hc⟩)⟩
    · refine zx_catch C Tb [(0, 14, 17, 27)] (0, 14, 21, 13) [] rfl (fun z hz => by obtain rfl := List.mem_singleton.mp hz; exact ⟨by decide, _, m_641, nc_AB⟩) (by decide) (by decide) m_503 ng_A (fun q9 => ?_)
      refine z_astore (L' := [_, _, _, _, _, _, _]) C dL_combine_21 rfl ?_
      refine z_iconst C dL_combine_23 ?_
      refine zx_ret C E (fun X C E => ?_)
      exact z_iret C E dL_combine_24 (Nat.le_of_ble_eq_true rfl) (Nat.le_of_ble_eq_true rfl) ⟨f0, hO.at hOK hout, hO.mo (fun q hq => Or.inl hq), Or.inr (Or.inr (⟨rfl, hc⟩))⟩
  · obtain ⟨rfl, hc, hO⟩ := hp
    have hout1 := hO.at hOK hout
    refine z_i2l C dL_combine_12 ?_
    refine z_last C hout1 (by decide) dL_combine_13 ?_
    refine z_goto (tgt := 25) C dL_combine_14 (by decide) ?_
    refine z_iconst C dL_combine_25 ?_
    refine zx_ret C E (fun X C E => ?_)
    exact z_iret C E dL_combine_26 (Nat.le_of_ble_eq_true rfl) (Nat.le_of_ble_eq_true rfl) ⟨_, zu_s, zO.zu (hO.mo (fun q hq => Or.inl hq)) (Or.inr rfl), Or.inl ⟨rfl, zw_s, hc⟩⟩
theorem qw_L_move : zCalW yL_move cL_move 6 (some .int) [(0, 12, 15, 27), (0, 12, 19, 13), (0, 12, 23, 19)] 5 := ⟨m_728, m_35, m_729, by decide +kernel⟩
set_option maxRecDepth 100000 in
set_option maxHeartbeats 4000000 in
theorem w_move {l : Launch} {D : va_G} {N0 : Nat} (hl0 : l.stackTraces = false) {K O : Nat} {f0 : Nat → Int64} {μ : zM} (hK : isKe D μ K) (hout : μ O = some (zAL D 1 f0)) (hOK : ¬ zb K 66 O) {r x y : Int} (hr : zir r) (hx : zir x) (hy : zir y) : zwMet l yL_move cL_move 6 (some .int) [(0, 12, 15, 27), (0, 12, 19, 13), (0, 12, 23, 19)] ({ frames := 8, cells := 2, slots := 12, locals := 320 } : Room) D N0 [.ref K, zi r, zi x, zi y, .ref O] μ (zQI D N0 (fun z u => ∃ fo : Nat → Int64, u O = some (zAL D 1 fo) ∧ zO (fun q => zb K 66 q ∨ q = O) μ u ∧ (z = 0 ∧ fo 0 = (Int32.ofInt (0)).toInt64 ∧ (0 ≤ r ∧ r < 8) ∧ (-64 ≤ x ∧ x ≤ 64) ∧ -64 ≤ y ∧ y ≤ 64 ∨ z = 1 ∧ ¬ (0 ≤ r ∧ r < 8) ∨ z = 2 ∧ (0 ≤ r ∧ r < 8) ∧ ¬ ((-64 ≤ x ∧ x ≤ 64) ∧ -64 ≤ y ∧ y ≤ 64)))) := by
  refine zwMet_of rfl (Nat.le_of_ble_eq_true rfl) m_729 (fun X C Rm Tb E => ?_)
  refine z_aload C dL_move_0 rfl ?_
  refine z_iconst C dL_move_2 ?_
  refine z_aload_n C dL_move_3 rfl ?_
  refine z_iload_n C dL_move_4 rfl ?_
  refine z_iload_n C dL_move_5 rfl ?_
  refine z_iload_n C dL_move_6 rfl ?_
  refine zx_ci C (zx_rV C Rm qv_X6_move m_730 (k_move hl0 hK hr hx hy) hK.obj rfl dL_move_7 rfl rfl (Nat.le_of_ble_eq_true rfl) rfl (by decide)) (fun En μ1 hx => ?_) (fun z μ1 hp => ?_)
  · rcases hx with ⟨⟨rfl, hc⟩ | ⟨rfl, hc⟩, hO⟩
    · refine zx_catch C Tb [] (0, 12, 15, 27) [(0, 12, 19, 13), (0, 12, 23, 19)] rfl (fun z hz => absurd hz List.not_mem_nil) (by decide) (by decide) m_641 ng_B (fun q9 => ?_)
      refine z_astore (L' := [_, _, _, _, _, _]) C dL_move_15 rfl ?_
      refine z_iconst C dL_move_17 ?_
      refine zx_ret C E (fun X C E => ?_)
      exact z_iret C E dL_move_18 (Nat.le_of_ble_eq_true rfl) (Nat.le_of_ble_eq_true rfl) ⟨f0, hO.at hOK hout, hO.mo (fun q hq => Or.inl hq), Or.inr (Or.inl ⟨rfl, hc⟩)⟩
    · refine zx_catch C Tb [(0, 12, 15, 27)] (0, 12, 19, 13) [(0, 12, 23, 19)] rfl (fun z hz => by obtain rfl := List.mem_singleton.mp hz; exact ⟨by decide, _, m_641, nc_AB⟩) (by decide) (by decide) m_503 ng_A (fun q9 => ?_)
      refine z_astore (L' := [_, _, _, _, _, _]) C dL_move_19 rfl ?_
      refine z_iconst C dL_move_21 ?_
      refine zx_ret C E (fun X C E => ?_)
      exact z_iret C E dL_move_22 (Nat.le_of_ble_eq_true rfl) (Nat.le_of_ble_eq_true rfl) ⟨f0, hO.at hOK hout, hO.mo (fun q hq => Or.inl hq), Or.inr (Or.inr (⟨rfl, hc⟩))⟩
  · obtain ⟨rfl, hc, hO⟩ := hp
    have hout1 := hO.at hOK hout
    refine z_i2l C dL_move_10 ?_
    refine z_last C hout1 (by decide) dL_move_11 ?_
    refine z_goto (tgt := 27) C dL_move_12 (by decide) ?_
    refine z_iconst C dL_move_27 ?_
    refine zx_ret C E (fun X C E => ?_)
    exact z_iret C E dL_move_28 (Nat.le_of_ble_eq_true rfl) (Nat.le_of_ble_eq_true rfl) ⟨_, zu_s, zO.zu (hO.mo (fun q hq => Or.inl hq)) (Or.inr rfl), Or.inl ⟨rfl, zw_s, hc⟩⟩
theorem qw_L_turn : zCalW yL_turn cL_turn 5 (some .int) [(0, 10, 13, 27), (0, 10, 17, 13)] 4 := ⟨m_747, m_35, m_748, by decide +kernel⟩
set_option maxRecDepth 100000 in
set_option maxHeartbeats 4000000 in
theorem w_turn {l : Launch} {D : va_G} {N0 : Nat} (hl0 : l.stackTraces = false) {K O : Nat} {f0 : Nat → Int64} {μ : zM} (hK : isKe D μ K) (hout : μ O = some (zAL D 1 f0)) (hOK : ¬ zb K 66 O) {r w : Int} (hr : zir r) (hw : zir w) : zwMet l yL_turn cL_turn 5 (some .int) [(0, 10, 13, 27), (0, 10, 17, 13)] ({ frames := 8, cells := 2, slots := 12, locals := 320 } : Room) D N0 [.ref K, zi r, zi w, .ref O] μ (zQI D N0 (fun z u => ∃ fo : Nat → Int64, u O = some (zAL D 1 fo) ∧ zO (fun q => zb K 66 q ∨ q = O) μ u ∧ (z = 0 ∧ fo 0 = (Int32.ofInt (0)).toInt64 ∧ (0 ≤ r ∧ r < 8) ∧ 0 ≤ w ∧ w ≤ 3 ∨ z = 1 ∧ ¬ (0 ≤ r ∧ r < 8) ∨ z = 2 ∧ (0 ≤ r ∧ r < 8) ∧ ¬ (0 ≤ w ∧ w ≤ 3)))) := by
  refine zwMet_of rfl (Nat.le_of_ble_eq_true rfl) m_748 (fun X C Rm Tb E => ?_)
  refine z_aload_n C dL_turn_0 rfl ?_
  refine z_iconst C dL_turn_1 ?_
  refine z_aload_n C dL_turn_2 rfl ?_
  refine z_iload_n C dL_turn_3 rfl ?_
  refine z_iload_n C dL_turn_4 rfl ?_
  refine zx_ci C (zx_rV C Rm qv_X6_turn m_749 (k_turn hl0 hK hr hw) hK.obj rfl dL_turn_5 rfl rfl (Nat.le_of_ble_eq_true rfl) rfl (by decide)) (fun En μ1 hx => ?_) (fun z μ1 hp => ?_)
  · rcases hx with ⟨⟨rfl, hc⟩ | ⟨rfl, hc⟩, hO⟩
    · refine zx_catch C Tb [] (0, 10, 13, 27) [(0, 10, 17, 13)] rfl (fun z hz => absurd hz List.not_mem_nil) (by decide) (by decide) m_641 ng_B (fun q9 => ?_)
      refine z_astore (L' := [_, _, _, _, _]) C dL_turn_13 rfl ?_
      refine z_iconst C dL_turn_15 ?_
      refine zx_ret C E (fun X C E => ?_)
      exact z_iret C E dL_turn_16 (Nat.le_of_ble_eq_true rfl) (Nat.le_of_ble_eq_true rfl) ⟨f0, hO.at hOK hout, hO.mo (fun q hq => Or.inl hq), Or.inr (Or.inl ⟨rfl, hc⟩)⟩
    · refine zx_catch C Tb [(0, 10, 13, 27)] (0, 10, 17, 13) [] rfl (fun z hz => by obtain rfl := List.mem_singleton.mp hz; exact ⟨by decide, _, m_641, nc_AB⟩) (by decide) (by decide) m_503 ng_A (fun q9 => ?_)
      refine z_astore (L' := [_, _, _, _, _]) C dL_turn_17 rfl ?_
      refine z_iconst C dL_turn_19 ?_
      refine zx_ret C E (fun X C E => ?_)
      exact z_iret C E dL_turn_20 (Nat.le_of_ble_eq_true rfl) (Nat.le_of_ble_eq_true rfl) ⟨f0, hO.at hOK hout, hO.mo (fun q hq => Or.inl hq), Or.inr (Or.inr (⟨rfl, hc⟩))⟩
  · obtain ⟨rfl, hc, hO⟩ := hp
    have hout1 := hO.at hOK hout
    refine z_i2l C dL_turn_8 ?_
    refine z_last C hout1 (by decide) dL_turn_9 ?_
    refine z_goto (tgt := 21) C dL_turn_10 (by decide) ?_
    refine z_iconst C dL_turn_21 ?_
    refine zx_ret C E (fun X C E => ?_)
    exact z_iret C E dL_turn_22 (Nat.le_of_ble_eq_true rfl) (Nat.le_of_ble_eq_true rfl) ⟨_, zu_s, zO.zu (hO.mo (fun q hq => Or.inl hq)) (Or.inr rfl), Or.inl ⟨rfl, zw_s, hc⟩⟩
theorem qw_L_mirror : zCalW yL_mirror cL_mirror 4 (some .int) [(0, 9, 12, 27)] 3 := ⟨m_761, m_35, m_762, by decide +kernel⟩
set_option maxRecDepth 100000 in
set_option maxHeartbeats 4000000 in
theorem w_mirror {l : Launch} {D : va_G} {N0 : Nat} (hl0 : l.stackTraces = false) {K O : Nat} {f0 : Nat → Int64} {μ : zM} (hK : isKe D μ K) (hout : μ O = some (zAL D 1 f0)) (hOK : ¬ zb K 66 O) {r : Int} (hr : zir r) : zwMet l yL_mirror cL_mirror 4 (some .int) [(0, 9, 12, 27)] ({ frames := 8, cells := 2, slots := 12, locals := 320 } : Room) D N0 [.ref K, zi r, .ref O] μ (zQI D N0 (fun z u => ∃ fo : Nat → Int64, u O = some (zAL D 1 fo) ∧ zO (fun q => zb K 66 q ∨ q = O) μ u ∧ (z = 0 ∧ fo 0 = (Int32.ofInt (0)).toInt64 ∧ 0 ≤ r ∧ r < 8 ∨ z = 1 ∧ ¬ (0 ≤ r ∧ r < 8)))) := by
  refine zwMet_of rfl (Nat.le_of_ble_eq_true rfl) m_762 (fun X C Rm Tb E => ?_)
  refine z_aload_n C dL_mirror_0 rfl ?_
  refine z_iconst C dL_mirror_1 ?_
  refine z_aload_n C dL_mirror_2 rfl ?_
  refine z_iload_n C dL_mirror_3 rfl ?_
  refine zx_ci C (zx_rV C Rm qv_X6_mirror m_763 (k_mirror hl0 hK hr) hK.obj rfl dL_mirror_4 rfl rfl (Nat.le_of_ble_eq_true rfl) rfl (by decide)) (fun En μ1 hx => ?_) (fun z μ1 hp => ?_)
  · rcases hx with ⟨⟨rfl, hc⟩ | ⟨rfl, hc⟩, hO⟩
    · refine zx_catch C Tb [] (0, 9, 12, 27) [] rfl (fun z hz => absurd hz List.not_mem_nil) (by decide) (by decide) m_641 ng_B (fun q9 => ?_)
      refine z_astore_n (L' := [_, _, _, _]) C dL_mirror_12 rfl ?_
      refine z_iconst C dL_mirror_13 ?_
      refine zx_ret C E (fun X C E => ?_)
      exact z_iret C E dL_mirror_14 (Nat.le_of_ble_eq_true rfl) (Nat.le_of_ble_eq_true rfl) ⟨f0, hO.at hOK hout, hO.mo (fun q hq => Or.inl hq), Or.inr (⟨rfl, hc⟩)⟩
    · exact absurd trivial hc.2
  · obtain ⟨rfl, hc, hO⟩ := hp
    have hout1 := hO.at hOK hout
    refine z_i2l C dL_mirror_7 ?_
    refine z_last C hout1 (by decide) dL_mirror_8 ?_
    refine z_goto (tgt := 15) C dL_mirror_9 (by decide) ?_
    refine z_iconst C dL_mirror_15 ?_
    refine zx_ret C E (fun X C E => ?_)
    exact z_iret C E dL_mirror_16 (Nat.le_of_ble_eq_true rfl) (Nat.le_of_ble_eq_true rfl) ⟨_, zu_s, zO.zu (hO.mo (fun q hq => Or.inl hq)) (Or.inr rfl), Or.inl ⟨rfl, zw_s, hc⟩⟩
theorem qw_L_fill : zCalW yL_fill cL_fill 4 (some .int) [(0, 9, 12, 27)] 3 := ⟨m_797, m_35, m_798, by decide +kernel⟩
set_option maxRecDepth 100000 in
set_option maxHeartbeats 4000000 in
theorem w_fill {l : Launch} {D : va_G} {N0 : Nat} (hl0 : l.stackTraces = false) {K O : Nat} {f0 : Nat → Int64} {μ : zM} (hK : isKe D μ K) (hout : μ O = some (zAL D 1 f0)) (hOK : ¬ zb K 66 O) {r : Int} (hr : zir r) : zwMet l yL_fill cL_fill 4 (some .int) [(0, 9, 12, 27)] ({ frames := 8, cells := 2, slots := 12, locals := 320 } : Room) D N0 [.ref K, zi r, .ref O] μ (zQI D N0 (fun z u => ∃ fo : Nat → Int64, u O = some (zAL D 1 fo) ∧ zO (fun q => zb K 66 q ∨ q = O) μ u ∧ (z = 0 ∧ fo 0 = (Int32.ofInt (0)).toInt64 ∧ 0 ≤ r ∧ r < 8 ∨ z = 1 ∧ ¬ (0 ≤ r ∧ r < 8)))) := by
  refine zwMet_of rfl (Nat.le_of_ble_eq_true rfl) m_798 (fun X C Rm Tb E => ?_)
  refine z_aload_n C dL_fill_0 rfl ?_
  refine z_iconst C dL_fill_1 ?_
  refine z_aload_n C dL_fill_2 rfl ?_
  refine z_iload_n C dL_fill_3 rfl ?_
  refine zx_ci C (zx_rV C Rm qv_X6_fill m_799 (k_fill hl0 hK hr) hK.obj rfl dL_fill_4 rfl rfl (Nat.le_of_ble_eq_true rfl) rfl (by decide)) (fun En μ1 hx => ?_) (fun z μ1 hp => ?_)
  · rcases hx with ⟨⟨rfl, hc⟩ | ⟨rfl, hc⟩, hO⟩
    · refine zx_catch C Tb [] (0, 9, 12, 27) [] rfl (fun z hz => absurd hz List.not_mem_nil) (by decide) (by decide) m_641 ng_B (fun q9 => ?_)
      refine z_astore_n (L' := [_, _, _, _]) C dL_fill_12 rfl ?_
      refine z_iconst C dL_fill_13 ?_
      refine zx_ret C E (fun X C E => ?_)
      exact z_iret C E dL_fill_14 (Nat.le_of_ble_eq_true rfl) (Nat.le_of_ble_eq_true rfl) ⟨f0, hO.at hOK hout, hO.mo (fun q hq => Or.inl hq), Or.inr (⟨rfl, hc⟩)⟩
    · exact absurd trivial hc.2
  · obtain ⟨rfl, hc, hO⟩ := hp
    have hout1 := hO.at hOK hout
    refine z_i2l C dL_fill_7 ?_
    refine z_last C hout1 (by decide) dL_fill_8 ?_
    refine z_goto (tgt := 15) C dL_fill_9 (by decide) ?_
    refine z_iconst C dL_fill_15 ?_
    refine zx_ret C E (fun X C E => ?_)
    exact z_iret C E dL_fill_16 (Nat.le_of_ble_eq_true rfl) (Nat.le_of_ble_eq_true rfl) ⟨_, zu_s, zO.zu (hO.mo (fun q hq => Or.inl hq)) (Or.inr rfl), Or.inl ⟨rfl, zw_s, hc⟩⟩
theorem qw_L_clear : zCalW yL_clear cL_clear 4 (some .int) [(0, 9, 12, 27)] 3 := ⟨m_824, m_35, m_825, by decide +kernel⟩
set_option maxRecDepth 100000 in
set_option maxHeartbeats 4000000 in
theorem w_clear {l : Launch} {D : va_G} {N0 : Nat} (hl0 : l.stackTraces = false) {K O : Nat} {f0 : Nat → Int64} {μ : zM} (hK : isKe D μ K) (hout : μ O = some (zAL D 1 f0)) (hOK : ¬ zb K 66 O) {r : Int} (hr : zir r) : zwMet l yL_clear cL_clear 4 (some .int) [(0, 9, 12, 27)] ({ frames := 8, cells := 2, slots := 12, locals := 320 } : Room) D N0 [.ref K, zi r, .ref O] μ (zQI D N0 (fun z u => ∃ fo : Nat → Int64, u O = some (zAL D 1 fo) ∧ zO (fun q => zb K 66 q ∨ q = O) μ u ∧ (z = 0 ∧ fo 0 = (Int32.ofInt (0)).toInt64 ∧ 0 ≤ r ∧ r < 8 ∨ z = 1 ∧ ¬ (0 ≤ r ∧ r < 8)))) := by
  refine zwMet_of rfl (Nat.le_of_ble_eq_true rfl) m_825 (fun X C Rm Tb E => ?_)
  refine z_aload_n C dL_clear_0 rfl ?_
  refine z_iconst C dL_clear_1 ?_
  refine z_aload_n C dL_clear_2 rfl ?_
  refine z_iload_n C dL_clear_3 rfl ?_
  refine zx_ci C (zx_rV C Rm qv_X6_clear m_826 (k_clear hl0 hK hr) hK.obj rfl dL_clear_4 rfl rfl (Nat.le_of_ble_eq_true rfl) rfl (by decide)) (fun En μ1 hx => ?_) (fun z μ1 hp => ?_)
  · rcases hx with ⟨⟨rfl, hc⟩ | ⟨rfl, hc⟩, hO⟩
    · refine zx_catch C Tb [] (0, 9, 12, 27) [] rfl (fun z hz => absurd hz List.not_mem_nil) (by decide) (by decide) m_641 ng_B (fun q9 => ?_)
      refine z_astore_n (L' := [_, _, _, _]) C dL_clear_12 rfl ?_
      refine z_iconst C dL_clear_13 ?_
      refine zx_ret C E (fun X C E => ?_)
      exact z_iret C E dL_clear_14 (Nat.le_of_ble_eq_true rfl) (Nat.le_of_ble_eq_true rfl) ⟨f0, hO.at hOK hout, hO.mo (fun q hq => Or.inl hq), Or.inr (⟨rfl, hc⟩)⟩
    · exact absurd trivial hc.2
  · obtain ⟨rfl, hc, hO⟩ := hp
    have hout1 := hO.at hOK hout
    refine z_i2l C dL_clear_7 ?_
    refine z_last C hout1 (by decide) dL_clear_8 ?_
    refine z_goto (tgt := 15) C dL_clear_9 (by decide) ?_
    refine z_iconst C dL_clear_15 ?_
    refine zx_ret C E (fun X C E => ?_)
    exact z_iret C E dL_clear_16 (Nat.le_of_ble_eq_true rfl) (Nat.le_of_ble_eq_true rfl) ⟨_, zu_s, zO.zu (hO.mo (fun q hq => Or.inl hq)) (Or.inr rfl), Or.inl ⟨rfl, zw_s, hc⟩⟩
theorem qw_L_area : zCalW yL_area cL_area 4 (some .int) [(0, 9, 12, 27)] 3 := ⟨m_832, m_35, m_833, by decide +kernel⟩
set_option maxRecDepth 100000 in
set_option maxHeartbeats 4000000 in
theorem w_area {l : Launch} {D : va_G} {N0 : Nat} (hl0 : l.stackTraces = false) {K O : Nat} {f0 : Nat → Int64} {μ : zM} (hK : isKe D μ K) (hout : μ O = some (zAL D 1 f0)) (hOK : ¬ zb K 66 O) {r : Int} (hr : zir r) : zwMet l yL_area cL_area 4 (some .int) [(0, 9, 12, 27)] ({ frames := 8, cells := 2, slots := 12, locals := 320 } : Room) D N0 [.ref K, zi r, .ref O] μ (zQI D N0 (fun z u => ∃ fo : Nat → Int64, u O = some (zAL D 1 fo) ∧ zO (fun q => zb K 66 q ∨ q = O) μ u ∧ (z = 0 ∧ fo 0 = (Int32.ofInt (0)).toInt64 ∧ 0 ≤ r ∧ r < 8 ∨ z = 1 ∧ ¬ (0 ≤ r ∧ r < 8)))) := by
  refine zwMet_of rfl (Nat.le_of_ble_eq_true rfl) m_833 (fun X C Rm Tb E => ?_)
  refine z_aload_n C dL_area_0 rfl ?_
  refine z_iconst C dL_area_1 ?_
  refine z_aload_n C dL_area_2 rfl ?_
  refine z_iload_n C dL_area_3 rfl ?_
  refine zx_ci C (zx_rV C Rm qv_X6_area m_834 (k_area hl0 hK hr) hK.obj rfl dL_area_4 rfl rfl (Nat.le_of_ble_eq_true rfl) rfl (by decide)) (fun En μ1 hx => ?_) (fun z μ1 hp => ?_)
  · rcases hx with ⟨⟨rfl, hc⟩ | ⟨rfl, hc⟩, hO⟩
    · refine zx_catch C Tb [] (0, 9, 12, 27) [] rfl (fun z hz => absurd hz List.not_mem_nil) (by decide) (by decide) m_641 ng_B (fun q9 => ?_)
      refine z_astore_n (L' := [_, _, _, _]) C dL_area_12 rfl ?_
      refine z_iconst C dL_area_13 ?_
      refine zx_ret C E (fun X C E => ?_)
      exact z_iret C E dL_area_14 (Nat.le_of_ble_eq_true rfl) (Nat.le_of_ble_eq_true rfl) ⟨f0, hO.at hOK hout, hO.mo (fun q hq => Or.inl hq), Or.inr (⟨rfl, hc⟩)⟩
    · exact absurd trivial hc.2
  · obtain ⟨rfl, hc, hO⟩ := hp
    have hout1 := hO.at hOK hout
    refine z_i2l C dL_area_7 ?_
    refine z_last C hout1 (by decide) dL_area_8 ?_
    refine z_goto (tgt := 15) C dL_area_9 (by decide) ?_
    refine z_iconst C dL_area_15 ?_
    refine zx_ret C E (fun X C E => ?_)
    exact z_iret C E dL_area_16 (Nat.le_of_ble_eq_true rfl) (Nat.le_of_ble_eq_true rfl) ⟨_, zu_s, zO.zu (hO.mo (fun q hq => Or.inl hq)) (Or.inr rfl), Or.inl ⟨rfl, zw_s, hc⟩⟩
theorem qw_L_edges : zCalW yL_edges cL_edges 4 (some .int) [(0, 9, 12, 27)] 3 := ⟨m_839, m_35, m_840, by decide +kernel⟩
set_option maxRecDepth 100000 in
set_option maxHeartbeats 4000000 in
theorem w_edges {l : Launch} {D : va_G} {N0 : Nat} (hl0 : l.stackTraces = false) {K O : Nat} {f0 : Nat → Int64} {μ : zM} (hK : isKe D μ K) (hout : μ O = some (zAL D 1 f0)) (hOK : ¬ zb K 66 O) {r : Int} (hr : zir r) : zwMet l yL_edges cL_edges 4 (some .int) [(0, 9, 12, 27)] ({ frames := 8, cells := 2, slots := 12, locals := 320 } : Room) D N0 [.ref K, zi r, .ref O] μ (zQI D N0 (fun z u => ∃ fo : Nat → Int64, u O = some (zAL D 1 fo) ∧ zO (fun q => zb K 66 q ∨ q = O) μ u ∧ (z = 0 ∧ fo 0 = (Int32.ofInt (0)).toInt64 ∧ 0 ≤ r ∧ r < 8 ∨ z = 1 ∧ ¬ (0 ≤ r ∧ r < 8)))) := by
  refine zwMet_of rfl (Nat.le_of_ble_eq_true rfl) m_840 (fun X C Rm Tb E => ?_)
  refine z_aload_n C dL_edges_0 rfl ?_
  refine z_iconst C dL_edges_1 ?_
  refine z_aload_n C dL_edges_2 rfl ?_
  refine z_iload_n C dL_edges_3 rfl ?_
  refine zx_ci C (zx_rV C Rm qv_X6_edges m_841 (k_edges hl0 hK hr) hK.obj rfl dL_edges_4 rfl rfl (Nat.le_of_ble_eq_true rfl) rfl (by decide)) (fun En μ1 hx => ?_) (fun z μ1 hp => ?_)
  · rcases hx with ⟨⟨rfl, hc⟩ | ⟨rfl, hc⟩, hO⟩
    · refine zx_catch C Tb [] (0, 9, 12, 27) [] rfl (fun z hz => absurd hz List.not_mem_nil) (by decide) (by decide) m_641 ng_B (fun q9 => ?_)
      refine z_astore_n (L' := [_, _, _, _]) C dL_edges_12 rfl ?_
      refine z_iconst C dL_edges_13 ?_
      refine zx_ret C E (fun X C E => ?_)
      exact z_iret C E dL_edges_14 (Nat.le_of_ble_eq_true rfl) (Nat.le_of_ble_eq_true rfl) ⟨f0, hO.at hOK hout, hO.mo (fun q hq => Or.inl hq), Or.inr (⟨rfl, hc⟩)⟩
    · exact absurd trivial hc.2
  · obtain ⟨rfl, hc, hO⟩ := hp
    have hout1 := hO.at hOK hout
    refine z_i2l C dL_edges_7 ?_
    refine z_last C hout1 (by decide) dL_edges_8 ?_
    refine z_goto (tgt := 15) C dL_edges_9 (by decide) ?_
    refine z_iconst C dL_edges_15 ?_
    refine zx_ret C E (fun X C E => ?_)
    exact z_iret C E dL_edges_16 (Nat.le_of_ble_eq_true rfl) (Nat.le_of_ble_eq_true rfl) ⟨_, zu_s, zO.zu (hO.mo (fun q hq => Or.inl hq)) (Or.inr rfl), Or.inl ⟨rfl, zw_s, hc⟩⟩
theorem qw_L_pieces : zCalW yL_pieces cL_pieces 4 (some .int) [(0, 9, 12, 27)] 3 := ⟨m_846, m_35, m_847, by decide +kernel⟩
set_option maxRecDepth 100000 in
set_option maxHeartbeats 4000000 in
theorem w_pieces {l : Launch} {D : va_G} {N0 : Nat} (hl0 : l.stackTraces = false) {K O : Nat} {f0 : Nat → Int64} {μ : zM} (hK : isKe D μ K) (hout : μ O = some (zAL D 1 f0)) (hOK : ¬ zb K 66 O) {r : Int} (hr : zir r) : zwMet l yL_pieces cL_pieces 4 (some .int) [(0, 9, 12, 27)] ({ frames := 8, cells := 2, slots := 12, locals := 320 } : Room) D N0 [.ref K, zi r, .ref O] μ (zQI D N0 (fun z u => ∃ fo : Nat → Int64, u O = some (zAL D 1 fo) ∧ zO (fun q => zb K 66 q ∨ q = O) μ u ∧ (z = 0 ∧ fo 0 = (Int32.ofInt (0)).toInt64 ∧ 0 ≤ r ∧ r < 8 ∨ z = 1 ∧ ¬ (0 ≤ r ∧ r < 8)))) := by
  refine zwMet_of rfl (Nat.le_of_ble_eq_true rfl) m_847 (fun X C Rm Tb E => ?_)
  refine z_aload_n C dL_pieces_0 rfl ?_
  refine z_iconst C dL_pieces_1 ?_
  refine z_aload_n C dL_pieces_2 rfl ?_
  refine z_iload_n C dL_pieces_3 rfl ?_
  refine zx_ci C (zx_rV C Rm qv_X6_pieces m_848 (k_pieces hl0 hK hr) hK.obj rfl dL_pieces_4 rfl rfl (Nat.le_of_ble_eq_true rfl) rfl (by decide)) (fun En μ1 hx => ?_) (fun z μ1 hp => ?_)
  · rcases hx with ⟨⟨rfl, hc⟩ | ⟨rfl, hc⟩, hO⟩
    · refine zx_catch C Tb [] (0, 9, 12, 27) [] rfl (fun z hz => absurd hz List.not_mem_nil) (by decide) (by decide) m_641 ng_B (fun q9 => ?_)
      refine z_astore_n (L' := [_, _, _, _]) C dL_pieces_12 rfl ?_
      refine z_iconst C dL_pieces_13 ?_
      refine zx_ret C E (fun X C E => ?_)
      exact z_iret C E dL_pieces_14 (Nat.le_of_ble_eq_true rfl) (Nat.le_of_ble_eq_true rfl) ⟨f0, hO.at hOK hout, hO.mo (fun q hq => Or.inl hq), Or.inr (⟨rfl, hc⟩)⟩
    · exact absurd trivial hc.2
  · obtain ⟨rfl, hc, hO⟩ := hp
    have hout1 := hO.at hOK hout
    refine z_i2l C dL_pieces_7 ?_
    refine z_last C hout1 (by decide) dL_pieces_8 ?_
    refine z_goto (tgt := 15) C dL_pieces_9 (by decide) ?_
    refine z_iconst C dL_pieces_15 ?_
    refine zx_ret C E (fun X C E => ?_)
    exact z_iret C E dL_pieces_16 (Nat.le_of_ble_eq_true rfl) (Nat.le_of_ble_eq_true rfl) ⟨_, zu_s, zO.zu (hO.mo (fun q hq => Or.inl hq)) (Or.inr rfl), Or.inl ⟨rfl, zw_s, hc⟩⟩
theorem qw_L_holes : zCalW yL_holes cL_holes 4 (some .int) [(0, 9, 12, 27)] 3 := ⟨m_853, m_35, m_854, by decide +kernel⟩
set_option maxRecDepth 100000 in
set_option maxHeartbeats 4000000 in
theorem w_holes {l : Launch} {D : va_G} {N0 : Nat} (hl0 : l.stackTraces = false) {K O : Nat} {f0 : Nat → Int64} {μ : zM} (hK : isKe D μ K) (hout : μ O = some (zAL D 1 f0)) (hOK : ¬ zb K 66 O) {r : Int} (hr : zir r) : zwMet l yL_holes cL_holes 4 (some .int) [(0, 9, 12, 27)] ({ frames := 8, cells := 2, slots := 12, locals := 320 } : Room) D N0 [.ref K, zi r, .ref O] μ (zQI D N0 (fun z u => ∃ fo : Nat → Int64, u O = some (zAL D 1 fo) ∧ zO (fun q => zb K 66 q ∨ q = O) μ u ∧ (z = 0 ∧ fo 0 = (Int32.ofInt (0)).toInt64 ∧ 0 ≤ r ∧ r < 8 ∨ z = 1 ∧ ¬ (0 ≤ r ∧ r < 8)))) := by
  refine zwMet_of rfl (Nat.le_of_ble_eq_true rfl) m_854 (fun X C Rm Tb E => ?_)
  refine z_aload_n C dL_holes_0 rfl ?_
  refine z_iconst C dL_holes_1 ?_
  refine z_aload_n C dL_holes_2 rfl ?_
  refine z_iload_n C dL_holes_3 rfl ?_
  refine zx_ci C (zx_rV C Rm qv_X6_holes m_855 (k_holes hl0 hK hr) hK.obj rfl dL_holes_4 rfl rfl (Nat.le_of_ble_eq_true rfl) rfl (by decide)) (fun En μ1 hx => ?_) (fun z μ1 hp => ?_)
  · rcases hx with ⟨⟨rfl, hc⟩ | ⟨rfl, hc⟩, hO⟩
    · refine zx_catch C Tb [] (0, 9, 12, 27) [] rfl (fun z hz => absurd hz List.not_mem_nil) (by decide) (by decide) m_641 ng_B (fun q9 => ?_)
      refine z_astore_n (L' := [_, _, _, _]) C dL_holes_12 rfl ?_
      refine z_iconst C dL_holes_13 ?_
      refine zx_ret C E (fun X C E => ?_)
      exact z_iret C E dL_holes_14 (Nat.le_of_ble_eq_true rfl) (Nat.le_of_ble_eq_true rfl) ⟨f0, hO.at hOK hout, hO.mo (fun q hq => Or.inl hq), Or.inr (⟨rfl, hc⟩)⟩
    · exact absurd trivial hc.2
  · obtain ⟨rfl, hc, hO⟩ := hp
    have hout1 := hO.at hOK hout
    refine z_i2l C dL_holes_7 ?_
    refine z_last C hout1 (by decide) dL_holes_8 ?_
    refine z_goto (tgt := 15) C dL_holes_9 (by decide) ?_
    refine z_iconst C dL_holes_15 ?_
    refine zx_ret C E (fun X C E => ?_)
    exact z_iret C E dL_holes_16 (Nat.le_of_ble_eq_true rfl) (Nat.le_of_ble_eq_true rfl) ⟨_, zu_s, zO.zu (hO.mo (fun q hq => Or.inl hq)) (Or.inr rfl), Or.inl ⟨rfl, zw_s, hc⟩⟩
theorem qw_L_contours : zCalW yL_contours cL_contours 4 (some .int) [(0, 9, 12, 27)] 3 := ⟨m_876, m_35, m_877, by decide +kernel⟩
set_option maxRecDepth 100000 in
set_option maxHeartbeats 4000000 in
theorem w_contours {l : Launch} {D : va_G} {N0 : Nat} (hl0 : l.stackTraces = false) {K O : Nat} {f0 : Nat → Int64} {μ : zM} (hK : isKe D μ K) (hout : μ O = some (zAL D 1 f0)) (hOK : ¬ zb K 66 O) {r : Int} (hr : zir r) : zwMet l yL_contours cL_contours 4 (some .int) [(0, 9, 12, 27)] ({ frames := 8, cells := 2, slots := 12, locals := 320 } : Room) D N0 [.ref K, zi r, .ref O] μ (zQI D N0 (fun z u => ∃ fo : Nat → Int64, u O = some (zAL D 1 fo) ∧ zO (fun q => zb K 66 q ∨ q = O) μ u ∧ (z = 0 ∧ fo 0 = (Int32.ofInt (0)).toInt64 ∧ 0 ≤ r ∧ r < 8 ∨ z = 1 ∧ ¬ (0 ≤ r ∧ r < 8)))) := by
  refine zwMet_of rfl (Nat.le_of_ble_eq_true rfl) m_877 (fun X C Rm Tb E => ?_)
  refine z_aload_n C dL_contours_0 rfl ?_
  refine z_iconst C dL_contours_1 ?_
  refine z_aload_n C dL_contours_2 rfl ?_
  refine z_iload_n C dL_contours_3 rfl ?_
  refine zx_ci C (zx_rV C Rm qv_X6_contours m_878 (k_contours hl0 hK hr) hK.obj rfl dL_contours_4 rfl rfl (Nat.le_of_ble_eq_true rfl) rfl (by decide)) (fun En μ1 hx => ?_) (fun z μ1 hp => ?_)
  · rcases hx with ⟨⟨rfl, hc⟩ | ⟨rfl, hc⟩, hO⟩
    · refine zx_catch C Tb [] (0, 9, 12, 27) [] rfl (fun z hz => absurd hz List.not_mem_nil) (by decide) (by decide) m_641 ng_B (fun q9 => ?_)
      refine z_astore_n (L' := [_, _, _, _]) C dL_contours_12 rfl ?_
      refine z_iconst C dL_contours_13 ?_
      refine zx_ret C E (fun X C E => ?_)
      exact z_iret C E dL_contours_14 (Nat.le_of_ble_eq_true rfl) (Nat.le_of_ble_eq_true rfl) ⟨f0, hO.at hOK hout, hO.mo (fun q hq => Or.inl hq), Or.inr (⟨rfl, hc⟩)⟩
    · exact absurd trivial hc.2
  · obtain ⟨rfl, hc, hO⟩ := hp
    have hout1 := hO.at hOK hout
    refine z_i2l C dL_contours_7 ?_
    refine z_last C hout1 (by decide) dL_contours_8 ?_
    refine z_goto (tgt := 15) C dL_contours_9 (by decide) ?_
    refine z_iconst C dL_contours_15 ?_
    refine zx_ret C E (fun X C E => ?_)
    exact z_iret C E dL_contours_16 (Nat.le_of_ble_eq_true rfl) (Nat.le_of_ble_eq_true rfl) ⟨_, zu_s, zO.zu (hO.mo (fun q hq => Or.inl hq)) (Or.inr rfl), Or.inl ⟨rfl, zw_s, hc⟩⟩
theorem qw_L_strips : zCalW yL_strips cL_strips 4 (some .int) [(0, 9, 12, 27)] 3 := ⟨m_921, m_35, m_922, by decide +kernel⟩
set_option maxRecDepth 100000 in
set_option maxHeartbeats 4000000 in
theorem w_strips {l : Launch} {D : va_G} {N0 : Nat} (hl0 : l.stackTraces = false) {K O : Nat} {f0 : Nat → Int64} {μ : zM} (hK : isKe D μ K) (hout : μ O = some (zAL D 1 f0)) (hOK : ¬ zb K 66 O) {r : Int} (hr : zir r) : zwMet l yL_strips cL_strips 4 (some .int) [(0, 9, 12, 27)] ({ frames := 8, cells := 2, slots := 12, locals := 320 } : Room) D N0 [.ref K, zi r, .ref O] μ (zQI D N0 (fun z u => ∃ fo : Nat → Int64, u O = some (zAL D 1 fo) ∧ zO (fun q => zb K 66 q ∨ q = O) μ u ∧ (z = 0 ∧ fo 0 = (Int32.ofInt (0)).toInt64 ∧ 0 ≤ r ∧ r < 8 ∨ z = 1 ∧ ¬ (0 ≤ r ∧ r < 8)))) := by
  refine zwMet_of rfl (Nat.le_of_ble_eq_true rfl) m_922 (fun X C Rm Tb E => ?_)
  refine z_aload_n C dL_strips_0 rfl ?_
  refine z_iconst C dL_strips_1 ?_
  refine z_aload_n C dL_strips_2 rfl ?_
  refine z_iload_n C dL_strips_3 rfl ?_
  refine zx_ci C (zx_rV C Rm qv_X6_strips m_923 (k_strips hl0 hK hr) hK.obj rfl dL_strips_4 rfl rfl (Nat.le_of_ble_eq_true rfl) rfl (by decide)) (fun En μ1 hx => ?_) (fun z μ1 hp => ?_)
  · rcases hx with ⟨⟨rfl, hc⟩ | ⟨rfl, hc⟩, hO⟩
    · refine zx_catch C Tb [] (0, 9, 12, 27) [] rfl (fun z hz => absurd hz List.not_mem_nil) (by decide) (by decide) m_641 ng_B (fun q9 => ?_)
      refine z_astore_n (L' := [_, _, _, _]) C dL_strips_12 rfl ?_
      refine z_iconst C dL_strips_13 ?_
      refine zx_ret C E (fun X C E => ?_)
      exact z_iret C E dL_strips_14 (Nat.le_of_ble_eq_true rfl) (Nat.le_of_ble_eq_true rfl) ⟨f0, hO.at hOK hout, hO.mo (fun q hq => Or.inl hq), Or.inr (⟨rfl, hc⟩)⟩
    · exact absurd trivial hc.2
  · obtain ⟨rfl, hc, hO⟩ := hp
    have hout1 := hO.at hOK hout
    refine z_i2l C dL_strips_7 ?_
    refine z_last C hout1 (by decide) dL_strips_8 ?_
    refine z_goto (tgt := 15) C dL_strips_9 (by decide) ?_
    refine z_iconst C dL_strips_15 ?_
    refine zx_ret C E (fun X C E => ?_)
    exact z_iret C E dL_strips_16 (Nat.le_of_ble_eq_true rfl) (Nat.le_of_ble_eq_true rfl) ⟨_, zu_s, zO.zu (hO.mo (fun q hq => Or.inl hq)) (Or.inr rfl), Or.inl ⟨rfl, zw_s, hc⟩⟩
theorem qw_L_grow : zCalW yL_grow cL_grow 6 (some .int) [(0, 12, 15, 27), (0, 12, 19, 13), (0, 12, 23, 19)] 5 := ⟨m_771, m_35, m_772, by decide +kernel⟩
set_option maxRecDepth 100000 in
set_option maxHeartbeats 4000000 in
theorem w_grow {l : Launch} {D : va_G} {N0 : Nat} (hl0 : l.stackTraces = false) {K O : Nat} {f0 : Nat → Int64} {μ : zM} (hK : isKe D μ K) (hout : μ O = some (zAL D 1 f0)) (hOK : ¬ zb K 66 O) {r a b : Int} (hr : zir r) (ha : zir a) (hb : zir b) : zwMet l yL_grow cL_grow 6 (some .int) [(0, 12, 15, 27), (0, 12, 19, 13), (0, 12, 23, 19)] ({ frames := 8, cells := 4, slots := 24, locals := 320 } : Room) D N0 [.ref K, zi r, zi a, zi b, .ref O] μ (zQI D N0 (fun z u => ∃ fo : Nat → Int64, u O = some (zAL D 1 fo) ∧ zO (fun q => zb K 66 q ∨ q = O) μ u ∧ (z = 0 ∧ fo 0 = (Int32.ofInt (0)).toInt64 ∧ (0 ≤ r ∧ r < 8) ∧ (0 ≤ a ∧ a ≤ 8) ∧ 0 ≤ b ∧ b ≤ 1 ∨ z = 1 ∧ ¬ (0 ≤ r ∧ r < 8) ∨ z = 2 ∧ (0 ≤ r ∧ r < 8) ∧ ¬ ((0 ≤ a ∧ a ≤ 8) ∧ 0 ≤ b ∧ b ≤ 1)))) := by
  refine zwMet_of rfl (Nat.le_of_ble_eq_true rfl) m_772 (fun X C Rm Tb E => ?_)
  refine z_aload C dL_grow_0 rfl ?_
  refine z_iconst C dL_grow_2 ?_
  refine z_aload_n C dL_grow_3 rfl ?_
  refine z_iload_n C dL_grow_4 rfl ?_
  refine z_iload_n C dL_grow_5 rfl ?_
  refine z_iload_n C dL_grow_6 rfl ?_
  refine zx_ci C (zx_rV C Rm qv_X6_grow m_773 (k_grow hl0 hK hr ha hb) hK.obj rfl dL_grow_7 rfl rfl (Nat.le_of_ble_eq_true rfl) rfl (by decide)) (fun En μ1 hx => ?_) (fun z μ1 hp => ?_)
  · rcases hx with ⟨⟨rfl, hc⟩ | ⟨rfl, hc⟩, hO⟩
    · refine zx_catch C Tb [] (0, 12, 15, 27) [(0, 12, 19, 13), (0, 12, 23, 19)] rfl (fun z hz => absurd hz List.not_mem_nil) (by decide) (by decide) m_641 ng_B (fun q9 => ?_)
      refine z_astore (L' := [_, _, _, _, _, _]) C dL_grow_15 rfl ?_
      refine z_iconst C dL_grow_17 ?_
      refine zx_ret C E (fun X C E => ?_)
      exact z_iret C E dL_grow_18 (Nat.le_of_ble_eq_true rfl) (Nat.le_of_ble_eq_true rfl) ⟨f0, hO.at hOK hout, hO.mo (fun q hq => Or.inl hq), Or.inr (Or.inl ⟨rfl, hc⟩)⟩
    · refine zx_catch C Tb [(0, 12, 15, 27)] (0, 12, 19, 13) [(0, 12, 23, 19)] rfl (fun z hz => by obtain rfl := List.mem_singleton.mp hz; exact ⟨by decide, _, m_641, nc_AB⟩) (by decide) (by decide) m_503 ng_A (fun q9 => ?_)
      refine z_astore (L' := [_, _, _, _, _, _]) C dL_grow_19 rfl ?_
      refine z_iconst C dL_grow_21 ?_
      refine zx_ret C E (fun X C E => ?_)
      exact z_iret C E dL_grow_22 (Nat.le_of_ble_eq_true rfl) (Nat.le_of_ble_eq_true rfl) ⟨f0, hO.at hOK hout, hO.mo (fun q hq => Or.inl hq), Or.inr (Or.inr (⟨rfl, hc⟩))⟩
  · obtain ⟨rfl, hc, hO⟩ := hp
    have hout1 := hO.at hOK hout
    refine z_i2l C dL_grow_10 ?_
    refine z_last C hout1 (by decide) dL_grow_11 ?_
    refine z_goto (tgt := 27) C dL_grow_12 (by decide) ?_
    refine z_iconst C dL_grow_27 ?_
    refine zx_ret C E (fun X C E => ?_)
    exact z_iret C E dL_grow_28 (Nat.le_of_ble_eq_true rfl) (Nat.le_of_ble_eq_true rfl) ⟨_, zu_s, zO.zu (hO.mo (fun q hq => Or.inl hq)) (Or.inr rfl), Or.inl ⟨rfl, zw_s, hc⟩⟩
theorem qw_L_shrink : zCalW yL_shrink cL_shrink 6 (some .int) [(0, 12, 15, 27), (0, 12, 19, 13)] 5 := ⟨m_786, m_35, m_787, by decide +kernel⟩
set_option maxRecDepth 100000 in
set_option maxHeartbeats 4000000 in
theorem w_shrink {l : Launch} {D : va_G} {N0 : Nat} (hl0 : l.stackTraces = false) {K O : Nat} {f0 : Nat → Int64} {μ : zM} (hK : isKe D μ K) (hout : μ O = some (zAL D 1 f0)) (hOK : ¬ zb K 66 O) {r a b : Int} (hr : zir r) (ha : zir a) (hb : zir b) : zwMet l yL_shrink cL_shrink 6 (some .int) [(0, 12, 15, 27), (0, 12, 19, 13)] ({ frames := 8, cells := 4, slots := 24, locals := 320 } : Room) D N0 [.ref K, zi r, zi a, zi b, .ref O] μ (zQI D N0 (fun z u => ∃ fo : Nat → Int64, u O = some (zAL D 1 fo) ∧ zO (fun q => zb K 66 q ∨ q = O) μ u ∧ (z = 0 ∧ fo 0 = (Int32.ofInt (0)).toInt64 ∧ (0 ≤ r ∧ r < 8) ∧ (0 ≤ a ∧ a ≤ 8) ∧ 0 ≤ b ∧ b ≤ 1 ∨ z = 1 ∧ ¬ (0 ≤ r ∧ r < 8) ∨ z = 2 ∧ (0 ≤ r ∧ r < 8) ∧ ¬ ((0 ≤ a ∧ a ≤ 8) ∧ 0 ≤ b ∧ b ≤ 1)))) := by
  refine zwMet_of rfl (Nat.le_of_ble_eq_true rfl) m_787 (fun X C Rm Tb E => ?_)
  refine z_aload C dL_shrink_0 rfl ?_
  refine z_iconst C dL_shrink_2 ?_
  refine z_aload_n C dL_shrink_3 rfl ?_
  refine z_iload_n C dL_shrink_4 rfl ?_
  refine z_iload_n C dL_shrink_5 rfl ?_
  refine z_iload_n C dL_shrink_6 rfl ?_
  refine zx_ci C (zx_rV C Rm qv_X6_shrink m_788 (k_shrink hl0 hK hr ha hb) hK.obj rfl dL_shrink_7 rfl rfl (Nat.le_of_ble_eq_true rfl) rfl (by decide)) (fun En μ1 hx => ?_) (fun z μ1 hp => ?_)
  · rcases hx with ⟨⟨rfl, hc⟩ | ⟨rfl, hc⟩, hO⟩
    · refine zx_catch C Tb [] (0, 12, 15, 27) [(0, 12, 19, 13)] rfl (fun z hz => absurd hz List.not_mem_nil) (by decide) (by decide) m_641 ng_B (fun q9 => ?_)
      refine z_astore (L' := [_, _, _, _, _, _]) C dL_shrink_15 rfl ?_
      refine z_iconst C dL_shrink_17 ?_
      refine zx_ret C E (fun X C E => ?_)
      exact z_iret C E dL_shrink_18 (Nat.le_of_ble_eq_true rfl) (Nat.le_of_ble_eq_true rfl) ⟨f0, hO.at hOK hout, hO.mo (fun q hq => Or.inl hq), Or.inr (Or.inl ⟨rfl, hc⟩)⟩
    · refine zx_catch C Tb [(0, 12, 15, 27)] (0, 12, 19, 13) [] rfl (fun z hz => by obtain rfl := List.mem_singleton.mp hz; exact ⟨by decide, _, m_641, nc_AB⟩) (by decide) (by decide) m_503 ng_A (fun q9 => ?_)
      refine z_astore (L' := [_, _, _, _, _, _]) C dL_shrink_19 rfl ?_
      refine z_iconst C dL_shrink_21 ?_
      refine zx_ret C E (fun X C E => ?_)
      exact z_iret C E dL_shrink_22 (Nat.le_of_ble_eq_true rfl) (Nat.le_of_ble_eq_true rfl) ⟨f0, hO.at hOK hout, hO.mo (fun q hq => Or.inl hq), Or.inr (Or.inr (⟨rfl, hc⟩))⟩
  · obtain ⟨rfl, hc, hO⟩ := hp
    have hout1 := hO.at hOK hout
    refine z_i2l C dL_shrink_10 ?_
    refine z_last C hout1 (by decide) dL_shrink_11 ?_
    refine z_goto (tgt := 23) C dL_shrink_12 (by decide) ?_
    refine z_iconst C dL_shrink_23 ?_
    refine zx_ret C E (fun X C E => ?_)
    exact z_iret C E dL_shrink_24 (Nat.le_of_ble_eq_true rfl) (Nat.le_of_ble_eq_true rfl) ⟨_, zu_s, zO.zu (hO.mo (fun q hq => Or.inl hq)) (Or.inr rfl), Or.inl ⟨rfl, zw_s, hc⟩⟩
theorem qw_L_keepPiece : zCalW yL_keepPiece cL_keepPiece 6 (some .int) [(0, 12, 15, 27)] 5 := ⟨m_812, m_35, m_813, by decide +kernel⟩
set_option maxRecDepth 100000 in
set_option maxHeartbeats 4000000 in
theorem w_keepPiece {l : Launch} {D : va_G} {N0 : Nat} (hl0 : l.stackTraces = false) {K O : Nat} {f0 : Nat → Int64} {μ : zM} (hK : isKe D μ K) (hout : μ O = some (zAL D 1 f0)) (hOK : ¬ zb K 66 O) {r x y : Int} (hr : zir r) (hx : zir x) (hy : zir y) : zwMet l yL_keepPiece cL_keepPiece 6 (some .int) [(0, 12, 15, 27)] ({ frames := 8, cells := 2, slots := 12, locals := 320 } : Room) D N0 [.ref K, zi r, zi x, zi y, .ref O] μ (zQI D N0 (fun z u => ∃ fo : Nat → Int64, u O = some (zAL D 1 fo) ∧ zO (fun q => zb K 66 q ∨ q = O) μ u ∧ (z = 0 ∧ fo 0 = (Int32.ofInt (0)).toInt64 ∧ 0 ≤ r ∧ r < 8 ∨ z = 1 ∧ ¬ (0 ≤ r ∧ r < 8)))) := by
  refine zwMet_of rfl (Nat.le_of_ble_eq_true rfl) m_813 (fun X C Rm Tb E => ?_)
  refine z_aload C dL_keepPiece_0 rfl ?_
  refine z_iconst C dL_keepPiece_2 ?_
  refine z_aload_n C dL_keepPiece_3 rfl ?_
  refine z_iload_n C dL_keepPiece_4 rfl ?_
  refine z_iload_n C dL_keepPiece_5 rfl ?_
  refine z_iload_n C dL_keepPiece_6 rfl ?_
  refine zx_ci C (zx_rV C Rm qv_X6_keepPiece m_814 (k_keepPiece hl0 hK hr hx hy) hK.obj rfl dL_keepPiece_7 rfl rfl (Nat.le_of_ble_eq_true rfl) rfl (by decide)) (fun En μ1 hx => ?_) (fun z μ1 hp => ?_)
  · rcases hx with ⟨⟨rfl, hc⟩ | ⟨rfl, hc⟩, hO⟩
    · refine zx_catch C Tb [] (0, 12, 15, 27) [] rfl (fun z hz => absurd hz List.not_mem_nil) (by decide) (by decide) m_641 ng_B (fun q9 => ?_)
      refine z_astore (L' := [_, _, _, _, _, _]) C dL_keepPiece_15 rfl ?_
      refine z_iconst C dL_keepPiece_17 ?_
      refine zx_ret C E (fun X C E => ?_)
      exact z_iret C E dL_keepPiece_18 (Nat.le_of_ble_eq_true rfl) (Nat.le_of_ble_eq_true rfl) ⟨f0, hO.at hOK hout, hO.mo (fun q hq => Or.inl hq), Or.inr (⟨rfl, hc⟩)⟩
    · exact absurd trivial hc.2
  · obtain ⟨rfl, hc, hO⟩ := hp
    have hout1 := hO.at hOK hout
    refine z_i2l C dL_keepPiece_10 ?_
    refine z_last C hout1 (by decide) dL_keepPiece_11 ?_
    refine z_goto (tgt := 19) C dL_keepPiece_12 (by decide) ?_
    refine z_iconst C dL_keepPiece_19 ?_
    refine zx_ret C E (fun X C E => ?_)
    exact z_iret C E dL_keepPiece_20 (Nat.le_of_ble_eq_true rfl) (Nat.le_of_ble_eq_true rfl) ⟨_, zu_s, zO.zu (hO.mo (fun q hq => Or.inl hq)) (Or.inr rfl), Or.inl ⟨rfl, zw_s, hc⟩⟩
theorem qw_L_has : zCalW yL_has cL_has 6 (some .int) [(0, 19, 22, 27)] 5 := ⟨m_860, m_35, m_861, by decide +kernel⟩
set_option maxRecDepth 100000 in
set_option maxHeartbeats 4000000 in
theorem w_has {l : Launch} {D : va_G} {N0 : Nat} (hl0 : l.stackTraces = false) {K O : Nat} {f0 : Nat → Int64} {μ : zM} (hK : isKe D μ K) (hout : μ O = some (zAL D 1 f0)) (hOK : ¬ zb K 66 O) {r x y : Int} (hr : zir r) (hx : zir x) (hy : zir y) : zwMet l yL_has cL_has 6 (some .int) [(0, 19, 22, 27)] ({ frames := 8, cells := 2, slots := 12, locals := 320 } : Room) D N0 [.ref K, zi r, zi x, zi y, .ref O] μ (zQI D N0 (fun z u => ∃ fo : Nat → Int64, u O = some (zAL D 1 fo) ∧ zO (fun q => zb K 66 q ∨ q = O) μ u ∧ (z = 0 ∧ fo 0 = 0 ∧ 0 ≤ r ∧ r < 8 ∨ z = 1 ∧ ¬ (0 ≤ r ∧ r < 8)))) := by
  refine zwMet_of rfl (Nat.le_of_ble_eq_true rfl) m_861 (fun X C Rm Tb E => ?_)
  refine z_aload C dL_has_0 rfl ?_
  refine z_iconst C dL_has_2 ?_
  refine z_aload_n C dL_has_3 rfl ?_
  refine z_iload_n C dL_has_4 rfl ?_
  refine z_iload_n C dL_has_5 rfl ?_
  refine z_iload_n C dL_has_6 rfl ?_
  refine zx_ci C (zx_rV C Rm qv_X6_has m_862 (k_has hl0 hK hr hx hy) hK.obj rfl dL_has_7 rfl rfl (Nat.le_of_ble_eq_true rfl) rfl (by decide)) (fun En μ1 hx => ?_) (fun z μ1 hp => ?_)
  · rcases hx with ⟨⟨rfl, hc⟩ | ⟨rfl, hc⟩, hO⟩
    · refine zx_catch C Tb [] (0, 19, 22, 27) [] rfl (fun z hz => absurd hz List.not_mem_nil) (by decide) (by decide) m_641 ng_B (fun q9 => ?_)
      refine z_astore (L' := [_, _, _, _, _, _]) C dL_has_22 rfl ?_
      refine z_iconst C dL_has_24 ?_
      refine zx_ret C E (fun X C E => ?_)
      exact z_iret C E dL_has_25 (Nat.le_of_ble_eq_true rfl) (Nat.le_of_ble_eq_true rfl) ⟨f0, hO.at hOK hout, hO.mo (fun q hq => Or.inl hq), Or.inr (⟨rfl, hc⟩)⟩
    · exact absurd trivial hc.2
  · obtain ⟨rfl, hc, hO⟩ := hp
    have hout1 := hO.at hOK hout
    refine z_if_eq (tgt := 17) C dL_has_10 (by decide) (fun _ => ?_) (fun hno => absurd hno (fun h => h rfl))
    refine z_lconst_0 C dL_has_17 ?_
    refine z_last C hout1 (by decide) dL_has_18 ?_
    refine z_goto (tgt := 26) C dL_has_19 (by decide) ?_
    refine z_iconst C dL_has_26 ?_
    refine zx_ret C E (fun X C E => ?_)
    exact z_iret C E dL_has_27 (Nat.le_of_ble_eq_true rfl) (Nat.le_of_ble_eq_true rfl) ⟨_, zu_s, zO.zu (hO.mo (fun q hq => Or.inl hq)) (Or.inr rfl), Or.inl ⟨rfl, zw_s, hc⟩⟩
theorem qw_L_bound : zCalW yL_bound cL_bound 5 (some .int) [(0, 10, 13, 27), (0, 10, 17, 13)] 4 := ⟨m_868, m_35, m_869, by decide +kernel⟩
set_option maxRecDepth 100000 in
set_option maxHeartbeats 4000000 in
theorem w_bound {l : Launch} {D : va_G} {N0 : Nat} (hl0 : l.stackTraces = false) {K O : Nat} {f0 : Nat → Int64} {μ : zM} (hK : isKe D μ K) (hout : μ O = some (zAL D 1 f0)) (hOK : ¬ zb K 66 O) {r o : Int} (hr : zir r) (ho : zir o) : zwMet l yL_bound cL_bound 5 (some .int) [(0, 10, 13, 27), (0, 10, 17, 13)] ({ frames := 8, cells := 2, slots := 12, locals := 320 } : Room) D N0 [.ref K, zi r, zi o, .ref O] μ (zQI D N0 (fun z u => ∃ fo : Nat → Int64, u O = some (zAL D 1 fo) ∧ zO (fun q => zb K 66 q ∨ q = O) μ u ∧ (z = 0 ∧ fo 0 = (Int32.ofInt (0)).toInt64 ∧ (0 ≤ r ∧ r < 8) ∧ 0 ≤ o ∧ o ≤ 3 ∨ z = 1 ∧ ¬ (0 ≤ r ∧ r < 8) ∨ z = 2 ∧ (0 ≤ r ∧ r < 8) ∧ ¬ (0 ≤ o ∧ o ≤ 3)))) := by
  refine zwMet_of rfl (Nat.le_of_ble_eq_true rfl) m_869 (fun X C Rm Tb E => ?_)
  refine z_aload_n C dL_bound_0 rfl ?_
  refine z_iconst C dL_bound_1 ?_
  refine z_aload_n C dL_bound_2 rfl ?_
  refine z_iload_n C dL_bound_3 rfl ?_
  refine z_iload_n C dL_bound_4 rfl ?_
  refine zx_ci C (zx_rV C Rm qv_X6_bound m_870 (k_bound hl0 hK hr ho) hK.obj rfl dL_bound_5 rfl rfl (Nat.le_of_ble_eq_true rfl) rfl (by decide)) (fun En μ1 hx => ?_) (fun z μ1 hp => ?_)
  · rcases hx with ⟨⟨rfl, hc⟩ | ⟨rfl, hc⟩, hO⟩
    · refine zx_catch C Tb [] (0, 10, 13, 27) [(0, 10, 17, 13)] rfl (fun z hz => absurd hz List.not_mem_nil) (by decide) (by decide) m_641 ng_B (fun q9 => ?_)
      refine z_astore (L' := [_, _, _, _, _]) C dL_bound_13 rfl ?_
      refine z_iconst C dL_bound_15 ?_
      refine zx_ret C E (fun X C E => ?_)
      exact z_iret C E dL_bound_16 (Nat.le_of_ble_eq_true rfl) (Nat.le_of_ble_eq_true rfl) ⟨f0, hO.at hOK hout, hO.mo (fun q hq => Or.inl hq), Or.inr (Or.inl ⟨rfl, hc⟩)⟩
    · refine zx_catch C Tb [(0, 10, 13, 27)] (0, 10, 17, 13) [] rfl (fun z hz => by obtain rfl := List.mem_singleton.mp hz; exact ⟨by decide, _, m_641, nc_AB⟩) (by decide) (by decide) m_503 ng_A (fun q9 => ?_)
      refine z_astore (L' := [_, _, _, _, _]) C dL_bound_17 rfl ?_
      refine z_iconst C dL_bound_19 ?_
      refine zx_ret C E (fun X C E => ?_)
      exact z_iret C E dL_bound_20 (Nat.le_of_ble_eq_true rfl) (Nat.le_of_ble_eq_true rfl) ⟨f0, hO.at hOK hout, hO.mo (fun q hq => Or.inl hq), Or.inr (Or.inr (⟨rfl, hc⟩))⟩
  · obtain ⟨rfl, hc, hO⟩ := hp
    have hout1 := hO.at hOK hout
    refine z_i2l C dL_bound_8 ?_
    refine z_last C hout1 (by decide) dL_bound_9 ?_
    refine z_goto (tgt := 21) C dL_bound_10 (by decide) ?_
    refine z_iconst C dL_bound_21 ?_
    refine zx_ret C E (fun X C E => ?_)
    exact z_iret C E dL_bound_22 (Nat.le_of_ble_eq_true rfl) (Nat.le_of_ble_eq_true rfl) ⟨_, zu_s, zO.zu (hO.mo (fun q hq => Or.inl hq)) (Or.inr rfl), Or.inl ⟨rfl, zw_s, hc⟩⟩
theorem qw_L_corners : zCalW yL_corners cL_corners 5 (some .int) [(0, 10, 13, 27)] 4 := ⟨m_883, m_35, m_884, by decide +kernel⟩
set_option maxRecDepth 100000 in
set_option maxHeartbeats 4000000 in
theorem w_corners {l : Launch} {D : va_G} {N0 : Nat} (hl0 : l.stackTraces = false) {K O : Nat} {f0 : Nat → Int64} {μ : zM} (hK : isKe D μ K) (hout : μ O = some (zAL D 1 f0)) (hOK : ¬ zb K 66 O) {r o : Int} (hr : zir r) (ho : zir o) : zwMet l yL_corners cL_corners 5 (some .int) [(0, 10, 13, 27)] ({ frames := 9, cells := 3, slots := 18, locals := 360 } : Room) D N0 [.ref K, zi r, zi o, .ref O] μ (zQI D N0 (fun z u => ∃ fo : Nat → Int64, u O = some (zAL D 1 fo) ∧ zO (fun q => zb K 66 q ∨ q = O) μ u ∧ (z = 1))) := by
  refine zwMet_of rfl (Nat.le_of_ble_eq_true rfl) m_884 (fun X C Rm Tb E => ?_)
  refine z_aload_n C dL_corners_0 rfl ?_
  refine z_iconst C dL_corners_1 ?_
  refine z_aload_n C dL_corners_2 rfl ?_
  refine z_iload_n C dL_corners_3 rfl ?_
  refine z_iload_n C dL_corners_4 rfl ?_
  refine zx_ci C (zx_rV C Rm qv_X6_corners m_885 (k_corners hl0 hK hr ho) hK.obj rfl dL_corners_5 rfl rfl (Nat.le_of_ble_eq_true rfl) rfl (by decide)) (fun En μ1 hx => ?_) (fun z μ1 hp => ?_)
  · obtain ⟨rfl, hO⟩ := hx
    refine zx_catch C Tb [] (0, 10, 13, 27) [] rfl (fun z hz => absurd hz List.not_mem_nil) (by decide) (by decide) m_641 ng_B (fun q9 => ?_)
    refine z_astore (L' := [_, _, _, _, _]) C dL_corners_13 rfl ?_
    refine z_iconst C dL_corners_15 ?_
    refine zx_ret C E (fun X C E => ?_)
    exact z_iret C E dL_corners_16 (Nat.le_of_ble_eq_true rfl) (Nat.le_of_ble_eq_true rfl) ⟨f0, hO.at hOK hout, hO.mo (fun q hq => Or.inl hq), rfl⟩
  · exact hp.elim
theorem qw_L_areaOf : zCalW yL_areaOf cL_areaOf 5 (some .int) [(0, 10, 13, 27)] 4 := ⟨m_914, m_35, m_915, by decide +kernel⟩
set_option maxRecDepth 100000 in
set_option maxHeartbeats 4000000 in
theorem w_areaOf {l : Launch} {D : va_G} {N0 : Nat} (hl0 : l.stackTraces = false) {K O : Nat} {f0 : Nat → Int64} {μ : zM} (hK : isKe D μ K) (hout : μ O = some (zAL D 1 f0)) (hOK : ¬ zb K 66 O) {r o : Int} (hr : zir r) (ho : zir o) : zwMet l yL_areaOf cL_areaOf 5 (some .int) [(0, 10, 13, 27)] ({ frames := 9, cells := 3, slots := 18, locals := 360 } : Room) D N0 [.ref K, zi r, zi o, .ref O] μ (zQI D N0 (fun z u => ∃ fo : Nat → Int64, u O = some (zAL D 1 fo) ∧ zO (fun q => zb K 66 q ∨ q = O) μ u ∧ (z = 1))) := by
  refine zwMet_of rfl (Nat.le_of_ble_eq_true rfl) m_915 (fun X C Rm Tb E => ?_)
  refine z_aload_n C dL_areaOf_0 rfl ?_
  refine z_iconst C dL_areaOf_1 ?_
  refine z_aload_n C dL_areaOf_2 rfl ?_
  refine z_iload_n C dL_areaOf_3 rfl ?_
  refine z_iload_n C dL_areaOf_4 rfl ?_
  refine zx_ci C (zx_rV C Rm qv_X6_areaOf m_916 (k_areaOf hl0 hK hr ho) hK.obj rfl dL_areaOf_5 rfl rfl (Nat.le_of_ble_eq_true rfl) rfl (by decide)) (fun En μ1 hx => ?_) (fun z μ1 hp => ?_)
  · obtain ⟨rfl, hO⟩ := hx
    refine zx_catch C Tb [] (0, 10, 13, 27) [] rfl (fun z hz => absurd hz List.not_mem_nil) (by decide) (by decide) m_641 ng_B (fun q9 => ?_)
    refine z_astore (L' := [_, _, _, _, _]) C dL_areaOf_13 rfl ?_
    refine z_iconst C dL_areaOf_15 ?_
    refine zx_ret C E (fun X C E => ?_)
    exact z_iret C E dL_areaOf_16 (Nat.le_of_ble_eq_true rfl) (Nat.le_of_ble_eq_true rfl) ⟨f0, hO.at hOK hout, hO.mo (fun q hq => Or.inl hq), rfl⟩
  · exact hp.elim
theorem qw_L_cornerX : zCalW yL_cornerX cL_cornerX 6 (some .int) [(0, 12, 15, 27)] 5 := ⟨m_900, m_35, m_901, by decide +kernel⟩
set_option maxRecDepth 100000 in
set_option maxHeartbeats 4000000 in
theorem w_cornerX {l : Launch} {D : va_G} {N0 : Nat} (hl0 : l.stackTraces = false) {K O : Nat} {f0 : Nat → Int64} {μ : zM} (hK : isKe D μ K) (hout : μ O = some (zAL D 1 f0)) (hOK : ¬ zb K 66 O) {r o k : Int} (hr : zir r) (ho : zir o) (hk : zir k) : zwMet l yL_cornerX cL_cornerX 6 (some .int) [(0, 12, 15, 27)] ({ frames := 9, cells := 3, slots := 18, locals := 360 } : Room) D N0 [.ref K, zi r, zi o, zi k, .ref O] μ (zQI D N0 (fun z u => ∃ fo : Nat → Int64, u O = some (zAL D 1 fo) ∧ zO (fun q => zb K 66 q ∨ q = O) μ u ∧ (z = 1))) := by
  refine zwMet_of rfl (Nat.le_of_ble_eq_true rfl) m_901 (fun X C Rm Tb E => ?_)
  refine z_aload C dL_cornerX_0 rfl ?_
  refine z_iconst C dL_cornerX_2 ?_
  refine z_aload_n C dL_cornerX_3 rfl ?_
  refine z_iload_n C dL_cornerX_4 rfl ?_
  refine z_iload_n C dL_cornerX_5 rfl ?_
  refine z_iload_n C dL_cornerX_6 rfl ?_
  refine zx_ci C (zx_rV C Rm qv_X6_cornerX m_902 (k_cornerX hl0 hK hr ho hk) hK.obj rfl dL_cornerX_7 rfl rfl (Nat.le_of_ble_eq_true rfl) rfl (by decide)) (fun En μ1 hx => ?_) (fun z μ1 hp => ?_)
  · obtain ⟨rfl, hO⟩ := hx
    refine zx_catch C Tb [] (0, 12, 15, 27) [] rfl (fun z hz => absurd hz List.not_mem_nil) (by decide) (by decide) m_641 ng_B (fun q9 => ?_)
    refine z_astore (L' := [_, _, _, _, _, _]) C dL_cornerX_15 rfl ?_
    refine z_iconst C dL_cornerX_17 ?_
    refine zx_ret C E (fun X C E => ?_)
    exact z_iret C E dL_cornerX_18 (Nat.le_of_ble_eq_true rfl) (Nat.le_of_ble_eq_true rfl) ⟨f0, hO.at hOK hout, hO.mo (fun q hq => Or.inl hq), rfl⟩
  · exact hp.elim
theorem qw_L_cornerY : zCalW yL_cornerY cL_cornerY 6 (some .int) [(0, 12, 15, 27)] 5 := ⟨m_907, m_35, m_908, by decide +kernel⟩
set_option maxRecDepth 100000 in
set_option maxHeartbeats 4000000 in
theorem w_cornerY {l : Launch} {D : va_G} {N0 : Nat} (hl0 : l.stackTraces = false) {K O : Nat} {f0 : Nat → Int64} {μ : zM} (hK : isKe D μ K) (hout : μ O = some (zAL D 1 f0)) (hOK : ¬ zb K 66 O) {r o k : Int} (hr : zir r) (ho : zir o) (hk : zir k) : zwMet l yL_cornerY cL_cornerY 6 (some .int) [(0, 12, 15, 27)] ({ frames := 9, cells := 3, slots := 18, locals := 360 } : Room) D N0 [.ref K, zi r, zi o, zi k, .ref O] μ (zQI D N0 (fun z u => ∃ fo : Nat → Int64, u O = some (zAL D 1 fo) ∧ zO (fun q => zb K 66 q ∨ q = O) μ u ∧ (z = 1))) := by
  refine zwMet_of rfl (Nat.le_of_ble_eq_true rfl) m_908 (fun X C Rm Tb E => ?_)
  refine z_aload C dL_cornerY_0 rfl ?_
  refine z_iconst C dL_cornerY_2 ?_
  refine z_aload_n C dL_cornerY_3 rfl ?_
  refine z_iload_n C dL_cornerY_4 rfl ?_
  refine z_iload_n C dL_cornerY_5 rfl ?_
  refine z_iload_n C dL_cornerY_6 rfl ?_
  refine zx_ci C (zx_rV C Rm qv_X6_cornerY m_909 (k_cornerY hl0 hK hr ho hk) hK.obj rfl dL_cornerY_7 rfl rfl (Nat.le_of_ble_eq_true rfl) rfl (by decide)) (fun En μ1 hx => ?_) (fun z μ1 hp => ?_)
  · obtain ⟨rfl, hO⟩ := hx
    refine zx_catch C Tb [] (0, 12, 15, 27) [] rfl (fun z hz => absurd hz List.not_mem_nil) (by decide) (by decide) m_641 ng_B (fun q9 => ?_)
    refine z_astore (L' := [_, _, _, _, _, _]) C dL_cornerY_15 rfl ?_
    refine z_iconst C dL_cornerY_17 ?_
    refine zx_ret C E (fun X C E => ?_)
    exact z_iret C E dL_cornerY_18 (Nat.le_of_ble_eq_true rfl) (Nat.le_of_ble_eq_true rfl) ⟨f0, hO.at hOK hout, hO.mo (fun q hq => Or.inl hq), rfl⟩
  · exact hp.elim
theorem qw_L_strip : zCalW yL_strip cL_strip 6 (some .int) [(0, 12, 15, 27), (0, 12, 19, 13)] 5 := ⟨m_928, m_35, m_929, by decide +kernel⟩
set_option maxRecDepth 100000 in
set_option maxHeartbeats 4000000 in
theorem w_strip {l : Launch} {D : va_G} {N0 : Nat} (hl0 : l.stackTraces = false) {K O : Nat} {f0 : Nat → Int64} {μ : zM} (hK : isKe D μ K) (hout : μ O = some (zAL D 1 f0)) (hOK : ¬ zb K 66 O) {r o k : Int} (hr : zir r) (ho : zir o) (hk : zir k) : zwMet l yL_strip cL_strip 6 (some .int) [(0, 12, 15, 27), (0, 12, 19, 13)] ({ frames := 8, cells := 2, slots := 12, locals := 320 } : Room) D N0 [.ref K, zi r, zi o, zi k, .ref O] μ (zQI D N0 (fun z u => ∃ fo : Nat → Int64, u O = some (zAL D 1 fo) ∧ zO (fun q => zb K 66 q ∨ q = O) μ u ∧ (z = 1))) := by
  refine zwMet_of rfl (Nat.le_of_ble_eq_true rfl) m_929 (fun X C Rm Tb E => ?_)
  refine z_aload C dL_strip_0 rfl ?_
  refine z_iconst C dL_strip_2 ?_
  refine z_aload_n C dL_strip_3 rfl ?_
  refine z_iload_n C dL_strip_4 rfl ?_
  refine z_iload_n C dL_strip_5 rfl ?_
  refine z_iload_n C dL_strip_6 rfl ?_
  refine zx_ci C (zx_rV C Rm qv_X6_strip m_930 (k_strip hl0 hK hr ho hk) hK.obj rfl dL_strip_7 rfl rfl (Nat.le_of_ble_eq_true rfl) rfl (by decide)) (fun En μ1 hx => ?_) (fun z μ1 hp => ?_)
  · obtain ⟨rfl, hO⟩ := hx
    refine zx_catch C Tb [] (0, 12, 15, 27) [(0, 12, 19, 13)] rfl (fun z hz => absurd hz List.not_mem_nil) (by decide) (by decide) m_641 ng_B (fun q9 => ?_)
    refine z_astore (L' := [_, _, _, _, _, _]) C dL_strip_15 rfl ?_
    refine z_iconst C dL_strip_17 ?_
    refine zx_ret C E (fun X C E => ?_)
    exact z_iret C E dL_strip_18 (Nat.le_of_ble_eq_true rfl) (Nat.le_of_ble_eq_true rfl) ⟨f0, hO.at hOK hout, hO.mo (fun q hq => Or.inl hq), rfl⟩
  · exact hp.elim
theorem qw_L_hatch : zCalW yL_hatch cL_hatch 7 (some .int) [(0, 14, 17, 27), (0, 14, 21, 13)] 6 := ⟨m_941, m_35, m_942, by decide +kernel⟩
set_option maxRecDepth 100000 in
set_option maxHeartbeats 4000000 in
theorem w_hatch {l : Launch} {D : va_G} {N0 : Nat} (hl0 : l.stackTraces = false) {K O : Nat} {f0 : Nat → Int64} {μ : zM} (hK : isKe D μ K) (hout : μ O = some (zAL D 1 f0)) (hOK : ¬ zb K 66 O) {r k e f : Int} (hr : zir r) (hk : zir k) (he : zir e) (hf : zir f) : zwMet l yL_hatch cL_hatch 7 (some .int) [(0, 14, 17, 27), (0, 14, 21, 13)] ({ frames := 8, cells := 2, slots := 12, locals := 320 } : Room) D N0 [.ref K, zi r, zi k, zi e, zi f, .ref O] μ (zQI D N0 (fun z u => ∃ fo : Nat → Int64, u O = some (zAL D 1 fo) ∧ zO (fun q => zb K 66 q ∨ q = O) μ u ∧ (z = 0 ∧ fo 0 = (Int32.ofInt (0)).toInt64 ∧ (0 ≤ r ∧ r < 8) ∧ (0 ≤ k ∧ k ≤ 3) ∧ (1 ≤ e ∧ e ≤ 20) ∧ -100 ≤ f ∧ f ≤ 100 ∨ z = 1 ∧ ¬ (0 ≤ r ∧ r < 8) ∨ z = 2 ∧ (0 ≤ r ∧ r < 8) ∧ ¬ ((0 ≤ k ∧ k ≤ 3) ∧ (1 ≤ e ∧ e ≤ 20) ∧ -100 ≤ f ∧ f ≤ 100)))) := by
  refine zwMet_of rfl (Nat.le_of_ble_eq_true rfl) m_942 (fun X C Rm Tb E => ?_)
  refine z_aload C dL_hatch_0 rfl ?_
  refine z_iconst C dL_hatch_2 ?_
  refine z_aload_n C dL_hatch_3 rfl ?_
  refine z_iload_n C dL_hatch_4 rfl ?_
  refine z_iload_n C dL_hatch_5 rfl ?_
  refine z_iload_n C dL_hatch_6 rfl ?_
  refine z_iload C dL_hatch_7 rfl ?_
  refine zx_ci C (zx_rV C Rm qv_X6_hatch m_943 (k_hatch hl0 hK hr hk he hf) hK.obj rfl dL_hatch_9 rfl rfl (Nat.le_of_ble_eq_true rfl) rfl (by decide)) (fun En μ1 hx => ?_) (fun z μ1 hp => ?_)
  · rcases hx with ⟨⟨rfl, hc⟩ | ⟨rfl, hc⟩, hO⟩
    · refine zx_catch C Tb [] (0, 14, 17, 27) [(0, 14, 21, 13)] rfl (fun z hz => absurd hz List.not_mem_nil) (by decide) (by decide) m_641 ng_B (fun q9 => ?_)
      refine z_astore (L' := [_, _, _, _, _, _, _]) C dL_hatch_17 rfl ?_
      refine z_iconst C dL_hatch_19 ?_
      refine zx_ret C E (fun X C E => ?_)
      exact z_iret C E dL_hatch_20 (Nat.le_of_ble_eq_true rfl) (Nat.le_of_ble_eq_true rfl) ⟨f0, hO.at hOK hout, hO.mo (fun q hq => Or.inl hq), Or.inr (Or.inl ⟨rfl, hc⟩)⟩
    · refine zx_catch C Tb [(0, 14, 17, 27)] (0, 14, 21, 13) [] rfl (fun z hz => by obtain rfl := List.mem_singleton.mp hz; exact ⟨by decide, _, m_641, nc_AB⟩) (by decide) (by decide) m_503 ng_A (fun q9 => ?_)
      refine z_astore (L' := [_, _, _, _, _, _, _]) C dL_hatch_21 rfl ?_
      refine z_iconst C dL_hatch_23 ?_
      refine zx_ret C E (fun X C E => ?_)
      exact z_iret C E dL_hatch_24 (Nat.le_of_ble_eq_true rfl) (Nat.le_of_ble_eq_true rfl) ⟨f0, hO.at hOK hout, hO.mo (fun q hq => Or.inl hq), Or.inr (Or.inr (⟨rfl, hc⟩))⟩
  · obtain ⟨rfl, hc, hO⟩ := hp
    have hout1 := hO.at hOK hout
    refine z_i2l C dL_hatch_12 ?_
    refine z_last C hout1 (by decide) dL_hatch_13 ?_
    refine z_goto (tgt := 25) C dL_hatch_14 (by decide) ?_
    refine z_iconst C dL_hatch_25 ?_
    refine zx_ret C E (fun X C E => ?_)
    exact z_iret C E dL_hatch_26 (Nat.le_of_ble_eq_true rfl) (Nat.le_of_ble_eq_true rfl) ⟨_, zu_s, zO.zu (hO.mo (fun q hq => Or.inl hq)) (Or.inr rfl), Or.inl ⟨rfl, zw_s, hc⟩⟩
theorem qw_L_hatched : zCalW yL_hatched cL_hatched 7 (some .int) [(0, 14, 17, 27), (0, 14, 21, 13)] 6 := ⟨m_962, m_35, m_963, by decide +kernel⟩
set_option maxRecDepth 100000 in
set_option maxHeartbeats 4000000 in
theorem w_hatched {l : Launch} {D : va_G} {N0 : Nat} (hl0 : l.stackTraces = false) {K O : Nat} {f0 : Nat → Int64} {μ : zM} (hK : isKe D μ K) (hout : μ O = some (zAL D 1 f0)) (hOK : ¬ zb K 66 O) {r k e f : Int} (hr : zir r) (hk : zir k) (he : zir e) (hf : zir f) : zwMet l yL_hatched cL_hatched 7 (some .int) [(0, 14, 17, 27), (0, 14, 21, 13)] ({ frames := 8, cells := 2, slots := 12, locals := 320 } : Room) D N0 [.ref K, zi r, zi k, zi e, zi f, .ref O] μ (zQI D N0 (fun z u => ∃ fo : Nat → Int64, u O = some (zAL D 1 fo) ∧ zO (fun q => zb K 66 q ∨ q = O) μ u ∧ (z = 0 ∧ fo 0 = (Int32.ofInt (0)).toInt64 ∧ (0 ≤ r ∧ r < 8) ∧ (0 ≤ k ∧ k ≤ 3) ∧ (1 ≤ e ∧ e ≤ 20) ∧ -100 ≤ f ∧ f ≤ 100 ∨ z = 1 ∧ ¬ (0 ≤ r ∧ r < 8) ∨ z = 2 ∧ (0 ≤ r ∧ r < 8) ∧ ¬ ((0 ≤ k ∧ k ≤ 3) ∧ (1 ≤ e ∧ e ≤ 20) ∧ -100 ≤ f ∧ f ≤ 100)))) := by
  refine zwMet_of rfl (Nat.le_of_ble_eq_true rfl) m_963 (fun X C Rm Tb E => ?_)
  refine z_aload C dL_hatched_0 rfl ?_
  refine z_iconst C dL_hatched_2 ?_
  refine z_aload_n C dL_hatched_3 rfl ?_
  refine z_iload_n C dL_hatched_4 rfl ?_
  refine z_iload_n C dL_hatched_5 rfl ?_
  refine z_iload_n C dL_hatched_6 rfl ?_
  refine z_iload C dL_hatched_7 rfl ?_
  refine zx_ci C (zx_rV C Rm qv_X6_hatched m_964 (k_hatched hl0 hK hr hk he hf) hK.obj rfl dL_hatched_9 rfl rfl (Nat.le_of_ble_eq_true rfl) rfl (by decide)) (fun En μ1 hx => ?_) (fun z μ1 hp => ?_)
  · rcases hx with ⟨⟨rfl, hc⟩ | ⟨rfl, hc⟩, hO⟩
    · refine zx_catch C Tb [] (0, 14, 17, 27) [(0, 14, 21, 13)] rfl (fun z hz => absurd hz List.not_mem_nil) (by decide) (by decide) m_641 ng_B (fun q9 => ?_)
      refine z_astore (L' := [_, _, _, _, _, _, _]) C dL_hatched_17 rfl ?_
      refine z_iconst C dL_hatched_19 ?_
      refine zx_ret C E (fun X C E => ?_)
      exact z_iret C E dL_hatched_20 (Nat.le_of_ble_eq_true rfl) (Nat.le_of_ble_eq_true rfl) ⟨f0, hO.at hOK hout, hO.mo (fun q hq => Or.inl hq), Or.inr (Or.inl ⟨rfl, hc⟩)⟩
    · refine zx_catch C Tb [(0, 14, 17, 27)] (0, 14, 21, 13) [] rfl (fun z hz => by obtain rfl := List.mem_singleton.mp hz; exact ⟨by decide, _, m_641, nc_AB⟩) (by decide) (by decide) m_503 ng_A (fun q9 => ?_)
      refine z_astore (L' := [_, _, _, _, _, _, _]) C dL_hatched_21 rfl ?_
      refine z_iconst C dL_hatched_23 ?_
      refine zx_ret C E (fun X C E => ?_)
      exact z_iret C E dL_hatched_24 (Nat.le_of_ble_eq_true rfl) (Nat.le_of_ble_eq_true rfl) ⟨f0, hO.at hOK hout, hO.mo (fun q hq => Or.inl hq), Or.inr (Or.inr (⟨rfl, hc⟩))⟩
  · obtain ⟨rfl, hc, hO⟩ := hp
    have hout1 := hO.at hOK hout
    refine z_i2l C dL_hatched_12 ?_
    refine z_last C hout1 (by decide) dL_hatched_13 ?_
    refine z_goto (tgt := 25) C dL_hatched_14 (by decide) ?_
    refine z_iconst C dL_hatched_25 ?_
    refine zx_ret C E (fun X C E => ?_)
    exact z_iret C E dL_hatched_26 (Nat.le_of_ble_eq_true rfl) (Nat.le_of_ble_eq_true rfl) ⟨_, zu_s, zO.zu (hO.mo (fun q hq => Or.inl hq)) (Or.inr rfl), Or.inl ⟨rfl, zw_s, hc⟩⟩
theorem qw_L_apart : zCalW yL_apart cL_apart 5 (some .int) [(0, 10, 13, 27)] 4 := ⟨m_969, m_35, m_970, by decide +kernel⟩
set_option maxRecDepth 100000 in
set_option maxHeartbeats 4000000 in
theorem w_apart {l : Launch} {D : va_G} {N0 : Nat} (hl0 : l.stackTraces = false) {K O : Nat} {f0 : Nat → Int64} {μ : zM} (hK : isKe D μ K) (hout : μ O = some (zAL D 1 f0)) (hOK : ¬ zb K 66 O) {p q : Int} (hp : zir p) (hq : zir q) : zwMet l yL_apart cL_apart 5 (some .int) [(0, 10, 13, 27)] ({ frames := 8, cells := 2, slots := 12, locals := 320 } : Room) D N0 [.ref K, zi p, zi q, .ref O] μ (zQI D N0 (fun z u => ∃ fo : Nat → Int64, u O = some (zAL D 1 fo) ∧ zO (fun q => zb K 66 q ∨ q = O) μ u ∧ (z = 0 ∧ fo 0 = (Int32.ofInt (-1)).toInt64 ∧ (0 ≤ p ∧ p < 8) ∧ 0 ≤ q ∧ q < 8 ∨ z = 1 ∧ ¬ ((0 ≤ p ∧ p < 8) ∧ 0 ≤ q ∧ q < 8)))) := by
  refine zwMet_of rfl (Nat.le_of_ble_eq_true rfl) m_970 (fun X C Rm Tb E => ?_)
  refine z_aload_n C dL_apart_0 rfl ?_
  refine z_iconst C dL_apart_1 ?_
  refine z_aload_n C dL_apart_2 rfl ?_
  refine z_iload_n C dL_apart_3 rfl ?_
  refine z_iload_n C dL_apart_4 rfl ?_
  refine zx_ci C (zx_rV C Rm qv_X6_apart m_971 (k_apart hl0 hK hp hq) hK.obj rfl dL_apart_5 rfl rfl (Nat.le_of_ble_eq_true rfl) rfl (by decide)) (fun En μ1 hx => ?_) (fun z μ1 hp => ?_)
  · obtain ⟨rfl, hc, hO⟩ := hx
    refine zx_catch C Tb [] (0, 10, 13, 27) [] rfl (fun z hz => absurd hz List.not_mem_nil) (by decide) (by decide) m_641 ng_B (fun q9 => ?_)
    refine z_astore (L' := [_, _, _, _, _]) C dL_apart_13 rfl ?_
    refine z_iconst C dL_apart_15 ?_
    refine zx_ret C E (fun X C E => ?_)
    exact z_iret C E dL_apart_16 (Nat.le_of_ble_eq_true rfl) (Nat.le_of_ble_eq_true rfl) ⟨f0, hO.at hOK hout, hO.mo (fun q hq => Or.inl hq), Or.inr (⟨rfl, hc⟩)⟩
  · obtain ⟨rfl, hc, hO⟩ := hp
    have hout1 := hO.at hOK hout
    refine z_i2l C dL_apart_8 ?_
    refine z_last C hout1 (by decide) dL_apart_9 ?_
    refine z_goto (tgt := 17) C dL_apart_10 (by decide) ?_
    refine z_iconst C dL_apart_17 ?_
    refine zx_ret C E (fun X C E => ?_)
    exact z_iret C E dL_apart_18 (Nat.le_of_ble_eq_true rfl) (Nat.le_of_ble_eq_true rfl) ⟨_, zu_s, zO.zu (hO.mo (fun q hq => Or.inl hq)) (Or.inr rfl), Or.inl ⟨rfl, zw_s, hc⟩⟩
theorem qw_L_isSameForm : zCalW yL_isSameForm cL_isSameForm 5 (some .int) [(0, 17, 20, 27)] 4 := ⟨m_980, m_35, m_981, by decide +kernel⟩
set_option maxRecDepth 100000 in
set_option maxHeartbeats 4000000 in
theorem w_isSameForm {l : Launch} {D : va_G} {N0 : Nat} (hl0 : l.stackTraces = false) {K O : Nat} {f0 : Nat → Int64} {μ : zM} (hK : isKe D μ K) (hout : μ O = some (zAL D 1 f0)) (hOK : ¬ zb K 66 O) {p q : Int} (hp : zir p) (hq : zir q) : zwMet l yL_isSameForm cL_isSameForm 5 (some .int) [(0, 17, 20, 27)] ({ frames := 8, cells := 2, slots := 12, locals := 320 } : Room) D N0 [.ref K, zi p, zi q, .ref O] μ (zQI D N0 (fun z u => ∃ fo : Nat → Int64, u O = some (zAL D 1 fo) ∧ zO (fun q => zb K 66 q ∨ q = O) μ u ∧ (z = 0 ∧ fo 0 = 1 ∧ (0 ≤ p ∧ p < 8) ∧ 0 ≤ q ∧ q < 8 ∨ z = 1 ∧ ¬ ((0 ≤ p ∧ p < 8) ∧ 0 ≤ q ∧ q < 8)))) := by
  refine zwMet_of rfl (Nat.le_of_ble_eq_true rfl) m_981 (fun X C Rm Tb E => ?_)
  refine z_aload_n C dL_isSameForm_0 rfl ?_
  refine z_iconst C dL_isSameForm_1 ?_
  refine z_aload_n C dL_isSameForm_2 rfl ?_
  refine z_iload_n C dL_isSameForm_3 rfl ?_
  refine z_iload_n C dL_isSameForm_4 rfl ?_
  refine zx_ci C (zx_rV C Rm qv_X6_isSameForm m_982 (k_isSameForm hl0 hK hp hq) hK.obj rfl dL_isSameForm_5 rfl rfl (Nat.le_of_ble_eq_true rfl) rfl (by decide)) (fun En μ1 hx => ?_) (fun z μ1 hp => ?_)
  · obtain ⟨rfl, hc, hO⟩ := hx
    refine zx_catch C Tb [] (0, 17, 20, 27) [] rfl (fun z hz => absurd hz List.not_mem_nil) (by decide) (by decide) m_641 ng_B (fun q9 => ?_)
    refine z_astore (L' := [_, _, _, _, _]) C dL_isSameForm_20 rfl ?_
    refine z_iconst C dL_isSameForm_22 ?_
    refine zx_ret C E (fun X C E => ?_)
    exact z_iret C E dL_isSameForm_23 (Nat.le_of_ble_eq_true rfl) (Nat.le_of_ble_eq_true rfl) ⟨f0, hO.at hOK hout, hO.mo (fun q hq => Or.inl hq), Or.inr (⟨rfl, hc⟩)⟩
  · obtain ⟨rfl, hc, hO⟩ := hp
    have hout1 := hO.at hOK hout
    refine z_if_eq (tgt := 15) C dL_isSameForm_8 (by decide) (fun hno => absurd hno (by decide)) (fun _ => ?_)
    refine z_lconst_1 C dL_isSameForm_11 ?_
    refine z_goto (tgt := 16) C dL_isSameForm_12 (by decide) ?_
    refine z_last C hout1 (by decide) dL_isSameForm_16 ?_
    refine z_goto (tgt := 24) C dL_isSameForm_17 (by decide) ?_
    refine z_iconst C dL_isSameForm_24 ?_
    refine zx_ret C E (fun X C E => ?_)
    exact z_iret C E dL_isSameForm_25 (Nat.le_of_ble_eq_true rfl) (Nat.le_of_ble_eq_true rfl) ⟨_, zu_s, zO.zu (hO.mo (fun q hq => Or.inl hq)) (Or.inr rfl), Or.inl ⟨rfl, zw_s, hc⟩⟩
theorem qw_L_middleX : zCalW yL_middleX cL_middleX 4 (some .int) [(0, 8, 11, 27)] 3 := ⟨m_991, m_35, m_992, by decide +kernel⟩
set_option maxRecDepth 100000 in
set_option maxHeartbeats 4000000 in
theorem w_middleX {l : Launch} {D : va_G} {N0 : Nat} (hl0 : l.stackTraces = false) {K O : Nat} {f0 : Nat → UInt64} {μ : zM} (hK : isKe D μ K) (hout : μ O = some (zAD D 1 f0)) (hOK : ¬ zb K 66 O) {r : Int} (hr : zir r) : zwMet l yL_middleX cL_middleX 4 (some .int) [(0, 8, 11, 27)] ({ frames := 8, cells := 2, slots := 12, locals := 320 } : Room) D N0 [.ref K, zi r, .ref O] μ (zQI D N0 (fun z u => ∃ fo : Nat → UInt64, u O = some (zAD D 1 fo) ∧ zO (fun q => zb K 66 q ∨ q = O) μ u ∧ (z = 0 ∧ fo 0 = FP.dconst0 ∧ 0 ≤ r ∧ r < 8 ∨ z = 1 ∧ ¬ (0 ≤ r ∧ r < 8)))) := by
  refine zwMet_of rfl (Nat.le_of_ble_eq_true rfl) m_992 (fun X C Rm Tb E => ?_)
  refine z_aload_n C dL_middleX_0 rfl ?_
  refine z_iconst C dL_middleX_1 ?_
  refine z_aload_n C dL_middleX_2 rfl ?_
  refine z_iload_n C dL_middleX_3 rfl ?_
  refine zx_cd C (zx_rV C Rm qv_X6_middleX m_993 (k_middleX hl0 hK hr) hK.obj rfl dL_middleX_4 rfl rfl (Nat.le_of_ble_eq_true rfl) rfl (by decide)) (fun En μ1 hx => ?_) (fun z μ1 hp => ?_)
  · rcases hx with ⟨⟨rfl, hc⟩ | ⟨rfl, hc⟩, hO⟩
    · refine zx_catch C Tb [] (0, 8, 11, 27) [] rfl (fun z hz => absurd hz List.not_mem_nil) (by decide) (by decide) m_641 ng_B (fun q9 => ?_)
      refine z_astore_n (L' := [_, _, _, _]) C dL_middleX_11 rfl ?_
      refine z_iconst C dL_middleX_12 ?_
      refine zx_ret C E (fun X C E => ?_)
      exact z_iret C E dL_middleX_13 (Nat.le_of_ble_eq_true rfl) (Nat.le_of_ble_eq_true rfl) ⟨f0, hO.at hOK hout, hO.mo (fun q hq => Or.inl hq), Or.inr (⟨rfl, hc⟩)⟩
    · exact absurd trivial hc.2
  · obtain ⟨rfl, hc, hO⟩ := hp
    have hout1 := hO.at hOK hout
    refine z_dast C hout1 (by decide) dL_middleX_7 ?_
    refine z_goto (tgt := 14) C dL_middleX_8 (by decide) ?_
    refine z_iconst C dL_middleX_14 ?_
    refine zx_ret C E (fun X C E => ?_)
    exact z_iret C E dL_middleX_15 (Nat.le_of_ble_eq_true rfl) (Nat.le_of_ble_eq_true rfl) ⟨_, zu_s, zO.zu (hO.mo (fun q hq => Or.inl hq)) (Or.inr rfl), Or.inl ⟨rfl, zw_s, hc⟩⟩
