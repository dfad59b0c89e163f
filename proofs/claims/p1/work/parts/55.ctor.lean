/-! the constructors -/
set_option maxRecDepth 100000 in
set_option maxHeartbeats 4000000 in
theorem i_F {l : Launch} {D : va_G} {N0 : Nat} {o : Nat} {μ : zM} (hm : μ o = some (.inr (0, [.null]))) : zMetS l yX0_init cX0_init 1 ({ frames := 1, cells := 1, slots := 64, locals := 40 } : Room) D N0 [.ref o] μ (o + 1) (zQVS D N0 (o + 1 + 1) (fun u => isF D u o zF ∧ zO (zb o 2) μ u)) := by
  refine zMetS_of rfl (Nat.le_of_ble_eq_true rfl) (fun X C Rm hin E => ?_)
  refine s_aload_n C dX0_init_0 rfl ?_
  refine s_objInit C Rm m_68 m_60 m_61 dX0_init_1 rfl ⟨Nat.le_of_ble_eq_true rfl, Nat.le_of_ble_eq_true rfl⟩ ?_
  refine s_aload_n C dX0_init_4 rfl ?_
  refine s_bipush C dX0_init_5 ?_
  refine s_newJ C Rm (by decide) m_73 dX0_init_7 (by decide) (fun hq7 => ?_)
  refine s_putF C (zu_k hm (by omega)) rfl tyX0 tyX0_ok nmX0 0 (by decide) m_69 inz0 rfl rfl hin rfl (by rfl) (by rfl) (Nat.le_of_ble_eq_true rfl) dX0_init_9 ?_
  exact s_vret C E dX0_init_12 (Nat.le_of_ble_eq_true rfl) (Nat.le_of_ble_eq_true rfl) ⟨⟨zu_s, zu_k zu_s (by omega)⟩, zO.zu (zO.zu zO.rf (by unfold zb; omega)) (by unfold zb; omega)⟩
set_option maxRecDepth 100000 in
set_option maxHeartbeats 4000000 in
theorem i_Pen {l : Launch} {D : va_G} {N0 : Nat} {a : Nat} {μ : zM} (hm : μ a = some (.inr (4, [.null, .null, zi 0, zi 0, zi 0, zi 0, zi 0, .null]))) : zMetS l yX4_init cX4_init 1 ({ frames := 1, cells := 3, slots := 184, locals := 40 } : Room) D N0 [.ref a] μ (a + 1) (zQVS D N0 (a + 1 + 1 + 1 + 1) (fun u => isPen D u a 1 0 0 0 0 zIz zIz zIz ∧ zO (zb a 4) μ u)) := by
  refine zMetS_of rfl (Nat.le_of_ble_eq_true rfl) (fun X C Rm hin E => ?_)
  refine s_aload_n C dX4_init_0 rfl ?_
  refine s_objInit C Rm m_79 m_60 m_61 dX4_init_1 rfl ⟨Nat.le_of_ble_eq_true rfl, Nat.le_of_ble_eq_true rfl⟩ ?_
  refine s_aload_n C dX4_init_4 rfl ?_
  refine s_bipush C dX4_init_5 ?_
  refine s_newI C Rm (by decide) m_105 dX4_init_7 (by decide) (fun hq7 => ?_)
  refine s_putF C (zu_k hm (by omega)) rfl tyX4 tyX4_ok nmX4 0 (by decide) m_80 inz4 rfl rfl hin rfl (by rfl) (by rfl) (Nat.le_of_ble_eq_true rfl) dX4_init_9 ?_
  refine s_aload_n C dX4_init_12 rfl ?_
  refine s_bipush C dX4_init_13 ?_
  refine s_newI C Rm (by decide) m_105 dX4_init_15 (by decide) (fun hq15 => ?_)
  refine s_putF C (zu_k zu_s (by omega)) rfl tyX4 tyX4_ok nmX4 1 (by decide) m_81 inz4 rfl rfl hin rfl (by rfl) (by rfl) (Nat.le_of_ble_eq_true rfl) dX4_init_17 ?_
  refine s_aload_n C dX4_init_20 rfl ?_
  refine s_iconst C dX4_init_21 ?_
  refine s_put C zu_s rfl tyX4 tyX4_ok nmX4 2 (by decide) m_82 inz4 rfl rfl (by rfl) (by rfl) (Nat.le_of_ble_eq_true rfl) dX4_init_22 ?_
  refine s_aload_n C dX4_init_25 rfl ?_
  refine s_bipush C dX4_init_26 ?_
  refine s_newI C Rm (by decide) m_105 dX4_init_28 (by decide) (fun hq28 => ?_)
  refine s_putF C (zu_k zu_s (by omega)) rfl tyX4 tyX4_ok nmX4 7 (by decide) m_87 inz4 rfl rfl hin rfl (by rfl) (by rfl) (Nat.le_of_ble_eq_true rfl) dX4_init_30 ?_
  exact s_vret C E dX4_init_33 (Nat.le_of_ble_eq_true rfl) (Nat.le_of_ble_eq_true rfl) ⟨⟨zu_s, zu_k (zu_k (zu_k (zu_k (zu_k (zu_k zu_s (by omega)) (by omega)) (by omega)) (by omega)) (by omega)) (by omega), zu_k (zu_k (zu_k (zu_k zu_s (by omega)) (by omega)) (by omega)) (by omega), zu_k zu_s (by omega)⟩, zO.zu (zO.zu (zO.zu (zO.zu (zO.zu (zO.zu (zO.zu zO.rf (by unfold zb; omega)) (by unfold zb; omega)) (by unfold zb; omega)) (by unfold zb; omega)) (by unfold zb; omega)) (by unfold zb; omega)) (by unfold zb; omega)⟩
