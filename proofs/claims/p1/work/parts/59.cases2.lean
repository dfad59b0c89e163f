set_option maxRecDepth 100000 in
set_option maxHeartbeats 4000000 in
theorem lc_points {X : zX} {l : Launch} {D : va_G} {N0 : Nat} {Ts : List Cond} (hl0 : l.stackTraces = false) {b K M O OD : Nat} {xs : Nat → Int32} {μ : zM} (C : zC X l D N0 cL_law 9 RL zWS) (Rm : zR X 600002 7302232 12 446) (S : zScr X b 6 xs) (H : zAtC D μ K M O OD) (cont : zCont X b K M O OD) : Z X μ 82 34947 448 [some (.ref b), some (.ref K), some (.ref M), some (.ref O), some (.ref OD), some (zi 0), none, none, none] [] := by
  obtain ⟨hK, hM, hout, hoD, eM, eO, eD⟩ := H
  refine z_aload_n C dL_law_448 rfl ?_
  refine z_ci C (z_rV C Rm qv_X6_points m_245 (k_points hK) hK.obj rfl dL_law_449 rfl rfl (Nat.le_of_ble_eq_true rfl) rfl ⟨Nat.le_of_ble_eq_true rfl, Nat.le_of_ble_eq_true rfl, Nat.le_of_ble_eq_true rfl, Nat.le_of_ble_eq_true rfl⟩) (fun z μ1 hp => ?_)
  obtain ⟨rfl, hO⟩ := hp
  have hM1 := hM.o hO (fun q h1 h2 => by unfold zb; omega)
  refine z_aload_n C dL_law_452 rfl ?_
  refine z_ci C (z_rV C Rm qv_X7_points m_1088 (m_points hM1) hM1.obj rfl dL_law_453 rfl rfl (Nat.le_of_ble_eq_true rfl) rfl ⟨Nat.le_of_ble_eq_true rfl, Nat.le_of_ble_eq_true rfl, Nat.le_of_ble_eq_true rfl, Nat.le_of_ble_eq_true rfl⟩) (fun z2 μ2 hq => ?_)
  obtain ⟨rfl, hN⟩ := hq
  refine z_icmp_eq (tgt := 2511) C dL_law_456 (by decide) (fun _ => ?_) (fun hno => absurd hno (fun h => h rfl))
  exact z_up (by decide) (by decide) (cont _ _ _ _)
set_option maxRecDepth 100000 in
set_option maxHeartbeats 4000000 in
theorem lc_undo {X : zX} {l : Launch} {D : va_G} {N0 : Nat} {Ts : List Cond} (hl0 : l.stackTraces = false) {b K M O OD : Nat} {xs : Nat → Int32} {μ : zM} (C : zC X l D N0 cL_law 9 RL zWS) (Rm : zR X 600002 7302232 12 446) (S : zScr X b 6 xs) (H : zAtC D μ K M O OD) (cont : zCont X b K M O OD) : Z X μ 82 34947 1213 [some (.ref b), some (.ref K), some (.ref M), some (.ref O), some (.ref OD), some (zi 0), none, none, none] [] := by
  obtain ⟨hK, hM, hout, hoD, eM, eO, eD⟩ := H
  refine z_aload_n C dL_law_1213 rfl ?_
  refine z_ci C (z_rV C Rm qv_X6_undo m_253 (k_undo hK) hK.obj rfl dL_law_1214 rfl rfl (Nat.le_of_ble_eq_true rfl) rfl ⟨Nat.le_of_ble_eq_true rfl, Nat.le_of_ble_eq_true rfl, Nat.le_of_ble_eq_true rfl, Nat.le_of_ble_eq_true rfl⟩) (fun z μ1 hp => ?_)
  obtain ⟨rfl, hO⟩ := hp
  have hM1 := hM.o hO (fun q h1 h2 => by unfold zb; omega)
  refine z_aload_n C dL_law_1217 rfl ?_
  refine z_ci C (z_rV C Rm qv_X7_undo m_1153 (m_undo hM1) hM1.obj rfl dL_law_1218 rfl rfl (Nat.le_of_ble_eq_true rfl) rfl ⟨Nat.le_of_ble_eq_true rfl, Nat.le_of_ble_eq_true rfl, Nat.le_of_ble_eq_true rfl, Nat.le_of_ble_eq_true rfl⟩) (fun z2 μ2 hq => ?_)
  obtain ⟨rfl, hN⟩ := hq
  refine z_icmp_eq (tgt := 2511) C dL_law_1221 (by decide) (fun _ => ?_) (fun hno => absurd hno (fun h => h rfl))
  exact z_up (by decide) (by decide) (cont _ _ _ _)
set_option maxRecDepth 100000 in
set_option maxHeartbeats 4000000 in
theorem lc_digest {X : zX} {l : Launch} {D : va_G} {N0 : Nat} {Ts : List Cond} (hl0 : l.stackTraces = false) {b K M O OD : Nat} {xs : Nat → Int32} {μ : zM} (C : zC X l D N0 cL_law 9 RL zWS) (Rm : zR X 600002 7302232 12 446) (S : zScr X b 6 xs) (H : zAtC D μ K M O OD) (cont : zCont X b K M O OD) : Z X μ 82 34947 2497 [some (.ref b), some (.ref K), some (.ref M), some (.ref O), some (.ref OD), some (zi 0), none, none, none] [] := by
  obtain ⟨hK, hM, hout, hoD, eM, eO, eD⟩ := H
  refine z_aload_n C dL_law_2497 rfl ?_
  refine z_cl C (z_rV C Rm qv_X6_digest m_281 (k_digest hK) hK.obj rfl dL_law_2498 rfl rfl (Nat.le_of_ble_eq_true rfl) rfl ⟨Nat.le_of_ble_eq_true rfl, Nat.le_of_ble_eq_true rfl, Nat.le_of_ble_eq_true rfl, Nat.le_of_ble_eq_true rfl⟩) (fun z μ1 hp => ?_)
  obtain ⟨rfl, hO⟩ := hp
  have hM1 := hM.o hO (fun q h1 h2 => by unfold zb; omega)
  refine z_aload_n C dL_law_2501 rfl ?_
  refine z_cl C (z_rV C Rm qv_X7_digest m_1283 (m_digest hM1) hM1.obj rfl dL_law_2502 rfl rfl (Nat.le_of_ble_eq_true rfl) rfl ⟨Nat.le_of_ble_eq_true rfl, Nat.le_of_ble_eq_true rfl, Nat.le_of_ble_eq_true rfl, Nat.le_of_ble_eq_true rfl⟩) (fun z2 μ2 hq => ?_)
  obtain ⟨rfl, hN⟩ := hq
  refine z_lcmp C dL_law_2505 ?_
  rw [zcmp_s]
  refine z_if_eq (tgt := 2511) C dL_law_2506 (by decide) (fun _ => ?_) (fun hno => absurd hno (fun h => h rfl))
  exact z_up (by decide) (by decide) (cont _ _ _ _)
