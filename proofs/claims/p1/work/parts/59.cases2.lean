set_option maxRecDepth 100000 in
set_option maxHeartbeats 4000000 in
theorem lc_points {X : zX} {l : Launch} {D : va_G} {N0 : Nat} {Ts : List Cond} (hl0 : l.stackTraces = false) {b K M O OD : Nat} {xs : Nat → Int32} {μ : zM} (C : zC X l D N0 cL_law 9 RL zWS) (Rm : zR X 600002 7302232 12 446) (S : zScr X b 6 xs) (H : zAtC D μ K M O OD) (cont : zCont X b K M O OD) : Z X μ 82 34947 448 [some (.ref b), some (.ref K), some (.ref M), some (.ref O), some (.ref OD), some (zi 0), none, none, none] [] := by
  obtain ⟨hK, hM, hout, hoD, eM, eO, eD⟩ := H
  refine z_aload_n C dL_law_448 rfl ?_
  refine z_ci C (z_rV C Rm qv_X6_points m_245 (k_points hK) hK.obj rfl dL_law_449 rfl rfl (Nat.le_of_ble_eq_true rfl) rfl ⟨Nat.le_of_ble_eq_true rfl, Nat.le_of_ble_eq_true rfl, Nat.le_of_ble_eq_true rfl, Nat.le_of_ble_eq_true rfl⟩) (fun z μ1 hp => ?_)
  obtain ⟨rfl, hO⟩ := hp
  have hM1 := hM.o hO (fun q h1 h2 => by unfold zb; omega)
  refine z_aload_n C dL_law_452 rfl ?_
  refine z_ci C (z_rV C Rm qv_X7_points m_1088 (m_points hM1) hM1.obj rfl dL_law_453 rfl rfl (Nat.le_of_ble_eq_true rfl) rfl ⟨Nat.le_of_ble_eq_true rfl, Nat.le_of_ble_eq_true rfl, Nat.le_of_ble_eq_true rfl, Nat.le_of_ble_eq_true rfl⟩) (fun z2 μ2 hq => ?_)
  obtain ⟨rfl, hN⟩ := hq
  refine z_icmp_eq (tgt := 2511) C dL_law_456 (by decide) (fun _ => ?_) (fun hno => absurd hno (fun h => h rfl))
  exact z_up (by decide) (by decide) (cont _ _ _ _)
set_option maxRecDepth 100000 in
set_option maxHeartbeats 4000000 in
theorem lc_undo {X : zX} {l : Launch} {D : va_G} {N0 : Nat} {Ts : List Cond} (hl0 : l.stackTraces = false) {b K M O OD : Nat} {xs : Nat → Int32} {μ : zM} (C : zC X l D N0 cL_law 9 RL zWS) (Rm : zR X 600002 7302232 12 446) (S : zScr X b 6 xs) (H : zAtC D μ K M O OD) (cont : zCont X b K M O OD) : Z X μ 82 34947 1213 [some (.ref b), some (.ref K), some (.ref M), some (.ref O), some (.ref OD), some (zi 0), none, none, none] [] := by
  obtain ⟨hK, hM, hout, hoD, eM, eO, eD⟩ := H
  refine z_aload_n C dL_law_1213 rfl ?_
  refine z_ci C (z_rV C Rm qv_X6_undo m_253 (k_undo hK) hK.obj rfl dL_law_1214 rfl rfl (Nat.le_of_ble_eq_true rfl) rfl ⟨Nat.le_of_ble_eq_true rfl, Nat.le_of_ble_eq_true rfl, Nat.le_of_ble_eq_true rfl, Nat.le_of_ble_eq_true rfl⟩) (fun z μ1 hp => ?_)
  obtain ⟨rfl, hO⟩ := hp
  have hM1 := hM.o hO (fun q h1 h2 => by unfold zb; omega)
  refine z_aload_n C dL_law_1217 rfl ?_
  refine z_ci C (z_rV C Rm qv_X7_undo m_1153 (m_undo hM1) hM1.obj rfl dL_law_1218 rfl rfl (Nat.le_of_ble_eq_true rfl) rfl ⟨Nat.le_of_ble_eq_true rfl, Nat.le_of_ble_eq_true rfl, Nat.le_of_ble_eq_true rfl, Nat.le_of_ble_eq_true rfl⟩) (fun z2 μ2 hq => ?_)
  obtain ⟨rfl, hN⟩ := hq
  refine z_icmp_eq (tgt := 2511) C dL_law_1221 (by decide) (fun _ => ?_) (fun hno => absurd hno (fun h => h rfl))
  exact z_up (by decide) (by decide) (cont _ _ _ _)
set_option maxRecDepth 100000 in
set_option maxHeartbeats 4000000 in
theorem lc_digest {X : zX} {l : Launch} {D : va_G} {N0 : Nat} {Ts : List Cond} (hl0 : l.stackTraces = false) {b K M O OD : Nat} {xs : Nat → Int32} {μ : zM} (C : zC X l D N0 cL_law 9 RL zWS) (Rm : zR X 600002 7302232 12 446) (S : zScr X b 6 xs) (H : zAtC D μ K M O OD) (cont : zCont X b K M O OD) : Z X μ 82 34947 2497 [some (.ref b), some (.ref K), some (.ref M), some (.ref O), some (.ref OD), some (zi 0), none, none, none] [] := by
  obtain ⟨hK, hM, hout, hoD, eM, eO, eD⟩ := H
  refine z_aload_n C dL_law_2497 rfl ?_
  refine z_cl C (z_rV C Rm qv_X6_digest m_281 (k_digest hK) hK.obj rfl dL_law_2498 rfl rfl (Nat.le_of_ble_eq_true rfl) rfl ⟨Nat.le_of_ble_eq_true rfl, Nat.le_of_ble_eq_true rfl, Nat.le_of_ble_eq_true rfl, Nat.le_of_ble_eq_true rfl⟩) (fun z μ1 hp => ?_)
  obtain ⟨rfl, hO⟩ := hp
  have hM1 := hM.o hO (fun q h1 h2 => by unfold zb; omega)
  refine z_aload_n C dL_law_2501 rfl ?_
  refine z_cl C (z_rV C Rm qv_X7_digest m_1283 (m_digest hM1) hM1.obj rfl dL_law_2502 rfl rfl (Nat.le_of_ble_eq_true rfl) rfl ⟨Nat.le_of_ble_eq_true rfl, Nat.le_of_ble_eq_true rfl, Nat.le_of_ble_eq_true rfl, Nat.le_of_ble_eq_true rfl⟩) (fun z2 μ2 hq => ?_)
  obtain ⟨rfl, hN⟩ := hq
  refine z_lcmp C dL_law_2505 ?_
  rw [zcmp_s]
  refine z_if_eq (tgt := 2511) C dL_law_2506 (by decide) (fun _ => ?_) (fun hno => absurd hno (fun h => h rfl))
  exact z_up (by decide) (by decide) (cont _ _ _ _)
theorem z_dstore {X : zX} {l : Launch} {D : va_G} {N0 : Nat} {cc : ByteArray} {nL : Nat} {own : String} {Ts : List Cond} {μ : zM} {kc kn pc : Nat} {L L' : List (Option Value)} {st : List Value} (C : zC X l D N0 cc nL own Ts) {i : Nat} {x : UInt64} (d : decode cc pc = .ok (.dstore i, 2)) (h : (L.set i (some (.double x))).set (i + 1) none = L') (k : Z X μ kc kn (pc + 2) L' st) (hi : i + 1 < L.length := by exact Nat.le_of_ble_eq_true rfl) (hok : zok L i = true := by rfl) : Z X μ kc kn pc L (.double x :: st) := by
  obtain ⟨p, l', e, R, s, m, args, below, meth, c, D', N', Q⟩ := X
  obtain ⟨rfl, rfl, rfl, hx, hb, hml, hown, hts, hlk, hB⟩ := C
  intro H locs cells slots ls hH hS hc1 hs1 hl
  subst h
  exact lv_dstore hx hb d hl.has hi rfl (fun ls1 h1 => k H locs cells slots ls1 hH hS hc1 hs1 (zL.set2 hok h1))
theorem dcmp_same : Value.int (Op.cmpValue (FP.dcmp FP.dconst0 FP.dconst0) .l) = zi 0 := congrArg Value.int (by decide +kernel)
set_option maxRecDepth 100000 in
set_option maxHeartbeats 4000000 in
theorem lc_middleX {X : zX} {l : Launch} {D : va_G} {N0 : Nat} {Ts : List Cond} (hl0 : l.stackTraces = false) {b K M O OD : Nat} {xs : Nat → Int32} {μ : zM} (C : zC X l D N0 cL_law 9 RL zWS) (Rm : zR X 600002 7302232 12 446) (S : zScr X b 6 xs) (H : zAtC D μ K M O OD) (cont : zCont X b K M O OD) : Z X μ 82 34947 2420 [some (.ref b), some (.ref K), some (.ref M), some (.ref O), some (.ref OD), some (zi 0), none, none, none] [] := by
  obtain ⟨hK, hM, hout, hoD, eM, eO, eD⟩ := H
  refine z_aload_n C dL_law_2420 rfl ?_
  refine z_aload_n C dL_law_2421 rfl ?_
  refine z_iload C dL_law_2422 rfl ?_
  refine z_iconst C dL_law_2424 ?_
  refine z_iadd C dL_law_2425 ?_
  refine z_sld C S (by decide) dL_law_2426 ?_
  refine z_aload C dL_law_2427 rfl ?_
  refine zx_ci C (zx_rW C Rm qw_L_middleX m_990 (w_middleX hl0 hK hoD (by unfold zb; omega) (zI_rng _)) dL_law_2429 rfl rfl (Nat.le_of_ble_eq_true rfl) rfl ⟨Nat.le_of_ble_eq_true rfl, Nat.le_of_ble_eq_true rfl, Nat.le_of_ble_eq_true rfl, Nat.le_of_ble_eq_true rfl⟩) (fun _ _ h => h.elim) (fun z μ1 hp => ?_)
  obtain ⟨fo, ho, hO, hcase⟩ := hp
  have hM1 := hM.o hO (fun q h1 h2 => by unfold zb; omega)
  refine z_istore (L' := [_, _, _, _, _, _, _, _, _]) C dL_law_2432 rfl ?_
  refine z_aload_n C dL_law_2434 rfl ?_
  refine z_aload_n C dL_law_2435 rfl ?_
  refine z_iload C dL_law_2436 rfl ?_
  refine z_iconst C dL_law_2438 ?_
  refine z_iadd C dL_law_2439 ?_
  refine z_sld C S (by decide) dL_law_2440 ?_
  refine z_cd C (z_rV C Rm qv_X7_middleX m_1279 (m_middleX hM1 (zI_rng _)) hM1.obj rfl dL_law_2441 rfl rfl (Nat.le_of_ble_eq_true rfl) rfl ⟨Nat.le_of_ble_eq_true rfl, Nat.le_of_ble_eq_true rfl, Nat.le_of_ble_eq_true rfl, Nat.le_of_ble_eq_true rfl⟩) (fun z2 μ2 hq => ?_)
  obtain ⟨t, ht, ⟨fs, hfs⟩, hN⟩ := hq
  have ho2 := hN _ _ ho (by unfold zb; omega)
  refine z_dstore (L' := [_, _, _, _, _, _, _, _, _]) C dL_law_2444 rfl ?_
  refine z_aload_n C dL_law_2446 rfl ?_
  refine z_ci C (z_rV C Rm qv_X7_thrown m_1036 (m_thrown hfs) hfs rfl dL_law_2447 rfl rfl (Nat.le_of_ble_eq_true rfl) rfl ⟨Nat.le_of_ble_eq_true rfl, Nat.le_of_ble_eq_true rfl, Nat.le_of_ble_eq_true rfl, Nat.le_of_ble_eq_true rfl⟩) (fun z3 μ3 hr => ?_)
  obtain ⟨rfl, rfl⟩ := hr
  refine z_iload C dL_law_2450 rfl ?_
  refine z_icmp_eq (tgt := 2457) C dL_law_2452 (by decide) (fun _ => ?_) (fun hno => absurd hno (fun hne => hne (by omega)))
  refine z_iload C dL_law_2457 rfl ?_
  refine z_if_ne (tgt := 2494) C dL_law_2459 (by decide) (fun hz => ?_) (fun hz => ?_)
  · refine z_goto (tgt := 2511) C dL_law_2494 (by decide) ?_
    exact z_up (by decide) (by decide) (cont _ _ _ _)
  · have hv : fo (0 : Int).toNat = FP.dconst0 := by
      rcases hcase with h | h
      · exact h.2.1
      · omega
    have h2 : z2 = FP.dconst0 := by
      rcases ht with g | g
      · exact g.2.1
      · omega
    subst h2
    refine z_aload C dL_law_2462 rfl ?_
    refine z_iconst C dL_law_2464 ?_
    refine z_dald C ho2 (by decide) dL_law_2465 ?_
    rw [hv]
    refine z_dload C dL_law_2466 rfl ?_
    refine z_dcmp C dL_law_2468 ?_
    rw [dcmp_same]
    refine z_if_eq (tgt := 2494) C dL_law_2469 (by decide) (fun _ => ?_) (fun hno => absurd hno (fun h => h rfl))
    refine z_goto (tgt := 2511) C dL_law_2494 (by decide) ?_
    exact z_up (by decide) (by decide) (cont _ _ _ _)
