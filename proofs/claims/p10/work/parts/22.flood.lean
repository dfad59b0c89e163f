-- ---- the flood
def zN1 : Nat → Int64 := fun _ => -1
theorem n1_or (x : Int64) : (-1 : Int64) ||| x = -1 := by
  apply Int64.toBitVec_inj.mp
  rw [Int64.toBitVec_or, show (-1 : Int64).toBitVec = BitVec.allOnes 64 from rfl, BitVec.allOnes_or]
theorem or_n1 (x : Int64) : x ||| (-1 : Int64) = -1 := by
  rw [Int64.or_comm, n1_or]
theorem n1_and (x : Int64) : (-1 : Int64) &&& x = x := by
  apply Int64.toBitVec_inj.mp
  rw [Int64.toBitVec_and, show (-1 : Int64).toBitVec = BitVec.allOnes 64 from rfl, BitVec.allOnes_and]
theorem x0_n1 : (0 : Int64) ^^^ (-1) = -1 := by decide
theorem xn_n1 : (-1 : Int64) ^^^ (-1) = 0 := by decide
def isFl (D : va_G) (μ : zM) (a : Nat) (f g : Nat → Int64) (lo hi : Int) : Prop := μ a = some (.inr (1, [.ref (a + 1), .ref (a + 3), zi lo, zi hi])) ∧ isF D μ (a + 1) f ∧ isF D μ (a + 3) g
theorem isFl.o {D : va_G} {P : Nat → Prop} {μ u : zM} {a : Nat} {f g : Nat → Int64} {lo hi : Int} (h : isFl D μ a f g lo hi) (hO : zO P μ u) (hP : ∀ q, a ≤ q → q < a + 5 → ¬ P q) : isFl D u a f g lo hi := ⟨hO.at (hP _ (by omega) (by omega)) h.1, h.2.1.o hO (hP _ (by omega) (by omega)) (hP _ (by omega) (by omega)), h.2.2.o hO (hP _ (by omega) (by omega)) (hP _ (by omega) (by omega))⟩
theorem isFl.found {D : va_G} {μ : zM} {a : Nat} {f g : Nat → Int64} {lo hi : Int} (h : isFl D μ a f g lo hi) (g2 : Nat → Int64) : isFl D (setF D μ (a + 3) g2) a f g2 lo hi := ⟨by rw [setF_k (by omega)]; exact h.1, h.2.2.keep h.2.1 (by omega) _, h.2.2.set _⟩
theorem isFl.rest {D : va_G} {μ : zM} {a : Nat} {f g : Nat → Int64} {lo hi : Int} (h : isFl D μ a f g lo hi) (f2 : Nat → Int64) : isFl D (setF D μ (a + 1) f2) a f2 g lo hi := ⟨by rw [setF_k (by omega)]; exact h.1, h.2.1.set _, h.2.1.keep h.2.2 (by omega) _⟩
theorem zO.f3 {D : va_G} {μ : zM} {a : Nat} {g : Nat → Int64} : zO (zb a 5) μ (setF D μ (a + 3) g) := zO.zu zO.rf (by unfold zb; omega)
theorem zO.f1 {D : va_G} {μ : zM} {a : Nat} {g : Nat → Int64} : zO (zb a 5) μ (setF D μ (a + 1) g) := zO.zu zO.rf (by unfold zb; omega)
set_option maxRecDepth 100000 in
set_option maxHeartbeats 4000000 in
theorem c_along1 {l : Launch} {D : va_G} {N0 : Nat} {μ : zM} : zMet l yX1_along cX1_along 13 (some .long) ({ frames := 0, cells := 0, slots := 0, locals := 0 } : Room) D N0 [.long (-1), .long (-1)] μ (zQL D N0 (fun z u => z = -1 ∧ u = μ)) := by
  refine zMet_of rfl (Nat.le_of_ble_eq_true rfl) (fun X C Rm hin E => ?_)
  have s64 : ∀ (p q : Int64), Z X μ 0 0 15 [some (.long (-1)), none, some (.long (-1)), none, some (.long (-1)), none, some (.long p), none, some (.long (-1)), none, some (.long q), none, some (zi 64)] [] := by
    intro p q
    refine z_iload C dX1_along_15 rfl ?_
    refine z_bipush C dX1_along_17 ?_
    refine z_icmp_ge (tgt := 77) C dX1_along_19 (by decide) (fun _ => ?_) (fun hno => absurd hno (by omega))
    refine z_lload C dX1_along_77 rfl ?_
    refine z_lload C dX1_along_79 rfl ?_
    refine z_lor C dX1_along_81 ?_
    rw [n1_or]
    exact z_lret C E dX1_along_82 (Nat.le_of_ble_eq_true rfl) (Nat.le_of_ble_eq_true rfl) ⟨rfl, rfl⟩
  have step : ∀ (b b2 : Int), 1 ≤ b ∧ b ≤ 32 → b2 = b * 2 → (∀ (p q : Int64), Z X μ 0 0 15 [some (.long (-1)), none, some (.long (-1)), none, some (.long (-1)), none, some (.long p), none, some (.long (-1)), none, some (.long q), none, some (zi b2)] []) → ∀ (p q : Int64), Z X μ 0 0 15 [some (.long (-1)), none, some (.long (-1)), none, some (.long (-1)), none, some (.long p), none, some (.long (-1)), none, some (.long q), none, some (zi b)] [] := by
    intro b b2 hb h2 k p q
    refine z_iload C dX1_along_15 rfl ?_
    refine z_bipush C dX1_along_17 ?_
    refine z_icmp_ge (tgt := 77) C dX1_along_19 (by decide) (fun hno => absurd hno (by omega)) (fun _ => ?_)
    refine z_lload C dX1_along_22 rfl ?_
    refine z_lload C dX1_along_24 rfl ?_
    refine z_lload C dX1_along_26 rfl ?_
    refine z_iload C dX1_along_28 rfl ?_
    refine z_lshl C dX1_along_30 ?_
    refine z_land C dX1_along_31 ?_
    refine z_lor C dX1_along_32 ?_
    rw [n1_or]
    refine z_lstore (L' := [_, _, _, _, _, _, _, _, _, _, _, _, _]) C dX1_along_33 rfl ?_
    refine z_lload C dX1_along_35 rfl ?_
    refine z_lload C dX1_along_37 rfl ?_
    refine z_iload C dX1_along_39 rfl ?_
    refine z_lshl C dX1_along_41 ?_
    refine z_land C dX1_along_42 ?_
    refine z_lstore (L' := [_, _, _, _, _, _, _, _, _, _, _, _, _]) C dX1_along_43 rfl ?_
    refine z_lload C dX1_along_45 rfl ?_
    refine z_lload C dX1_along_47 rfl ?_
    refine z_lload C dX1_along_49 rfl ?_
    refine z_iload C dX1_along_51 rfl ?_
    refine z_lushr C dX1_along_53 ?_
    refine z_land C dX1_along_54 ?_
    refine z_lor C dX1_along_55 ?_
    rw [n1_or]
    refine z_lstore (L' := [_, _, _, _, _, _, _, _, _, _, _, _, _]) C dX1_along_56 rfl ?_
    refine z_lload C dX1_along_58 rfl ?_
    refine z_lload C dX1_along_60 rfl ?_
    refine z_iload C dX1_along_62 rfl ?_
    refine z_lushr C dX1_along_64 ?_
    refine z_land C dX1_along_65 ?_
    refine z_lstore (L' := [_, _, _, _, _, _, _, _, _, _, _, _, _]) C dX1_along_66 rfl ?_
    refine z_iload C dX1_along_68 rfl ?_
    refine z_iconst C dX1_along_70 ?_
    refine z_imul C dX1_along_71 ?_
    refine z_istore (L' := [_, _, _, _, _, _, _, _, _, _, _, _, _]) C dX1_along_72 rfl ?_
    refine z_goto (tgt := 15) C dX1_along_74 (by decide) ?_
    rw [← h2]
    exact k _ _
  have s32 := step 32 64 (by omega) (by omega) s64
  have s16 := step 16 32 (by omega) (by omega) s32
  have s8 := step 8 16 (by omega) (by omega) s16
  have s4 := step 4 8 (by omega) (by omega) s8
  have s2 := step 2 4 (by omega) (by omega) s4
  have s1 := step 1 2 (by omega) (by omega) s2
  refine z_lload_n C dX1_along_0 rfl ?_
  refine z_lstore (L' := [_, _, _, _, _, _, _, _, _, _, _, _, _]) C dX1_along_1 rfl ?_
  refine z_lload_n C dX1_along_3 rfl ?_
  refine z_lstore (L' := [_, _, _, _, _, _, _, _, _, _, _, _, _]) C dX1_along_4 rfl ?_
  refine z_lload_n C dX1_along_6 rfl ?_
  refine z_lstore (L' := [_, _, _, _, _, _, _, _, _, _, _, _, _]) C dX1_along_7 rfl ?_
  refine z_lload_n C dX1_along_9 rfl ?_
  refine z_lstore (L' := [_, _, _, _, _, _, _, _, _, _, _, _, _]) C dX1_along_10 rfl ?_
  refine z_iconst C dX1_along_12 ?_
  refine z_istore (L' := [_, _, _, _, _, _, _, _, _, _, _, _, _]) C dX1_along_13 rfl ?_
  exact s1 _ _
def zends (g : Nat → Int64) (y : Int) : Int64 := rowv g (y - 1) ||| rowv g (y + 1)
set_option maxRecDepth 100000 in
set_option maxHeartbeats 4000000 in
theorem c_into {l : Launch} {D : va_G} {N0 : Nat} {a i : Nat} {g : Nat → Int64} {y : Int} {μ : zM} (hA : isFl D μ a zN1 g (-32) 31) (hi : i < 64) (hy : y = -32 + (i : Int)) (hc : g i ||| (zends g y ||| (zshl (zends g y) 1 ||| zushr (zends g y) 1)) = -1) : zMet l yX1_spreadInto cX1_spreadInto 11 (some .boolean) ({ frames := 1, cells := 0, slots := 0, locals := 40 } : Room) D N0 [.ref a, zi y, zi 1] μ (zQI D N0 (fun z u => (z = 0 ∨ z = 1) ∧ (g i = -1 → z = 0) ∧ isFl D u a zN1 (zw g i (-1)) (-32) 31 ∧ zO (zb a 5) μ u)) := by
  refine zMet_of rfl (Nat.le_of_ble_eq_true rfl) (fun X C Rm hin E => ?_)
  refine z_aload_n C dX1_spreadInto_0 rfl ?_
  refine z_get C hA.1 rfl 1 (by decide) m_136 inz1 rfl rfl dX1_spreadInto_1 ?_
  refine z_iload_n C dX1_spreadInto_4 rfl ?_
  refine z_iconst C dX1_spreadInto_5 ?_
  refine z_isub C dX1_spreadInto_6 ?_
  refine z_cl C (z_rV C Rm qv_X0_row m_314 (c_row hA.2.2 (y := y - 1) (by omega)) hA.2.2.1 rfl dX1_spreadInto_7 rfl rfl (Nat.le_of_ble_eq_true rfl) rfl ⟨Nat.le_of_ble_eq_true rfl, Nat.le_of_ble_eq_true rfl, Nat.le_of_ble_eq_true rfl, Nat.le_of_ble_eq_true rfl⟩) (fun z μ1 hp => ?_)
  obtain ⟨rfl, rfl⟩ := hp
  refine z_aload_n C dX1_spreadInto_10 rfl ?_
  refine z_get C hA.1 rfl 1 (by decide) m_136 inz1 rfl rfl dX1_spreadInto_11 ?_
  refine z_iload_n C dX1_spreadInto_14 rfl ?_
  refine z_iconst C dX1_spreadInto_15 ?_
  refine z_iadd C dX1_spreadInto_16 ?_
  refine z_cl C (z_rV C Rm qv_X0_row m_314 (c_row hA.2.2 (y := y + 1) (by omega)) hA.2.2.1 rfl dX1_spreadInto_17 rfl rfl (Nat.le_of_ble_eq_true rfl) rfl ⟨Nat.le_of_ble_eq_true rfl, Nat.le_of_ble_eq_true rfl, Nat.le_of_ble_eq_true rfl, Nat.le_of_ble_eq_true rfl⟩) (fun z μ2 hp => ?_)
  obtain ⟨rfl, rfl⟩ := hp
  refine z_lor C dX1_spreadInto_20 ?_
  refine z_lstore_n (L' := [_, _, _, _, _, _, _, _, _, _, _]) C dX1_spreadInto_21 rfl ?_
  refine z_iload_n C dX1_spreadInto_22 rfl ?_
  refine z_if_eq (tgt := 36) C dX1_spreadInto_23 (by decide) (fun hno => absurd hno (by omega)) (fun _ => ?_)
  refine z_lload_n C dX1_spreadInto_26 rfl ?_
  refine z_lload_n C dX1_spreadInto_27 rfl ?_
  refine z_iconst C dX1_spreadInto_28 ?_
  refine z_lshl C dX1_spreadInto_29 ?_
  refine z_lload_n C dX1_spreadInto_30 rfl ?_
  refine z_iconst C dX1_spreadInto_31 ?_
  refine z_lushr C dX1_spreadInto_32 ?_
  refine z_lor C dX1_spreadInto_33 ?_
  refine z_lor C dX1_spreadInto_34 ?_
  refine z_lstore_n (L' := [_, _, _, _, _, _, _, _, _, _, _]) C dX1_spreadInto_35 rfl ?_
  refine z_aload_n C dX1_spreadInto_36 rfl ?_
  refine z_get C hA.1 rfl 0 (by decide) m_135 inz1 rfl rfl dX1_spreadInto_37 ?_
  refine z_iload_n C dX1_spreadInto_40 rfl ?_
  refine z_cl C (z_rV C Rm qv_X0_row m_314 (c_row hA.2.1 (y := y) (by omega)) hA.2.1.1 rfl dX1_spreadInto_41 rfl rfl (Nat.le_of_ble_eq_true rfl) rfl ⟨Nat.le_of_ble_eq_true rfl, Nat.le_of_ble_eq_true rfl, Nat.le_of_ble_eq_true rfl, Nat.le_of_ble_eq_true rfl⟩) (fun z μ3 hp => ?_)
  obtain ⟨rfl, rfl⟩ := hp
  rw [show rowv zN1 y = -1 from rowv_i hy hi]
  refine z_lstore (L' := [_, _, _, _, _, _, _, _, _, _, _]) C dX1_spreadInto_44 rfl ?_
  refine z_aload_n C dX1_spreadInto_46 rfl ?_
  refine z_get C hA.1 rfl 1 (by decide) m_136 inz1 rfl rfl dX1_spreadInto_47 ?_
  refine z_iload_n C dX1_spreadInto_50 rfl ?_
  refine z_cl C (z_rV C Rm qv_X0_row m_314 (c_row hA.2.2 (y := y) (by omega)) hA.2.2.1 rfl dX1_spreadInto_51 rfl rfl (Nat.le_of_ble_eq_true rfl) rfl ⟨Nat.le_of_ble_eq_true rfl, Nat.le_of_ble_eq_true rfl, Nat.le_of_ble_eq_true rfl, Nat.le_of_ble_eq_true rfl⟩) (fun z μ4 hp => ?_)
  obtain ⟨rfl, rfl⟩ := hp
  rw [rowv_i hy hi]
  refine z_lstore (L' := [_, _, _, _, _, _, _, _, _, _, _]) C dX1_spreadInto_54 rfl ?_
  refine z_lload C dX1_spreadInto_56 rfl ?_
  refine z_lload C dX1_spreadInto_58 rfl ?_
  refine z_lload_n C dX1_spreadInto_60 rfl ?_
  refine z_lor C dX1_spreadInto_61 ?_
  rw [show g i ||| (rowv g (y - 1) ||| rowv g (y + 1) ||| (zshl (rowv g (y - 1) ||| rowv g (y + 1)) 1 ||| zushr (rowv g (y - 1) ||| rowv g (y + 1)) 1)) = -1 from hc]
  refine z_land C dX1_spreadInto_62 ?_
  rw [n1_and]
  refine z_lload C dX1_spreadInto_63 rfl ?_
  refine z_cl C (z_rS C Rm qs_X1_along m_342 (c_along1) dX1_spreadInto_65 rfl rfl (Nat.le_of_ble_eq_true rfl) rfl ⟨Nat.le_of_ble_eq_true rfl, Nat.le_of_ble_eq_true rfl, Nat.le_of_ble_eq_true rfl, Nat.le_of_ble_eq_true rfl⟩) (fun z μ5 hp => ?_)
  obtain ⟨rfl, rfl⟩ := hp
  refine z_lstore (L' := [_, _, _, _, _, _, _, _, _, _, _]) C dX1_spreadInto_68 rfl ?_
  refine z_lload C dX1_spreadInto_70 rfl ?_
  refine z_lload C dX1_spreadInto_72 rfl ?_
  refine z_lcmp C dX1_spreadInto_74 ?_
  by_cases hg : g i = -1
  · rw [hg, zcmp_s]
    refine z_if_ne (tgt := 80) C dX1_spreadInto_75 (by decide) (fun hno => absurd hno (by omega)) (fun _ => ?_)
    refine z_iconst C dX1_spreadInto_78 ?_
    exact z_zret C E (Or.inl rfl) dX1_spreadInto_79 (Nat.le_of_ble_eq_true rfl) (Nat.le_of_ble_eq_true rfl) ⟨Or.inl rfl, fun _ => rfl, by rw [zw_id hg]; exact hA, zO.rf⟩
  · have hz9 := zcmp_rng (-1) (g i)
    refine z_if_ne (tgt := 80) C dX1_spreadInto_75 (by decide) (fun _ => ?_) (fun hno => absurd hno (fun h => hg ((zcmp_0 _ _).mp h).symm))
    refine z_aload_n C dX1_spreadInto_80 rfl ?_
    refine z_get C hA.1 rfl 1 (by decide) m_136 inz1 rfl rfl dX1_spreadInto_81 ?_
    refine z_iload_n C dX1_spreadInto_84 rfl ?_
    refine z_lload C dX1_spreadInto_85 rfl ?_
    refine z_cv C (z_rV C Rm qv_X0_putRow m_345 (c_putRow hA.2.2 (y := y) (by omega) (v := -1)) hA.2.2.1 rfl dX1_spreadInto_87 rfl rfl (Nat.le_of_ble_eq_true rfl) rfl ⟨Nat.le_of_ble_eq_true rfl, Nat.le_of_ble_eq_true rfl, Nat.le_of_ble_eq_true rfl, Nat.le_of_ble_eq_true rfl⟩) (fun μ6 hp => ?_)
    rw [show (y + 32).toNat = i by omega] at hp
    have hA6 : isFl D μ6 a zN1 (zw g i (-1)) (-32) 31 := by rw [hp]; exact hA.found _
    have hO6 : zO (zb a 5) μ5 μ6 := by rw [hp]; exact zO.f3
    clear hp
    refine z_aload_n C dX1_spreadInto_90 rfl ?_
    refine z_aload_n C dX1_spreadInto_91 rfl ?_
    refine z_get C hA6.1 rfl 2 (by decide) m_137 inz1 rfl rfl dX1_spreadInto_92 ?_
    refine z_iload_n C dX1_spreadInto_95 rfl ?_
    refine z_mmin C Rm m_346 m_347 m_50 m_348 dX1_spreadInto_96 rfl ⟨Nat.le_of_ble_eq_true rfl, Nat.le_of_ble_eq_true rfl, Nat.le_of_ble_eq_true rfl, Nat.le_of_ble_eq_true rfl⟩ ?_
    refine z_put C hA6.1 rfl tyX1 tyX1_ok nmX1 2 (by decide) m_137 inz1 rfl rfl (by rfl) (by rfl) (Nat.le_of_ble_eq_true rfl) dX1_spreadInto_99 ?_
    rw [Int.min_eq_left (by omega)]
    rw [show zu μ6 a (.inr (1, List.set [.ref (a + 1), .ref (a + 3), zi (-32), zi 31] 2 (zi (-32)))) = μ6 from zu_i hA6.1]
    refine z_aload_n C dX1_spreadInto_102 rfl ?_
    refine z_aload_n C dX1_spreadInto_103 rfl ?_
    refine z_get C hA6.1 rfl 3 (by decide) m_138 inz1 rfl rfl dX1_spreadInto_104 ?_
    refine z_iload_n C dX1_spreadInto_107 rfl ?_
    refine z_mmax C Rm m_349 m_350 m_50 m_351 dX1_spreadInto_108 rfl ⟨Nat.le_of_ble_eq_true rfl, Nat.le_of_ble_eq_true rfl, Nat.le_of_ble_eq_true rfl, Nat.le_of_ble_eq_true rfl⟩ ?_
    refine z_put C hA6.1 rfl tyX1 tyX1_ok nmX1 3 (by decide) m_138 inz1 rfl rfl (by rfl) (by rfl) (Nat.le_of_ble_eq_true rfl) dX1_spreadInto_111 ?_
    rw [Int.max_eq_left (by omega)]
    rw [show zu μ6 a (.inr (1, List.set [.ref (a + 1), .ref (a + 3), zi (-32), zi 31] 3 (zi 31))) = μ6 from zu_i hA6.1]
    refine z_iconst C dX1_spreadInto_114 ?_
    exact z_zret C E (Or.inr rfl) dX1_spreadInto_115 (Nat.le_of_ble_eq_true rfl) (Nat.le_of_ble_eq_true rfl) ⟨Or.inr rfl, fun h => absurd h hg, hA6, hO6⟩
theorem zor01 {m z : Int} (hm : m = 0 ∨ m = 1) (hz : z = 0 ∨ z = 1) : ∃ v, (v = 0 ∨ v = 1) ∧ (z = 0 → v = m) ∧ Int32.ofInt m ||| Int32.ofInt z = Int32.ofInt v := by
  rcases hm with rfl | rfl <;> rcases hz with rfl | rfl
  · exact ⟨0, Or.inl rfl, fun _ => rfl, rfl⟩
  · exact ⟨1, Or.inr rfl, fun h => by omega, rfl⟩
  · exact ⟨1, Or.inr rfl, fun _ => rfl, rfl⟩
  · exact ⟨1, Or.inr rfl, fun h => by omega, rfl⟩
theorem zcov {g : Nat → Int64} {i : Nat} {y : Int} (h0 : g 0 = -1) (hi : i < 64) (hy : y = -32 + (i : Int)) : (zmx g zN1 i) i ||| (zends (zmx g zN1 i) y ||| (zshl (zends (zmx g zN1 i) y) 1 ||| zushr (zends (zmx g zN1 i) y) 1)) = -1 := by
  by_cases q : i = 0
  · subst q
    rw [zmx_0, h0, n1_or]
  · have e : zends (zmx g zN1 i) y = -1 := by
      unfold zends
      rw [rowv_i (i := i - 1) (by omega) (by omega), zmx_e (by omega)]
      exact n1_or _
    rw [e, n1_or, or_n1]
set_option maxRecDepth 100000 in
set_option maxHeartbeats 4000000 in
theorem c_spread {l : Launch} {D : va_G} {N0 : Nat} {a : Nat} {g : Nat → Int64} {μ : zM} (hA : isFl D μ a zN1 g (-32) 31) (h0 : g 0 = -1) : zMet l yX1_spread cX1_spread 5 none ({ frames := 2, cells := 0, slots := 0, locals := 80 } : Room) D N0 [.ref a, zi 1] μ (zQV D N0 (fun u => isFl D u a zN1 zN1 (-32) 31 ∧ zO (zb a 5) μ u)) := by
  refine zMet_of rfl (Nat.le_of_ble_eq_true rfl) (fun X C Rm hin E => ?_)
  have round : ∀ (g : Nat → Int64) (hg : g 0 = -1) (r : Int) (hr : 0 ≤ r ∧ r ≤ 4096) (ν : zM) (hν : isFl D ν a zN1 g (-32) 31) (hO : zO (zb a 5) μ ν) (b : Int)
      (cont : ∀ (ν2 : zM) (m b2 : Int), (m = 0 ∨ m = 1) → ((∀ i, i < 64 → g i = -1) → m = 0) → isFl D ν2 a zN1 zN1 (-32) 31 → zO (zb a 5) μ ν2 → Z X ν2 0 0 4 [some (.ref a), some (zi 1), some (zi m), some (zi (r + 1)), some (zi b2)] []),
      Z X ν 0 0 15 [some (.ref a), some (zi 1), some (zi b), some (zi r), none] [] := by
    intro g hg r hr ν hν hO b cont
    have down : ∀ (n : Nat) (y m : Int) (ν : zM), n ≤ 64 → y = (n : Int) - 33 → (m = 0 ∨ m = 1) → ((∀ i, i < 64 → g i = -1) → m = 0) → isFl D ν a zN1 zN1 (-32) 31 → zO (zb a 5) μ ν → Z X ν 0 0 63 [some (.ref a), some (zi 1), some (zi m), some (zi r), some (zi y)] [] := by
      intro n
      induction n with
      | zero =>
        intro y m ν hn hy hm hm2 hν hO
        refine z_iload C dX1_spread_63 rfl ?_
        refine z_bipush C dX1_spread_65 ?_
        refine z_icmp_lt (tgt := 97) C dX1_spread_67 (by decide) (fun _ => ?_) (fun hno => absurd hno (by omega))
        refine z_iinc (L' := [_, _, _, _, _]) C dX1_spread_97 rfl rfl ?_
        refine z_goto (tgt := 4) C dX1_spread_100 (by decide) ?_
        exact cont ν m _ hm hm2 hν hO
      | succ n ih =>
        intro y m ν hn hy hm hm2 hν hO
        refine z_iload C dX1_spread_63 rfl ?_
        refine z_bipush C dX1_spread_65 ?_
        refine z_icmp_lt (tgt := 97) C dX1_spread_67 (by decide) (fun hno => absurd hno (by omega)) (fun _ => ?_)
        refine z_iload C dX1_spread_70 rfl ?_
        refine z_aload_n C dX1_spread_72 rfl ?_
        refine z_get C hν.1 rfl 2 (by decide) m_137 inz1 rfl rfl dX1_spread_73 ?_
        refine z_iconst C dX1_spread_76 ?_
        refine z_isub C dX1_spread_77 ?_
        refine z_icmp_lt (tgt := 97) C dX1_spread_78 (by decide) (fun hno => absurd hno (by omega)) (fun _ => ?_)
        have hcv := zcov (g := zN1) (i := n) (y := y) rfl (by omega) (by omega)
        rw [show zmx zN1 zN1 n = zN1 from by funext j; unfold zmx; split <;> rfl] at hcv
        refine z_iload_n C dX1_spread_81 rfl ?_
        refine z_aload_n C dX1_spread_82 rfl ?_
        refine z_iload C dX1_spread_83 rfl ?_
        refine z_iload_n C dX1_spread_85 rfl ?_
        refine z_ci C (z_rV C Rm qv_X1_spreadInto m_338 (c_into hν (i := n) (y := y) (by omega) (by omega) hcv) hν.1 rfl dX1_spread_86 rfl rfl (Nat.le_of_ble_eq_true rfl) rfl ⟨Nat.le_of_ble_eq_true rfl, Nat.le_of_ble_eq_true rfl, Nat.le_of_ble_eq_true rfl, Nat.le_of_ble_eq_true rfl⟩) (fun z ν3 hp => ?_)
        obtain ⟨hz, hz2, hν3, hO3⟩ := hp
        obtain rfl := hz2 rfl
        obtain ⟨v, hv1, hv2, hv3⟩ := zor01 hm (Or.inl rfl)
        obtain rfl := hv2 rfl
        rw [show zw zN1 n (-1) = zN1 from zw_id rfl] at hν3
        refine z_ior C dX1_spread_89 hv3 ?_
        refine z_istore_n (L' := [_, _, _, _, _]) C dX1_spread_90 rfl ?_
        refine z_iinc (L' := [_, _, _, _, _]) C dX1_spread_91 rfl rfl ?_
        refine z_goto (tgt := 63) C dX1_spread_94 (by decide) ?_
        exact ih _ _ _ (by omega) (by omega) hm hm2 hν3 (hO.tr hO3)
    have up : ∀ (n i : Nat) (y m : Int) (ν : zM), i + n = 64 → y = -32 + (i : Int) → (m = 0 ∨ m = 1) → ((∀ i, i < 64 → g i = -1) → m = 0) → isFl D ν a zN1 (zmx g zN1 i) (-32) 31 → zO (zb a 5) μ ν → Z X ν 0 0 23 [some (.ref a), some (zi 1), some (zi m), some (zi r), some (zi y)] [] := by
      intro n
      induction n with
      | zero =>
        intro i y m ν hi hy hm hm2 hν hO
        refine z_canL C hν.2.2.2 (g := zN1) (fun j hj => zmx_e (by omega)) ?_
        have hν9 : isFl D (zu ν (a + 3 + 1) (zAL D 64 zN1)) a zN1 zN1 (-32) 31 := hν.found zN1
        have hO9 : zO (zb a 5) μ (zu ν (a + 3 + 1) (zAL D 64 zN1)) := hO.zu (by unfold zb; omega)
        generalize zu ν (a + 3 + 1) (zAL D 64 zN1) = ν9 at hν9 hO9 ⊢
        refine z_iload C dX1_spread_23 rfl ?_
        refine z_bipush C dX1_spread_25 ?_
        refine z_icmp_gt (tgt := 57) C dX1_spread_27 (by decide) (fun _ => ?_) (fun hno => absurd hno (by omega))
        refine z_aload_n C dX1_spread_57 rfl ?_
        refine z_get C hν9.1 rfl 3 (by decide) m_138 inz1 rfl rfl dX1_spread_58 ?_
        refine z_istore (L' := [_, _, _, _, _]) C dX1_spread_61 rfl ?_
        exact down 64 _ _ _ (by omega) (by omega) hm hm2 hν9 hO9
      | succ n ih =>
        intro i y m ν hi hy hm hm2 hν hO
        refine z_iload C dX1_spread_23 rfl ?_
        refine z_bipush C dX1_spread_25 ?_
        refine z_icmp_gt (tgt := 57) C dX1_spread_27 (by decide) (fun hno => absurd hno (by omega)) (fun _ => ?_)
        refine z_iload C dX1_spread_30 rfl ?_
        refine z_aload_n C dX1_spread_32 rfl ?_
        refine z_get C hν.1 rfl 3 (by decide) m_138 inz1 rfl rfl dX1_spread_33 ?_
        refine z_iconst C dX1_spread_36 ?_
        refine z_iadd C dX1_spread_37 ?_
        refine z_icmp_gt (tgt := 57) C dX1_spread_38 (by decide) (fun hno => absurd hno (by omega)) (fun _ => ?_)
        refine z_iload_n C dX1_spread_41 rfl ?_
        refine z_aload_n C dX1_spread_42 rfl ?_
        refine z_iload C dX1_spread_43 rfl ?_
        refine z_iload_n C dX1_spread_45 rfl ?_
        refine z_ci C (z_rV C Rm qv_X1_spreadInto m_338 (c_into hν (i := i) (y := y) (by omega) (by omega) (zcov hg (by omega) hy)) hν.1 rfl dX1_spread_46 rfl rfl (Nat.le_of_ble_eq_true rfl) rfl ⟨Nat.le_of_ble_eq_true rfl, Nat.le_of_ble_eq_true rfl, Nat.le_of_ble_eq_true rfl, Nat.le_of_ble_eq_true rfl⟩) (fun z ν3 hp => ?_)
        obtain ⟨hz, hz2, hν3, hO3⟩ := hp
        obtain ⟨v, hv1, hv2, hv3⟩ := zor01 hm hz
        rw [show zw (zmx g zN1 i) i (-1) = zmx g zN1 (i + 1) from zmx_s g zN1 i] at hν3
        refine z_ior C dX1_spread_49 hv3 ?_
        refine z_istore_n (L' := [_, _, _, _, _]) C dX1_spread_50 rfl ?_
        refine z_iinc (L' := [_, _, _, _, _]) C dX1_spread_51 rfl rfl ?_
        refine z_goto (tgt := 23) C dX1_spread_54 (by decide) ?_
        exact ih (i + 1) _ _ _ (by omega) (by omega) hv1 (fun h => by rw [hv2 (hz2 (by rw [zmx_i (by omega)]; exact h i (by omega)))]; exact hm2 h) hν3 (hO.tr hO3)
    refine z_iconst C dX1_spread_15 ?_
    refine z_istore_n (L' := [_, _, _, _, _]) C dX1_spread_16 rfl ?_
    refine z_aload_n C dX1_spread_17 rfl ?_
    refine z_get C hν.1 rfl 2 (by decide) m_137 inz1 rfl rfl dX1_spread_18 ?_
    refine z_istore (L' := [_, _, _, _, _]) C dX1_spread_21 rfl ?_
    exact up 64 0 _ 0 ν rfl (by omega) (Or.inl rfl) (fun _ => rfl) (by rw [zmx_0]; exact hν) hO
  have fin : ∀ (ν : zM) (m r b : Int), 0 ≤ r ∧ r ≤ 10 → m = 0 → isFl D ν a zN1 zN1 (-32) 31 → zO (zb a 5) μ ν → Z X ν 0 0 4 [some (.ref a), some (zi 1), some (zi m), some (zi r), some (zi b)] [] := by
    intro ν m r b hr hm hν hO
    subst hm
    refine z_iload_n C dX1_spread_4 rfl ?_
    refine z_sipush C dX1_spread_5 ?_
    refine z_icmp_gt (tgt := 103) C dX1_spread_8 (by decide) (fun hno => absurd hno (by omega)) (fun _ => ?_)
    refine z_iload_n C dX1_spread_11 rfl ?_
    refine z_if_eq (tgt := 103) C dX1_spread_12 (by decide) (fun _ => ?_) (fun hno => absurd hno (by omega))
    exact z_vret C E dX1_spread_103 (Nat.le_of_ble_eq_true rfl) (Nat.le_of_ble_eq_true rfl) ⟨hν, hO⟩
  refine z_iconst C dX1_spread_0 ?_
  refine z_istore_n (L' := [_, _, _, _, _]) C dX1_spread_1 rfl ?_
  refine z_iconst C dX1_spread_2 ?_
  refine z_istore_n (L' := [_, _, _, _, _]) C dX1_spread_3 rfl ?_
  refine z_iload_n C dX1_spread_4 rfl ?_
  refine z_sipush C dX1_spread_5 ?_
  refine z_icmp_gt (tgt := 103) C dX1_spread_8 (by decide) (fun hno => absurd hno (by omega)) (fun _ => ?_)
  refine z_iload_n C dX1_spread_11 rfl ?_
  refine z_if_eq (tgt := 103) C dX1_spread_12 (by decide) (fun hno => absurd hno (by omega)) (fun _ => ?_)
  refine round g h0 0 (by omega) μ hA zO.rf 1 (fun ν2 m b2 hm hm2 hν2 hO2 => ?_)
  rcases hm with rfl | rfl
  · exact fin _ _ _ _ (by omega) rfl hν2 hO2
  · refine z_iload_n C dX1_spread_4 rfl ?_
    refine z_sipush C dX1_spread_5 ?_
    refine z_icmp_gt (tgt := 103) C dX1_spread_8 (by decide) (fun hno => absurd hno (by omega)) (fun _ => ?_)
    refine z_iload_n C dX1_spread_11 rfl ?_
    refine z_if_eq (tgt := 103) C dX1_spread_12 (by decide) (fun hno => absurd hno (by omega)) (fun _ => ?_)
    refine z_fewer (L' := [some (.ref a), some (zi 1), some (zi 1), some (zi (0 + 1)), none]) ⟨Or.inr rfl, Or.inr rfl, Or.inr rfl, Or.inr rfl, Or.inl rfl, trivial⟩ ?_
    refine round zN1 rfl (0 + 1) (by omega) ν2 hν2 hO2 1 (fun ν3 m3 b3 hm3 hm4 hν3 hO3 => ?_)
    exact fin _ _ _ _ (by omega) (hm4 (fun _ _ => rfl)) hν3 hO3
set_option maxRecDepth 100000 in
set_option maxHeartbeats 4000000 in
theorem c_remove {l : Launch} {D : va_G} {N0 : Nat} {a : Nat} {μ : zM} (hA : isFl D μ a zN1 zN1 (-32) 31) : zMet l yX1_removeFound cX1_removeFound 2 none ({ frames := 1, cells := 0, slots := 0, locals := 40 } : Room) D N0 [.ref a] μ (zQV D N0 (fun u => isFl D u a zF zN1 (-32) 31 ∧ zO (zb a 5) μ u)) := by
  refine zMet_of rfl (Nat.le_of_ble_eq_true rfl) (fun X C Rm hin E => ?_)
  have loop : ∀ (n i : Nat) (y : Int) (ν : zM), i + n = 64 → y = -32 + (i : Int) → isFl D ν a (zmx zN1 zF i) zN1 (-32) 31 → zO (zb a 5) μ ν → Z X ν 0 0 5 [some (.ref a), some (zi y)] [] := by
    intro n
    induction n with
    | zero =>
      intro i y ν hi hy hν hO
      refine z_canL C hν.2.1.2 (g := zF) (fun j hj => zmx_e (by omega)) ?_
      have hν9 : isFl D (zu ν (a + 1 + 1) (zAL D 64 zF)) a zF zN1 (-32) 31 := hν.rest zF
      have hO9 : zO (zb a 5) μ (zu ν (a + 1 + 1) (zAL D 64 zF)) := hO.zu (by unfold zb; omega)
      generalize zu ν (a + 1 + 1) (zAL D 64 zF) = ν9 at hν9 hO9 ⊢
      refine z_iload_n C dX1_removeFound_5 rfl ?_
      refine z_aload_n C dX1_removeFound_6 rfl ?_
      refine z_get C hν9.1 rfl 3 (by decide) m_138 inz1 rfl rfl dX1_removeFound_7 ?_
      refine z_icmp_gt (tgt := 48) C dX1_removeFound_10 (by decide) (fun _ => ?_) (fun hno => absurd hno (by omega))
      exact z_vret C E dX1_removeFound_48 (Nat.le_of_ble_eq_true rfl) (Nat.le_of_ble_eq_true rfl) ⟨hν9, hO9⟩
    | succ n ih =>
      intro i y ν hi hy hν hO
      refine z_iload_n C dX1_removeFound_5 rfl ?_
      refine z_aload_n C dX1_removeFound_6 rfl ?_
      refine z_get C hν.1 rfl 3 (by decide) m_138 inz1 rfl rfl dX1_removeFound_7 ?_
      refine z_icmp_gt (tgt := 48) C dX1_removeFound_10 (by decide) (fun hno => absurd hno (by omega)) (fun _ => ?_)
      refine z_aload_n C dX1_removeFound_13 rfl ?_
      refine z_get C hν.1 rfl 0 (by decide) m_135 inz1 rfl rfl dX1_removeFound_14 ?_
      refine z_iload_n C dX1_removeFound_17 rfl ?_
      refine z_aload_n C dX1_removeFound_18 rfl ?_
      refine z_get C hν.1 rfl 0 (by decide) m_135 inz1 rfl rfl dX1_removeFound_19 ?_
      refine z_iload_n C dX1_removeFound_22 rfl ?_
      refine z_cl C (z_rV C Rm qv_X0_row m_314 (c_row hν.2.1 (y := y) (by omega)) hν.2.1.1 rfl dX1_removeFound_23 rfl rfl (Nat.le_of_ble_eq_true rfl) rfl ⟨Nat.le_of_ble_eq_true rfl, Nat.le_of_ble_eq_true rfl, Nat.le_of_ble_eq_true rfl, Nat.le_of_ble_eq_true rfl⟩) (fun z μ3 hp => ?_)
      obtain ⟨rfl, rfl⟩ := hp
      rw [rowv_i hy (by omega), zmx_i (by omega)]
      refine z_aload_n C dX1_removeFound_26 rfl ?_
      refine z_get C hν.1 rfl 1 (by decide) m_136 inz1 rfl rfl dX1_removeFound_27 ?_
      refine z_iload_n C dX1_removeFound_30 rfl ?_
      refine z_cl C (z_rV C Rm qv_X0_row m_314 (c_row hν.2.2 (y := y) (by omega)) hν.2.2.1 rfl dX1_removeFound_31 rfl rfl (Nat.le_of_ble_eq_true rfl) rfl ⟨Nat.le_of_ble_eq_true rfl, Nat.le_of_ble_eq_true rfl, Nat.le_of_ble_eq_true rfl, Nat.le_of_ble_eq_true rfl⟩) (fun z μ3 hp => ?_)
      obtain ⟨rfl, rfl⟩ := hp
      rw [rowv_i hy (by omega)]
      refine z_ldc2 C m_356 dX1_removeFound_34 ?_
      refine z_lxor C dX1_removeFound_37 ?_
      refine z_land C dX1_removeFound_38 ?_
      rw [show zN1 i &&& (zN1 i ^^^ (-1)) = 0 from by unfold zN1; rw [xn_n1]; rfl]
      refine z_cv C (z_rV C Rm qv_X0_putRow m_345 (c_putRow hν.2.1 (y := y) (by omega) (v := 0)) hν.2.1.1 rfl dX1_removeFound_39 rfl rfl (Nat.le_of_ble_eq_true rfl) rfl ⟨Nat.le_of_ble_eq_true rfl, Nat.le_of_ble_eq_true rfl, Nat.le_of_ble_eq_true rfl, Nat.le_of_ble_eq_true rfl⟩) (fun μ6 hp => ?_)
      rw [show (y + 32).toNat = i by omega, show zw (zmx zN1 zF i) i 0 = zmx zN1 zF (i + 1) from zmx_s zN1 zF i] at hp
      refine z_iinc (L' := [_, _]) C dX1_removeFound_42 rfl rfl ?_
      refine z_goto (tgt := 5) C dX1_removeFound_45 (by decide) ?_
      exact ih (i + 1) _ _ (by omega) (by omega) (by rw [hp]; exact hν.rest _) (by rw [hp]; exact hO.tr zO.f1)
  refine z_aload_n C dX1_removeFound_0 rfl ?_
  refine z_get C hA.1 rfl 2 (by decide) m_137 inz1 rfl rfl dX1_removeFound_1 ?_
  refine z_istore_n (L' := [_, _]) C dX1_removeFound_4 rfl ?_
  exact loop 64 0 _ μ rfl rfl (by rw [zmx_0]; exact hA) zO.rf
def zgB : Nat → Int64 := fun j => if j = 0 ∨ j = 63 then -1 else (zshl 1 (-32 - -32) ||| zshl 1 (31 - -32))
set_option maxRecDepth 100000 in
set_option maxHeartbeats 4000000 in
theorem c_findHoles {l : Launch} {D : va_G} {N0 : Nat} {a o : Nat} {f g : Nat → Int64} {l0 h0 : Int} {μ : zM} (hA : isFl D μ a f g l0 h0) (hF : isF D μ o zF) (ho : ¬ zb a 5 o ∧ ¬ zb a 5 (o + 1)) : zMet l yX1_findHoles cX1_findHoles 6 none ({ frames := 3, cells := 0, slots := 0, locals := 120 } : Room) D N0 [.ref a, .ref o] μ (zQV D N0 (fun u => isFl D u a zF zN1 (-32) 31 ∧ zO (zb a 5) μ u)) := by
  refine zMet_of rfl (Nat.le_of_ble_eq_true rfl) (fun X C Rm hin E => ?_)
  have loop : ∀ (n i : Nat) (y : Int) (ν : zM), i + n = 64 → y = -32 + (i : Int) → isFl D ν a (zmx f zN1 i) (zmx g zgB i) l0 h0 → zO (zb a 5) μ ν → Z X ν 0 0 3 [some (.ref a), some (.ref o), some (zi y), none, none, none] [] := by
    intro n
    induction n with
    | zero =>
      intro i y ν hi hy hν hO
      refine z_canL C hν.2.1.2 (g := zN1) (fun j hj => zmx_e (by omega)) ?_
      have hν8 : isFl D (zu ν (a + 1 + 1) (zAL D 64 zN1)) a zN1 (zmx g zgB i) _ _ := hν.rest zN1
      have hO8 : zO (zb a 5) μ (zu ν (a + 1 + 1) (zAL D 64 zN1)) := hO.zu (by unfold zb; omega)
      generalize zu ν (a + 1 + 1) (zAL D 64 zN1) = ν8 at hν8 hO8 ⊢
      refine z_canL C hν8.2.2.2 (g := zgB) (fun j hj => zmx_e (by omega)) ?_
      have hν9 : isFl D (zu ν8 (a + 3 + 1) (zAL D 64 zgB)) a zN1 zgB _ _ := hν8.found zgB
      have hO9 : zO (zb a 5) μ (zu ν8 (a + 3 + 1) (zAL D 64 zgB)) := hO8.zu (by unfold zb; omega)
      generalize zu ν8 (a + 3 + 1) (zAL D 64 zgB) = ν9 at hν9 hO9 ⊢
      refine z_iload_n C dX1_findHoles_3 rfl ?_
      refine z_bipush C dX1_findHoles_4 ?_
      refine z_icmp_gt (tgt := 93) C dX1_findHoles_6 (by decide) (fun _ => ?_) (fun hno => absurd hno (by omega))
      refine z_aload_n C dX1_findHoles_93 rfl ?_
      refine z_bipush C dX1_findHoles_94 ?_
      refine z_put C hν9.1 rfl tyX1 tyX1_ok nmX1 2 (by decide) m_137 inz1 rfl rfl (by rfl) (by rfl) (Nat.le_of_ble_eq_true rfl) dX1_findHoles_96 ?_
      refine z_aload_n C dX1_findHoles_99 rfl ?_
      refine z_bipush C dX1_findHoles_100 ?_
      refine z_put C zu_s rfl tyX1 tyX1_ok nmX1 3 (by decide) m_138 inz1 rfl rfl (by rfl) (by rfl) (Nat.le_of_ble_eq_true rfl) dX1_findHoles_102 ?_
      have hν7 : isFl D (zu (zu ν9 a (.inr (1, List.set [.ref (a + 1), .ref (a + 3), zi l0, zi h0] 2 (zi (-32))))) a (.inr (1, List.set (List.set [.ref (a + 1), .ref (a + 3), zi l0, zi h0] 2 (zi (-32))) 3 (zi 31)))) a zN1 zgB (-32) 31 := ⟨zu_s, hν9.2.1.o (zO.zu (P := fun q => q = a) (zO.zu zO.rf rfl) rfl) (by omega) (by omega), hν9.2.2.o (zO.zu (P := fun q => q = a) (zO.zu zO.rf rfl) rfl) (by omega) (by omega)⟩
      have hO7 : zO (zb a 5) μ (zu (zu ν9 a (.inr (1, List.set [.ref (a + 1), .ref (a + 3), zi l0, zi h0] 2 (zi (-32))))) a (.inr (1, List.set (List.set [.ref (a + 1), .ref (a + 3), zi l0, zi h0] 2 (zi (-32))) 3 (zi 31)))) := (hO9.zu (by unfold zb; omega)).zu (by unfold zb; omega)
      generalize zu (zu ν9 a (.inr (1, List.set [.ref (a + 1), .ref (a + 3), zi l0, zi h0] 2 (zi (-32))))) a (.inr (1, List.set (List.set [.ref (a + 1), .ref (a + 3), zi l0, zi h0] 2 (zi (-32))) 3 (zi 31))) = ν7 at hν7 hO7 ⊢
      refine z_aload_n C dX1_findHoles_105 rfl ?_
      refine z_iconst C dX1_findHoles_106 ?_
      refine z_cv C (z_rV C Rm qv_X1_spread m_334 (c_spread hν7 rfl) hν7.1 rfl dX1_findHoles_107 rfl rfl (Nat.le_of_ble_eq_true rfl) rfl ⟨Nat.le_of_ble_eq_true rfl, Nat.le_of_ble_eq_true rfl, Nat.le_of_ble_eq_true rfl, Nat.le_of_ble_eq_true rfl⟩) (fun ν6 hp => ?_)
      obtain ⟨hν6, hO6⟩ := hp
      refine z_aload_n C dX1_findHoles_110 rfl ?_
      refine z_cv C (z_rV C Rm qv_X1_removeFound m_352 (c_remove hν6) hν6.1 rfl dX1_findHoles_111 rfl rfl (Nat.le_of_ble_eq_true rfl) rfl ⟨Nat.le_of_ble_eq_true rfl, Nat.le_of_ble_eq_true rfl, Nat.le_of_ble_eq_true rfl, Nat.le_of_ble_eq_true rfl⟩) (fun ν5 hp => ?_)
      obtain ⟨hν5, hO5⟩ := hp
      exact z_vret C E dX1_findHoles_114 (Nat.le_of_ble_eq_true rfl) (Nat.le_of_ble_eq_true rfl) ⟨hν5, (hO7.tr hO6).tr hO5⟩
    | succ n ih =>
      intro i y ν hi hy hν hO
      have hF1 : isF D ν o zF := hF.o hO ho.1 ho.2
      have key : ∀ (b : Int) (v : Int64), v = zgB i → Z X ν 0 0 48 [some (.ref a), some (.ref o), some (zi y), some (zi b), none, none] [.long v] := by
        intro b v hv
        subst hv
        refine z_lstore (L' := [_, _, _, _, _, _]) C dX1_findHoles_48 rfl ?_
        refine z_aload_n C dX1_findHoles_50 rfl ?_
        refine z_get C hν.1 rfl 0 (by decide) m_135 inz1 rfl rfl dX1_findHoles_51 ?_
        refine z_iload_n C dX1_findHoles_54 rfl ?_
        refine z_aload_n C dX1_findHoles_55 rfl ?_
        refine z_iload_n C dX1_findHoles_56 rfl ?_
        refine z_cl C (z_rV C Rm qv_X0_row m_314 (c_row hF1 (y := y) (by omega)) hF1.1 rfl dX1_findHoles_57 rfl rfl (Nat.le_of_ble_eq_true rfl) rfl ⟨Nat.le_of_ble_eq_true rfl, Nat.le_of_ble_eq_true rfl, Nat.le_of_ble_eq_true rfl, Nat.le_of_ble_eq_true rfl⟩) (fun z μ3 hp => ?_)
        obtain ⟨rfl, rfl⟩ := hp
        rw [rowv_z]
        refine z_ldc2 C m_356 dX1_findHoles_60 ?_
        refine z_lxor C dX1_findHoles_63 ?_
        rw [x0_n1]
        refine z_cv C (z_rV C Rm qv_X0_putRow m_345 (c_putRow hν.2.1 (y := y) (by omega) (v := -1)) hν.2.1.1 rfl dX1_findHoles_64 rfl rfl (Nat.le_of_ble_eq_true rfl) rfl ⟨Nat.le_of_ble_eq_true rfl, Nat.le_of_ble_eq_true rfl, Nat.le_of_ble_eq_true rfl, Nat.le_of_ble_eq_true rfl⟩) (fun ν1 hp => ?_)
        rw [show (y + 32).toNat = i by omega, show zw (zmx f zN1 i) i (-1) = zmx f zN1 (i + 1) from zmx_s f zN1 i] at hp
        have hν1 : isFl D ν1 a (zmx f zN1 (i + 1)) (zmx g zgB i) l0 h0 := by rw [hp]; exact hν.rest _
        have hO1 : zO (zb a 5) μ ν1 := by rw [hp]; exact hO.tr zO.f1
        have hF2 : isF D ν1 o zF := hF.o hO1 ho.1 ho.2
        clear hp
        refine z_aload_n C dX1_findHoles_67 rfl ?_
        refine z_get C hν1.1 rfl 1 (by decide) m_136 inz1 rfl rfl dX1_findHoles_68 ?_
        refine z_iload_n C dX1_findHoles_71 rfl ?_
        refine z_aload_n C dX1_findHoles_72 rfl ?_
        refine z_iload_n C dX1_findHoles_73 rfl ?_
        refine z_cl C (z_rV C Rm qv_X0_row m_314 (c_row hF2 (y := y) (by omega)) hF2.1 rfl dX1_findHoles_74 rfl rfl (Nat.le_of_ble_eq_true rfl) rfl ⟨Nat.le_of_ble_eq_true rfl, Nat.le_of_ble_eq_true rfl, Nat.le_of_ble_eq_true rfl, Nat.le_of_ble_eq_true rfl⟩) (fun z μ4 hp => ?_)
        obtain ⟨rfl, rfl⟩ := hp
        rw [rowv_z]
        refine z_ldc2 C m_356 dX1_findHoles_77 ?_
        refine z_lxor C dX1_findHoles_80 ?_
        refine z_lload C dX1_findHoles_81 rfl ?_
        refine z_land C dX1_findHoles_83 ?_
        rw [x0_n1, n1_and]
        refine z_cv C (z_rV C Rm qv_X0_putRow m_345 (c_putRow hν1.2.2 (y := y) (by omega) (v := zgB i)) hν1.2.2.1 rfl dX1_findHoles_84 rfl rfl (Nat.le_of_ble_eq_true rfl) rfl ⟨Nat.le_of_ble_eq_true rfl, Nat.le_of_ble_eq_true rfl, Nat.le_of_ble_eq_true rfl, Nat.le_of_ble_eq_true rfl⟩) (fun ν2 hp => ?_)
        rw [show (y + 32).toNat = i by omega, zmx_s g zgB i] at hp
        refine z_iinc (L' := [_, _, _, _, _, _]) C dX1_findHoles_87 rfl rfl ?_
        refine z_goto (tgt := 3) C dX1_findHoles_90 (by decide) ?_
        refine z_fewer (L' := [some (.ref a), some (.ref o), some (zi (y + 1)), none, none, none]) ⟨Or.inr rfl, Or.inr rfl, Or.inr rfl, Or.inl rfl, Or.inl rfl, Or.inr rfl, trivial⟩ ?_
        exact ih (i + 1) _ _ (by omega) (by omega) (by rw [hp]; exact hν1.found _) (by rw [hp]; exact hO1.tr zO.f3)
      refine z_iload_n C dX1_findHoles_3 rfl ?_
      refine z_bipush C dX1_findHoles_4 ?_
      refine z_icmp_gt (tgt := 93) C dX1_findHoles_6 (by decide) (fun hno => absurd hno (by omega)) (fun _ => ?_)
      have key1 : i = 0 ∨ i = 63 → Z X ν 0 0 21 [some (.ref a), some (.ref o), some (zi y), none, none, none] [] := by
        intro h
        refine z_iconst C dX1_findHoles_21 ?_
        refine z_goto (tgt := 26) C dX1_findHoles_22 (by decide) ?_
        refine z_istore_n (L' := [_, _, _, _, _, _]) C dX1_findHoles_26 rfl ?_
        refine z_iload_n C dX1_findHoles_27 rfl ?_
        refine z_if_eq (tgt := 37) C dX1_findHoles_28 (by decide) (fun hno => absurd hno (by omega)) (fun _ => ?_)
        refine z_ldc2 C m_356 dX1_findHoles_31 ?_
        refine z_goto (tgt := 48) C dX1_findHoles_34 (by decide) ?_
        exact key _ _ (by unfold zgB; rw [if_pos h])
      refine z_iload_n C dX1_findHoles_9 rfl ?_
      refine z_bipush C dX1_findHoles_10 ?_
      refine z_icmp_eq (tgt := 21) C dX1_findHoles_12 (by decide) (fun h1 => ?_) (fun h1 => ?_)
      · exact key1 (by omega)
      · refine z_iload_n C dX1_findHoles_15 rfl ?_
        refine z_bipush C dX1_findHoles_16 ?_
        refine z_icmp_ne (tgt := 25) C dX1_findHoles_18 (by decide) (fun h2 => ?_) (fun h2 => ?_)
        · refine z_iconst C dX1_findHoles_25 ?_
          refine z_istore_n (L' := [_, _, _, _, _, _]) C dX1_findHoles_26 rfl ?_
          refine z_iload_n C dX1_findHoles_27 rfl ?_
          refine z_if_eq (tgt := 37) C dX1_findHoles_28 (by decide) (fun _ => ?_) (fun hno => absurd hno (by omega))
          refine z_bipush C dX1_findHoles_37 ?_
          refine z_cl C (z_rSN C Rm qs_X6_bit nl_365 (c_bit (x := -32)) dX1_findHoles_39 rfl rfl (Nat.le_of_ble_eq_true rfl) rfl ⟨Nat.le_of_ble_eq_true rfl, Nat.le_of_ble_eq_true rfl, Nat.le_of_ble_eq_true rfl, Nat.le_of_ble_eq_true rfl⟩) (fun z μ3 hp => ?_)
          obtain ⟨rfl, rfl⟩ := hp
          refine z_bipush C dX1_findHoles_42 ?_
          refine z_cl C (z_rSN C Rm qs_X6_bit nl_365 (c_bit (x := 31)) dX1_findHoles_44 rfl rfl (Nat.le_of_ble_eq_true rfl) rfl ⟨Nat.le_of_ble_eq_true rfl, Nat.le_of_ble_eq_true rfl, Nat.le_of_ble_eq_true rfl, Nat.le_of_ble_eq_true rfl⟩) (fun z μ3 hp => ?_)
          obtain ⟨rfl, rfl⟩ := hp
          refine z_lor C dX1_findHoles_47 ?_
          exact key _ _ (by unfold zgB; rw [if_neg (by omega)])
        · exact key1 (by omega)
  refine z_bipush C dX1_findHoles_0 ?_
  refine z_istore_n (L' := [_, _, _, _, _, _]) C dX1_findHoles_2 rfl ?_
  exact loop 64 0 _ μ rfl rfl (by rw [zmx_0, zmx_0]; exact hA) zO.rf
set_option maxRecDepth 100000 in
set_option maxHeartbeats 4000000 in
theorem c_parts0 {l : Launch} {D : va_G} {N0 : Nat} {a : Nat} {g : Nat → Int64} {lo hi b : Int} {μ : zM} (hA : isFl D μ a zF g lo hi) : zMet l yX1_countParts cX1_countParts 5 (some .int) ({ frames := 1, cells := 0, slots := 0, locals := 40 } : Room) D N0 [.ref a, zi b] μ (zQI D N0 (fun z u => z = 0 ∧ u = μ)) := by
  refine zMet_of rfl (Nat.le_of_ble_eq_true rfl) (fun X C Rm hin E => ?_)
  have loop : ∀ (n i : Nat) (y : Int), i + n = 64 → y = -32 + (i : Int) → Z X μ 0 0 5 [some (.ref a), some (zi b), some (zi 0), some (zi y), none] [] := by
    intro n
    induction n with
    | zero =>
      intro i y hi hy
      refine z_iload_n C dX1_countParts_5 rfl ?_
      refine z_bipush C dX1_countParts_6 ?_
      refine z_icmp_gt (tgt := 69) C dX1_countParts_8 (by decide) (fun _ => ?_) (fun hno => absurd hno (by omega))
      refine z_iload_n C dX1_countParts_69 rfl ?_
      exact z_iret C E dX1_countParts_70 (Nat.le_of_ble_eq_true rfl) (Nat.le_of_ble_eq_true rfl) ⟨rfl, rfl⟩
    | succ n ih =>
      intro i y hi hy
      refine z_iload_n C dX1_countParts_5 rfl ?_
      refine z_bipush C dX1_countParts_6 ?_
      refine z_icmp_gt (tgt := 69) C dX1_countParts_8 (by decide) (fun hno => absurd hno (by omega)) (fun _ => ?_)
      refine z_iconst C dX1_countParts_11 ?_
      refine z_istore (L' := [_, _, _, _, _]) C dX1_countParts_12 rfl ?_
      refine z_iload C dX1_countParts_14 rfl ?_
      refine z_bipush C dX1_countParts_16 ?_
      refine z_icmp_ge (tgt := 63) C dX1_countParts_18 (by decide) (fun hno => absurd hno (by omega)) (fun _ => ?_)
      refine z_aload_n C dX1_countParts_21 rfl ?_
      refine z_get C hA.1 rfl 0 (by decide) m_135 inz1 rfl rfl dX1_countParts_22 ?_
      refine z_iload_n C dX1_countParts_25 rfl ?_
      refine z_cl C (z_rV C Rm qv_X0_row m_314 (c_row hA.2.1 (y := y) (by omega)) hA.2.1.1 rfl dX1_countParts_26 rfl rfl (Nat.le_of_ble_eq_true rfl) rfl ⟨Nat.le_of_ble_eq_true rfl, Nat.le_of_ble_eq_true rfl, Nat.le_of_ble_eq_true rfl, Nat.le_of_ble_eq_true rfl⟩) (fun z μ3 hp => ?_)
      obtain ⟨rfl, rfl⟩ := hp
      rw [rowv_z]
      refine z_lconst_0 C dX1_countParts_29 ?_
      refine z_lcmp C dX1_countParts_30 ?_
      rw [zcmp_s]
      refine z_if_eq (tgt := 63) C dX1_countParts_31 (by decide) (fun _ => ?_) (fun hno => absurd hno (by omega))
      refine z_iinc (L' := [_, _, _, _, _]) C dX1_countParts_63 rfl rfl ?_
      refine z_goto (tgt := 5) C dX1_countParts_66 (by decide) ?_
      refine z_fewer (L' := [some (.ref a), some (zi b), some (zi 0), some (zi (y + 1)), none]) ⟨Or.inr rfl, Or.inr rfl, Or.inr rfl, Or.inr rfl, Or.inl rfl, trivial⟩ ?_
      exact ih (i + 1) _ (by omega) (by omega)
  refine z_iconst C dX1_countParts_0 ?_
  refine z_istore_n (L' := [_, _, _, _, _]) C dX1_countParts_1 rfl ?_
  refine z_bipush C dX1_countParts_2 ?_
  refine z_istore_n (L' := [_, _, _, _, _]) C dX1_countParts_4 rfl ?_
  exact loop 64 0 _ rfl rfl
set_option maxRecDepth 100000 in
set_option maxHeartbeats 4000000 in
theorem c_pieces0 {l : Launch} {D : va_G} {N0 : Nat} {a o : Nat} {g : Nat → Int64} {lo hi : Int} {μ : zM} (hA : isFl D μ a zF g lo hi) (hF : isF D μ o zF) (hne : o ≠ a + 1) : zMet l yX1_countPieces cX1_countPieces 2 (some .int) ({ frames := 2, cells := 0, slots := 0, locals := 80 } : Room) D N0 [.ref a, .ref o] μ (zQI D N0 (fun z u => z = 0 ∧ u = μ)) := by
  refine zMet_of rfl (Nat.le_of_ble_eq_true rfl) (fun X C Rm hin E => ?_)
  refine z_aload_n C dX1_countPieces_0 rfl ?_
  refine z_get C hA.1 rfl 0 (by decide) m_135 inz1 rfl rfl dX1_countPieces_1 ?_
  refine z_aload_n C dX1_countPieces_4 rfl ?_
  refine z_cv C (z_rV C Rm qv_X0_copy m_309 (c_copy hA.2.1 hF hne) hA.2.1.1 rfl dX1_countPieces_5 rfl rfl (Nat.le_of_ble_eq_true rfl) rfl ⟨Nat.le_of_ble_eq_true rfl, Nat.le_of_ble_eq_true rfl, Nat.le_of_ble_eq_true rfl, Nat.le_of_ble_eq_true rfl⟩) (fun μ1 hp => ?_)
  rw [setF_i hA.2.1] at hp
  subst hp
  refine z_aload_n C dX1_countPieces_8 rfl ?_
  refine z_iconst C dX1_countPieces_9 ?_
  refine z_ci C (z_rV C Rm qv_X1_countParts m_310 (c_parts0 hA (b := 0)) hA.1 rfl dX1_countPieces_10 rfl rfl (Nat.le_of_ble_eq_true rfl) rfl ⟨Nat.le_of_ble_eq_true rfl, Nat.le_of_ble_eq_true rfl, Nat.le_of_ble_eq_true rfl, Nat.le_of_ble_eq_true rfl⟩) (fun z μ2 hp => ?_)
  exact z_iret C E dX1_countPieces_13 (Nat.le_of_ble_eq_true rfl) (Nat.le_of_ble_eq_true rfl) hp
set_option maxRecDepth 100000 in
set_option maxHeartbeats 4000000 in
theorem c_holes0 {l : Launch} {D : va_G} {N0 : Nat} {a o : Nat} {f g : Nat → Int64} {lo hi : Int} {μ : zM} (hA : isFl D μ a f g lo hi) (hF : isF D μ o zF) (ho : ¬ zb a 5 o ∧ ¬ zb a 5 (o + 1)) : zMet l yX1_countHoles cX1_countHoles 2 (some .int) ({ frames := 4, cells := 0, slots := 0, locals := 160 } : Room) D N0 [.ref a, .ref o] μ (zQI D N0 (fun z u => z = 0 ∧ isFl D u a zF zN1 (-32) 31 ∧ zO (zb a 5) μ u)) := by
  refine zMet_of rfl (Nat.le_of_ble_eq_true rfl) (fun X C Rm hin E => ?_)
  refine z_aload_n C dX1_countHoles_0 rfl ?_
  refine z_aload_n C dX1_countHoles_1 rfl ?_
  refine z_cv C (z_rV C Rm qv_X1_findHoles m_361 (c_findHoles hA hF ho) hA.1 rfl dX1_countHoles_2 rfl rfl (Nat.le_of_ble_eq_true rfl) rfl ⟨Nat.le_of_ble_eq_true rfl, Nat.le_of_ble_eq_true rfl, Nat.le_of_ble_eq_true rfl, Nat.le_of_ble_eq_true rfl⟩) (fun μ1 hp => ?_)
  obtain ⟨h1, h2⟩ := hp
  refine z_aload_n C dX1_countHoles_5 rfl ?_
  refine z_iconst C dX1_countHoles_6 ?_
  refine z_ci C (z_rV C Rm qv_X1_countParts m_310 (c_parts0 h1 (b := 1)) h1.1 rfl dX1_countHoles_7 rfl rfl (Nat.le_of_ble_eq_true rfl) rfl ⟨Nat.le_of_ble_eq_true rfl, Nat.le_of_ble_eq_true rfl, Nat.le_of_ble_eq_true rfl, Nat.le_of_ble_eq_true rfl⟩) (fun z μ2 hp => ?_)
  obtain ⟨rfl, rfl⟩ := hp
  exact z_iret C E dX1_countHoles_10 (Nat.le_of_ble_eq_true rfl) (Nat.le_of_ble_eq_true rfl) ⟨rfl, h1, h2⟩
