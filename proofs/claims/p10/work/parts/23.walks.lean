-- ---- the outline
def isOu (D : va_G) (μ : zM) (a : Nat) (fy wt : Int) : Prop := μ a = some (.inr (3, [.ref (a + 1), .ref (a + 3), .ref (a + 5), zi fy, zi 0, zi 0, zi 0, zi 0, zi 0, zi wt, zi 0, zi 0])) ∧ isF D μ (a + 1) zF ∧ isF D μ (a + 3) zF ∧ isF D μ (a + 5) zF
theorem isOu.o {D : va_G} {P : Nat → Prop} {μ u : zM} {a : Nat} {fy wt : Int} (h : isOu D μ a fy wt) (hO : zO P μ u) (hP : ∀ q, a ≤ q → q < a + 7 → ¬ P q) : isOu D u a fy wt := ⟨hO.at (hP _ (by omega) (by omega)) h.1, h.2.1.o hO (hP _ (by omega) (by omega)) (hP _ (by omega) (by omega)), h.2.2.1.o hO (hP _ (by omega) (by omega)) (hP _ (by omega) (by omega)), h.2.2.2.o hO (hP _ (by omega) (by omega)) (hP _ (by omega) (by omega))⟩
theorem isOu.put {D : va_G} {μ : zM} {a : Nat} {fy wt fy2 wt2 : Int} (h : isOu D μ a fy wt) : isOu D (zu μ a (.inr (3, [.ref (a + 1), .ref (a + 3), .ref (a + 5), zi fy2, zi 0, zi 0, zi 0, zi 0, zi 0, zi wt2, zi 0, zi 0]))) a fy2 wt2 := ⟨zu_s, h.2.1.o (zO.zu (P := fun q => q = a) zO.rf rfl) (by omega) (by omega), h.2.2.1.o (zO.zu (P := fun q => q = a) zO.rf rfl) (by omega) (by omega), h.2.2.2.o (zO.zu (P := fun q => q = a) zO.rf rfl) (by omega) (by omega)⟩
set_option maxRecDepth 100000 in
set_option maxHeartbeats 4000000 in
theorem c_obegin {l : Launch} {D : va_G} {N0 : Nat} {a o : Nat} {fy wt : Int} {μ : zM} (hA : isOu D μ a fy wt) (hF : isF D μ o zF) (hne : o ≠ a + 1) : zMet l yX3_begin cX3_begin 2 none ({ frames := 2, cells := 0, slots := 0, locals := 80 } : Room) D N0 [.ref a, .ref o] μ (zQV D N0 (fun u => isOu D u a (-32) wt ∧ zO (fun q => q = a) μ u)) := by
  refine zMet_of rfl (Nat.le_of_ble_eq_true rfl) (fun X C Rm hin E => ?_)
  refine z_aload_n C dX3_begin_0 rfl ?_
  refine z_get C hA.1 rfl 0 (by decide) m_156 inz3 rfl rfl dX3_begin_1 ?_
  refine z_aload_n C dX3_begin_4 rfl ?_
  refine z_cv C (z_rV C Rm qv_X0_copy m_401 (c_copy hA.2.1 hF hne) hA.2.1.1 rfl dX3_begin_5 rfl rfl (Nat.le_of_ble_eq_true rfl) rfl ⟨Nat.le_of_ble_eq_true rfl, Nat.le_of_ble_eq_true rfl, Nat.le_of_ble_eq_true rfl, Nat.le_of_ble_eq_true rfl⟩) (fun μ1 hp => ?_)
  rw [setF_i hA.2.1] at hp
  subst hp
  refine z_aload_n C dX3_begin_8 rfl ?_
  refine z_get C hA.1 rfl 1 (by decide) m_157 inz3 rfl rfl dX3_begin_9 ?_
  refine z_cv C (z_rV C Rm qv_X0_empty m_402 (c_empty hA.2.2.1) hA.2.2.1.1 rfl dX3_begin_12 rfl rfl (Nat.le_of_ble_eq_true rfl) rfl ⟨Nat.le_of_ble_eq_true rfl, Nat.le_of_ble_eq_true rfl, Nat.le_of_ble_eq_true rfl, Nat.le_of_ble_eq_true rfl⟩) (fun μ2 hp => ?_)
  rw [setF_i hA.2.2.1] at hp
  subst hp
  refine z_aload_n C dX3_begin_15 rfl ?_
  refine z_get C hA.1 rfl 2 (by decide) m_158 inz3 rfl rfl dX3_begin_16 ?_
  refine z_cv C (z_rV C Rm qv_X0_empty m_402 (c_empty hA.2.2.2) hA.2.2.2.1 rfl dX3_begin_19 rfl rfl (Nat.le_of_ble_eq_true rfl) rfl ⟨Nat.le_of_ble_eq_true rfl, Nat.le_of_ble_eq_true rfl, Nat.le_of_ble_eq_true rfl, Nat.le_of_ble_eq_true rfl⟩) (fun μ3 hp => ?_)
  rw [setF_i hA.2.2.2] at hp
  subst hp
  refine z_aload_n C dX3_begin_22 rfl ?_
  refine z_bipush C dX3_begin_23 ?_
  refine z_put C hA.1 rfl tyX3 tyX3_ok nmX3 3 (by decide) m_159 inz3 rfl rfl (by rfl) (by rfl) (Nat.le_of_ble_eq_true rfl) dX3_begin_25 ?_
  exact z_vret C E dX3_begin_28 (Nat.le_of_ble_eq_true rfl) (Nat.le_of_ble_eq_true rfl) ⟨hA.put, zO.zu zO.rf rfl⟩
set_option maxRecDepth 100000 in
set_option maxHeartbeats 4000000 in
theorem c_onext {l : Launch} {D : va_G} {N0 : Nat} {a : Nat} {fy wt c : Int} {μ : zM} (hA : isOu D μ a fy wt) (hf : -32 ≤ fy ∧ fy ≤ 32) (hc : -2147483648 ≤ c ∧ c < 2147483648) : zMet l yX3_next cX3_next 8 (some .boolean) ({ frames := 1, cells := 0, slots := 0, locals := 40 } : Room) D N0 [.ref a, zi c] μ (zQI D N0 (fun z u => z = 0 ∧ isOu D u a 32 c ∧ zO (fun q => q = a) μ u)) := by
  refine zMet_of rfl (Nat.le_of_ble_eq_true rfl) (fun X C Rm hin E => ?_)
  have loop : ∀ (n : Nat) (f : Int) (ν : zM), f + n = 32 → -32 ≤ f → isOu D ν a f c → zO (fun q => q = a) μ ν → Z X ν 0 0 5 [some (.ref a), some (zi c), none, none, none, none, none, none] [] := by
    intro n
    induction n with
    | zero =>
      intro f ν hn hf1 hν hO
      obtain rfl : f = 32 := by omega
      refine z_aload_n C dX3_next_5 rfl ?_
      refine z_get C hν.1 rfl 3 (by decide) m_159 inz3 rfl rfl dX3_next_6 ?_
      refine z_bipush C dX3_next_9 ?_
      refine z_icmp_gt (tgt := 133) C dX3_next_11 (by decide) (fun _ => ?_) (fun hno => absurd hno (by omega))
      refine z_iconst C dX3_next_133 ?_
      exact z_zret C E (Or.inl rfl) dX3_next_134 (Nat.le_of_ble_eq_true rfl) (Nat.le_of_ble_eq_true rfl) ⟨rfl, hν, hO⟩
    | succ n ih =>
      intro f ν hn hf1 hν hO
      refine z_aload_n C dX3_next_5 rfl ?_
      refine z_get C hν.1 rfl 3 (by decide) m_159 inz3 rfl rfl dX3_next_6 ?_
      refine z_bipush C dX3_next_9 ?_
      refine z_icmp_gt (tgt := 133) C dX3_next_11 (by decide) (fun hno => absurd hno (by omega)) (fun _ => ?_)
      refine z_aload_n C dX3_next_14 rfl ?_
      refine z_get C hν.1 rfl 0 (by decide) m_156 inz3 rfl rfl dX3_next_15 ?_
      refine z_aload_n C dX3_next_18 rfl ?_
      refine z_get C hν.1 rfl 3 (by decide) m_159 inz3 rfl rfl dX3_next_19 ?_
      refine z_cl C (z_rV C Rm qv_X0_row m_407 (c_row hν.2.1 (y := f) (by omega)) hν.2.1.1 rfl dX3_next_22 rfl rfl (Nat.le_of_ble_eq_true rfl) rfl ⟨Nat.le_of_ble_eq_true rfl, Nat.le_of_ble_eq_true rfl, Nat.le_of_ble_eq_true rfl, Nat.le_of_ble_eq_true rfl⟩) (fun z μ3 hp => ?_)
      obtain ⟨rfl, rfl⟩ := hp
      rw [rowv_z]
      refine z_lstore_n (L' := [_, _, _, _, _, _, _, _]) C dX3_next_25 rfl ?_
      refine z_lload_n C dX3_next_26 rfl ?_
      refine z_aload_n C dX3_next_27 rfl ?_
      refine z_get C hν.1 rfl 0 (by decide) m_156 inz3 rfl rfl dX3_next_28 ?_
      refine z_aload_n C dX3_next_31 rfl ?_
      refine z_get C hν.1 rfl 3 (by decide) m_159 inz3 rfl rfl dX3_next_32 ?_
      refine z_iconst C dX3_next_35 ?_
      refine z_isub C dX3_next_36 ?_
      refine z_cl C (z_rV C Rm qv_X0_row m_407 (c_row hν.2.1 (y := f - 1) (by omega)) hν.2.1.1 rfl dX3_next_37 rfl rfl (Nat.le_of_ble_eq_true rfl) rfl ⟨Nat.le_of_ble_eq_true rfl, Nat.le_of_ble_eq_true rfl, Nat.le_of_ble_eq_true rfl, Nat.le_of_ble_eq_true rfl⟩) (fun z μ3 hp => ?_)
      obtain ⟨rfl, rfl⟩ := hp
      refine z_ldc2 C m_408 dX3_next_40 ?_
      refine z_lxor C dX3_next_43 ?_
      refine z_land C dX3_next_44 ?_
      rw [Int64.zero_and]
      refine z_aload_n C dX3_next_45 rfl ?_
      refine z_get C hν.1 rfl 1 (by decide) m_157 inz3 rfl rfl dX3_next_46 ?_
      refine z_aload_n C dX3_next_49 rfl ?_
      refine z_get C hν.1 rfl 3 (by decide) m_159 inz3 rfl rfl dX3_next_50 ?_
      refine z_cl C (z_rV C Rm qv_X0_row m_407 (c_row hν.2.2.1 (y := f) (by omega)) hν.2.2.1.1 rfl dX3_next_53 rfl rfl (Nat.le_of_ble_eq_true rfl) rfl ⟨Nat.le_of_ble_eq_true rfl, Nat.le_of_ble_eq_true rfl, Nat.le_of_ble_eq_true rfl, Nat.le_of_ble_eq_true rfl⟩) (fun z μ3 hp => ?_)
      obtain ⟨rfl, rfl⟩ := hp
      refine z_ldc2 C m_408 dX3_next_56 ?_
      refine z_lxor C dX3_next_59 ?_
      refine z_land C dX3_next_60 ?_
      rw [Int64.zero_and]
      refine z_lstore (L' := [_, _, _, _, _, _, _, _]) C dX3_next_61 rfl ?_
      refine z_lload_n C dX3_next_63 rfl ?_
      refine z_lload_n C dX3_next_64 rfl ?_
      refine z_iconst C dX3_next_65 ?_
      refine z_lushr C dX3_next_66 ?_
      refine z_ldc2 C m_408 dX3_next_67 ?_
      refine z_lxor C dX3_next_70 ?_
      refine z_land C dX3_next_71 ?_
      rw [Int64.zero_and]
      refine z_aload_n C dX3_next_72 rfl ?_
      refine z_get C hν.1 rfl 2 (by decide) m_158 inz3 rfl rfl dX3_next_73 ?_
      refine z_aload_n C dX3_next_76 rfl ?_
      refine z_get C hν.1 rfl 3 (by decide) m_159 inz3 rfl rfl dX3_next_77 ?_
      refine z_cl C (z_rV C Rm qv_X0_row m_407 (c_row hν.2.2.2 (y := f) (by omega)) hν.2.2.2.1 rfl dX3_next_80 rfl rfl (Nat.le_of_ble_eq_true rfl) rfl ⟨Nat.le_of_ble_eq_true rfl, Nat.le_of_ble_eq_true rfl, Nat.le_of_ble_eq_true rfl, Nat.le_of_ble_eq_true rfl⟩) (fun z μ3 hp => ?_)
      obtain ⟨rfl, rfl⟩ := hp
      refine z_ldc2 C m_408 dX3_next_83 ?_
      refine z_lxor C dX3_next_86 ?_
      refine z_land C dX3_next_87 ?_
      rw [Int64.zero_and]
      refine z_lstore (L' := [_, _, _, _, _, _, _, _]) C dX3_next_88 rfl ?_
      refine z_lload C dX3_next_90 rfl ?_
      refine z_lload C dX3_next_92 rfl ?_
      refine z_lor C dX3_next_94 ?_
      rw [Int64.zero_or]
      refine z_lconst_0 C dX3_next_95 ?_
      refine z_lcmp C dX3_next_96 ?_
      rw [zcmp_s]
      refine z_if_eq (tgt := 120) C dX3_next_97 (by decide) (fun _ => ?_) (fun hno => absurd hno (by omega))
      refine z_aload_n C dX3_next_120 rfl ?_
      refine z_dup C dX3_next_121 rfl ?_
      refine z_get C hν.1 rfl 3 (by decide) m_159 inz3 rfl rfl dX3_next_122 ?_
      refine z_iconst C dX3_next_125 ?_
      refine z_iadd C dX3_next_126 ?_
      refine z_put C hν.1 rfl tyX3 tyX3_ok nmX3 3 (by decide) m_159 inz3 rfl rfl (by rfl) (by rfl) (Nat.le_of_ble_eq_true rfl) dX3_next_127 ?_
      refine z_goto (tgt := 5) C dX3_next_130 (by decide) ?_
      refine z_fewer (L' := [some (.ref a), some (zi c), none, none, none, none, none, none]) ⟨Or.inr rfl, Or.inr rfl, Or.inl rfl, Or.inr rfl, Or.inl rfl, Or.inr rfl, Or.inl rfl, Or.inr rfl, trivial⟩ ?_
      exact ih (f + 1) _ (by omega) (by omega) hν.put (hO.zu rfl)
  refine z_aload_n C dX3_next_0 rfl ?_
  refine z_iload_n C dX3_next_1 rfl ?_
  refine z_put C hA.1 rfl tyX3 tyX3_ok nmX3 9 (by decide) m_165 inz3 rfl rfl (by rfl) (by rfl) (Nat.le_of_ble_eq_true rfl) dX3_next_2 ?_
  obtain ⟨n, hn⟩ : ∃ n : Nat, fy + n = 32 := ⟨(32 - fy).toNat, by omega⟩
  exact loop n fy _ hn hf.1 hA.put (zO.zu zO.rf rfl)
set_option maxRecDepth 100000 in
set_option maxHeartbeats 4000000 in
theorem c_contours0 {l : Launch} {D : va_G} {N0 : Nat} {a o : Nat} {fy wt : Int} {μ : zM} (hA : isOu D μ a fy wt) (hF : isF D μ o zF) (hne : o ≠ a + 1) : zMet l yX3_countContours cX3_countContours 3 (some .int) ({ frames := 3, cells := 0, slots := 0, locals := 120 } : Room) D N0 [.ref a, .ref o] μ (zQI D N0 (fun z u => z = 0 ∧ isOu D u a 32 0 ∧ zO (fun q => q = a) μ u)) := by
  refine zMet_of rfl (Nat.le_of_ble_eq_true rfl) (fun X C Rm hin E => ?_)
  refine z_aload_n C dX3_countContours_0 rfl ?_
  refine z_aload_n C dX3_countContours_1 rfl ?_
  refine z_cv C (z_rV C Rm qv_X3_begin m_397 (c_obegin hA hF hne) hA.1 rfl dX3_countContours_2 rfl rfl (Nat.le_of_ble_eq_true rfl) rfl ⟨Nat.le_of_ble_eq_true rfl, Nat.le_of_ble_eq_true rfl, Nat.le_of_ble_eq_true rfl, Nat.le_of_ble_eq_true rfl⟩) (fun μ1 hp => ?_)
  obtain ⟨h1, h2⟩ := hp
  refine z_iconst C dX3_countContours_5 ?_
  refine z_istore_n (L' := [_, _, _]) C dX3_countContours_6 rfl ?_
  refine z_iload_n C dX3_countContours_7 rfl ?_
  refine z_sipush C dX3_countContours_8 ?_
  refine z_icmp_ge (tgt := 28) C dX3_countContours_11 (by decide) (fun hno => absurd hno (by omega)) (fun _ => ?_)
  refine z_aload_n C dX3_countContours_14 rfl ?_
  refine z_iconst C dX3_countContours_15 ?_
  refine z_ci C (z_rV C Rm qv_X3_next m_403 (c_onext h1 (c := 0) (by omega) (by omega)) h1.1 rfl dX3_countContours_16 rfl rfl (Nat.le_of_ble_eq_true rfl) rfl ⟨Nat.le_of_ble_eq_true rfl, Nat.le_of_ble_eq_true rfl, Nat.le_of_ble_eq_true rfl, Nat.le_of_ble_eq_true rfl⟩) (fun z μ2 hp => ?_)
  obtain ⟨rfl, h3, h4⟩ := hp
  refine z_if_eq (tgt := 28) C dX3_countContours_19 (by decide) (fun _ => ?_) (fun hno => absurd hno (by omega))
  refine z_iload_n C dX3_countContours_28 rfl ?_
  exact z_iret C E dX3_countContours_29 (Nat.le_of_ble_eq_true rfl) (Nat.le_of_ble_eq_true rfl) ⟨rfl, h3, h2.tr h4⟩
-- ---- the strips
def isSt (D : va_G) (μ : zM) (a : Nat) (fy : Int) : Prop := μ a = some (.inr (5, [.ref (a + 1), zi fy, .long 0, zi 0, zi 0, zi 0, zi 0])) ∧ isF D μ (a + 1) zF
theorem isSt.o {D : va_G} {P : Nat → Prop} {μ u : zM} {a : Nat} {fy : Int} (h : isSt D μ a fy) (hO : zO P μ u) (hP : ∀ q, a ≤ q → q < a + 3 → ¬ P q) : isSt D u a fy := ⟨hO.at (hP _ (by omega) (by omega)) h.1, h.2.o hO (hP _ (by omega) (by omega)) (hP _ (by omega) (by omega))⟩
theorem isSt.put {D : va_G} {μ : zM} {a : Nat} {fy fy2 : Int} (h : isSt D μ a fy) : isSt D (zu μ a (.inr (5, [.ref (a + 1), zi fy2, .long 0, zi 0, zi 0, zi 0, zi 0]))) a fy2 := ⟨zu_s, h.2.o (zO.zu (P := fun q => q = a) zO.rf rfl) (by omega) (by omega)⟩
set_option maxRecDepth 100000 in
set_option maxHeartbeats 4000000 in
theorem c_sbegin {l : Launch} {D : va_G} {N0 : Nat} {a o : Nat} {fy : Int} {μ : zM} (hA : isSt D μ a fy) (hF : isF D μ o zF) (hne : o ≠ a + 1) : zMet l yX5_begin cX5_begin 2 none ({ frames := 2, cells := 0, slots := 0, locals := 80 } : Room) D N0 [.ref a, .ref o] μ (zQV D N0 (fun u => isSt D u a (-32) ∧ zO (fun q => q = a) μ u)) := by
  refine zMet_of rfl (Nat.le_of_ble_eq_true rfl) (fun X C Rm hin E => ?_)
  refine z_aload_n C dX5_begin_0 rfl ?_
  refine z_get C hA.1 rfl 0 (by decide) m_201 inz5 rfl rfl dX5_begin_1 ?_
  refine z_aload_n C dX5_begin_4 rfl ?_
  refine z_cv C (z_rV C Rm qv_X0_copy m_466 (c_copy hA.2 hF hne) hA.2.1 rfl dX5_begin_5 rfl rfl (Nat.le_of_ble_eq_true rfl) rfl ⟨Nat.le_of_ble_eq_true rfl, Nat.le_of_ble_eq_true rfl, Nat.le_of_ble_eq_true rfl, Nat.le_of_ble_eq_true rfl⟩) (fun μ1 hp => ?_)
  rw [setF_i hA.2] at hp
  subst hp
  refine z_aload_n C dX5_begin_8 rfl ?_
  refine z_bipush C dX5_begin_9 ?_
  refine z_put C hA.1 rfl tyX5 tyX5_ok nmX5 1 (by decide) m_202 inz5 rfl rfl (by rfl) (by rfl) (Nat.le_of_ble_eq_true rfl) dX5_begin_11 ?_
  have h1 : isSt D (zu μ1 a (.inr (5, List.set [.ref (a + 1), zi fy, .long 0, zi 0, zi 0, zi 0, zi 0] 1 (zi (-32))))) a (-32) := hA.put
  have hO : zO (fun q => q = a) μ1 (zu μ1 a (.inr (5, List.set [.ref (a + 1), zi fy, .long 0, zi 0, zi 0, zi 0, zi 0] 1 (zi (-32))))) := zO.zu zO.rf rfl
  generalize zu μ1 a (.inr (5, List.set [.ref (a + 1), zi fy, .long 0, zi 0, zi 0, zi 0, zi 0] 1 (zi (-32)))) = ν at h1 hO ⊢
  refine z_aload_n C dX5_begin_14 rfl ?_
  refine z_aload_n C dX5_begin_15 rfl ?_
  refine z_get C h1.1 rfl 0 (by decide) m_201 inz5 rfl rfl dX5_begin_16 ?_
  refine z_aload_n C dX5_begin_19 rfl ?_
  refine z_get C h1.1 rfl 1 (by decide) m_202 inz5 rfl rfl dX5_begin_20 ?_
  refine z_cl C (z_rV C Rm qv_X0_row m_467 (c_row h1.2 (y := -32) (by omega)) h1.2.1 rfl dX5_begin_23 rfl rfl (Nat.le_of_ble_eq_true rfl) rfl ⟨Nat.le_of_ble_eq_true rfl, Nat.le_of_ble_eq_true rfl, Nat.le_of_ble_eq_true rfl, Nat.le_of_ble_eq_true rfl⟩) (fun z μ2 hp => ?_)
  obtain ⟨rfl, rfl⟩ := hp
  rw [rowv_z]
  refine z_put C h1.1 rfl tyX5 tyX5_ok nmX5 2 (by decide) m_203 inz5 rfl rfl (by rfl) (by rfl) (Nat.le_of_ble_eq_true rfl) dX5_begin_26 ?_
  exact z_vret C E dX5_begin_29 (Nat.le_of_ble_eq_true rfl) (Nat.le_of_ble_eq_true rfl) ⟨h1.put, hO.tr (zO.zu zO.rf rfl)⟩
set_option maxRecDepth 100000 in
set_option maxHeartbeats 4000000 in
theorem c_snext {l : Launch} {D : va_G} {N0 : Nat} {a : Nat} {fy : Int} {μ : zM} (hA : isSt D μ a fy) (hf : -32 ≤ fy ∧ fy ≤ 32) : zMet l yX5_next cX5_next 4 (some .boolean) ({ frames := 1, cells := 0, slots := 0, locals := 40 } : Room) D N0 [.ref a] μ (zQI D N0 (fun z u => z = 0 ∧ isSt D u a 32 ∧ zO (fun q => q = a) μ u)) := by
  refine zMet_of rfl (Nat.le_of_ble_eq_true rfl) (fun X C Rm hin E => ?_)
  have loop : ∀ (n : Nat) (f : Int) (ν : zM), f + n = 32 → -32 ≤ f → isSt D ν a f → zO (fun q => q = a) μ ν → Z X ν 0 0 0 [some (.ref a), none, none, none] [] := by
    intro n
    induction n with
    | zero =>
      intro f ν hn hf1 hν hO
      obtain rfl : f = 32 := by omega
      refine z_aload_n C dX5_next_0 rfl ?_
      refine z_get C hν.1 rfl 1 (by decide) m_202 inz5 rfl rfl dX5_next_1 ?_
      refine z_bipush C dX5_next_4 ?_
      refine z_icmp_gt (tgt := 103) C dX5_next_6 (by decide) (fun _ => ?_) (fun hno => absurd hno (by omega))
      refine z_iconst C dX5_next_103 ?_
      exact z_zret C E (Or.inl rfl) dX5_next_104 (Nat.le_of_ble_eq_true rfl) (Nat.le_of_ble_eq_true rfl) ⟨rfl, hν, hO⟩
    | succ n ih =>
      intro f ν hn hf1 hν hO
      refine z_aload_n C dX5_next_0 rfl ?_
      refine z_get C hν.1 rfl 1 (by decide) m_202 inz5 rfl rfl dX5_next_1 ?_
      refine z_bipush C dX5_next_4 ?_
      refine z_icmp_gt (tgt := 103) C dX5_next_6 (by decide) (fun hno => absurd hno (by omega)) (fun _ => ?_)
      refine z_iconst C dX5_next_9 ?_
      refine z_istore_n (L' := [_, _, _, _]) C dX5_next_10 rfl ?_
      refine z_iload_n C dX5_next_11 rfl ?_
      refine z_bipush C dX5_next_12 ?_
      refine z_icmp_ge (tgt := 75) C dX5_next_14 (by decide) (fun hno => absurd hno (by omega)) (fun _ => ?_)
      refine z_aload_n C dX5_next_17 rfl ?_
      refine z_get C hν.1 rfl 2 (by decide) m_203 inz5 rfl rfl dX5_next_18 ?_
      refine z_lconst_0 C dX5_next_21 ?_
      refine z_lcmp C dX5_next_22 ?_
      rw [zcmp_s]
      refine z_if_eq (tgt := 75) C dX5_next_23 (by decide) (fun _ => ?_) (fun hno => absurd hno (by omega))
      refine z_aload_n C dX5_next_75 rfl ?_
      refine z_dup C dX5_next_76 rfl ?_
      refine z_get C hν.1 rfl 1 (by decide) m_202 inz5 rfl rfl dX5_next_77 ?_
      refine z_iconst C dX5_next_80 ?_
      refine z_iadd C dX5_next_81 ?_
      refine z_put C hν.1 rfl tyX5 tyX5_ok nmX5 1 (by decide) m_202 inz5 rfl rfl (by rfl) (by rfl) (Nat.le_of_ble_eq_true rfl) dX5_next_82 ?_
      have h1 : isSt D (zu ν a (.inr (5, List.set [.ref (a + 1), zi f, .long 0, zi 0, zi 0, zi 0, zi 0] 1 (zi (f + 1))))) a (f + 1) := hν.put
      have hO1 : zO (fun q => q = a) μ (zu ν a (.inr (5, List.set [.ref (a + 1), zi f, .long 0, zi 0, zi 0, zi 0, zi 0] 1 (zi (f + 1))))) := hO.zu rfl
      generalize zu ν a (.inr (5, List.set [.ref (a + 1), zi f, .long 0, zi 0, zi 0, zi 0, zi 0] 1 (zi (f + 1)))) = ν1 at h1 hO1 ⊢
      refine z_aload_n C dX5_next_85 rfl ?_
      refine z_aload_n C dX5_next_86 rfl ?_
      refine z_get C h1.1 rfl 0 (by decide) m_201 inz5 rfl rfl dX5_next_87 ?_
      refine z_aload_n C dX5_next_90 rfl ?_
      refine z_get C h1.1 rfl 1 (by decide) m_202 inz5 rfl rfl dX5_next_91 ?_
      refine z_cl C (z_rV C Rm qv_X0_row m_467 (c_row h1.2 (y := f + 1) (by omega)) h1.2.1 rfl dX5_next_94 rfl rfl (Nat.le_of_ble_eq_true rfl) rfl ⟨Nat.le_of_ble_eq_true rfl, Nat.le_of_ble_eq_true rfl, Nat.le_of_ble_eq_true rfl, Nat.le_of_ble_eq_true rfl⟩) (fun z μ2 hp => ?_)
      obtain ⟨rfl, rfl⟩ := hp
      rw [rowv_z]
      refine z_put C h1.1 rfl tyX5 tyX5_ok nmX5 2 (by decide) m_203 inz5 rfl rfl (by rfl) (by rfl) (Nat.le_of_ble_eq_true rfl) dX5_next_97 ?_
      refine z_goto (tgt := 0) C dX5_next_100 (by decide) ?_
      refine z_fewer (L' := [some (.ref a), none, none, none]) ⟨Or.inr rfl, Or.inl rfl, Or.inr rfl, Or.inr rfl, trivial⟩ ?_
      exact ih (f + 1) _ (by omega) (by omega) h1.put (hO1.zu rfl)
  obtain ⟨n, hn⟩ : ∃ n : Nat, fy + n = 32 := ⟨(32 - fy).toNat, by omega⟩
  exact loop n fy _ hn hf.1 hA zO.rf
set_option maxRecDepth 100000 in
set_option maxHeartbeats 4000000 in
theorem c_strips0 {l : Launch} {D : va_G} {N0 : Nat} {a o : Nat} {fy : Int} {μ : zM} (hA : isSt D μ a fy) (hF : isF D μ o zF) (hne : o ≠ a + 1) : zMet l yX5_countStrips cX5_countStrips 3 (some .int) ({ frames := 3, cells := 0, slots := 0, locals := 120 } : Room) D N0 [.ref a, .ref o] μ (zQI D N0 (fun z u => z = 0 ∧ isSt D u a 32 ∧ zO (fun q => q = a) μ u)) := by
  refine zMet_of rfl (Nat.le_of_ble_eq_true rfl) (fun X C Rm hin E => ?_)
  refine z_aload_n C dX5_countStrips_0 rfl ?_
  refine z_aload_n C dX5_countStrips_1 rfl ?_
  refine z_cv C (z_rV C Rm qv_X5_begin m_462 (c_sbegin hA hF hne) hA.1 rfl dX5_countStrips_2 rfl rfl (Nat.le_of_ble_eq_true rfl) rfl ⟨Nat.le_of_ble_eq_true rfl, Nat.le_of_ble_eq_true rfl, Nat.le_of_ble_eq_true rfl, Nat.le_of_ble_eq_true rfl⟩) (fun μ1 hp => ?_)
  obtain ⟨h1, h2⟩ := hp
  refine z_iconst C dX5_countStrips_5 ?_
  refine z_istore_n (L' := [_, _, _]) C dX5_countStrips_6 rfl ?_
  refine z_iload_n C dX5_countStrips_7 rfl ?_
  refine z_sipush C dX5_countStrips_8 ?_
  refine z_icmp_ge (tgt := 27) C dX5_countStrips_11 (by decide) (fun hno => absurd hno (by omega)) (fun _ => ?_)
  refine z_aload_n C dX5_countStrips_14 rfl ?_
  refine z_ci C (z_rV C Rm qv_X5_next m_468 (c_snext h1 (by omega)) h1.1 rfl dX5_countStrips_15 rfl rfl (Nat.le_of_ble_eq_true rfl) rfl ⟨Nat.le_of_ble_eq_true rfl, Nat.le_of_ble_eq_true rfl, Nat.le_of_ble_eq_true rfl, Nat.le_of_ble_eq_true rfl⟩) (fun z μ2 hp => ?_)
  obtain ⟨rfl, h3, h4⟩ := hp
  refine z_if_eq (tgt := 27) C dX5_countStrips_18 (by decide) (fun _ => ?_) (fun hno => absurd hno (by omega))
  refine z_iload_n C dX5_countStrips_27 rfl ?_
  exact z_iret C E dX5_countStrips_28 (Nat.le_of_ble_eq_true rfl) (Nat.le_of_ble_eq_true rfl) ⟨rfl, h3, h2.tr h4⟩
