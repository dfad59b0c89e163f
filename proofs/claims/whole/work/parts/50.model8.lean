def zRec (a b h i k : Int) : Nat → Int := fun j => if (a ≤ (j : Int) % 64 ∧ (j : Int) % 64 < a + i ∧ b ≤ (j : Int) / 64 ∧ (j : Int) / 64 < b + h) ∨ ((j : Int) % 64 = a + i ∧ b ≤ (j : Int) / 64 ∧ (j : Int) / 64 < b + k) then 1 else 0
theorem zRec_01 {a b h i k : Int} (j : Nat) : zRec a b h i k j = 0 ∨ zRec a b h i k j = 1 := by
  unfold zRec
  split
  · exact Or.inr rfl
  · exact Or.inl rfl
theorem zRec_0 {a b h : Int} : zRec a b h 0 0 = zIz := by
  funext j
  unfold zRec
  rw [if_neg (by omega)]
  rfl
theorem zRec_s {a b h i k x : Int} (hx : x = (b + k) * 64 + a + i) (h1 : 0 ≤ a + i ∧ a + i < 64) (h2 : 0 ≤ b + k ∧ 0 ≤ k) : zw (zRec a b h i k) x.toNat 1 = zRec a b h i (k + 1) := by
  funext j
  by_cases e : j = x.toNat
  · rw [e, zw_s]
    unfold zRec
    rw [if_pos (by omega)]
  · rw [zw_n e]
    unfold zRec
    by_cases q : (a ≤ (j : Int) % 64 ∧ (j : Int) % 64 < a + i ∧ b ≤ (j : Int) / 64 ∧ (j : Int) / 64 < b + h) ∨ ((j : Int) % 64 = a + i ∧ b ≤ (j : Int) / 64 ∧ (j : Int) / 64 < b + k)
    · rw [if_pos q, if_pos (by omega)]
    · rw [if_neg q, if_neg (by omega)]
theorem zRec_n {a b h i : Int} (hi : 0 ≤ i) : zRec a b h i h = zRec a b h (i + 1) 0 := by
  funext j
  unfold zRec
  by_cases q : (a ≤ (j : Int) % 64 ∧ (j : Int) % 64 < a + i ∧ b ≤ (j : Int) / 64 ∧ (j : Int) / 64 < b + h) ∨ ((j : Int) % 64 = a + i ∧ b ≤ (j : Int) / 64 ∧ (j : Int) / 64 < b + h)
  · rw [if_pos q, if_pos (by omega)]
  · rw [if_neg q, if_neg (by omega)]
theorem zRec_row {a b h w : Int} (ha : 0 ≤ a ∧ a + w ≤ 64) (hw : 0 ≤ w) (R : Nat) : ∀ m : Nat, m ≤ 64 → cntZ (zRec a b h w 0) (64 * R + m) = cntZ (zRec a b h w 0) (64 * R) + (if b ≤ (R : Int) ∧ (R : Int) < b + h then (if (m : Int) ≤ a then 0 else if (m : Int) ≤ a + w then m - a else w) else 0)
  | 0, _ => by
    by_cases q : b ≤ (R : Int) ∧ (R : Int) < b + h
    · rw [if_pos q, if_pos (by omega)]; simp
    · rw [if_neg q]; simp
  | m + 1, hm => by
    show cntZ (zRec a b h w 0) (64 * R + m) + (if zRec a b h w 0 (64 * R + m) = 0 then 0 else 1) = _
    rw [zRec_row ha hw R m (by omega)]
    have e1 : ((64 * R + m : Nat) : Int) % 64 = m := by omega
    have e2 : ((64 * R + m : Nat) : Int) / 64 = R := by omega
    by_cases q : b ≤ (R : Int) ∧ (R : Int) < b + h
    · rw [if_pos q, if_pos q]
      by_cases q2 : a ≤ (m : Int) ∧ (m : Int) < a + w
      · have e3 : zRec a b h w 0 (64 * R + m) = 1 := by unfold zRec; rw [e1, e2, if_pos (by omega)]
        rw [e3, show (if (1 : Int) = 0 then (0 : Int) else 1) = 1 from rfl]
        by_cases q3 : (m : Int) = a
        · rw [if_pos (by omega), if_neg (by omega), if_pos (by omega)]; omega
        · rw [if_neg (by omega), if_pos (by omega), if_neg (by omega), if_pos (by omega)]; omega
      · have e3 : zRec a b h w 0 (64 * R + m) = 0 := by unfold zRec; rw [e1, e2, if_neg (by omega)]
        rw [e3, if_pos rfl]
        by_cases q3 : (m : Int) < a
        · rw [if_pos (by omega), if_pos (by omega)]; omega
        · by_cases q4 : w = 0
          · by_cases q5 : (m : Int) = a
            · rw [if_pos (by omega), if_neg (by omega), if_neg (by omega)]; omega
            · rw [if_neg (by omega), if_neg (by omega), if_neg (by omega), if_neg (by omega)]; omega
          · by_cases q5 : (m : Int) = a + w
            · rw [if_neg (by omega), if_pos (by omega), if_neg (by omega), if_neg (by omega)]; omega
            · rw [if_neg (by omega), if_neg (by omega), if_neg (by omega), if_neg (by omega)]; omega
    · have e3 : zRec a b h w 0 (64 * R + m) = 0 := by unfold zRec; rw [e1, e2, if_neg (by omega)]
      rw [if_neg q, if_neg q, e3, if_pos rfl]
      omega
theorem zRec_cnt {a b h w : Int} (ha : 0 ≤ a ∧ a + w ≤ 64) (hw : 1 ≤ w) (hb : 0 ≤ b) (hh : 1 ≤ h) : ∀ n : Nat, cntZ (zRec a b h w 0) (64 * n) = (if (n : Int) ≤ b then 0 else if (n : Int) ≤ b + h then (n - b) * w else h * w)
  | 0 => by
    rw [if_pos (by omega)]
    rfl
  | n + 1 => by
    rw [show 64 * (n + 1) = 64 * n + 64 by omega, zRec_row ha (by omega) n 64 (Nat.le_refl _), zRec_cnt ha hw hb hh n]
    have e0 : (if ((64 : Nat) : Int) ≤ a then 0 else if ((64 : Nat) : Int) ≤ a + w then ((64 : Nat) : Int) - a else w) = w := by
      rw [if_neg (by omega)]
      by_cases q : ((64 : Nat) : Int) ≤ a + w
      · rw [if_pos q]; omega
      · rw [if_neg q]
    rw [e0]
    by_cases q : b ≤ (n : Int) ∧ (n : Int) < b + h
    · rw [if_pos q]
      by_cases q2 : (n : Int) = b
      · rw [if_pos (by omega), if_neg (by omega), if_pos (by omega), show ((n + 1 : Nat) : Int) - b = 1 by omega]
        omega
      · rw [if_neg (by omega), if_pos (by omega), if_neg (by omega), if_pos (by omega), show ((n + 1 : Nat) : Int) - b = (n - b) + 1 by omega, Int.add_mul, Int.one_mul]
    · rw [if_neg q, Int.add_zero]
      by_cases q2 : (n : Int) < b
      · rw [if_pos (by omega), if_pos (by omega)]
      · by_cases q3 : (n : Int) = b + h
        · rw [if_neg (by omega), if_pos (by omega), if_neg (by omega), if_neg (by omega), show (n : Int) - b = h by omega]
        · rw [if_neg (by omega), if_neg (by omega), if_neg (by omega), if_neg (by omega)]
theorem zRec_all {a b h w : Int} (ha : 0 ≤ a ∧ a + w ≤ 64) (hw : 1 ≤ w) (hb : 0 ≤ b ∧ b + h ≤ 64) (hh : 1 ≤ h) : cntZ (zRec a b h w 0) 4096 = h * w := by
  rw [show 4096 = 64 * 64 from rfl, zRec_cnt ha hw hb.1 hh 64, if_neg (by omega)]
  by_cases q : ((64 : Nat) : Int) ≤ b + h
  · rw [if_pos q, show ((64 : Nat) : Int) - b = h by omega]
  · rw [if_neg q]
set_option maxRecDepth 100000 in
set_option maxHeartbeats 4000000 in
theorem m_addRect {l : Launch} {D : va_G} {N0 : Nat} {M : Nat} {μ : zM} (hM : isMo D μ M) {r : Int} (hr : zir r) {x y w h : Int} (hx : zir x) (hy : zir y) (hw : zir w) (hh : zir h) : zMet l yX7_addRectangle cX7_addRectangle 9 (some .int) ({ frames := 2, cells := 2, slots := 8192, locals := 80 } : Room) D N0 [.ref M, zi r, zi x, zi y, zi w, zi h] μ (zQI D N0 (fun z u => ∃ t, (t = 0 ∧ z = h * w ∧ (0 ≤ r ∧ r < 8) ∧ ((1 ≤ w ∧ w ≤ 64) ∧ 1 ≤ h ∧ h ≤ 64) ∧ ((-32 ≤ x ∧ x + w - 1 ≤ 31) ∧ -32 ≤ y ∧ y + h - 1 ≤ 31) ∨ t = 1 ∧ ¬ (0 ≤ r ∧ r < 8) ∨ t = 2 ∧ (0 ≤ r ∧ r < 8) ∧ ¬ ((1 ≤ w ∧ w ≤ 64) ∧ 1 ≤ h ∧ h ≤ 64) ∨ t = 3 ∧ (0 ≤ r ∧ r < 8) ∧ ((1 ≤ w ∧ w ≤ 64) ∧ 1 ≤ h ∧ h ≤ 64) ∧ ¬ ((-32 ≤ x ∧ x + w - 1 ≤ 31) ∧ -32 ≤ y ∧ y + h - 1 ≤ 31)) ∧ zMP M μ t u)) := by
  refine zMet_of rfl (Nat.le_of_ble_eq_true rfl) (fun X C Rm hin E => ?_)
  refine z_aload_n C dX7_addRectangle_0 rfl ?_
  refine z_iconst C dX7_addRectangle_1 ?_
  refine z_put C hM.obj rfl tyX7 tyX7_ok nmX7 0 (by decide) m_1010 inz7 rfl rfl (by rfl) (by rfl) (Nat.le_of_ble_eq_true rfl) dX7_addRectangle_2 ?_
  refine z_same hM.obj ?_
  refine z_iload_n C dX7_addRectangle_5 rfl ?_
  refine z_ci C (z_rS C Rm qs_X7_isRegion m_1067 (m_isRegion hr) dX7_addRectangle_6 rfl rfl (Nat.le_of_ble_eq_true rfl) rfl ⟨Nat.le_of_ble_eq_true rfl, Nat.le_of_ble_eq_true rfl, Nat.le_of_ble_eq_true rfl, Nat.le_of_ble_eq_true rfl⟩) (fun z μ1 hp => ?_)
  obtain ⟨hp, rfl⟩ := hp
  refine z_if_ne (tgt := 18) C dX7_addRectangle_9 (by decide) (fun h1 => ?_) (fun h1 => ?_)
  rotate_left
  · refine z_aload_n C dX7_addRectangle_12 rfl ?_
    refine z_iconst C dX7_addRectangle_13 ?_
    refine z_ci C (z_rV C Rm qv_X7_no m_1047 (m_no hM.obj (k := 1)) hM.obj rfl dX7_addRectangle_14 rfl rfl (Nat.le_of_ble_eq_true rfl) rfl ⟨Nat.le_of_ble_eq_true rfl, Nat.le_of_ble_eq_true rfl, Nat.le_of_ble_eq_true rfl, Nat.le_of_ble_eq_true rfl⟩) (fun z2 μ2 hq => ?_)
    obtain ⟨rfl, rfl⟩ := hq
    exact z_iret C E dX7_addRectangle_17 (Nat.le_of_ble_eq_true rfl) (Nat.le_of_ble_eq_true rfl) ⟨1, Or.inr (Or.inl ⟨rfl, by omega⟩), zMP.of zu_s (zN.put zN.rf (by unfold zb; omega))⟩
  have h8 : 0 ≤ r ∧ r < 8 := by omega
  refine z_iload C dX7_addRectangle_18 rfl ?_
  refine z_iconst C dX7_addRectangle_20 ?_
  refine z_bipush C dX7_addRectangle_21 ?_
  refine z_ci C (z_rS C Rm qs_X7_isIn m_1044 (m_isIn hw (by decide) (by decide)) dX7_addRectangle_23 rfl rfl (Nat.le_of_ble_eq_true rfl) rfl ⟨Nat.le_of_ble_eq_true rfl, Nat.le_of_ble_eq_true rfl, Nat.le_of_ble_eq_true rfl, Nat.le_of_ble_eq_true rfl⟩) (fun z1 μ1 hp1 => ?_)
  obtain ⟨hp1, rfl⟩ := hp1
  refine z_if_eq (tgt := 40) C dX7_addRectangle_26 (by decide) (fun h2 => ?_) (fun h2 => ?_)
  · refine z_aload_n C dX7_addRectangle_40 rfl ?_
    refine z_iconst C dX7_addRectangle_41 ?_
    refine z_ci C (z_rV C Rm qv_X7_no m_1047 (m_no hM.obj (k := 2)) hM.obj rfl dX7_addRectangle_42 rfl rfl (Nat.le_of_ble_eq_true rfl) rfl ⟨Nat.le_of_ble_eq_true rfl, Nat.le_of_ble_eq_true rfl, Nat.le_of_ble_eq_true rfl, Nat.le_of_ble_eq_true rfl⟩) (fun z2 μ2 hq => ?_)
    obtain ⟨rfl, rfl⟩ := hq
    exact z_iret C E dX7_addRectangle_45 (Nat.le_of_ble_eq_true rfl) (Nat.le_of_ble_eq_true rfl) ⟨2, Or.inr (Or.inr (Or.inl ⟨rfl, h8, by omega⟩)), zMP.of zu_s (zN.put zN.rf (by unfold zb; omega))⟩
  refine z_iload C dX7_addRectangle_29 rfl ?_
  refine z_iconst C dX7_addRectangle_31 ?_
  refine z_bipush C dX7_addRectangle_32 ?_
  refine z_ci C (z_rS C Rm qs_X7_isIn m_1044 (m_isIn hh (by decide) (by decide)) dX7_addRectangle_34 rfl rfl (Nat.le_of_ble_eq_true rfl) rfl ⟨Nat.le_of_ble_eq_true rfl, Nat.le_of_ble_eq_true rfl, Nat.le_of_ble_eq_true rfl, Nat.le_of_ble_eq_true rfl⟩) (fun z2 μ1 hp2 => ?_)
  obtain ⟨hp2, rfl⟩ := hp2
  refine z_if_ne (tgt := 46) C dX7_addRectangle_37 (by decide) (fun h3 => ?_) (fun h3 => ?_)
  rotate_left
  · refine z_aload_n C dX7_addRectangle_40 rfl ?_
    refine z_iconst C dX7_addRectangle_41 ?_
    refine z_ci C (z_rV C Rm qv_X7_no m_1047 (m_no hM.obj (k := 2)) hM.obj rfl dX7_addRectangle_42 rfl rfl (Nat.le_of_ble_eq_true rfl) rfl ⟨Nat.le_of_ble_eq_true rfl, Nat.le_of_ble_eq_true rfl, Nat.le_of_ble_eq_true rfl, Nat.le_of_ble_eq_true rfl⟩) (fun z2 μ2 hq => ?_)
    obtain ⟨rfl, rfl⟩ := hq
    exact z_iret C E dX7_addRectangle_45 (Nat.le_of_ble_eq_true rfl) (Nat.le_of_ble_eq_true rfl) ⟨2, Or.inr (Or.inr (Or.inl ⟨rfl, h8, by omega⟩)), zMP.of zu_s (zN.put zN.rf (by unfold zb; omega))⟩
  have hS : ((1 ≤ w ∧ w ≤ 64) ∧ 1 ≤ h ∧ h ≤ 64) := by omega
  refine z_iload_n C dX7_addRectangle_46 rfl ?_
  refine z_bipush C dX7_addRectangle_47 ?_
  refine z_bipush C dX7_addRectangle_49 ?_
  refine z_iload C dX7_addRectangle_51 rfl ?_
  refine z_isub C dX7_addRectangle_53 ?_
  refine z_ci C (z_rS C Rm qs_X7_isIn m_1044 (m_isIn hx (by decide) (b := 32 - w) (by omega)) dX7_addRectangle_54 rfl rfl (Nat.le_of_ble_eq_true rfl) rfl ⟨Nat.le_of_ble_eq_true rfl, Nat.le_of_ble_eq_true rfl, Nat.le_of_ble_eq_true rfl, Nat.le_of_ble_eq_true rfl⟩) (fun z3 μ1 hp3 => ?_)
  obtain ⟨hp3, rfl⟩ := hp3
  refine z_if_eq (tgt := 74) C dX7_addRectangle_57 (by decide) (fun h4 => ?_) (fun h4 => ?_)
  · refine z_aload_n C dX7_addRectangle_74 rfl ?_
    refine z_iconst C dX7_addRectangle_75 ?_
    refine z_ci C (z_rV C Rm qv_X7_no m_1047 (m_no hM.obj (k := 3)) hM.obj rfl dX7_addRectangle_76 rfl rfl (Nat.le_of_ble_eq_true rfl) rfl ⟨Nat.le_of_ble_eq_true rfl, Nat.le_of_ble_eq_true rfl, Nat.le_of_ble_eq_true rfl, Nat.le_of_ble_eq_true rfl⟩) (fun z2 μ2 hq => ?_)
    obtain ⟨rfl, rfl⟩ := hq
    exact z_iret C E dX7_addRectangle_79 (Nat.le_of_ble_eq_true rfl) (Nat.le_of_ble_eq_true rfl) ⟨3, Or.inr (Or.inr (Or.inr ⟨rfl, h8, hS, by omega⟩)), zMP.of zu_s (zN.put zN.rf (by unfold zb; omega))⟩
  refine z_iload_n C dX7_addRectangle_60 rfl ?_
  refine z_bipush C dX7_addRectangle_61 ?_
  refine z_bipush C dX7_addRectangle_63 ?_
  refine z_iload C dX7_addRectangle_65 rfl ?_
  refine z_isub C dX7_addRectangle_67 ?_
  refine z_ci C (z_rS C Rm qs_X7_isIn m_1044 (m_isIn hy (by decide) (b := 32 - h) (by omega)) dX7_addRectangle_68 rfl rfl (Nat.le_of_ble_eq_true rfl) rfl ⟨Nat.le_of_ble_eq_true rfl, Nat.le_of_ble_eq_true rfl, Nat.le_of_ble_eq_true rfl, Nat.le_of_ble_eq_true rfl⟩) (fun z4 μ1 hp4 => ?_)
  obtain ⟨hp4, rfl⟩ := hp4
  refine z_if_ne (tgt := 80) C dX7_addRectangle_71 (by decide) (fun h5 => ?_) (fun h5 => ?_)
  rotate_left
  · refine z_aload_n C dX7_addRectangle_74 rfl ?_
    refine z_iconst C dX7_addRectangle_75 ?_
    refine z_ci C (z_rV C Rm qv_X7_no m_1047 (m_no hM.obj (k := 3)) hM.obj rfl dX7_addRectangle_76 rfl rfl (Nat.le_of_ble_eq_true rfl) rfl ⟨Nat.le_of_ble_eq_true rfl, Nat.le_of_ble_eq_true rfl, Nat.le_of_ble_eq_true rfl, Nat.le_of_ble_eq_true rfl⟩) (fun z2 μ2 hq => ?_)
    obtain ⟨rfl, rfl⟩ := hq
    exact z_iret C E dX7_addRectangle_79 (Nat.le_of_ble_eq_true rfl) (Nat.le_of_ble_eq_true rfl) ⟨3, Or.inr (Or.inr (Or.inr ⟨rfl, h8, hS, by omega⟩)), zMP.of zu_s (zN.put zN.rf (by unfold zb; omega))⟩
  have hT : ((-32 ≤ x ∧ x + w - 1 ≤ 31) ∧ -32 ≤ y ∧ y + h - 1 ≤ 31) := by omega
  refine z_sipush C dX7_addRectangle_80 ?_
  refine z_newZ C Rm (by decide) m_1035 dX7_addRectangle_83 (by decide) (fun q hN hq => ?_)
  have hNq : ∀ g : Nat → Int, zN M μ1 (zu (zu μ1 q (zAZ D 4096 zIz)) q (zAZ D 4096 g)) := fun g => (zN.rf.own hq).own hq
  obtain ⟨ν, hν⟩ : ∃ ν, ν = zu μ1 q (zAZ D 4096 zIz) := ⟨_, rfl⟩
  rw [← hν] at hNq
  have hM1 : isMo D ν M := by rw [hν]; exact hM.new hq
  have hq1 : ν q = some (zAZ D 4096 zIz) := by rw [hν]; exact zu_s
  have hqb : ¬ zb M 14 q := by have := hq _ _ hM.kf; unfold zb; omega
  refine (show Z X ν 1 4096 (80 + 3 + 2) [some (.ref M), some (zi r), some (zi x), some (zi y), some (zi w), some (zi h), none, none, none] [.ref q] → _ from fun h9 => by rw [hν] at h9; exact h9) ?_
  refine z_astore (L' := [_, _, _, _, _, _, _, _, _]) C dX7_addRectangle_85 rfl ?_
  refine z_aload_n C dX7_addRectangle_87 rfl ?_
  refine z_get C hM1.obj rfl 1 (by decide) m_1011 inz7 rfl rfl dX7_addRectangle_88 ?_
  refine z_iload_n C dX7_addRectangle_91 rfl ?_
  refine z_bald C hM1.rows (by decide) (isMo.row_eq h8) dX7_addRectangle_92 ?_
  refine z_iconst C dX7_addRectangle_93 ?_
  refine z_aload C dX7_addRectangle_94 rfl ?_
  refine z_iconst C dX7_addRectangle_96 ?_
  refine z_sipush C dX7_addRectangle_97 ?_
  refine z_copyZ (n := 4096) C Rm m_1082 m_1084 m_1083 m_53 (hM1.row h8) hq1 (by omega) (fun i => Or.inl rfl) dX7_addRectangle_100 rfl (by decide) ?_
  rw [show (fun j => if j < 4096 then zIz j else zIz j) = zIz from funext fun j => by simp]
  rw [zu_i hq1]
  have loop : ∀ (n : Nat) (i : Int) (L8 : Option Value), i + n = w → 0 ≤ i → Z X (zu ν q (zAZ D 4096 (zRec (x + 32) (y + 32) h i 0))) 1 4096 106 [some (.ref M), some (zi r), some (zi x), some (zi y), some (zi w), some (zi h), some (.ref q), some (zi i), L8] [] := by
    intro n
    induction n with
    | zero =>
      intro i L8 hn h0
      have hiw : i = w := by omega
      subst hiw
      refine z_iload C dX7_addRectangle_106 rfl ?_
      refine z_iload C dX7_addRectangle_108 rfl ?_
      refine z_icmp_ge (tgt := 150) C dX7_addRectangle_110 (by decide) (fun _ => ?_) (fun hno => absurd hno (by omega))
      obtain ⟨ν2, hν2⟩ : ∃ ν2, ν2 = zu ν q (zAZ D 4096 (zRec (x + 32) (y + 32) h i 0)) := ⟨_, rfl⟩
      have k : ∀ (a : Nat) (e : va_E), zb M 14 a → ν a = some e → ν2 a = some e := fun a e ha he => by rw [hν2]; exact zu_k he (fun e9 => hqb (by rw [← e9]; exact ha))
      have hM2 : isMo D ν2 M := ⟨k _ _ (by unfold zb; omega) hM1.1, k _ _ (by unfold zb; omega) hM1.2.1, fun j hj => k _ _ (by unfold zb; omega) (hM1.2.2.1 j hj), k _ _ (by unfold zb; omega) hM1.px, k _ _ (by unfold zb; omega) hM1.py, k _ _ (by unfold zb; omega) hM1.kr, k _ _ (by unfold zb; omega) hM1.kf⟩
      have hq2 : ν2 q = some (zAZ D 4096 (zRec (x + 32) (y + 32) h i 0)) := by rw [hν2]; exact zu_s
      have hN2 : zN M μ1 ν2 := by rw [hν2]; exact hNq _
      rw [← hν2]
      refine z_aload_n C dX7_addRectangle_150 rfl ?_
      refine z_iload_n C dX7_addRectangle_151 rfl ?_
      refine z_aload C dX7_addRectangle_152 rfl ?_
      refine z_ci C (z_rV C Rm qv_X7_change m_1078 (m_change hM2 h8 hq2 (fun j => zRec_01 j) (Or.inl hqb)) hM2.obj rfl dX7_addRectangle_154 rfl rfl (Nat.le_of_ble_eq_true rfl) rfl ⟨Nat.le_of_ble_eq_true rfl, Nat.le_of_ble_eq_true rfl, Nat.le_of_ble_eq_true rfl, Nat.le_of_ble_eq_true rfl⟩) (fun z3 μ3 hq3 => ?_)
      exact z_iret C E dX7_addRectangle_157 (Nat.le_of_ble_eq_true rfl) (Nat.le_of_ble_eq_true rfl) ⟨0, Or.inl ⟨rfl, hq3.1.trans (zRec_all (by omega) (by omega) (by omega) (by omega)), h8, hS, hT⟩, zMP.tr hN2 hq3.2⟩
    | succ n ih =>
      intro i L8 hn h0
      refine z_iload C dX7_addRectangle_106 rfl ?_
      refine z_iload C dX7_addRectangle_108 rfl ?_
      refine z_icmp_ge (tgt := 150) C dX7_addRectangle_110 (by decide) (fun hno => absurd hno (by omega)) (fun _ => ?_)
      have row : ∀ (m : Nat) (k : Int), k + m = h → 0 ≤ k → Z X (zu ν q (zAZ D 4096 (zRec (x + 32) (y + 32) h i k))) 1 4096 116 [some (.ref M), some (zi r), some (zi x), some (zi y), some (zi w), some (zi h), some (.ref q), some (zi i), some (zi k)] [] := by
        intro m
        induction m with
        | zero =>
          intro k hm hk
          have hkh : k = h := by omega
          subst hkh
          refine z_iload C dX7_addRectangle_116 rfl ?_
          refine z_iload C dX7_addRectangle_118 rfl ?_
          refine z_icmp_ge (tgt := 144) C dX7_addRectangle_120 (by decide) (fun _ => ?_) (fun hno => absurd hno (by omega))
          rw [zRec_n h0]
          refine z_iinc (L' := [_, _, _, _, _, _, _, _, _]) C dX7_addRectangle_144 rfl rfl ?_
          refine z_goto (tgt := 106) C dX7_addRectangle_147 (by decide) ?_
          exact ih (i + 1) _ (by omega) (by omega)
        | succ m ihm =>
          intro k hm hk
          refine z_iload C dX7_addRectangle_116 rfl ?_
          refine z_iload C dX7_addRectangle_118 rfl ?_
          refine z_icmp_ge (tgt := 144) C dX7_addRectangle_120 (by decide) (fun hno => absurd hno (by omega)) (fun _ => ?_)
          refine z_aload C dX7_addRectangle_123 rfl ?_
          refine z_iload_n C dX7_addRectangle_125 rfl ?_
          refine z_iload C dX7_addRectangle_126 rfl ?_
          refine z_iadd C dX7_addRectangle_128 ?_
          refine z_iload_n C dX7_addRectangle_129 rfl ?_
          refine z_iload C dX7_addRectangle_130 rfl ?_
          refine z_iadd C dX7_addRectangle_132 ?_
          refine z_ci C (z_rS C Rm qs_X7_at m_1075 (m_at (x := x + i) (y := y + k)) dX7_addRectangle_133 rfl rfl (Nat.le_of_ble_eq_true rfl) rfl ⟨Nat.le_of_ble_eq_true rfl, Nat.le_of_ble_eq_true rfl, Nat.le_of_ble_eq_true rfl, Nat.le_of_ble_eq_true rfl⟩) (fun z μ4 hq4 => ?_)
          obtain ⟨rfl, rfl⟩ := hq4
          refine z_iconst C dX7_addRectangle_136 ?_
          refine z_zast C zu_s (by decide) (Or.inr rfl) dX7_addRectangle_137 ?_
          rw [zu_u, zRec_s (by omega) (by omega) (by omega)]
          refine z_iinc (L' := [_, _, _, _, _, _, _, _, _]) C dX7_addRectangle_138 rfl rfl ?_
          refine z_goto (tgt := 116) C dX7_addRectangle_141 (by decide) ?_
          exact ihm (k + 1) (by omega) (by omega)
      refine z_iconst C dX7_addRectangle_113 ?_
      refine z_istore (L' := [_, _, _, _, _, _, _, _, _]) C dX7_addRectangle_114 rfl ?_
      exact row h.toNat 0 (by omega) (by omega)
  refine z_iconst C dX7_addRectangle_103 ?_
  refine z_istore (L' := [_, _, _, _, _, _, _, _, _]) C dX7_addRectangle_104 rfl ?_
  have l0 := loop w.toNat 0 none (by omega) (by omega)
  rw [zRec_0, zu_i hq1] at l0
  exact l0
