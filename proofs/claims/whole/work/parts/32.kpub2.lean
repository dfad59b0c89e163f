theorem zRect_full {y : Int} {k : Nat} {m : Int64} (hy : -32 ≤ y) (hk : 1 ≤ k) (h : y + k - 1 ≤ 31) : cntF (zRect y k m) 64 = (k : Int) * zbc m := by
  rw [zRect_cnt hy, if_neg (by omega)]
  by_cases a : ((64 : Nat) : Int) ≤ y + 32 + k
  · rw [if_pos a, show ((64 : Nat) : Int) - (y + 32) = k by omega]
  · rw [if_neg a]
theorem zKO_set {D : va_G} {μ ν : zM} {K : Nat} {r : Int} {f : Nat → Int64} (h : zKO K μ ν) (hr : 0 ≤ r ∧ r < 8) : zKO K μ (setF D ν (zReg K r) f) := zO.zu h (by have := zReg_b (K := K) hr; unfold zb; omega)
set_option maxRecDepth 100000 in
set_option maxHeartbeats 4000000 in
theorem k_addRect {l : Launch} {D : va_G} {N0 : Nat} (hl0 : l.stackTraces = false) {K : Nat} {μ : zM} (hK : isKe D μ K) {r x y w h : Int} (hr : zir r) (hx : zir x) (hy : zir y) (hw : zir w) (hh : zir h) : zxMet l yX6_addRectangle cX6_addRectangle 10 (some .int) ({ frames := 7, cells := 3, slots := 18, locals := 280 } : Room) D N0 [.ref K, zi r, zi x, zi y, zi w, zi h] μ (zQI D N0 (fun z u => z = h * w ∧ ((0 ≤ r ∧ r < 8) ∧ ((1 ≤ w ∧ w ≤ 64) ∧ 1 ≤ h ∧ h ≤ 64) ∧ (-32 ≤ x ∧ x + w - 1 ≤ 31) ∧ -32 ≤ y ∧ y + h - 1 ≤ 31) ∧ zKO K μ u)) (fun En u => (En = eIOB ∧ ¬ (0 ≤ r ∧ r < 8) ∨ En = eIAE ∧ (0 ≤ r ∧ r < 8) ∧ ¬ ((1 ≤ w ∧ w ≤ 64) ∧ 1 ≤ h ∧ h ≤ 64) ∨ En = eISE ∧ (0 ≤ r ∧ r < 8) ∧ ((1 ≤ w ∧ w ≤ 64) ∧ 1 ≤ h ∧ h ≤ 64) ∧ ¬ ((-32 ≤ x ∧ x + w - 1 ≤ 31) ∧ -32 ≤ y ∧ y + h - 1 ≤ 31)) ∧ zKO K μ u) := by
  refine zxMet_of rfl (Nat.le_of_ble_eq_true rfl) (fun X C Rm Tb E => ?_)
  refine z_aload_n C dX6_addRectangle_0 rfl ?_
  refine z_iload_n C dX6_addRectangle_1 rfl ?_
  refine zx_cr C (zx_rV C Rm qv_X6_regionAt m_646 (k_regionAt hl0 hK hr) hK.obj rfl dX6_addRectangle_2 rfl rfl (Nat.le_of_ble_eq_true rfl) rfl (by decide)) (fun En μx hx => zx_prop C Tb E (by decide) (⟨Or.inl ⟨hx.1, hx.2.1⟩, zO.eq hx.2.2⟩)) (fun z μ1 hp => ?_)
  obtain ⟨rfl, h8, rfl⟩ := hp
  have b8 := zReg_b (K := K) h8
  refine z_astore (L' := [_, _, _, _, _, _, _, _, _, _]) C dX6_addRectangle_5 rfl ?_
  refine z_iconst C dX6_addRectangle_7 ?_
  refine z_iload C dX6_addRectangle_8 rfl ?_
  refine z_bipush C dX6_addRectangle_10 ?_
  refine z_ci C (z_rS C Rm qs_X6_isFrom m_666 (k_isFrom (by decide) hw (by decide)) dX6_addRectangle_12 rfl rfl (Nat.le_of_ble_eq_true rfl) rfl ⟨Nat.le_of_ble_eq_true rfl, Nat.le_of_ble_eq_true rfl, Nat.le_of_ble_eq_true rfl, Nat.le_of_ble_eq_true rfl⟩) (fun z μ1 hp => ?_)
  obtain ⟨hp, rfl⟩ := hp
  refine z_if_eq (tgt := 29) C dX6_addRectangle_15 (by decide) (fun h1 => ?_) (fun h1 => ?_)
  · exact zx_throwS C Rm Tb E hl0 thr_A st_111 dX6_addRectangle_29 dX6_addRectangle_32 dX6_addRectangle_33 dX6_addRectangle_35 dX6_addRectangle_38 rfl (by decide) (by decide) (⟨Or.inr (Or.inl ⟨rfl, h8, by omega⟩), zO.rf⟩)
  refine z_iconst C dX6_addRectangle_18 ?_
  refine z_iload C dX6_addRectangle_19 rfl ?_
  refine z_bipush C dX6_addRectangle_21 ?_
  refine z_ci C (z_rS C Rm qs_X6_isFrom m_666 (k_isFrom (by decide) hh (by decide)) dX6_addRectangle_23 rfl rfl (Nat.le_of_ble_eq_true rfl) rfl ⟨Nat.le_of_ble_eq_true rfl, Nat.le_of_ble_eq_true rfl, Nat.le_of_ble_eq_true rfl, Nat.le_of_ble_eq_true rfl⟩) (fun z2 μ1 hp2 => ?_)
  obtain ⟨hp2, rfl⟩ := hp2
  refine z_if_ne (tgt := 39) C dX6_addRectangle_26 (by decide) (fun h2 => ?_) (fun h2 => ?_)
  rotate_left
  · exact zx_throwS C Rm Tb E hl0 thr_A st_111 dX6_addRectangle_29 dX6_addRectangle_32 dX6_addRectangle_33 dX6_addRectangle_35 dX6_addRectangle_38 rfl (by decide) (by decide) (⟨Or.inr (Or.inl ⟨rfl, h8, by omega⟩), zO.rf⟩)
  have hwh : (1 ≤ w ∧ w ≤ 64) ∧ 1 ≤ h ∧ h ≤ 64 := by omega
  refine z_iload_n C dX6_addRectangle_39 rfl ?_
  refine z_i2l C dX6_addRectangle_40 ?_
  rw [zl_i2l]
  refine z_iload_n C dX6_addRectangle_41 rfl ?_
  refine z_i2l C dX6_addRectangle_42 ?_
  rw [zl_i2l]
  refine z_iload C dX6_addRectangle_43 rfl ?_
  refine z_i2l C dX6_addRectangle_45 ?_
  rw [zl_i2l]
  refine z_ladd C dX6_addRectangle_46 ?_
  refine z_lconst_1 C dX6_addRectangle_47 ?_
  rw [zl_add, show (1 : Int64) = Int64.ofInt 1 by decide]
  refine z_lsub C dX6_addRectangle_48 ?_
  rw [zl_sub]
  refine zx_cv C (zx_rS C Rm qs_X6_checkRoom m_708 (k_checkRoom hl0 (a := x) (b := x + w - 1) (by omega) (by omega)) dX6_addRectangle_49 rfl rfl (by decide) rfl (by decide)) (fun En μx hx => zx_prop C Tb E (by decide) (⟨Or.inr (Or.inr ⟨hx.1, h8, hwh, fun q => hx.2.1 q.1⟩), zO.eq hx.2.2⟩)) (fun μ1 hp => ?_)
  obtain ⟨hx1, rfl⟩ := hp
  refine z_iload_n C dX6_addRectangle_52 rfl ?_
  refine z_i2l C dX6_addRectangle_53 ?_
  rw [zl_i2l]
  refine z_iload_n C dX6_addRectangle_54 rfl ?_
  refine z_i2l C dX6_addRectangle_55 ?_
  rw [zl_i2l]
  refine z_iload C dX6_addRectangle_56 rfl ?_
  refine z_i2l C dX6_addRectangle_58 ?_
  rw [zl_i2l]
  refine z_ladd C dX6_addRectangle_59 ?_
  refine z_lconst_1 C dX6_addRectangle_60 ?_
  rw [zl_add, show (1 : Int64) = Int64.ofInt 1 by decide]
  refine z_lsub C dX6_addRectangle_61 ?_
  rw [zl_sub]
  refine zx_cv C (zx_rS C Rm qs_X6_checkRoom m_708 (k_checkRoom hl0 (a := y) (b := y + h - 1) (by omega) (by omega)) dX6_addRectangle_62 rfl rfl (by decide) rfl (by decide)) (fun En μx hx => zx_prop C Tb E (by decide) (⟨Or.inr (Or.inr ⟨hx.1, h8, hwh, fun q => hx.2.1 q.2⟩), zO.eq hx.2.2⟩)) (fun μ1 hp => ?_)
  obtain ⟨hy1, rfl⟩ := hp
  refine z_aload_n C dX6_addRectangle_65 rfl ?_
  refine z_get C hK.obj rfl 3 (by decide) m_226 inz6 rfl rfl dX6_addRectangle_66 ?_
  refine z_iload_n C dX6_addRectangle_69 rfl ?_
  refine z_aload C dX6_addRectangle_70 rfl ?_
  refine z_cv C (z_rV C Rm qv_X2_keep m_670 (c_keep hK.his hK.kept (hK.at h8) (by omega) (by omega)) hK.his.1 rfl dX6_addRectangle_72 rfl rfl (Nat.le_of_ble_eq_true rfl) rfl ⟨Nat.le_of_ble_eq_true rfl, Nat.le_of_ble_eq_true rfl, Nat.le_of_ble_eq_true rfl, Nat.le_of_ble_eq_true rfl⟩) (fun μ1 hq => ?_)
  obtain ⟨k1, k2, k3, k4, k5, k6⟩ := hK.hist hq
  have hbc := zMask_bc hwh.1 hx1.1 hx1.2
  obtain ⟨M, hM⟩ : ∃ M, M = zshl (zushr (-1) (64 - w)) (x - -32) := ⟨_, rfl⟩
  refine z_ldc2 C m_713 dX6_addRectangle_75 ?_
  refine z_bipush C dX6_addRectangle_78 ?_
  refine z_iload C dX6_addRectangle_80 rfl ?_
  refine z_isub C dX6_addRectangle_82 ?_
  refine z_lushr C dX6_addRectangle_83 ?_
  refine z_iload_n C dX6_addRectangle_84 rfl ?_
  refine z_bipush C dX6_addRectangle_85 ?_
  refine z_isub C dX6_addRectangle_87 ?_
  refine z_lshl C dX6_addRectangle_88 ?_
  rw [← hM]
  rw [← hM] at hbc
  refine z_lstore (L' := [_, _, _, _, _, _, _, _, _, _]) C dX6_addRectangle_89 rfl ?_
  refine z_iconst C dX6_addRectangle_91 ?_
  refine z_istore (L' := [_, _, _, _, _, _, _, _, _, _]) C dX6_addRectangle_92 rfl ?_
  have hF := k2 r h8
  have loop : ∀ (n i : Nat) (k : Int) (ν : zM), i + n = h.toNat → k = (i : Int) → ν = setF D μ1 (zReg K r) (zRect y i M) → Z X ν 3 18 94 [some (.ref K), some (zi r), some (zi x), some (zi y), some (zi w), some (zi h), some (.ref (zReg K r)), some (.long M), none, some (zi k)] [] := by
    intro n
    induction n with
    | zero =>
      intro i k ν hn hk hν
      subst hν
      refine z_iload C dX6_addRectangle_94 rfl ?_
      refine z_iload C dX6_addRectangle_96 rfl ?_
      refine z_icmp_ge (tgt := 128) C dX6_addRectangle_98 (by decide) (fun _ => ?_) (fun hno => absurd hno (by omega))
      have hF2 := hF.set (zRect y i M)
      refine z_aload C dX6_addRectangle_128 rfl ?_
      refine z_ci C (z_rV C Rm qv_X0_count m_290 (c_count hF2) hF2.1 rfl dX6_addRectangle_130 rfl rfl (Nat.le_of_ble_eq_true rfl) rfl ⟨Nat.le_of_ble_eq_true rfl, Nat.le_of_ble_eq_true rfl, Nat.le_of_ble_eq_true rfl, Nat.le_of_ble_eq_true rfl⟩) (fun z3 μ3 hq3 => ?_)
      obtain ⟨rfl, rfl⟩ := hq3
      refine zx_ret C E (fun X C E => ?_)
      exact z_iret C E dX6_addRectangle_133 (Nat.le_of_ble_eq_true rfl) (Nat.le_of_ble_eq_true rfl) ⟨by rw [zRect_full (by omega) (by omega) (by omega), hbc, show (i : Int) = h by omega], ⟨h8, hwh, hx1, hy1⟩, zKO_set k6 h8⟩
    | succ n ih =>
      intro i k ν hn hk hν
      subst hν
      refine z_iload C dX6_addRectangle_94 rfl ?_
      refine z_iload C dX6_addRectangle_96 rfl ?_
      refine z_icmp_ge (tgt := 128) C dX6_addRectangle_98 (by decide) (fun hno => absurd hno (by omega)) (fun _ => ?_)
      have hF2 := hF.set (zRect y i M)
      refine z_aload C dX6_addRectangle_101 rfl ?_
      refine z_iload_n C dX6_addRectangle_103 rfl ?_
      refine z_iload C dX6_addRectangle_104 rfl ?_
      refine z_iadd C dX6_addRectangle_106 ?_
      refine z_aload C dX6_addRectangle_107 rfl ?_
      refine z_iload_n C dX6_addRectangle_109 rfl ?_
      refine z_iload C dX6_addRectangle_110 rfl ?_
      refine z_iadd C dX6_addRectangle_112 ?_
      refine z_cl C (z_rV C Rm qv_X0_row m_714 (c_row hF2 (y := y + k) (by omega)) hF2.1 rfl dX6_addRectangle_113 rfl rfl (Nat.le_of_ble_eq_true rfl) rfl ⟨Nat.le_of_ble_eq_true rfl, Nat.le_of_ble_eq_true rfl, Nat.le_of_ble_eq_true rfl, Nat.le_of_ble_eq_true rfl⟩) (fun z3 μ3 hq3 => ?_)
      obtain ⟨rfl, rfl⟩ := hq3
      rw [hk, zRect_r (by omega), ← hk]
      refine z_lload C dX6_addRectangle_116 rfl ?_
      refine z_lor C dX6_addRectangle_118 ?_
      rw [Int64.zero_or]
      refine z_cv C (z_rV C Rm qv_X0_putRow m_715 (c_putRow hF2 (y := y + k) (by omega) (v := M)) hF2.1 rfl dX6_addRectangle_119 rfl rfl (Nat.le_of_ble_eq_true rfl) rfl ⟨Nat.le_of_ble_eq_true rfl, Nat.le_of_ble_eq_true rfl, Nat.le_of_ble_eq_true rfl, Nat.le_of_ble_eq_true rfl⟩) (fun μ3 hq3 => ?_)
      rw [setF_u, zRect_s (by omega)] at hq3
      subst hq3
      refine z_iinc (L' := [_, _, _, _, _, _, _, _, _, _]) C dX6_addRectangle_122 rfl rfl ?_
      refine z_goto (tgt := 94) C dX6_addRectangle_125 (by decide) ?_
      exact ih (i + 1) (k + 1) _ (by omega) (by omega) rfl
  exact loop h.toNat 0 0 _ (by omega) rfl (by rw [zRect_0, setF_i hF])
