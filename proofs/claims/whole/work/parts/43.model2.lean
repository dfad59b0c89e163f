theorem isMo.new {D : va_G} {μ : zM} {M q : Nat} {x : va_E} (h : isMo D μ M) (hq : ∀ (a : Nat) (e : va_E), μ a = some e → a < q) : isMo D (zu μ q x) M :=
  have k : ∀ (a : Nat) (e : va_E), μ a = some e → zu μ q x a = some e := fun a e ha => zu_k ha (by have := hq a e ha; omega)
  ⟨k _ _ h.1, k _ _ h.2.1, fun j hj => k _ _ (h.2.2.1 j hj), k _ _ h.px, k _ _ h.py, k _ _ h.kr, k _ _ h.kf⟩
theorem zMP.tr {M : Nat} {μ ν u : zM} {t : Int} (h : zN M μ ν) (h2 : zMP M ν t u) : zMP M μ t u := ⟨h2.1, h.tr h2.2⟩
theorem z_newM {X : zX} {l : Launch} {D : va_G} {N0 : Nat} {cc : ByteArray} {nL : Nat} {own : String} {μ : zM} {kc kn pc : Nat} {L : List (Option Value)} {st : List Value} {rk rn rf rw M : Nat} (C : zC X l D N0 cc nL own zWS) (Rm : zR X rk rn rf rw) (hM : isMo D μ M) (d : decode cc pc = .ok (.newarray .boolean, 2)) (hr : kc + 1 ≤ rk ∧ kn + 4096 ≤ rn) (k : ∀ (q : Nat) (ν : zM), isMo D ν M → ν q = some (zAZ D 4096 zIz) → ¬ zb M 14 q → zN M μ ν → Z X ν (kc + 1) (kn + 4096) (pc + 2) L (.ref q :: st)) : Z X μ kc kn pc L (zi 4096 :: st) :=
  z_newZ C Rm (by decide) m_1035 d hr (fun q hN hq => k q _ (hM.new hq) zu_s (by have := hq _ _ hM.kf; unfold zb; omega) (zN.rf.own hq))
theorem z_st0 {X : zX} {D : va_G} {μ : zM} {kc kn pc a k0 : Nat} {L : List (Option Value)} {st : List Value} (h : μ a = some (zAZ D 4096 zIz)) (k : Z X μ kc kn pc L st) : Z X (zu μ a (zAZ D 4096 (zw zIz k0 0))) kc kn pc L st := by
  rw [show zw zIz k0 0 = zIz from zw_id rfl, zu_i h]
  exact k
set_option maxRecDepth 100000 in
set_option maxHeartbeats 4000000 in
theorem m_change {l : Launch} {D : va_G} {N0 : Nat} {M : Nat} {μ : zM} (hM : isMo D μ M) {r : Int} (h8 : 0 ≤ r ∧ r < 8) {b : Nat} {g : Nat → Int} (hb : μ b = some (zAZ D 4096 g)) (hg : ∀ i, g i = 0 ∨ g i = 1) (hbb : ¬ zb M 14 b ∨ b = M + 2 + r.toNat) : zMet l yX7_change cX7_change 5 (some .int) ({ frames := 1, cells := 1, slots := 4096, locals := 40 } : Room) D N0 [.ref M, zi r, .ref b] μ (zQI D N0 (fun z u => z = cntZ g 4096 ∧ zMP M μ 0 u)) := by
  refine zMet_of rfl (Nat.le_of_ble_eq_true rfl) (fun X C Rm hin E => ?_)
  refine z_sipush C dX7_change_0 ?_
  refine z_newZ C Rm (by decide) m_1035 dX7_change_3 (by decide) (fun q hN hq => ?_)
  obtain ⟨ν, hν⟩ : ∃ ν, ν = zu μ q (zAZ D 4096 zIz) := ⟨_, rfl⟩
  have hM1 : isMo D ν M := by rw [hν]; exact hM.new hq
  have hq1 : ν q = some (zAZ D 4096 zIz) := by rw [hν]; exact zu_s
  have hb1 : ν b = some (zAZ D 4096 g) := by rw [hν]; exact zu_k hb (by have := hq _ _ hb; omega)
  have hN1 : zN M μ ν := by rw [hν]; exact zN.rf.own hq
  have hqM : M + 13 < q := hq _ _ hM.kf
  refine (show Z X ν 1 4096 (0 + 3 + 2) [some (.ref M), some (zi r), some (.ref b), none, none] [.ref q] → _ from fun h => by rw [hν] at h; exact h) ?_
  refine z_astore_n (L' := [_, _, _, _, _]) C dX7_change_5 rfl ?_
  refine z_aload_n C dX7_change_6 rfl ?_
  refine z_get C hM1.obj rfl 1 (by decide) m_1011 inz7 rfl rfl dX7_change_7 ?_
  refine z_iload_n C dX7_change_10 rfl ?_
  refine z_bald C hM1.rows (by decide) (isMo.row_eq h8) dX7_change_11 ?_
  refine z_iconst C dX7_change_12 ?_
  refine z_aload_n C dX7_change_13 rfl ?_
  refine z_iconst C dX7_change_14 ?_
  refine z_sipush C dX7_change_15 ?_
  refine z_copyZ (n := 4096) C Rm m_1082 m_1084 m_1083 m_53 (hM1.row h8) hq1 (by omega) (fun i => Or.inl rfl) dX7_change_18 rfl (by decide) ?_
  rw [show (fun j => if j < 4096 then zIz j else zIz j) = zIz from funext fun j => by simp]
  rw [zu_i hq1]
  refine z_aload_n C dX7_change_21 rfl ?_
  refine z_get C hM1.obj rfl 6 (by decide) m_1016 inz7 rfl rfl dX7_change_22 ?_
  refine z_aload_n C dX7_change_25 rfl ?_
  refine z_get C hM1.obj rfl 5 (by decide) m_1015 inz7 rfl rfl dX7_change_26 ?_
  refine z_iload_n C dX7_change_29 rfl ?_
  refine z_iast C hM1.kr (by decide) dX7_change_30 ?_
  refine z_aload_n C dX7_change_31 rfl ?_
  refine z_get C (zu_k hM1.obj (by omega)) rfl 7 (by decide) m_1017 inz7 rfl rfl dX7_change_32 ?_
  refine z_aload_n C dX7_change_35 rfl ?_
  refine z_dup C dX7_change_36 rfl ?_
  refine z_get C (zu_k hM1.obj (by omega)) rfl 5 (by decide) m_1015 inz7 rfl rfl dX7_change_37 ?_
  refine z_dup_x1 C dX7_change_40 rfl rfl ?_
  refine z_iconst C dX7_change_41 ?_
  refine z_iadd C dX7_change_42 ?_
  refine z_put C (zu_k hM1.obj (by omega)) rfl tyX7 tyX7_ok nmX7 5 (by decide) m_1015 inz7 rfl rfl (by rfl) (by rfl) (Nat.le_of_ble_eq_true rfl) dX7_change_43 ?_
  refine z_aload_n C dX7_change_46 rfl ?_
  refine z_bast C (zu_k (zu_k hM1.kf (by omega)) (by omega)) (zu_k (zu_k hq1 (by omega)) (by omega)) (by decide) dX7_change_47 ?_
  refine z_aload_n C dX7_change_48 rfl ?_
  refine z_get C (zu_k zu_s (by omega)) rfl 5 (by decide) m_1015 inz7 rfl rfl dX7_change_49 ?_
  refine z_bipush C dX7_change_52 ?_
  refine z_icmp_le (tgt := 111) C dX7_change_54 (by decide) (fun _ => ?_) (fun hno => absurd hno (by omega))
  refine z_aload_n C dX7_change_111 rfl ?_
  refine z_iconst C dX7_change_112 ?_
  refine z_aload_n C dX7_change_113 rfl ?_
  refine z_get C (zu_k zu_s (by omega)) rfl 1 (by decide) m_1011 inz7 rfl rfl dX7_change_114 ?_
  refine z_iload_n C dX7_change_117 rfl ?_
  refine z_bald C (zu_k (zu_k (zu_k hM1.rows (by omega)) (by omega)) (by omega)) (by decide) (isMo.row_eq h8) dX7_change_118 ?_
  refine z_iconst C dX7_change_119 ?_
  refine z_sipush C dX7_change_120 ?_
  have hbn : b ≠ M + 12 ∧ b ≠ M ∧ b ≠ M + 13 := by rcases hbb with h | h <;> (try unfold zb at h) <;> omega
  obtain ⟨ν2, hν2⟩ : ∃ ν2, ν2 = (zu (zu (zu ν (M + 12) (zAI D 13 (zw zIz (0 : Int).toNat r))) M (.inr (7, [zi 0, .ref (M + 1), .ref (M + 10), .ref (M + 11), zi 1, zi (0 + 1), .ref (M + 12), .ref (M + 13)]))) (M + 13) (zAB D 13 (zw (fun _ => none) (0 : Int).toNat (some q)))) := ⟨_, rfl⟩
  have hN2 : zN M μ ν2 := by rw [hν2]; exact zN.put (zN.put (zN.put hN1 (by unfold zb; omega)) (by unfold zb; omega)) (by unfold zb; omega)
  have hb2 : ν2 b = some (zAZ D 4096 g) := by rw [hν2]; exact zu_k (zu_k (zu_k hb1 (by omega)) (by omega)) (by omega)
  have hr2 : ν2 (M + 2 + r.toNat) = some (zAZ D 4096 zIz) := by rw [hν2]; exact zu_k (zu_k (zu_k (hM1.row h8) (by omega)) (by omega)) (by omega)
  have ho2 : ν2 M = some (.inr (7, [zi 0, .ref (M + 1), .ref (M + 10), .ref (M + 11), zi 1, zi (0 + 1), .ref (M + 12), .ref (M + 13)])) := by rw [hν2]; exact zu_k zu_s (by omega)
  refine (show Z X ν2 1 4096 (111 + 1 + 1 + 1 + 3 + 1 + 1 + 1 + 3) [some (.ref M), some (zi r), some (.ref b), some (.ref q), none] [zi 4096, zi 0, .ref (M + 2 + r.toNat), zi 0, .ref b] → _ from fun h => by rw [hν2] at h; exact h) ?_
  refine z_copyZ (n := 4096) C Rm m_1082 m_1084 m_1083 m_53 hb2 hr2 (by omega) hg dX7_change_123 rfl (by decide) ?_
  obtain ⟨g3, e1, e2, hg3⟩ : ∃ g3 : Nat → Int, zu ν2 (M + 2 + r.toNat) (zAZ D 4096 (fun j => if j < 4096 then g j else zIz j)) b = some (zAZ D 4096 g3) ∧ cntZ g3 4096 = cntZ g 4096 ∧ ∀ i, g3 i = 0 ∨ g3 i = 1 := by
    by_cases e : b = M + 2 + r.toNat
    · refine ⟨fun j => if j < 4096 then g j else zIz j, by rw [e]; exact zu_s, ?_, fun i => ?_⟩
      · have h9 : ∀ n : Nat, n ≤ 4096 → cntZ (fun j => if j < 4096 then g j else zIz j) n = cntZ g n := by
          intro n
          induction n with
          | zero => intro _; rfl
          | succ n ih =>
            intro hn
            show cntZ (fun j => if j < 4096 then g j else zIz j) n + (if (if n < 4096 then g n else zIz n) = 0 then 0 else 1) = cntZ g n + (if g n = 0 then 0 else 1)
            rw [ih (by omega), if_pos (show n < 4096 by omega)]
        exact h9 4096 (Nat.le_refl _)
      · show (if i < 4096 then g i else zIz i) = 0 ∨ (if i < 4096 then g i else zIz i) = 1
        by_cases hi : i < 4096
        · rw [if_pos hi]; exact hg i
        · rw [if_neg hi]; exact Or.inl rfl
    · exact ⟨g, zu_k hb2 e, rfl, hg⟩
  refine z_aload_n C dX7_change_126 rfl ?_
  refine z_ci C (z_rS C Rm qs_X7_areaOf m_1085 (m_area e1 hg3) dX7_change_127 rfl rfl (Nat.le_of_ble_eq_true rfl) rfl ⟨Nat.le_of_ble_eq_true rfl, Nat.le_of_ble_eq_true rfl, Nat.le_of_ble_eq_true rfl, Nat.le_of_ble_eq_true rfl⟩) (fun z μ5 hq5 => ?_)
  obtain ⟨rfl, rfl⟩ := hq5
  exact z_iret C E dX7_change_130 (Nat.le_of_ble_eq_true rfl) (Nat.le_of_ble_eq_true rfl) ⟨e2, zMP.of (zu_k ho2 (by omega)) (zN.put hN2 (by unfold zb; omega))⟩
set_option maxRecDepth 100000 in
set_option maxHeartbeats 4000000 in
theorem m_areaR {l : Launch} {D : va_G} {N0 : Nat} {M : Nat} {μ : zM} (hM : isMo D μ M) {r : Int} (hr : zir r) : zMet l yX7_area cX7_area 2 (some .int) ({ frames := 2, cells := 0, slots := 0, locals := 80 } : Room) D N0 [.ref M, zi r] μ (zQI D N0 (fun z u => ∃ t, (t = 0 ∧ z = 0 ∧ (0 ≤ r ∧ r < 8) ∧ (True) ∨ t = 1 ∧ ¬ (0 ≤ r ∧ r < 8) ∨ t = 2 ∧ (0 ≤ r ∧ r < 8) ∧ ¬ (True)) ∧ zMP M μ t u)) := by
  refine zMet_of rfl (Nat.le_of_ble_eq_true rfl) (fun X C Rm hin E => ?_)
  refine z_aload_n C dX7_area_0 rfl ?_
  refine z_iconst C dX7_area_1 ?_
  refine z_put C hM.obj rfl tyX7 tyX7_ok nmX7 0 (by decide) m_1010 inz7 rfl rfl (by rfl) (by rfl) (Nat.le_of_ble_eq_true rfl) dX7_area_2 ?_
  refine z_same hM.obj ?_
  refine z_iload_n C dX7_area_5 rfl ?_
  refine z_ci C (z_rS C Rm qs_X7_isRegion m_1067 (m_isRegion hr) dX7_area_6 rfl rfl (Nat.le_of_ble_eq_true rfl) rfl ⟨Nat.le_of_ble_eq_true rfl, Nat.le_of_ble_eq_true rfl, Nat.le_of_ble_eq_true rfl, Nat.le_of_ble_eq_true rfl⟩) (fun z μ1 hp => ?_)
  obtain ⟨hp, rfl⟩ := hp
  refine z_if_eq (tgt := 24) C dX7_area_9 (by decide) (fun h1 => ?_) (fun h1 => ?_)
  · refine z_aload_n C dX7_area_24 rfl ?_
    refine z_iconst C dX7_area_25 ?_
    refine z_ci C (z_rV C Rm qv_X7_no m_1047 (m_no hM.obj (k := 1)) hM.obj rfl dX7_area_26 rfl rfl (Nat.le_of_ble_eq_true rfl) rfl ⟨Nat.le_of_ble_eq_true rfl, Nat.le_of_ble_eq_true rfl, Nat.le_of_ble_eq_true rfl, Nat.le_of_ble_eq_true rfl⟩) (fun z2 μ2 hq => ?_)
    obtain ⟨rfl, rfl⟩ := hq
    exact z_iret C E dX7_area_29 (Nat.le_of_ble_eq_true rfl) (Nat.le_of_ble_eq_true rfl) ⟨1, Or.inr (Or.inl ⟨rfl, by omega⟩), zMP.of zu_s (zN.put zN.rf (by unfold zb; omega))⟩
  have h8 : 0 ≤ r ∧ r < 8 := by omega
  refine z_aload_n C dX7_area_12 rfl ?_
  refine z_get C hM.obj rfl 1 (by decide) m_1011 inz7 rfl rfl dX7_area_13 ?_
  refine z_iload_n C dX7_area_16 rfl ?_
  refine z_bald C hM.rows (by decide) (isMo.row_eq h8) dX7_area_17 ?_
  refine z_ci C (z_rS C Rm qs_X7_areaOf m_1085 (m_area (hM.row h8) (fun i => Or.inl rfl)) dX7_area_18 rfl rfl (Nat.le_of_ble_eq_true rfl) rfl ⟨Nat.le_of_ble_eq_true rfl, Nat.le_of_ble_eq_true rfl, Nat.le_of_ble_eq_true rfl, Nat.le_of_ble_eq_true rfl⟩) (fun z2 μ2 hq => ?_)
  refine z_goto (tgt := 29) C dX7_area_21 (by decide) ?_
  obtain ⟨rfl, rfl⟩ := hq
  exact z_iret C E dX7_area_29 (Nat.le_of_ble_eq_true rfl) (Nat.le_of_ble_eq_true rfl) ⟨0, Or.inl ⟨rfl, cntZ_z _, h8, trivial⟩, zMP.of hM.obj zN.rf⟩
set_option maxRecDepth 100000 in
set_option maxHeartbeats 4000000 in
theorem m_clear {l : Launch} {D : va_G} {N0 : Nat} {M : Nat} {μ : zM} (hM : isMo D μ M) {r : Int} (hr : zir r) : zMet l yX7_clear cX7_clear 3 (some .int) ({ frames := 2, cells := 2, slots := 8192, locals := 80 } : Room) D N0 [.ref M, zi r] μ (zQI D N0 (fun z u => ∃ t, (t = 0 ∧ z = 0 ∧ (0 ≤ r ∧ r < 8) ∧ (True) ∨ t = 1 ∧ ¬ (0 ≤ r ∧ r < 8) ∨ t = 2 ∧ (0 ≤ r ∧ r < 8) ∧ ¬ (True)) ∧ zMP M μ t u)) := by
  refine zMet_of rfl (Nat.le_of_ble_eq_true rfl) (fun X C Rm hin E => ?_)
  refine z_aload_n C dX7_clear_0 rfl ?_
  refine z_iconst C dX7_clear_1 ?_
  refine z_put C hM.obj rfl tyX7 tyX7_ok nmX7 0 (by decide) m_1010 inz7 rfl rfl (by rfl) (by rfl) (Nat.le_of_ble_eq_true rfl) dX7_clear_2 ?_
  refine z_same hM.obj ?_
  refine z_iload_n C dX7_clear_5 rfl ?_
  refine z_ci C (z_rS C Rm qs_X7_isRegion m_1067 (m_isRegion hr) dX7_clear_6 rfl rfl (Nat.le_of_ble_eq_true rfl) rfl ⟨Nat.le_of_ble_eq_true rfl, Nat.le_of_ble_eq_true rfl, Nat.le_of_ble_eq_true rfl, Nat.le_of_ble_eq_true rfl⟩) (fun z μ1 hp => ?_)
  obtain ⟨hp, rfl⟩ := hp
  refine z_if_ne (tgt := 18) C dX7_clear_9 (by decide) (fun h1 => ?_) (fun h1 => ?_)
  rotate_left
  · refine z_aload_n C dX7_clear_12 rfl ?_
    refine z_iconst C dX7_clear_13 ?_
    refine z_ci C (z_rV C Rm qv_X7_no m_1047 (m_no hM.obj (k := 1)) hM.obj rfl dX7_clear_14 rfl rfl (Nat.le_of_ble_eq_true rfl) rfl ⟨Nat.le_of_ble_eq_true rfl, Nat.le_of_ble_eq_true rfl, Nat.le_of_ble_eq_true rfl, Nat.le_of_ble_eq_true rfl⟩) (fun z2 μ2 hq => ?_)
    obtain ⟨rfl, rfl⟩ := hq
    exact z_iret C E dX7_clear_17 (Nat.le_of_ble_eq_true rfl) (Nat.le_of_ble_eq_true rfl) ⟨1, Or.inr (Or.inl ⟨rfl, by omega⟩), zMP.of zu_s (zN.put zN.rf (by unfold zb; omega))⟩
  have h8 : 0 ≤ r ∧ r < 8 := by omega
  refine z_aload_n C dX7_clear_18 rfl ?_
  refine z_get C hM.obj rfl 1 (by decide) m_1011 inz7 rfl rfl dX7_clear_19 ?_
  refine z_iload_n C dX7_clear_22 rfl ?_
  refine z_bald C hM.rows (by decide) (isMo.row_eq h8) dX7_clear_23 ?_
  refine z_ci C (z_rS C Rm qs_X7_areaOf m_1085 (m_area (hM.row h8) (fun i => Or.inl rfl)) dX7_clear_24 rfl rfl (Nat.le_of_ble_eq_true rfl) rfl ⟨Nat.le_of_ble_eq_true rfl, Nat.le_of_ble_eq_true rfl, Nat.le_of_ble_eq_true rfl, Nat.le_of_ble_eq_true rfl⟩) (fun z2 μ2 hq => ?_)
  obtain ⟨rfl, rfl⟩ := hq
  rw [cntZ_z]
  refine z_istore_n (L' := [_, _, _]) C dX7_clear_27 rfl ?_
  refine z_aload_n C dX7_clear_28 rfl ?_
  refine z_iload_n C dX7_clear_29 rfl ?_
  refine z_sipush C dX7_clear_30 ?_
  refine z_newM C Rm hM dX7_clear_33 (by decide) (fun q ν hM1 hq1 hqb hN1 => ?_)
  refine z_ci C (z_rV C Rm qv_X7_change m_1078 (m_change hM1 h8 hq1 (fun i => Or.inl rfl) (Or.inl hqb)) hM1.obj rfl dX7_clear_35 rfl rfl (Nat.le_of_ble_eq_true rfl) rfl ⟨Nat.le_of_ble_eq_true rfl, Nat.le_of_ble_eq_true rfl, Nat.le_of_ble_eq_true rfl, Nat.le_of_ble_eq_true rfl⟩) (fun z3 μ3 hq3 => ?_)
  refine z_pop C dX7_clear_38 rfl ?_
  refine z_iload_n C dX7_clear_39 rfl ?_
  exact z_iret C E dX7_clear_40 (Nat.le_of_ble_eq_true rfl) (Nat.le_of_ble_eq_true rfl) ⟨0, Or.inl ⟨rfl, rfl, h8, trivial⟩, zMP.tr hN1 hq3.2⟩
