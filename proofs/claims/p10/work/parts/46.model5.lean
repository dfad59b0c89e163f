set_option maxRecDepth 100000 in
set_option maxHeartbeats 4000000 in
theorem m_isEdge0 {l : Launch} {D : va_G} {N0 : Nat} {a : Nat} {x y d : Int} {μ : zM} (hA : μ a = some (zAZ D 4096 zIz)) (hx : -1000 ≤ x ∧ x ≤ 1000) (hy : -1000 ≤ y ∧ y ≤ 1000) (hd : d = 0 ∨ d = 1) : zMet l yX7_isEdge cX7_isEdge 4 (some .boolean) ({ frames := 3, cells := 0, slots := 0, locals := 120 } : Room) D N0 [.ref a, zi x, zi y, zi d] μ (zQI D N0 (fun z u => z = 0 ∧ u = μ)) := by
  refine zMet_of rfl (Nat.le_of_ble_eq_true rfl) (fun X C Rm hin E => ?_)
  rcases hd with rfl | rfl
  · refine z_iload_n C dX7_isEdge_0 rfl ?_
    refine z_tableIn (tgt := 28) C dX7_isEdge_1 (by decide) (by decide) rfl (by decide) ?_
    refine z_aload_n C dX7_isEdge_28 rfl ?_
    refine z_iload_n C dX7_isEdge_29 rfl ?_
    refine z_iload_n C dX7_isEdge_30 rfl ?_
    refine z_ci C (z_rS C Rm qs_X7_has m_1129 (m_has0 hA (x := x) (y := y) (by omega) (by omega)) dX7_isEdge_31 rfl rfl (Nat.le_of_ble_eq_true rfl) rfl ⟨Nat.le_of_ble_eq_true rfl, Nat.le_of_ble_eq_true rfl, Nat.le_of_ble_eq_true rfl, Nat.le_of_ble_eq_true rfl⟩) (fun z μ5 hq5 => ?_)
    obtain ⟨rfl, rfl⟩ := hq5
    refine z_if_eq (tgt := 52) C dX7_isEdge_34 (by decide) (fun _ => ?_) (fun hno => absurd hno (fun h => h rfl))
    refine z_iconst C dX7_isEdge_52 ?_
    exact z_zret C E (Or.inl rfl) dX7_isEdge_53 (Nat.le_of_ble_eq_true rfl) (Nat.le_of_ble_eq_true rfl) ⟨rfl, rfl⟩
  · refine z_iload_n C dX7_isEdge_0 rfl ?_
    refine z_tableIn (tgt := 54) C dX7_isEdge_1 (by decide) (by decide) rfl (by decide) ?_
    refine z_aload_n C dX7_isEdge_54 rfl ?_
    refine z_iload_n C dX7_isEdge_55 rfl ?_
    refine z_iconst C dX7_isEdge_56 ?_
    refine z_isub C dX7_isEdge_57 ?_
    refine z_iload_n C dX7_isEdge_58 rfl ?_
    refine z_ci C (z_rS C Rm qs_X7_has m_1129 (m_has0 hA (x := x - 1) (y := y) (by omega) (by omega)) dX7_isEdge_59 rfl rfl (Nat.le_of_ble_eq_true rfl) rfl ⟨Nat.le_of_ble_eq_true rfl, Nat.le_of_ble_eq_true rfl, Nat.le_of_ble_eq_true rfl, Nat.le_of_ble_eq_true rfl⟩) (fun z μ5 hq5 => ?_)
    obtain ⟨rfl, rfl⟩ := hq5
    refine z_if_eq (tgt := 78) C dX7_isEdge_62 (by decide) (fun _ => ?_) (fun hno => absurd hno (fun h => h rfl))
    refine z_iconst C dX7_isEdge_78 ?_
    exact z_zret C E (Or.inl rfl) dX7_isEdge_79 (Nat.le_of_ble_eq_true rfl) (Nat.le_of_ble_eq_true rfl) ⟨rfl, rfl⟩
set_option maxRecDepth 100000 in
set_option maxHeartbeats 4000000 in
theorem m_stripsNow {l : Launch} {D : va_G} {N0 : Nat} {M : Nat} {μ : zM} (hM : isMo D μ M) {r : Int} (h8 : 0 ≤ r ∧ r < 8) : zMet l yX7_stripsNow cX7_stripsNow 9 (some (.array .int)) ({ frames := 4, cells := 1, slots := 64, locals := 160 } : Room) D N0 [.ref M, zi r] μ (zQR D N0 (fun q u => u q = some (zAI D 64 zIz) ∧ zEx μ u)) := by
  refine zMet_of rfl (Nat.le_of_ble_eq_true rfl) (fun X C Rm hin E => ?_)
  refine z_aload_n C dX7_stripsNow_0 rfl ?_
  refine z_get C hM.obj rfl 1 (by decide) m_1011 inz7 rfl rfl dX7_stripsNow_1 ?_
  refine z_iload_n C dX7_stripsNow_4 rfl ?_
  refine z_bald C hM.rows (by decide) (isMo.row_eq h8) dX7_stripsNow_5 ?_
  refine z_astore_n (L' := [_, _, _, _, _, _, _, _, _]) C dX7_stripsNow_6 rfl ?_
  refine z_bipush C dX7_stripsNow_7 ?_
  refine z_newI C Rm (by decide) m_105 dX7_stripsNow_9 (by decide) (fun q1 hNq1 hqq1 => ?_)
  obtain ⟨ν, hν⟩ : ∃ ν, ν = zu μ q1 (zAI D 64 zIz) := ⟨_, rfl⟩
  have hE : zEx μ ν := by rw [hν]; exact zEx.rf.own hqq1
  have h2 : ν q1 = some (zAI D 64 zIz) := by rw [hν]; exact zu_s
  have hA : ν (M + 2 + r.toNat) = some (zAZ D 4096 zIz) := hE _ _ (hM.row h8)
  refine (show Z X ν 1 64 (7 + 2 + 2) [some (.ref M), some (zi r), some (.ref (M + 2 + r.toNat)), none, none, none, none, none, none] [.ref q1] → _ from fun h => by rw [hν] at h; exact h) ?_
  have grid : ∀ (n : Nat) (x : Int) (Ly : Option Value), x + n = 32 → -32 ≤ x → Z X ν 1 64 19 [some (.ref M), some (zi r), some (.ref (M + 2 + r.toNat)), some (.ref q1), some (zi 1), some (zi x), Ly, none, none] [] := by
    intro n
    induction n with
    | zero =>
      intro x Ly hn h0
      refine z_iload C dX7_stripsNow_19 rfl ?_
      refine z_bipush C dX7_stripsNow_21 ?_
      refine z_icmp_gt (tgt := 178) C dX7_stripsNow_23 (by decide) (fun _ => ?_) (fun hno => absurd hno (by omega))
      refine z_aload_n C dX7_stripsNow_178 rfl ?_
      exact z_aret C E (Or.inr ⟨_, rfl⟩) dX7_stripsNow_179 (Nat.le_of_ble_eq_true rfl) (Nat.le_of_ble_eq_true rfl) ⟨h2, hE⟩
    | succ n ih =>
      intro x Ly hn h0
      have row : ∀ (j : Nat) (y : Int), y + j = 32 → -32 ≤ y → Z X ν 1 64 30 [some (.ref M), some (zi r), some (.ref (M + 2 + r.toNat)), some (.ref q1), some (zi 1), some (zi x), some (zi y), none, none] [] := by
        intro j
        induction j with
        | zero =>
          intro y hj hy
          refine z_iload C dX7_stripsNow_30 rfl ?_
          refine z_bipush C dX7_stripsNow_32 ?_
          refine z_icmp_gt (tgt := 172) C dX7_stripsNow_34 (by decide) (fun _ => ?_) (fun hno => absurd hno (by omega))
          refine z_iinc (L' := [_, _, _, _, _, _, _, _, _]) C dX7_stripsNow_172 rfl rfl ?_
          refine z_goto (tgt := 19) C dX7_stripsNow_175 (by decide) ?_
          exact ih (x + 1) _ (by omega) (by omega)
        | succ j ih2 =>
          intro y hj hy
          refine z_iload C dX7_stripsNow_30 rfl ?_
          refine z_bipush C dX7_stripsNow_32 ?_
          refine z_icmp_gt (tgt := 172) C dX7_stripsNow_34 (by decide) (fun hno => absurd hno (by omega)) (fun _ => ?_)
          refine z_aload_n C dX7_stripsNow_37 rfl ?_
          refine z_iload C dX7_stripsNow_38 rfl ?_
          refine z_iload C dX7_stripsNow_40 rfl ?_
          refine z_ci C (z_rS C Rm qs_X7_has m_1129 (m_has0 hA (x := y) (y := x) (by omega) (by omega)) dX7_stripsNow_42 rfl rfl (Nat.le_of_ble_eq_true rfl) rfl ⟨Nat.le_of_ble_eq_true rfl, Nat.le_of_ble_eq_true rfl, Nat.le_of_ble_eq_true rfl, Nat.le_of_ble_eq_true rfl⟩) (fun z μ5 hq5 => ?_)
          obtain ⟨rfl, rfl⟩ := hq5
          refine z_if_eq (tgt := 166) C dX7_stripsNow_45 (by decide) (fun _ => ?_) (fun hno => absurd hno (fun h => h rfl))
          refine z_iinc (L' := [_, _, _, _, _, _, _, _, _]) C dX7_stripsNow_166 rfl rfl ?_
          refine z_goto (tgt := 30) C dX7_stripsNow_169 (by decide) ?_
          exact ih2 (y + 1) (by omega) (by omega)
      refine z_iload C dX7_stripsNow_19 rfl ?_
      refine z_bipush C dX7_stripsNow_21 ?_
      refine z_icmp_gt (tgt := 178) C dX7_stripsNow_23 (by decide) (fun hno => absurd hno (by omega)) (fun _ => ?_)
      refine z_bipush C dX7_stripsNow_26 ?_
      refine z_istore (L' := [_, _, _, _, _, _, _, _, _]) C dX7_stripsNow_28 rfl ?_
      exact row 64 (-32) (by omega) (by omega)
  refine z_astore_n (L' := [_, _, _, _, _, _, _, _, _]) C dX7_stripsNow_11 rfl ?_
  refine z_iconst C dX7_stripsNow_12 ?_
  refine z_istore (L' := [_, _, _, _, _, _, _, _, _]) C dX7_stripsNow_13 rfl ?_
  refine z_bipush C dX7_stripsNow_15 ?_
  refine z_istore (L' := [_, _, _, _, _, _, _, _, _]) C dX7_stripsNow_17 rfl ?_
  exact grid 64 (-32) _ (by omega) (by omega)
