def zEx (μ u : zM) : Prop := ∀ (b : Nat) (e : va_E), μ b = some e → u b = some e
theorem zEx.rf {μ : zM} : zEx μ μ := fun _ _ h => h
theorem zEx.tr {μ ν u : zM} (h : zEx μ ν) (h2 : zEx ν u) : zEx μ u := fun b e hb => h2 b e (h b e hb)
theorem zEx.own {μ u : zM} {a : Nat} {x : va_E} (h : zEx μ u) (ha : ∀ (b : Nat) (e : va_E), μ b = some e → b < a) : zEx μ (zu u a x) := fun q e hq => (zu_n (by have := ha q e hq; omega)).trans (h q e hq)
theorem zEx.n {M : Nat} {μ u : zM} (h : zEx μ u) : zN M μ u := fun q e hq _ => h q e hq
theorem zEx.mo {D : va_G} {M : Nat} {μ u : zM} (h : zEx μ u) (hM : isMo D μ M) : isMo D u M := ⟨h _ _ hM.1, h _ _ hM.2.1, fun j hj => h _ _ (hM.2.2.1 j hj), h _ _ hM.px, h _ _ hM.py, h _ _ hM.kr, h _ _ hM.kf⟩
theorem zEx.lt {μ ν : zM} {q : Nat} (h : zEx μ ν) (hq : ∀ (b : Nat) (e : va_E), ν b = some e → b < q) : ∀ (b : Nat) (e : va_E), μ b = some e → b < q := fun b e hb => hq b e (h b e hb)
set_option maxRecDepth 100000 in
set_option maxHeartbeats 4000000 in
theorem m_most {l : Launch} {D : va_G} {N0 : Nat} {a : Nat} {g : Nat → Int} {v : Int} {μ : zM} (hA : μ a = some (zAI D 4356 g)) (hg : ∀ i, i < 4356 → g i = v) (hv : v = 0 ∨ v = 1) : zMet l yX7_most cX7_most 6 (some .int) ({ frames := 1, cells := 0, slots := 0, locals := 40 } : Room) D N0 [.ref a] μ (zQI D N0 (fun z u => z = v ∧ u = μ)) := by
  refine zMet_of rfl (Nat.le_of_ble_eq_true rfl) (fun X C Rm hin E => ?_)
  have loop : ∀ (n i : Nat) (k s : Int) (L5 : Option Value), i + n = 4356 → k = (i : Int) → (i = 0 ∧ s = 0 ∨ 0 < i ∧ s = v) → Z X μ 0 0 10 [some (.ref a), some (zi s), some (.ref a), some (zi 4356), some (zi k), L5] [] := by
    intro n
    induction n with
    | zero =>
      intro i k s L5 hn hk hs
      refine z_iload C dX7_most_10 rfl ?_
      refine z_iload_n C dX7_most_12 rfl ?_
      refine z_icmp_ge (tgt := 35) C dX7_most_13 (by decide) (fun _ => ?_) (fun hno => absurd hno (by omega))
      refine z_iload_n C dX7_most_35 rfl ?_
      exact z_iret C E dX7_most_36 (Nat.le_of_ble_eq_true rfl) (Nat.le_of_ble_eq_true rfl) ⟨by omega, rfl⟩
    | succ n ih =>
      intro i k s L5 hn hk hs
      have hgi := hg k.toNat (by omega)
      refine z_iload C dX7_most_10 rfl ?_
      refine z_iload_n C dX7_most_12 rfl ?_
      refine z_icmp_ge (tgt := 35) C dX7_most_13 (by decide) (fun hno => absurd hno (by omega)) (fun _ => ?_)
      refine z_aload_n C dX7_most_16 rfl ?_
      refine z_iload C dX7_most_17 rfl ?_
      refine z_iald C hA (by decide) dX7_most_19 ?_
      rw [hgi]
      refine z_istore (L' := [_, _, _, _, _, _]) C dX7_most_20 rfl ?_
      refine z_iload_n C dX7_most_22 rfl ?_
      refine z_iload C dX7_most_23 rfl ?_
      refine z_mmax C Rm m_1074 m_350 m_50 m_351 dX7_most_25 rfl ⟨Nat.le_of_ble_eq_true rfl, Nat.le_of_ble_eq_true rfl, Nat.le_of_ble_eq_true rfl, Nat.le_of_ble_eq_true rfl⟩ ?_
      refine z_istore_n (L' := [_, _, _, _, _, _]) C dX7_most_28 rfl ?_
      refine z_iinc (L' := [_, _, _, _, _, _]) C dX7_most_29 rfl rfl ?_
      refine z_goto (tgt := 10) C dX7_most_32 (by decide) ?_
      exact ih (i + 1) (k + 1) _ _ (by omega) (by omega) (Or.inr ⟨by omega, by omega⟩)
  refine z_iconst C dX7_most_0 ?_
  refine z_istore_n (L' := [_, _, _, _, _, _]) C dX7_most_1 rfl ?_
  refine z_aload_n C dX7_most_2 rfl ?_
  refine z_astore_n (L' := [_, _, _, _, _, _]) C dX7_most_3 rfl ?_
  refine z_aload_n C dX7_most_4 rfl ?_
  refine z_alen C hA 0 rfl dX7_most_5 ?_
  refine z_istore_n (L' := [_, _, _, _, _, _]) C dX7_most_6 rfl ?_
  refine z_iconst C dX7_most_7 ?_
  refine z_istore (L' := [_, _, _, _, _, _]) C dX7_most_8 rfl ?_
  exact loop 4356 0 0 0 _ (by omega) rfl (Or.inl ⟨rfl, rfl⟩)
set_option maxRecDepth 100000 in
set_option maxHeartbeats 4000000 in
theorem m_parts1 {l : Launch} {D : va_G} {N0 : Nat} {a : Nat} {μ : zM} (hA : μ a = some (zAZ D 4096 zIz)) : zMet l yX7_parts cX7_parts 17 (some (.array .int)) ({ frames := 4, cells := 2, slots := 8712, locals := 160 } : Room) D N0 [.ref a, zi 1] μ (zQR D N0 (fun q u => u q = some (zAI D 4356 zIz) ∧ zEx μ u)) := by
  refine zMet_of rfl (Nat.le_of_ble_eq_true rfl) (fun X C Rm hin E => ?_)
  refine z_bipush C dX7_parts_0 ?_
  refine z_istore_n (L' := [_, _, _, _, _, _, _, _, _, _, _, _, _, _, _, _, _]) C dX7_parts_2 rfl ?_
  refine z_iload_n C dX7_parts_3 rfl ?_
  refine z_iload_n C dX7_parts_4 rfl ?_
  refine z_imul C dX7_parts_5 ?_
  refine z_newI C Rm (by decide) m_105 dX7_parts_6 (by decide) (fun q1 hNq1 hqq1 => ?_)
  refine z_astore_n (L' := [_, _, _, _, _, _, _, _, _, _, _, _, _, _, _, _, _]) C dX7_parts_8 rfl ?_
  refine z_iload_n C dX7_parts_9 rfl ?_
  refine z_iload_n C dX7_parts_10 rfl ?_
  refine z_imul C dX7_parts_11 ?_
  refine z_newI C Rm (by decide) m_105 dX7_parts_12 (by decide) (fun q2 hNq2 hqq2 => ?_)
  obtain ⟨ν, hν⟩ : ∃ ν, ν = zu (zu μ q1 (zAI D 4356 zIz)) q2 (zAI D 4356 zIz) := ⟨_, rfl⟩
  have hE : zEx μ ν := by rw [hν]; exact (zEx.rf.own hqq1).own (fun b e hb => hqq2 b e (zu_k hb (by have := hqq1 b e hb; omega)))
  have h12 : q1 < q2 := hqq2 q1 _ zu_s
  have h1 : ν q1 = some (zAI D 4356 zIz) := by rw [hν]; exact zu_k zu_s (by omega)
  refine (show Z X ν 2 8712 (8 + 1 + 1 + 1 + 1 + 2) [some (.ref a), some (zi 1), some (zi 66), some (.ref q1), none, none, none, none, none, none, none, none, none, none, none, none, none] [.ref q2] → _ from fun h => by rw [hν] at h; exact h) ?_
  have loop : ∀ (n : Nat) (k : Int) (L7 : Option Value), k + n = 4356 → 0 ≤ k → Z X ν 2 8712 22 [some (.ref a), some (zi 1), some (zi 66), some (.ref q1), some (.ref q2), some (zi 0), some (zi k), L7, none, none, none, none, none, none, none, none, none] [] := by
    intro n
    induction n with
    | zero =>
      intro k L7 hn h0
      refine z_iload C dX7_parts_22 rfl ?_
      refine z_aload_n C dX7_parts_24 rfl ?_
      refine z_alen C h1 0 rfl dX7_parts_25 ?_
      refine z_icmp_ge (tgt := 279) C dX7_parts_26 (by decide) (fun _ => ?_) (fun hno => absurd hno (by omega))
      refine z_aload_n C dX7_parts_279 rfl ?_
      exact z_aret C E (Or.inr ⟨_, rfl⟩) dX7_parts_280 (Nat.le_of_ble_eq_true rfl) (Nat.le_of_ble_eq_true rfl) ⟨h1, hE⟩
    | succ n ih =>
      intro k L7 hn h0
      refine z_iload C dX7_parts_22 rfl ?_
      refine z_aload_n C dX7_parts_24 rfl ?_
      refine z_alen C h1 0 rfl dX7_parts_25 ?_
      refine z_icmp_ge (tgt := 279) C dX7_parts_26 (by decide) (fun hno => absurd hno (by omega)) (fun _ => ?_)
      refine z_aload_n C dX7_parts_29 rfl ?_
      refine z_iload C dX7_parts_30 rfl ?_
      refine z_iload_n C dX7_parts_32 rfl ?_
      refine z_iremP C dX7_parts_33 ?_
      refine z_bipush C dX7_parts_34 ?_
      refine z_iadd C dX7_parts_36 ?_
      refine z_iconst C dX7_parts_37 ?_
      refine z_isub C dX7_parts_38 ?_
      refine z_iload C dX7_parts_39 rfl ?_
      refine z_iload_n C dX7_parts_41 rfl ?_
      refine z_idivP C dX7_parts_42 ?_
      refine z_bipush C dX7_parts_43 ?_
      refine z_iadd C dX7_parts_45 ?_
      refine z_iconst C dX7_parts_46 ?_
      refine z_isub C dX7_parts_47 ?_
      refine z_ci C (z_rS C Rm qs_X7_has m_1129 (m_has0 (hE _ _ hA) (x := k % 66 + -32 - 1) (y := k / 66 + -32 - 1) (by omega) (by omega)) dX7_parts_48 rfl rfl (Nat.le_of_ble_eq_true rfl) rfl ⟨Nat.le_of_ble_eq_true rfl, Nat.le_of_ble_eq_true rfl, Nat.le_of_ble_eq_true rfl, Nat.le_of_ble_eq_true rfl⟩) (fun z μ5 hq5 => ?_)
      obtain ⟨rfl, rfl⟩ := hq5
      refine z_iload_n C dX7_parts_51 rfl ?_
      refine z_icmp_ne (tgt := 59) C dX7_parts_52 (by decide) (fun _ => ?_) (fun hno => absurd hno (by decide))
      refine z_iconst C dX7_parts_59 ?_
      refine z_istore (L' := [_, _, _, _, _, _, _, _, _, _, _, _, _, _, _, _, _]) C dX7_parts_60 rfl ?_
      refine z_iload C dX7_parts_62 rfl ?_
      refine z_if_eq (tgt := 273) C dX7_parts_64 (by decide) (fun _ => ?_) (fun hno => absurd hno (fun h => h rfl))
      refine z_iinc (L' := [_, _, _, _, _, _, _, _, _, _, _, _, _, _, _, _, _]) C dX7_parts_273 rfl rfl ?_
      refine z_goto (tgt := 22) C dX7_parts_276 (by decide) ?_
      exact ih (k + 1) _ (by omega) (by omega)
  refine z_astore (L' := [_, _, _, _, _, _, _, _, _, _, _, _, _, _, _, _, _]) C dX7_parts_14 rfl ?_
  refine z_iconst C dX7_parts_16 ?_
  refine z_istore (L' := [_, _, _, _, _, _, _, _, _, _, _, _, _, _, _, _, _]) C dX7_parts_17 rfl ?_
  refine z_iconst C dX7_parts_19 ?_
  refine z_istore (L' := [_, _, _, _, _, _, _, _, _, _, _, _, _, _, _, _, _]) C dX7_parts_20 rfl ?_
  exact loop 4356 0 _ (by omega) (by omega)
set_option maxRecDepth 100000 in
set_option maxHeartbeats 4000000 in
theorem m_pieces {l : Launch} {D : va_G} {N0 : Nat} {M : Nat} {μ : zM} (hM : isMo D μ M) {r : Int} (hr : zir r) : zMet l yX7_pieces cX7_pieces 2 (some .int) ({ frames := 6, cells := 4, slots := 16384, locals := 240 } : Room) D N0 [.ref M, zi r] μ (zQI D N0 (fun z u => ∃ t, (t = 0 ∧ z = 0 ∧ (0 ≤ r ∧ r < 8) ∧ (True) ∨ t = 1 ∧ ¬ (0 ≤ r ∧ r < 8) ∨ t = 2 ∧ (0 ≤ r ∧ r < 8) ∧ ¬ (True)) ∧ zMP M μ t u)) := by
  refine zMet_of rfl (Nat.le_of_ble_eq_true rfl) (fun X C Rm hin E => ?_)
  refine z_aload_n C dX7_pieces_0 rfl ?_
  refine z_iconst C dX7_pieces_1 ?_
  refine z_put C hM.obj rfl tyX7 tyX7_ok nmX7 0 (by decide) m_1010 inz7 rfl rfl (by rfl) (by rfl) (Nat.le_of_ble_eq_true rfl) dX7_pieces_2 ?_
  refine z_same hM.obj ?_
  refine z_iload_n C dX7_pieces_5 rfl ?_
  refine z_ci C (z_rS C Rm qs_X7_isRegion m_1067 (m_isRegion hr) dX7_pieces_6 rfl rfl (Nat.le_of_ble_eq_true rfl) rfl ⟨Nat.le_of_ble_eq_true rfl, Nat.le_of_ble_eq_true rfl, Nat.le_of_ble_eq_true rfl, Nat.le_of_ble_eq_true rfl⟩) (fun z μ1 hp => ?_)
  obtain ⟨hp, rfl⟩ := hp
  refine z_if_eq (tgt := 28) C dX7_pieces_9 (by decide) (fun h1 => ?_) (fun h1 => ?_)
  · refine z_aload_n C dX7_pieces_28 rfl ?_
    refine z_iconst C dX7_pieces_29 ?_
    refine z_ci C (z_rV C Rm qv_X7_no m_1047 (m_no hM.obj (k := 1)) hM.obj rfl dX7_pieces_30 rfl rfl (Nat.le_of_ble_eq_true rfl) rfl ⟨Nat.le_of_ble_eq_true rfl, Nat.le_of_ble_eq_true rfl, Nat.le_of_ble_eq_true rfl, Nat.le_of_ble_eq_true rfl⟩) (fun z2 μ2 hq => ?_)
    obtain ⟨rfl, rfl⟩ := hq
    exact z_iret C E dX7_pieces_33 (Nat.le_of_ble_eq_true rfl) (Nat.le_of_ble_eq_true rfl) ⟨1, Or.inr (Or.inl ⟨rfl, by omega⟩), zMP.of zu_s (zN.put zN.rf (by unfold zb; omega))⟩
  have h8 : 0 ≤ r ∧ r < 8 := by omega
  refine z_aload_n C dX7_pieces_12 rfl ?_
  refine z_get C hM.obj rfl 1 (by decide) m_1011 inz7 rfl rfl dX7_pieces_13 ?_
  refine z_iload_n C dX7_pieces_16 rfl ?_
  refine z_bald C hM.rows (by decide) (isMo.row_eq h8) dX7_pieces_17 ?_
  refine z_iconst C dX7_pieces_18 ?_
  refine z_cr C (z_rS C Rm qs_X7_parts m_1136 (m_parts1 (hM.row h8)) dX7_pieces_19 rfl rfl (Nat.le_of_ble_eq_true rfl) rfl ⟨Nat.le_of_ble_eq_true rfl, Nat.le_of_ble_eq_true rfl, Nat.le_of_ble_eq_true rfl, Nat.le_of_ble_eq_true rfl⟩) (fun q μ2 hq => ?_)
  refine z_ci C (z_rS C Rm qs_X7_most m_1142 (m_most hq.1 (fun i hi => rfl) (Or.inl rfl)) dX7_pieces_22 rfl rfl (Nat.le_of_ble_eq_true rfl) rfl ⟨Nat.le_of_ble_eq_true rfl, Nat.le_of_ble_eq_true rfl, Nat.le_of_ble_eq_true rfl, Nat.le_of_ble_eq_true rfl⟩) (fun z3 μ3 hq3 => ?_)
  refine z_goto (tgt := 33) C dX7_pieces_25 (by decide) ?_
  obtain ⟨rfl, rfl⟩ := hq3
  exact z_iret C E dX7_pieces_33 (Nat.le_of_ble_eq_true rfl) (Nat.le_of_ble_eq_true rfl) ⟨0, Or.inl ⟨rfl, rfl, h8, trivial⟩, zMP.of (hq.2 _ _ hM.obj) hq.2.n⟩
set_option maxRecDepth 100000 in
set_option maxHeartbeats 4000000 in
theorem m_keepPiece {l : Launch} {D : va_G} {N0 : Nat} {M : Nat} {μ : zM} (hM : isMo D μ M) {r : Int} (hr : zir r) {a b : Int} (ha : zir a) (hb : zir b) : zMet l yX7_keepPiece cX7_keepPiece 9 (some .int) ({ frames := 4, cells := 2, slots := 8192, locals := 160 } : Room) D N0 [.ref M, zi r, zi a, zi b] μ (zQI D N0 (fun z u => ∃ t, (t = 0 ∧ z = 0 ∧ (0 ≤ r ∧ r < 8) ∧ (True) ∨ t = 1 ∧ ¬ (0 ≤ r ∧ r < 8) ∨ t = 2 ∧ (0 ≤ r ∧ r < 8) ∧ ¬ (True)) ∧ zMP M μ t u)) := by
  refine zMet_of rfl (Nat.le_of_ble_eq_true rfl) (fun X C Rm hin E => ?_)
  refine z_aload_n C dX7_keepPiece_0 rfl ?_
  refine z_iconst C dX7_keepPiece_1 ?_
  refine z_put C hM.obj rfl tyX7 tyX7_ok nmX7 0 (by decide) m_1010 inz7 rfl rfl (by rfl) (by rfl) (Nat.le_of_ble_eq_true rfl) dX7_keepPiece_2 ?_
  refine z_same hM.obj ?_
  refine z_iload_n C dX7_keepPiece_5 rfl ?_
  refine z_ci C (z_rS C Rm qs_X7_isRegion m_1067 (m_isRegion hr) dX7_keepPiece_6 rfl rfl (Nat.le_of_ble_eq_true rfl) rfl ⟨Nat.le_of_ble_eq_true rfl, Nat.le_of_ble_eq_true rfl, Nat.le_of_ble_eq_true rfl, Nat.le_of_ble_eq_true rfl⟩) (fun z μ1 hp => ?_)
  obtain ⟨hp, rfl⟩ := hp
  refine z_if_ne (tgt := 18) C dX7_keepPiece_9 (by decide) (fun h1 => ?_) (fun h1 => ?_)
  rotate_left
  · refine z_aload_n C dX7_keepPiece_12 rfl ?_
    refine z_iconst C dX7_keepPiece_13 ?_
    refine z_ci C (z_rV C Rm qv_X7_no m_1047 (m_no hM.obj (k := 1)) hM.obj rfl dX7_keepPiece_14 rfl rfl (Nat.le_of_ble_eq_true rfl) rfl ⟨Nat.le_of_ble_eq_true rfl, Nat.le_of_ble_eq_true rfl, Nat.le_of_ble_eq_true rfl, Nat.le_of_ble_eq_true rfl⟩) (fun z2 μ2 hq => ?_)
    obtain ⟨rfl, rfl⟩ := hq
    exact z_iret C E dX7_keepPiece_17 (Nat.le_of_ble_eq_true rfl) (Nat.le_of_ble_eq_true rfl) ⟨1, Or.inr (Or.inl ⟨rfl, by omega⟩), zMP.of zu_s (zN.put zN.rf (by unfold zb; omega))⟩
  have h8 : 0 ≤ r ∧ r < 8 := by omega
  refine z_sipush C dX7_keepPiece_18 ?_
  refine z_newM C Rm hM dX7_keepPiece_21 (by decide) (fun q ν hM1 hq1 hqb hN1 => ?_)
  refine z_astore (L' := [_, _, _, _, _, _, _, _, _]) C dX7_keepPiece_23 rfl ?_
  refine z_aload_n C dX7_keepPiece_25 rfl ?_
  refine z_get C hM1.obj rfl 1 (by decide) m_1011 inz7 rfl rfl dX7_keepPiece_26 ?_
  refine z_iload_n C dX7_keepPiece_29 rfl ?_
  refine z_bald C hM1.rows (by decide) (isMo.row_eq h8) dX7_keepPiece_30 ?_
  refine z_iload_n C dX7_keepPiece_31 rfl ?_
  refine z_iload_n C dX7_keepPiece_32 rfl ?_
  refine z_ci C (z_rS C Rm qs_X7_has m_1129 (m_has0 (hM1.row h8) ha hb) dX7_keepPiece_33 rfl rfl (Nat.le_of_ble_eq_true rfl) rfl ⟨Nat.le_of_ble_eq_true rfl, Nat.le_of_ble_eq_true rfl, Nat.le_of_ble_eq_true rfl, Nat.le_of_ble_eq_true rfl⟩) (fun z3 μ3 hq3 => ?_)
  obtain ⟨rfl, rfl⟩ := hq3
  refine z_if_eq (tgt := 123) C dX7_keepPiece_36 (by decide) (fun _ => ?_) (fun hno => absurd hno (fun h => h rfl))
  refine z_aload_n C dX7_keepPiece_123 rfl ?_
  refine z_iload_n C dX7_keepPiece_124 rfl ?_
  refine z_aload C dX7_keepPiece_125 rfl ?_
  refine z_ci C (z_rV C Rm qv_X7_change m_1078 (m_change hM1 h8 hq1 (fun i => Or.inl rfl) (Or.inl hqb)) hM1.obj rfl dX7_keepPiece_127 rfl rfl (Nat.le_of_ble_eq_true rfl) rfl ⟨Nat.le_of_ble_eq_true rfl, Nat.le_of_ble_eq_true rfl, Nat.le_of_ble_eq_true rfl, Nat.le_of_ble_eq_true rfl⟩) (fun z3 μ4 hq3 => ?_)
  exact z_iret C E dX7_keepPiece_130 (Nat.le_of_ble_eq_true rfl) (Nat.le_of_ble_eq_true rfl) ⟨0, Or.inl ⟨rfl, hq3.1.trans (cntZ_z _), h8, trivial⟩, zMP.tr hN1 hq3.2⟩
