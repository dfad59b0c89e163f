/-! the reference's digest, that tells of the arrays which it makes -/
def zNw (D : va_G) (μ u : zM) (as : List Nat) : Prop := as.Nodup ∧ ∀ a, a ∈ as → (∀ (b : Nat) (e : va_E), μ b = some e → b < a) ∧ u a = some (zAZ D 16900 zIz)
theorem zNw.nil {D : va_G} {μ u : zM} : zNw D μ u [] := ⟨List.nodup_nil, fun a h => absurd h List.not_mem_nil⟩
theorem zNw.up {D : va_G} {μ ν u : zM} {as : List Nat} (h : zNw D μ ν as) (hE : zEx ν u) : zNw D μ u as := ⟨h.1, fun a ha => ⟨(h.2 a ha).1, hE _ _ (h.2 a ha).2⟩⟩
theorem zNw.cons {D : va_G} {μ ν u : zM} {as : List Nat} {a : Nat} (h : zNw D μ ν as) (hE : zEx μ ν) (hE2 : zEx ν u) (ha : ∀ (b : Nat) (e : va_E), ν b = some e → b < a) (hu : u a = some (zAZ D 16900 zIz)) : zNw D μ u (a :: as) := by
  refine ⟨List.nodup_cons.mpr ⟨fun hm => ?_, h.1⟩, fun x hx => ?_⟩
  · have := ha a _ (h.2 a hm).2
    omega
  · rcases List.mem_cons.mp hx with e | hx
    · subst e
      exact ⟨hE.lt ha, hu⟩
    · exact ⟨(h.2 x hx).1, hE2 _ _ (h.2 x hx).2⟩
set_option maxRecDepth 100000 in
set_option maxHeartbeats 4000000 in
theorem m_contoursNow2 {l : Launch} {D : va_G} {N0 : Nat} {M : Nat} {μ : zM} (hM : isMo D μ M) {r : Int} (h8 : 0 ≤ r ∧ r < 8) : zMet l yX7_contoursNow cX7_contoursNow 21 (some (.array .int)) ({ frames := 4, cells := 2, slots := 16964, locals := 160 } : Room) D N0 [.ref M, zi r] μ (zQR D N0 (fun q u => u q = some (zAI D 64 zIz) ∧ zEx μ u ∧ ∃ a, (∀ (b : Nat) (e : va_E), μ b = some e → b < a) ∧ u a = some (zAZ D 16900 zIz))) := by
  refine zMet_of rfl (Nat.le_of_ble_eq_true rfl) (fun X C Rm hin E => ?_)
  refine z_aload_n C dX7_contoursNow_0 rfl ?_
  refine z_get C hM.obj rfl 1 (by decide) m_1011 inz7 rfl rfl dX7_contoursNow_1 ?_
  refine z_iload_n C dX7_contoursNow_4 rfl ?_
  refine z_bald C hM.rows (by decide) (isMo.row_eq h8) dX7_contoursNow_5 ?_
  refine z_astore_n (L' := [_, _, _, _, _, _, _, _, _, _, _, _, _, _, _, _, _, _, _, _, _]) C dX7_contoursNow_6 rfl ?_
  refine z_sipush C dX7_contoursNow_7 ?_
  refine z_newZ C Rm (by decide) m_1035 dX7_contoursNow_10 (by decide) (fun q1 hNq1 hqq1 => ?_)
  refine z_astore_n (L' := [_, _, _, _, _, _, _, _, _, _, _, _, _, _, _, _, _, _, _, _, _]) C dX7_contoursNow_12 rfl ?_
  refine z_bipush C dX7_contoursNow_13 ?_
  refine z_newI C Rm (by decide) m_105 dX7_contoursNow_15 (by decide) (fun q2 hNq2 hqq2 => ?_)
  obtain ⟨ν, hν⟩ : ∃ ν, ν = zu (zu μ q1 (zAZ D 16900 zIz)) q2 (zAI D 64 zIz) := ⟨_, rfl⟩
  have hE : zEx μ ν := by rw [hν]; exact (zEx.rf.own hqq1).own (fun b e hb => hqq2 b e (zu_k hb (by have := hqq1 b e hb; omega)))
  have h2 : ν q2 = some (zAI D 64 zIz) := by rw [hν]; exact zu_s
  have h1 : ν q1 = some (zAZ D 16900 zIz) := by rw [hν]; exact zu_k zu_s (by have := hqq2 _ _ zu_s; omega)
  have hA : ν (M + 2 + r.toNat) = some (zAZ D 4096 zIz) := hE _ _ (hM.row h8)
  refine (show Z X ν 2 16964 (12 + 1 + 2 + 2) [some (.ref M), some (zi r), some (.ref (M + 2 + r.toNat)), some (.ref q1), none, none, none, none, none, none, none, none, none, none, none, none, none, none, none, none, none] [.ref q2] → _ from fun h => by rw [hν] at h; exact h) ?_
  have grid : ∀ (n : Nat) (y : Int) (Lx L8 L9 : Option Value), y + n = 33 → -32 ≤ y → Z X ν 2 16964 26 [some (.ref M), some (zi r), some (.ref (M + 2 + r.toNat)), some (.ref q1), some (.ref q2), some (zi 1), some (zi y), Lx, L8, L9, none, none, none, none, none, none, none, none, none, none, none] [] := by
    intro n
    induction n with
    | zero =>
      intro y Lx L8 L9 hn h0
      refine z_iload C dX7_contoursNow_26 rfl ?_
      refine z_bipush C dX7_contoursNow_28 ?_
      refine z_icmp_gt (tgt := 432) C dX7_contoursNow_30 (by decide) (fun _ => ?_) (fun hno => absurd hno (by omega))
      refine z_aload C dX7_contoursNow_432 rfl ?_
      exact z_aret C E (Or.inr ⟨_, rfl⟩) dX7_contoursNow_434 (Nat.le_of_ble_eq_true rfl) (Nat.le_of_ble_eq_true rfl) ⟨h2, hE, q1, hqq1, h1⟩
    | succ n ih =>
      intro y Lx L8 L9 hn h0
      have row : ∀ (j : Nat) (x : Int) (L8 L9 : Option Value), x + j = 33 → -32 ≤ x → Z X ν 2 16964 37 [some (.ref M), some (zi r), some (.ref (M + 2 + r.toNat)), some (.ref q1), some (.ref q2), some (zi 1), some (zi y), some (zi x), L8, L9, none, none, none, none, none, none, none, none, none, none, none] [] := by
        intro j
        induction j with
        | zero =>
          intro x L8 L9 hj hx
          refine z_iload C dX7_contoursNow_37 rfl ?_
          refine z_bipush C dX7_contoursNow_39 ?_
          refine z_icmp_gt (tgt := 426) C dX7_contoursNow_41 (by decide) (fun _ => ?_) (fun hno => absurd hno (by omega))
          refine z_iinc (L' := [_, _, _, _, _, _, _, _, _, _, _, _, _, _, _, _, _, _, _, _, _]) C dX7_contoursNow_426 rfl rfl ?_
          refine z_goto (tgt := 26) C dX7_contoursNow_429 (by decide) ?_
          exact ih (y + 1) _ _ _ (by omega) (by omega)
        | succ j ih2 =>
          intro x L8 L9 hj hx
          refine z_iload C dX7_contoursNow_37 rfl ?_
          refine z_bipush C dX7_contoursNow_39 ?_
          refine z_icmp_gt (tgt := 426) C dX7_contoursNow_41 (by decide) (fun hno => absurd hno (by omega)) (fun _ => ?_)
          refine z_iconst C dX7_contoursNow_44 ?_
          refine z_istore (L' := [_, _, _, _, _, _, _, _, _, _, _, _, _, _, _, _, _, _, _, _, _]) C dX7_contoursNow_45 rfl ?_
          refine z_iload C dX7_contoursNow_47 rfl ?_
          refine z_iconst C dX7_contoursNow_49 ?_
          refine z_icmp_ge (tgt := 420) C dX7_contoursNow_50 (by decide) (fun hno => absurd hno (by omega)) (fun _ => ?_)
          refine z_iload C dX7_contoursNow_53 rfl ?_
          refine z_bipush C dX7_contoursNow_55 ?_
          refine z_isub C dX7_contoursNow_57 ?_
          refine z_bipush C dX7_contoursNow_58 ?_
          refine z_imul C dX7_contoursNow_60 ?_
          refine z_iload C dX7_contoursNow_61 rfl ?_
          refine z_iadd C dX7_contoursNow_63 ?_
          refine z_bipush C dX7_contoursNow_64 ?_
          refine z_isub C dX7_contoursNow_66 ?_
          refine z_iconst C dX7_contoursNow_67 ?_
          refine z_imul C dX7_contoursNow_68 ?_
          refine z_iload C dX7_contoursNow_69 rfl ?_
          refine z_iadd C dX7_contoursNow_71 ?_
          refine z_istore (L' := [_, _, _, _, _, _, _, _, _, _, _, _, _, _, _, _, _, _, _, _, _]) C dX7_contoursNow_72 rfl ?_
          refine z_aload_n C dX7_contoursNow_74 rfl ?_
          refine z_iload C dX7_contoursNow_75 rfl ?_
          refine z_iload C dX7_contoursNow_77 rfl ?_
          refine z_iload C dX7_contoursNow_79 rfl ?_
          refine z_ci C (z_rS C Rm qs_X7_isEdge m_1201 (m_isEdge0 hA (x := x) (y := y) (by omega) (by omega) (Or.inl rfl)) dX7_contoursNow_81 rfl rfl (Nat.le_of_ble_eq_true rfl) rfl ⟨Nat.le_of_ble_eq_true rfl, Nat.le_of_ble_eq_true rfl, Nat.le_of_ble_eq_true rfl, Nat.le_of_ble_eq_true rfl⟩) (fun z μ5 hq5 => ?_)
          obtain ⟨rfl, rfl⟩ := hq5
          refine z_if_eq (tgt := 414) C dX7_contoursNow_84 (by decide) (fun _ => ?_) (fun hno => absurd hno (fun h => h rfl))
          refine z_iinc (L' := [_, _, _, _, _, _, _, _, _, _, _, _, _, _, _, _, _, _, _, _, _]) C dX7_contoursNow_414 rfl rfl ?_
          refine z_goto (tgt := 47) C dX7_contoursNow_417 (by decide) ?_
          refine z_iload C dX7_contoursNow_47 rfl ?_
          refine z_iconst C dX7_contoursNow_49 ?_
          refine z_icmp_ge (tgt := 420) C dX7_contoursNow_50 (by decide) (fun hno => absurd hno (by omega)) (fun _ => ?_)
          refine z_iload C dX7_contoursNow_53 rfl ?_
          refine z_bipush C dX7_contoursNow_55 ?_
          refine z_isub C dX7_contoursNow_57 ?_
          refine z_bipush C dX7_contoursNow_58 ?_
          refine z_imul C dX7_contoursNow_60 ?_
          refine z_iload C dX7_contoursNow_61 rfl ?_
          refine z_iadd C dX7_contoursNow_63 ?_
          refine z_bipush C dX7_contoursNow_64 ?_
          refine z_isub C dX7_contoursNow_66 ?_
          refine z_iconst C dX7_contoursNow_67 ?_
          refine z_imul C dX7_contoursNow_68 ?_
          refine z_iload C dX7_contoursNow_69 rfl ?_
          refine z_iadd C dX7_contoursNow_71 ?_
          refine z_istore (L' := [_, _, _, _, _, _, _, _, _, _, _, _, _, _, _, _, _, _, _, _, _]) C dX7_contoursNow_72 rfl ?_
          refine z_aload_n C dX7_contoursNow_74 rfl ?_
          refine z_iload C dX7_contoursNow_75 rfl ?_
          refine z_iload C dX7_contoursNow_77 rfl ?_
          refine z_iload C dX7_contoursNow_79 rfl ?_
          refine z_ci C (z_rS C Rm qs_X7_isEdge m_1201 (m_isEdge0 hA (x := x) (y := y) (by omega) (by omega) (Or.inr rfl)) dX7_contoursNow_81 rfl rfl (Nat.le_of_ble_eq_true rfl) rfl ⟨Nat.le_of_ble_eq_true rfl, Nat.le_of_ble_eq_true rfl, Nat.le_of_ble_eq_true rfl, Nat.le_of_ble_eq_true rfl⟩) (fun z μ5 hq5 => ?_)
          obtain ⟨rfl, rfl⟩ := hq5
          refine z_if_eq (tgt := 414) C dX7_contoursNow_84 (by decide) (fun _ => ?_) (fun hno => absurd hno (fun h => h rfl))
          refine z_iinc (L' := [_, _, _, _, _, _, _, _, _, _, _, _, _, _, _, _, _, _, _, _, _]) C dX7_contoursNow_414 rfl rfl ?_
          refine z_goto (tgt := 47) C dX7_contoursNow_417 (by decide) ?_
          refine z_iload C dX7_contoursNow_47 rfl ?_
          refine z_iconst C dX7_contoursNow_49 ?_
          refine z_icmp_ge (tgt := 420) C dX7_contoursNow_50 (by decide) (fun _ => ?_) (fun hno => absurd hno (by omega))
          refine z_iinc (L' := [_, _, _, _, _, _, _, _, _, _, _, _, _, _, _, _, _, _, _, _, _]) C dX7_contoursNow_420 rfl rfl ?_
          refine z_goto (tgt := 37) C dX7_contoursNow_423 (by decide) ?_
          exact ih2 (x + 1) _ _ (by omega) (by omega)
      refine z_iload C dX7_contoursNow_26 rfl ?_
      refine z_bipush C dX7_contoursNow_28 ?_
      refine z_icmp_gt (tgt := 432) C dX7_contoursNow_30 (by decide) (fun hno => absurd hno (by omega)) (fun _ => ?_)
      refine z_bipush C dX7_contoursNow_33 ?_
      refine z_istore (L' := [_, _, _, _, _, _, _, _, _, _, _, _, _, _, _, _, _, _, _, _, _]) C dX7_contoursNow_35 rfl ?_
      exact row 65 (-32) _ _ (by omega) (by omega)
  refine z_astore (L' := [_, _, _, _, _, _, _, _, _, _, _, _, _, _, _, _, _, _, _, _, _]) C dX7_contoursNow_17 rfl ?_
  refine z_iconst C dX7_contoursNow_19 ?_
  refine z_istore (L' := [_, _, _, _, _, _, _, _, _, _, _, _, _, _, _, _, _, _, _, _, _]) C dX7_contoursNow_20 rfl ?_
  refine z_bipush C dX7_contoursNow_22 ?_
  refine z_istore (L' := [_, _, _, _, _, _, _, _, _, _, _, _, _, _, _, _, _, _, _, _, _]) C dX7_contoursNow_24 rfl ?_
  exact grid 65 (-32) _ _ _ (by omega) (by omega)
set_option maxRecDepth 100000 in
set_option maxHeartbeats 4000000 in
theorem m_digest2 {l : Launch} {D : va_G} {N0 : Nat} {M : Nat} {μ : zM} (hM : isMo D μ M) : zMet l yX7_digest cX7_digest 7 (some .long) ({ frames := 6, cells := 56, slots := 275616, locals := 240 } : Room) D N0 [.ref M] μ (zQL D N0 (fun z u => z = zmz (zdg 8) ∧ zEx μ u ∧ ∃ as : List Nat, as.length = 8 ∧ zNw D μ u as)) := by
  refine zMet_of rfl (Nat.le_of_ble_eq_true rfl) (fun X C Rm hin E => ?_)
  refine z_aload_n C dX7_digest_0 rfl ?_
  refine z_iconst C dX7_digest_1 ?_
  refine z_put C hM.obj rfl tyX7 tyX7_ok nmX7 0 (by decide) m_1010 inz7 rfl rfl (by rfl) (by rfl) (Nat.le_of_ble_eq_true rfl) dX7_digest_2 ?_
  refine z_same hM.obj ?_
  refine z_ldc2 C m_1287 dX7_digest_5 ?_
  refine z_aload_n C dX7_digest_8 rfl ?_
  refine z_get C hM.obj rfl 4 (by decide) m_1014 inz7 rfl rfl dX7_digest_9 ?_
  refine z_i2l C dX7_digest_12 ?_
  refine z_ladd C dX7_digest_13 ?_
  refine z_lstore_n (L' := [_, _, _, _, _, _, _]) C dX7_digest_14 rfl ?_
  refine z_iconst C dX7_digest_15 ?_
  refine z_istore_n (L' := [_, _, _, _, _, _, _]) C dX7_digest_16 rfl ?_
  have loop : ∀ (n i : Nat) (k : Int) (d : Int64) (L4 L5 L6 : Option Value) (ν : zM), i + n = 8 → k = (i : Int) → d = zdg i → isMo D ν M → zEx μ ν → (∃ as : List Nat, as.length = i ∧ zNw D μ ν as) → Z X ν (7 * i) (34452 * i) 17 [some (.ref M), some (.long d), none, some (zi k), L4, L5, L6] [] := by
    intro n
    induction n with
    | zero =>
      intro i k d L4 L5 L6 ν hn hk hd hM1 hE hW
      refine z_iload_n C dX7_digest_17 rfl ?_
      refine z_bipush C dX7_digest_18 ?_
      refine z_icmp_ge (tgt := 255) C dX7_digest_20 (by decide) (fun _ => ?_) (fun hno => absurd hno (by omega))
      refine z_lload_n C dX7_digest_255 rfl ?_
      refine z_ldc2 C m_1288 dX7_digest_256 ?_
      refine z_lmul C dX7_digest_259 ?_
      refine z_aload_n C dX7_digest_260 rfl ?_
      refine z_get C hM1.obj rfl 5 (by decide) m_1015 inz7 rfl rfl dX7_digest_261 ?_
      refine z_i2l C dX7_digest_264 ?_
      refine z_ladd C dX7_digest_265 ?_
      refine z_up (kc' := 56) (kn' := 275616) (by omega) (by omega) ?_
      exact z_lret C E dX7_digest_266 (Nat.le_of_ble_eq_true rfl) (Nat.le_of_ble_eq_true rfl) ⟨by rw [hd, show i = 8 by omega]; rfl, hE, by obtain ⟨as, h1, h2⟩ := hW; exact ⟨as, by omega, h2⟩⟩
    | succ n ih =>
      intro i k d L4 L5 L6 ν hn hk hd hM1 hE hW
      have h8 : 0 ≤ k ∧ k < 8 := by omega
      refine z_iload_n C dX7_digest_17 rfl ?_
      refine z_bipush C dX7_digest_18 ?_
      refine z_icmp_ge (tgt := 255) C dX7_digest_20 (by decide) (fun hno => absurd hno (by omega)) (fun _ => ?_)
      refine z_lload_n C dX7_digest_23 rfl ?_
      refine z_ldc2 C m_1288 dX7_digest_24 ?_
      refine z_lmul C dX7_digest_27 ?_
      refine z_aload_n C dX7_digest_28 rfl ?_
      refine z_get C hM1.obj rfl 1 (by decide) m_1011 inz7 rfl rfl dX7_digest_29 ?_
      refine z_iload_n C dX7_digest_32 rfl ?_
      refine z_bald C hM1.rows (by decide) (isMo.row_eq h8) dX7_digest_33 ?_
      refine z_ci C (z_rS C Rm qs_X7_areaOf m_1085 (m_area (hM1.row h8) (fun i => Or.inl rfl)) dX7_digest_34 rfl rfl (Nat.le_of_ble_eq_true rfl) rfl ⟨Nat.le_of_ble_eq_true rfl, Nat.le_of_ble_eq_true rfl, by (try dsimp only); omega, by (try dsimp only); omega⟩) (fun z μ3 hq3 => ?_)
      obtain ⟨rfl, rfl⟩ := hq3
      rw [cntZ_z]
      refine z_i2l C dX7_digest_37 ?_
      refine z_ladd C dX7_digest_38 ?_
      refine z_ldc2 C m_1288 dX7_digest_39 ?_
      refine z_lmul C dX7_digest_42 ?_
      refine z_aload_n C dX7_digest_43 rfl ?_
      refine z_iload_n C dX7_digest_44 rfl ?_
      refine z_ci C (z_rV C Rm qv_X7_edgesNow m_1165 (m_edgesNow hM1 h8) hM1.obj rfl dX7_digest_45 rfl rfl (Nat.le_of_ble_eq_true rfl) rfl ⟨Nat.le_of_ble_eq_true rfl, Nat.le_of_ble_eq_true rfl, by (try dsimp only); omega, by (try dsimp only); omega⟩) (fun z μ3 hq3 => ?_)
      obtain ⟨rfl, rfl⟩ := hq3
      refine z_i2l C dX7_digest_48 ?_
      refine z_ladd C dX7_digest_49 ?_
      refine z_ldc2 C m_1288 dX7_digest_50 ?_
      refine z_lmul C dX7_digest_53 ?_
      refine z_aload_n C dX7_digest_54 rfl ?_
      refine z_get C hM1.obj rfl 1 (by decide) m_1011 inz7 rfl rfl dX7_digest_55 ?_
      refine z_iload_n C dX7_digest_58 rfl ?_
      refine z_bald C hM1.rows (by decide) (isMo.row_eq h8) dX7_digest_59 ?_
      refine z_iconst C dX7_digest_60 ?_
      refine z_cr C (z_rS C Rm qs_X7_parts m_1136 (m_parts1 (hM1.row h8)) dX7_digest_61 rfl rfl (Nat.le_of_ble_eq_true rfl) rfl ⟨Nat.le_of_ble_eq_true rfl, Nat.le_of_ble_eq_true rfl, by (try dsimp only); omega, by (try dsimp only); omega⟩) (fun q ν2 hq2 => ?_)
      have hM2 := hq2.2.mo hM1
      refine z_ci C (z_rS C Rm qs_X7_most m_1142 (m_most hq2.1 (fun i hi => rfl) (Or.inl rfl)) dX7_digest_64 rfl rfl (Nat.le_of_ble_eq_true rfl) rfl ⟨Nat.le_of_ble_eq_true rfl, Nat.le_of_ble_eq_true rfl, by (try dsimp only); omega, by (try dsimp only); omega⟩) (fun z μ3 hq3 => ?_)
      obtain ⟨rfl, rfl⟩ := hq3
      refine z_i2l C dX7_digest_67 ?_
      refine z_ladd C dX7_digest_68 ?_
      refine z_ldc2 C m_1288 dX7_digest_69 ?_
      refine z_lmul C dX7_digest_72 ?_
      refine z_aload_n C dX7_digest_73 rfl ?_
      refine z_iload_n C dX7_digest_74 rfl ?_
      refine z_ci C (z_rV C Rm qv_X7_holesNow m_1177 (m_holesNow hM2 h8) hM2.obj rfl dX7_digest_75 rfl rfl (Nat.le_of_ble_eq_true rfl) rfl ⟨Nat.le_of_ble_eq_true rfl, Nat.le_of_ble_eq_true rfl, by (try dsimp only); omega, by (try dsimp only); omega⟩) (fun z ν3 hq3 => ?_)
      obtain ⟨rfl, hE3⟩ := hq3
      have hM3 := hE3.mo hM2
      refine z_i2l C dX7_digest_78 ?_
      refine z_ladd C dX7_digest_79 ?_
      refine z_lstore_n (L' := [_, _, _, _, _, _, _]) C dX7_digest_80 rfl ?_
      refine z_iconst C dX7_digest_81 ?_
      refine z_istore (L' := [_, _, _, _, _, _, _]) C dX7_digest_82 rfl ?_
      refine z_iload C dX7_digest_84 rfl ?_
      refine z_iconst C dX7_digest_86 ?_
      refine z_icmp_ge (tgt := 111) C dX7_digest_87 (by decide) (fun hno => absurd hno (by omega)) (fun _ => ?_)
      refine z_lload_n C dX7_digest_90 rfl ?_
      refine z_ldc2 C m_1288 dX7_digest_91 ?_
      refine z_lmul C dX7_digest_94 ?_
      refine z_aload_n C dX7_digest_95 rfl ?_
      refine z_iload_n C dX7_digest_96 rfl ?_
      refine z_iload C dX7_digest_97 rfl ?_
      refine z_ci C (z_rV C Rm qv_X7_boundNow m_1189 (m_boundNow hM3 h8) hM3.obj rfl dX7_digest_99 rfl rfl (Nat.le_of_ble_eq_true rfl) rfl ⟨Nat.le_of_ble_eq_true rfl, Nat.le_of_ble_eq_true rfl, by (try dsimp only); omega, by (try dsimp only); omega⟩) (fun z μ3 hq3 => ?_)
      obtain ⟨rfl, rfl⟩ := hq3
      refine z_i2l C dX7_digest_102 ?_
      refine z_ladd C dX7_digest_103 ?_
      refine z_lstore_n (L' := [_, _, _, _, _, _, _]) C dX7_digest_104 rfl ?_
      refine z_iinc (L' := [_, _, _, _, _, _, _]) C dX7_digest_105 rfl rfl ?_
      refine z_goto (tgt := 84) C dX7_digest_108 (by decide) ?_
      refine z_iload C dX7_digest_84 rfl ?_
      refine z_iconst C dX7_digest_86 ?_
      refine z_icmp_ge (tgt := 111) C dX7_digest_87 (by decide) (fun hno => absurd hno (by omega)) (fun _ => ?_)
      refine z_lload_n C dX7_digest_90 rfl ?_
      refine z_ldc2 C m_1288 dX7_digest_91 ?_
      refine z_lmul C dX7_digest_94 ?_
      refine z_aload_n C dX7_digest_95 rfl ?_
      refine z_iload_n C dX7_digest_96 rfl ?_
      refine z_iload C dX7_digest_97 rfl ?_
      refine z_ci C (z_rV C Rm qv_X7_boundNow m_1189 (m_boundNow hM3 h8) hM3.obj rfl dX7_digest_99 rfl rfl (Nat.le_of_ble_eq_true rfl) rfl ⟨Nat.le_of_ble_eq_true rfl, Nat.le_of_ble_eq_true rfl, by (try dsimp only); omega, by (try dsimp only); omega⟩) (fun z μ3 hq3 => ?_)
      obtain ⟨rfl, rfl⟩ := hq3
      refine z_i2l C dX7_digest_102 ?_
      refine z_ladd C dX7_digest_103 ?_
      refine z_lstore_n (L' := [_, _, _, _, _, _, _]) C dX7_digest_104 rfl ?_
      refine z_iinc (L' := [_, _, _, _, _, _, _]) C dX7_digest_105 rfl rfl ?_
      refine z_goto (tgt := 84) C dX7_digest_108 (by decide) ?_
      refine z_iload C dX7_digest_84 rfl ?_
      refine z_iconst C dX7_digest_86 ?_
      refine z_icmp_ge (tgt := 111) C dX7_digest_87 (by decide) (fun hno => absurd hno (by omega)) (fun _ => ?_)
      refine z_lload_n C dX7_digest_90 rfl ?_
      refine z_ldc2 C m_1288 dX7_digest_91 ?_
      refine z_lmul C dX7_digest_94 ?_
      refine z_aload_n C dX7_digest_95 rfl ?_
      refine z_iload_n C dX7_digest_96 rfl ?_
      refine z_iload C dX7_digest_97 rfl ?_
      refine z_ci C (z_rV C Rm qv_X7_boundNow m_1189 (m_boundNow hM3 h8) hM3.obj rfl dX7_digest_99 rfl rfl (Nat.le_of_ble_eq_true rfl) rfl ⟨Nat.le_of_ble_eq_true rfl, Nat.le_of_ble_eq_true rfl, by (try dsimp only); omega, by (try dsimp only); omega⟩) (fun z μ3 hq3 => ?_)
      obtain ⟨rfl, rfl⟩ := hq3
      refine z_i2l C dX7_digest_102 ?_
      refine z_ladd C dX7_digest_103 ?_
      refine z_lstore_n (L' := [_, _, _, _, _, _, _]) C dX7_digest_104 rfl ?_
      refine z_iinc (L' := [_, _, _, _, _, _, _]) C dX7_digest_105 rfl rfl ?_
      refine z_goto (tgt := 84) C dX7_digest_108 (by decide) ?_
      refine z_iload C dX7_digest_84 rfl ?_
      refine z_iconst C dX7_digest_86 ?_
      refine z_icmp_ge (tgt := 111) C dX7_digest_87 (by decide) (fun hno => absurd hno (by omega)) (fun _ => ?_)
      refine z_lload_n C dX7_digest_90 rfl ?_
      refine z_ldc2 C m_1288 dX7_digest_91 ?_
      refine z_lmul C dX7_digest_94 ?_
      refine z_aload_n C dX7_digest_95 rfl ?_
      refine z_iload_n C dX7_digest_96 rfl ?_
      refine z_iload C dX7_digest_97 rfl ?_
      refine z_ci C (z_rV C Rm qv_X7_boundNow m_1189 (m_boundNow hM3 h8) hM3.obj rfl dX7_digest_99 rfl rfl (Nat.le_of_ble_eq_true rfl) rfl ⟨Nat.le_of_ble_eq_true rfl, Nat.le_of_ble_eq_true rfl, by (try dsimp only); omega, by (try dsimp only); omega⟩) (fun z μ3 hq3 => ?_)
      obtain ⟨rfl, rfl⟩ := hq3
      refine z_i2l C dX7_digest_102 ?_
      refine z_ladd C dX7_digest_103 ?_
      refine z_lstore_n (L' := [_, _, _, _, _, _, _]) C dX7_digest_104 rfl ?_
      refine z_iinc (L' := [_, _, _, _, _, _, _]) C dX7_digest_105 rfl rfl ?_
      refine z_goto (tgt := 84) C dX7_digest_108 (by decide) ?_
      refine z_iload C dX7_digest_84 rfl ?_
      refine z_iconst C dX7_digest_86 ?_
      refine z_icmp_ge (tgt := 111) C dX7_digest_87 (by decide) (fun _ => ?_) (fun hno => absurd hno (by omega))
      refine z_aload_n C dX7_digest_111 rfl ?_
      refine z_iload_n C dX7_digest_112 rfl ?_
      refine z_cr C (z_rV C Rm qv_X7_contoursNow m_1197 (m_contoursNow2 hM3 h8) hM3.obj rfl dX7_digest_113 rfl rfl (Nat.le_of_ble_eq_true rfl) rfl ⟨Nat.le_of_ble_eq_true rfl, Nat.le_of_ble_eq_true rfl, by (try dsimp only); omega, by (try dsimp only); omega⟩) (fun q4 ν4 hq4 => ?_)
      refine z_astore (L' := [_, _, _, _, _, _, _]) C dX7_digest_116 rfl ?_
      refine z_lload_n C dX7_digest_118 rfl ?_
      refine z_ldc2 C m_1288 dX7_digest_119 ?_
      refine z_lmul C dX7_digest_122 ?_
      refine z_aload C dX7_digest_123 rfl ?_
      refine z_iconst C dX7_digest_125 ?_
      refine z_iald C hq4.1 (by decide) dX7_digest_126 ?_
      rw [show zIz (0 : Int).toNat = 0 from rfl]
      have hM4 := hq4.2.1.mo hM3
      refine z_i2l C dX7_digest_127 ?_
      refine z_ladd C dX7_digest_128 ?_
      refine z_lstore_n (L' := [_, _, _, _, _, _, _]) C dX7_digest_129 rfl ?_
      refine z_iconst C dX7_digest_130 ?_
      refine z_istore (L' := [_, _, _, _, _, _, _]) C dX7_digest_131 rfl ?_
      refine z_iload C dX7_digest_133 rfl ?_
      refine z_aload C dX7_digest_135 rfl ?_
      refine z_iconst C dX7_digest_137 ?_
      refine z_iald C hq4.1 (by decide) dX7_digest_138 ?_
      rw [show zIz (0 : Int).toNat = 0 from rfl]
      refine z_icmp_ge (tgt := 209) C dX7_digest_139 (by decide) (fun _ => ?_) (fun hno => absurd hno (by omega))
      refine z_aload_n C dX7_digest_209 rfl ?_
      refine z_iload_n C dX7_digest_210 rfl ?_
      refine z_cr C (z_rV C Rm qv_X7_stripsNow m_1245 (m_stripsNow hM4 h8) hM4.obj rfl dX7_digest_211 rfl rfl (Nat.le_of_ble_eq_true rfl) rfl ⟨Nat.le_of_ble_eq_true rfl, Nat.le_of_ble_eq_true rfl, by (try dsimp only); omega, by (try dsimp only); omega⟩) (fun q5 ν5 hq5 => ?_)
      refine z_astore (L' := [_, _, _, _, _, _, _]) C dX7_digest_214 rfl ?_
      refine z_iconst C dX7_digest_216 ?_
      refine z_istore (L' := [_, _, _, _, _, _, _]) C dX7_digest_217 rfl ?_
      refine z_iload C dX7_digest_219 rfl ?_
      refine z_iconst C dX7_digest_221 ?_
      refine z_aload C dX7_digest_222 rfl ?_
      refine z_iconst C dX7_digest_224 ?_
      refine z_iald C hq5.1 (by decide) dX7_digest_225 ?_
      rw [show zIz (0 : Int).toNat = 0 from rfl]
      have hM5 := hq5.2.mo hM4
      refine z_imul C dX7_digest_226 ?_
      refine z_icmp_gt (tgt := 249) C dX7_digest_227 (by decide) (fun hno => absurd hno (by omega)) (fun _ => ?_)
      refine z_lload_n C dX7_digest_230 rfl ?_
      refine z_ldc2 C m_1288 dX7_digest_231 ?_
      refine z_lmul C dX7_digest_234 ?_
      refine z_aload C dX7_digest_235 rfl ?_
      refine z_iload C dX7_digest_237 rfl ?_
      refine z_iald C hq5.1 (by decide) dX7_digest_239 ?_
      rw [show zIz (0 : Int).toNat = 0 from rfl]
      refine z_i2l C dX7_digest_240 ?_
      refine z_ladd C dX7_digest_241 ?_
      refine z_lstore_n (L' := [_, _, _, _, _, _, _]) C dX7_digest_242 rfl ?_
      refine z_iinc (L' := [_, _, _, _, _, _, _]) C dX7_digest_243 rfl rfl ?_
      refine z_goto (tgt := 219) C dX7_digest_246 (by decide) ?_
      refine z_iload C dX7_digest_219 rfl ?_
      refine z_iconst C dX7_digest_221 ?_
      refine z_aload C dX7_digest_222 rfl ?_
      refine z_iconst C dX7_digest_224 ?_
      refine z_iald C hq5.1 (by decide) dX7_digest_225 ?_
      rw [show zIz (0 : Int).toNat = 0 from rfl]
      refine z_imul C dX7_digest_226 ?_
      refine z_icmp_gt (tgt := 249) C dX7_digest_227 (by decide) (fun _ => ?_) (fun hno => absurd hno (by omega))
      refine z_iinc (L' := [_, _, _, _, _, _, _]) C dX7_digest_249 rfl rfl ?_
      refine z_goto (tgt := 17) C dX7_digest_252 (by decide) ?_
      refine z_up (kc' := 7 * (i + 1)) (kn' := 34452 * (i + 1)) (by (try dsimp only); omega) (by (try dsimp only); omega) (ih (i + 1) (k + 1) _ _ _ _ _ (by omega) (by omega) ?_ hM5 (hE.tr (((hq2.2.tr hE3).tr hq4.2.1).tr hq5.2)) ?_)
      · rw [hd]
        rfl
      · obtain ⟨as, h1, h2⟩ := hW
        obtain ⟨a, ha, hu⟩ := hq4.2.2
        exact ⟨a :: as, by rw [List.length_cons, h1], (h2.up (hq2.2.tr hE3)).cons (hE.tr (hq2.2.tr hE3)) (hq4.2.1.tr hq5.2) ha (hq5.2 _ _ hu)⟩
  exact loop 8 0 0 _ _ _ _ _ (by omega) rfl (by decide) hM zEx.rf ⟨[], rfl, zNw.nil⟩
