/-! the constructors -/
set_option maxRecDepth 100000 in
set_option maxHeartbeats 4000000 in
theorem i_F {l : Launch} {D : va_G} {N0 : Nat} {o : Nat} {μ : zM} (hm : μ o = some (.inr (0, [.null]))) : zMetS l yX0_init cX0_init 1 ({ frames := 1, cells := 1, slots := 64, locals := 40 } : Room) D N0 [.ref o] μ (o + 1) (zQVS D N0 (o + 1 + 1) (fun u => isF D u o zF ∧ zO (zb o 2) μ u)) := by
  refine zMetS_of rfl (Nat.le_of_ble_eq_true rfl) (fun X C Rm hin E => ?_)
  refine s_aload_n C dX0_init_0 rfl ?_
  refine s_objInit C Rm m_68 m_60 m_61 dX0_init_1 rfl ⟨Nat.le_of_ble_eq_true rfl, Nat.le_of_ble_eq_true rfl⟩ ?_
  refine s_aload_n C dX0_init_4 rfl ?_
  refine s_bipush C dX0_init_5 ?_
  refine s_newJ C Rm (by decide) m_73 dX0_init_7 (by decide) (fun hq7 => ?_)
  refine s_putF C (zu_k hm (by omega)) rfl tyX0 tyX0_ok nmX0 0 (by decide) m_69 inz0 rfl rfl hin rfl (by rfl) (by rfl) (Nat.le_of_ble_eq_true rfl) dX0_init_9 ?_
  exact s_vret C E dX0_init_12 (Nat.le_of_ble_eq_true rfl) (Nat.le_of_ble_eq_true rfl) ⟨⟨zu_s, zu_k zu_s (by omega)⟩, zO.zu (zO.zu zO.rf (by unfold zb; omega)) (by unfold zb; omega)⟩
set_option maxRecDepth 100000 in
set_option maxHeartbeats 4000000 in
theorem i_Pen {l : Launch} {D : va_G} {N0 : Nat} {a : Nat} {μ : zM} (hm : μ a = some (.inr (4, [.null, .null, zi 0, zi 0, zi 0, zi 0, zi 0, .null]))) : zMetS l yX4_init cX4_init 1 ({ frames := 1, cells := 3, slots := 184, locals := 40 } : Room) D N0 [.ref a] μ (a + 1) (zQVS D N0 (a + 1 + 1 + 1 + 1) (fun u => isPen D u a 1 0 0 0 0 zIz zIz zIz ∧ zO (zb a 4) μ u)) := by
  refine zMetS_of rfl (Nat.le_of_ble_eq_true rfl) (fun X C Rm hin E => ?_)
  refine s_aload_n C dX4_init_0 rfl ?_
  refine s_objInit C Rm m_79 m_60 m_61 dX4_init_1 rfl ⟨Nat.le_of_ble_eq_true rfl, Nat.le_of_ble_eq_true rfl⟩ ?_
  refine s_aload_n C dX4_init_4 rfl ?_
  refine s_bipush C dX4_init_5 ?_
  refine s_newI C Rm (by decide) m_105 dX4_init_7 (by decide) (fun hq7 => ?_)
  refine s_putF C (zu_k hm (by omega)) rfl tyX4 tyX4_ok nmX4 0 (by decide) m_80 inz4 rfl rfl hin rfl (by rfl) (by rfl) (Nat.le_of_ble_eq_true rfl) dX4_init_9 ?_
  refine s_aload_n C dX4_init_12 rfl ?_
  refine s_bipush C dX4_init_13 ?_
  refine s_newI C Rm (by decide) m_105 dX4_init_15 (by decide) (fun hq15 => ?_)
  refine s_putF C (zu_k zu_s (by omega)) rfl tyX4 tyX4_ok nmX4 1 (by decide) m_81 inz4 rfl rfl hin rfl (by rfl) (by rfl) (Nat.le_of_ble_eq_true rfl) dX4_init_17 ?_
  refine s_aload_n C dX4_init_20 rfl ?_
  refine s_iconst C dX4_init_21 ?_
  refine s_put C zu_s rfl tyX4 tyX4_ok nmX4 2 (by decide) m_82 inz4 rfl rfl (by rfl) (by rfl) (Nat.le_of_ble_eq_true rfl) dX4_init_22 ?_
  refine s_aload_n C dX4_init_25 rfl ?_
  refine s_bipush C dX4_init_26 ?_
  refine s_newI C Rm (by decide) m_105 dX4_init_28 (by decide) (fun hq28 => ?_)
  refine s_putF C (zu_k zu_s (by omega)) rfl tyX4 tyX4_ok nmX4 7 (by decide) m_87 inz4 rfl rfl hin rfl (by rfl) (by rfl) (Nat.le_of_ble_eq_true rfl) dX4_init_30 ?_
  exact s_vret C E dX4_init_33 (Nat.le_of_ble_eq_true rfl) (Nat.le_of_ble_eq_true rfl) ⟨⟨zu_s, zu_k (zu_k (zu_k (zu_k (zu_k (zu_k zu_s (by omega)) (by omega)) (by omega)) (by omega)) (by omega)) (by omega), zu_k (zu_k (zu_k (zu_k zu_s (by omega)) (by omega)) (by omega)) (by omega), zu_k zu_s (by omega)⟩, zO.zu (zO.zu (zO.zu (zO.zu (zO.zu (zO.zu (zO.zu zO.rf (by unfold zb; omega)) (by unfold zb; omega)) (by unfold zb; omega)) (by unfold zb; omega)) (by unfold zb; omega)) (by unfold zb; omega)) (by unfold zb; omega)⟩
set_option maxRecDepth 100000 in
set_option maxHeartbeats 4000000 in
theorem i_Flood {l : Launch} {D : va_G} {N0 : Nat} {a : Nat} {μ : zM} (hm : μ a = some (.inr (1, [.null, .null, zi 0, zi 0]))) : zMetS l yX1_init cX1_init 1 ({ frames := 2, cells := 4, slots := 130, locals := 80 } : Room) D N0 [.ref a] μ (a + 1) (zQVS D N0 (a + 5) (fun u => isFl D u a zF zF 0 0 ∧ zO (zb a 5) μ u)) := by
  refine zMetS_of rfl (Nat.le_of_ble_eq_true rfl) (fun X C Rm hin E => ?_)
  refine s_aload_n C dX1_init_0 rfl ?_
  refine s_objInit C Rm m_132 m_60 m_61 dX1_init_1 rfl ⟨Nat.le_of_ble_eq_true rfl, Nat.le_of_ble_eq_true rfl⟩ ?_
  refine s_aload_n C dX1_init_4 rfl ?_
  refine s_new C Rm (ci := 0) (fs := [.null]) rfl inz0 tyX0 tyX0_ok m_133 m_64 m_37 (fun j hj => by rcases (by omega : j = 0) with rfl <;> rfl) dX1_init_5 (by decide) (fun hq5 => ?_)
  refine s_dup C dX1_init_8 rfl ?_
  refine s_initN C Rm qi_X0_init nl_134 (i_F zu_s) dX1_init_9 rfl rfl (Nat.le_of_ble_eq_true rfl) rfl ⟨Nat.le_of_ble_eq_true rfl, Nat.le_of_ble_eq_true rfl, Nat.le_of_ble_eq_true rfl, Nat.le_of_ble_eq_true rfl⟩ (fun μ1 hp1 => ?_)
  have o1 := hp1.2.at (by unfold zb; omega) (zu_k hm (show a ≠ a + 1 by omega))
  have q1 : zO (zb a 5) μ μ1 := (zO.zu zO.rf (by unfold zb; omega)).tr (hp1.2.mo (fun q hq => by unfold zb at hq ⊢; omega))
  refine s_putF C o1 rfl tyX1 tyX1_ok nmX1 0 (by decide) m_135 inz1 rfl rfl hin rfl (by rfl) (by rfl) (Nat.le_of_ble_eq_true rfl) dX1_init_12 ?_
  refine s_aload_n C dX1_init_15 rfl ?_
  refine s_new C Rm (ci := 0) (fs := [.null]) rfl inz0 tyX0 tyX0_ok m_133 m_64 m_37 (fun j hj => by rcases (by omega : j = 0) with rfl <;> rfl) dX1_init_16 (by decide) (fun hq16 => ?_)
  refine s_dup C dX1_init_19 rfl ?_
  refine s_initN C Rm qi_X0_init nl_134 (i_F zu_s) dX1_init_20 rfl rfl (Nat.le_of_ble_eq_true rfl) rfl ⟨Nat.le_of_ble_eq_true rfl, Nat.le_of_ble_eq_true rfl, Nat.le_of_ble_eq_true rfl, Nat.le_of_ble_eq_true rfl⟩ (fun μ2 hp2 => ?_)
  have o2 := hp2.2.at (by unfold zb; omega) (zu_k zu_s (show a ≠ a + 1 + 1 + 1 by omega))
  have q2 : zO (fun q => q = a ∨ zb (a + 3) 2 q) μ1 μ2 := (zO.zu (zO.zu zO.rf (Or.inl rfl)) (Or.inr (by unfold zb; omega))).tr (hp2.2.mo (fun q hq => Or.inr hq))
  refine s_putF C o2 rfl tyX1 tyX1_ok nmX1 1 (by decide) m_136 inz1 rfl rfl hin rfl (by rfl) (by rfl) (Nat.le_of_ble_eq_true rfl) dX1_init_23 ?_
  have q3 : ∀ e, zO (fun q => q = a ∨ zb (a + 3) 2 q) μ1 (zu μ2 a e) := fun e => zO.zu q2 (Or.inl rfl)
  exact s_vret C E dX1_init_26 (Nat.le_of_ble_eq_true rfl) (Nat.le_of_ble_eq_true rfl) ⟨⟨zu_s, hp1.1.o (q3 _) (by unfold zb; omega) (by unfold zb; omega), hp2.1.o (zO.zu (P := fun q => q = a) zO.rf rfl) (by omega) (by omega)⟩, q1.tr ((q3 _).mo (fun q hq => by unfold zb at hq ⊢; omega))⟩
set_option maxRecDepth 100000 in
set_option maxHeartbeats 4000000 in
theorem i_Strip {l : Launch} {D : va_G} {N0 : Nat} {a : Nat} {μ : zM} (hm : μ a = some (.inr (5, [.null, zi 0, .long 0, zi 0, zi 0, zi 0, zi 0]))) : zMetS l yX5_init cX5_init 1 ({ frames := 2, cells := 2, slots := 65, locals := 80 } : Room) D N0 [.ref a] μ (a + 1) (zQVS D N0 (a + 3) (fun u => isSt D u a 0 ∧ zO (zb a 3) μ u)) := by
  refine zMetS_of rfl (Nat.le_of_ble_eq_true rfl) (fun X C Rm hin E => ?_)
  refine s_aload_n C dX5_init_0 rfl ?_
  refine s_objInit C Rm m_198 m_60 m_61 dX5_init_1 rfl ⟨Nat.le_of_ble_eq_true rfl, Nat.le_of_ble_eq_true rfl⟩ ?_
  refine s_aload_n C dX5_init_4 rfl ?_
  refine s_new C Rm (ci := 0) (fs := [.null]) rfl inz0 tyX0 tyX0_ok m_199 m_64 m_37 (fun j hj => by rcases (by omega : j = 0) with rfl <;> rfl) dX5_init_5 (by decide) (fun hq5 => ?_)
  refine s_dup C dX5_init_8 rfl ?_
  refine s_initN C Rm qi_X0_init nl_200 (i_F zu_s) dX5_init_9 rfl rfl (Nat.le_of_ble_eq_true rfl) rfl ⟨Nat.le_of_ble_eq_true rfl, Nat.le_of_ble_eq_true rfl, Nat.le_of_ble_eq_true rfl, Nat.le_of_ble_eq_true rfl⟩ (fun μ1 hp1 => ?_)
  have o1 := hp1.2.at (by unfold zb; omega) (zu_k hm (show a ≠ a + 1 by omega))
  have q1 : zO (zb a 3) μ μ1 := (zO.zu zO.rf (by unfold zb; omega)).tr (hp1.2.mo (fun q hq => by unfold zb at hq ⊢; omega))
  refine s_putF C o1 rfl tyX5 tyX5_ok nmX5 0 (by decide) m_201 inz5 rfl rfl hin rfl (by rfl) (by rfl) (Nat.le_of_ble_eq_true rfl) dX5_init_12 ?_
  exact s_vret C E dX5_init_15 (Nat.le_of_ble_eq_true rfl) (Nat.le_of_ble_eq_true rfl) ⟨⟨zu_s, hp1.1.o (zO.zu (P := fun q => q = a) zO.rf rfl) (by omega) (by omega)⟩, zO.zu q1 (by unfold zb; omega)⟩
set_option maxRecDepth 100000 in
set_option maxHeartbeats 4000000 in
theorem i_Out {l : Launch} {D : va_G} {N0 : Nat} {a : Nat} {μ : zM} (hm : μ a = some (.inr (3, [.null, .null, .null, zi 0, zi 0, zi 0, zi 0, zi 0, zi 0, zi 0, zi 0, zi 0]))) : zMetS l yX3_init cX3_init 1 ({ frames := 2, cells := 6, slots := 195, locals := 80 } : Room) D N0 [.ref a] μ (a + 1) (zQVS D N0 (a + 7) (fun u => isOu D u a 0 0 ∧ zO (zb a 7) μ u)) := by
  refine zMetS_of rfl (Nat.le_of_ble_eq_true rfl) (fun X C Rm hin E => ?_)
  refine s_aload_n C dX3_init_0 rfl ?_
  refine s_objInit C Rm m_153 m_60 m_61 dX3_init_1 rfl ⟨Nat.le_of_ble_eq_true rfl, Nat.le_of_ble_eq_true rfl⟩ ?_
  refine s_aload_n C dX3_init_4 rfl ?_
  refine s_new C Rm (ci := 0) (fs := [.null]) rfl inz0 tyX0 tyX0_ok m_154 m_64 m_37 (fun j hj => by rcases (by omega : j = 0) with rfl <;> rfl) dX3_init_5 (by decide) (fun hq5 => ?_)
  refine s_dup C dX3_init_8 rfl ?_
  refine s_initN C Rm qi_X0_init nl_155 (i_F zu_s) dX3_init_9 rfl rfl (Nat.le_of_ble_eq_true rfl) rfl ⟨Nat.le_of_ble_eq_true rfl, Nat.le_of_ble_eq_true rfl, Nat.le_of_ble_eq_true rfl, Nat.le_of_ble_eq_true rfl⟩ (fun μ1 hp1 => ?_)
  have o1 := hp1.2.at (by unfold zb; omega) (zu_k hm (show a ≠ a + 1 by omega))
  have q1 : zO (zb a 7) μ μ1 := (zO.zu zO.rf (by unfold zb; omega)).tr (hp1.2.mo (fun q hq => by unfold zb at hq ⊢; omega))
  refine s_putF C o1 rfl tyX3 tyX3_ok nmX3 0 (by decide) m_156 inz3 rfl rfl hin rfl (by rfl) (by rfl) (Nat.le_of_ble_eq_true rfl) dX3_init_12 ?_
  refine s_aload_n C dX3_init_15 rfl ?_
  refine s_new C Rm (ci := 0) (fs := [.null]) rfl inz0 tyX0 tyX0_ok m_154 m_64 m_37 (fun j hj => by rcases (by omega : j = 0) with rfl <;> rfl) dX3_init_16 (by decide) (fun hq16 => ?_)
  refine s_dup C dX3_init_19 rfl ?_
  refine s_initN C Rm qi_X0_init nl_155 (i_F zu_s) dX3_init_20 rfl rfl (Nat.le_of_ble_eq_true rfl) rfl ⟨Nat.le_of_ble_eq_true rfl, Nat.le_of_ble_eq_true rfl, Nat.le_of_ble_eq_true rfl, Nat.le_of_ble_eq_true rfl⟩ (fun μ2 hp2 => ?_)
  have o2 := hp2.2.at (by unfold zb; omega) (zu_k zu_s (show a ≠ a + 1 + 1 + 1 by omega))
  have q2 : zO (fun q => q = a ∨ zb (a + 3) 2 q) μ1 μ2 := (zO.zu (zO.zu zO.rf (Or.inl rfl)) (Or.inr (by unfold zb; omega))).tr (hp2.2.mo (fun q hq => Or.inr hq))
  refine s_putF C o2 rfl tyX3 tyX3_ok nmX3 1 (by decide) m_157 inz3 rfl rfl hin rfl (by rfl) (by rfl) (Nat.le_of_ble_eq_true rfl) dX3_init_23 ?_
  refine s_aload_n C dX3_init_26 rfl ?_
  refine s_new C Rm (ci := 0) (fs := [.null]) rfl inz0 tyX0 tyX0_ok m_154 m_64 m_37 (fun j hj => by rcases (by omega : j = 0) with rfl <;> rfl) dX3_init_27 (by decide) (fun hq27 => ?_)
  refine s_dup C dX3_init_30 rfl ?_
  refine s_initN C Rm qi_X0_init nl_155 (i_F zu_s) dX3_init_31 rfl rfl (Nat.le_of_ble_eq_true rfl) rfl ⟨Nat.le_of_ble_eq_true rfl, Nat.le_of_ble_eq_true rfl, Nat.le_of_ble_eq_true rfl, Nat.le_of_ble_eq_true rfl⟩ (fun μ3 hp3 => ?_)
  have o3 := hp3.2.at (by unfold zb; omega) (zu_k zu_s (show a ≠ a + 1 + 1 + 1 + 1 + 1 by omega))
  have q3 : zO (fun q => q = a ∨ zb (a + 5) 2 q) μ2 μ3 := (zO.zu (zO.zu zO.rf (Or.inl rfl)) (Or.inr (by unfold zb; omega))).tr (hp3.2.mo (fun q hq => Or.inr hq))
  refine s_putF C o3 rfl tyX3 tyX3_ok nmX3 2 (by decide) m_158 inz3 rfl rfl hin rfl (by rfl) (by rfl) (Nat.le_of_ble_eq_true rfl) dX3_init_34 ?_
  have q4 : ∀ e, zO (fun q => q = a ∨ zb (a + 5) 2 q) μ2 (zu μ3 a e) := fun e => zO.zu q3 (Or.inl rfl)
  exact s_vret C E dX3_init_37 (Nat.le_of_ble_eq_true rfl) (Nat.le_of_ble_eq_true rfl) ⟨⟨zu_s, (hp1.1.o q2 (by unfold zb; omega) (by unfold zb; omega)).o (q4 _) (by unfold zb; omega) (by unfold zb; omega), hp2.1.o (q4 _) (by unfold zb; omega) (by unfold zb; omega), hp3.1.o (zO.zu (P := fun q => q = a) zO.rf rfl) (by omega) (by omega)⟩, (q1.tr (q2.mo (fun q hq => by unfold zb at hq ⊢; omega))).tr ((q4 _).mo (fun q hq => by unfold zb at hq ⊢; omega))⟩
theorem s_canF {X : zX} {l : Launch} {D : va_G} {N0 : Nat} {cc : ByteArray} {nL : Nat} {own : String} {Ts : List Cond} {μ : zM} {kc kn pc sz : Nat} {L : List (Option Value)} {st : List Value} (C : zC X l D N0 cc nL own Ts) {a n : Nat} {f g : Nat → Option Nat} (hm : μ a = some (zAF D n f)) (h : ∀ j, j < n → f j = g j) (k : ZS X sz (zu μ a (zAF D n g)) kc kn pc L st) : ZS X sz μ kc kn pc L st := by
  obtain ⟨p, l', e, R, s, m, args, below, meth, c, D', N', Q⟩ := X
  obtain ⟨rfl, rfl, rfl, hx, hb, hml, hown, hts, hlk, hB⟩ := C
  intro H locs cells slots ls hz hH hS hc1 hs1 hl
  refine k H locs cells slots ls hz (hH.seta ?_ (hH a _ hm).2 (fun q _ => rfl)) hS hc1 hs1 hl
  show H[a]? = some (vp_cell _ _)
  rw [← vp_cell_cong_q h]
  exact (hH a _ hm).1
theorem s_up {X : zX} {μ : zM} {kc kn kc' kn' pc sz : Nat} {L : List (Option Value)} {st : List Value} (h1 : kc ≤ kc') (h2 : kn ≤ kn') (k : ZS X sz μ kc' kn' pc L st) : ZS X sz μ kc kn pc L st := by
  obtain ⟨p, l', e, R, s, m, args, below, meth, c, D', N', Q⟩ := X
  intro H locs cells slots ls hz hH hS hc1 hs1 hl
  exact k H locs cells slots ls hz hH hS (Nat.le_trans hc1 h1) (Nat.le_trans hs1 h2) hl
set_option maxRecDepth 100000 in
set_option maxHeartbeats 4000000 in
theorem i_Hist {l : Launch} {D : va_G} {N0 : Nat} {a : Nat} {μ : zM} (hm : μ a = some (.inr (2, [.null, .null, zi 0, zi 0]))) : zMetS l yX2_init cX2_init 2 ({ frames := 2, cells := 26, slots := 804, locals := 80 } : Room) D N0 [.ref a] μ (a + 1) (zQVS D N0 (a + 27) (fun u => isHi D u a 0 0 zIz ∧ (∀ j, j < 12 → isF D u (a + 3 + 2 * j) zF) ∧ zO (zb a 27) μ u)) := by
  refine zMetS_of rfl (Nat.le_of_ble_eq_true rfl) (fun X C Rm hin E => ?_)
  have loop : ∀ (n i : Nat) (k : Int) (ν : zM) (f : Nat → Option Nat) (sz : Nat), i + n = 12 → k = (i : Int) → sz = a + 3 + 2 * i → ν a = some (.inr (2, [.ref (a + 1), .ref (a + 2), zi 0, zi 0])) → ν (a + 1) = some (zAF D 12 f) → (∀ j, j < i → f j = some (a + 3 + 2 * j)) → ν (a + 2) = some (zAI D 12 zIz) → (∀ j, j < i → isF D ν (a + 3 + 2 * j) zF) → zO (zb a 27) μ ν → ZS X sz ν (2 + 2 * i) (24 + 65 * i) 23 [some (.ref a), some (zi k)] [] := by
    intro n
    induction n with
    | zero =>
      intro i k ν f sz hn hk hsz ho h1 hf h2 hF hO
      obtain rfl : i = 12 := by omega
      obtain rfl : sz = a + 27 := by omega
      refine s_iload_n C dX2_init_23 rfl ?_
      refine s_aload_n C dX2_init_24 rfl ?_
      refine s_get C ho rfl 0 (by decide) m_114 inz2 rfl rfl dX2_init_25 ?_
      refine s_alen C h1 4 rfl dX2_init_28 ?_
      refine s_icmp_ge (tgt := 51) C dX2_init_29 (by decide) (fun _ => ?_) (fun hno => absurd hno (by omega))
      refine s_canF C h1 (g := fun j => some (a + 3 + 2 * j)) (fun j hj => hf j hj) ?_
      exact s_vret C E dX2_init_51 (Nat.le_of_ble_eq_true rfl) (Nat.le_of_ble_eq_true rfl) ⟨⟨zu_k ho (by omega), zu_s, zu_k h2 (by omega)⟩, fun j hj => (hF j hj).o (zO.zu (P := fun q => q = a + 1) zO.rf rfl) (by omega) (by omega), zO.zu hO (by unfold zb; omega)⟩
    | succ n ih =>
      intro i k ν f sz hn hk hsz ho h1 hf h2 hF hO
      refine s_iload_n C dX2_init_23 rfl ?_
      refine s_aload_n C dX2_init_24 rfl ?_
      refine s_get C ho rfl 0 (by decide) m_114 inz2 rfl rfl dX2_init_25 ?_
      refine s_alen C h1 4 rfl dX2_init_28 ?_
      refine s_icmp_ge (tgt := 51) C dX2_init_29 (by decide) (fun hno => absurd hno (by omega)) (fun _ => ?_)
      refine s_aload_n C dX2_init_32 rfl ?_
      refine s_get C ho rfl 0 (by decide) m_114 inz2 rfl rfl dX2_init_33 ?_
      refine s_iload_n C dX2_init_36 rfl ?_
      refine s_new C Rm (ci := 0) (fs := [.null]) rfl inz0 tyX0 tyX0_ok m_112 m_64 m_37 (fun j hj => by rcases (by omega : j = 0) with rfl <;> rfl) dX2_init_37 ⟨by (try dsimp only); omega, by (try dsimp only); omega⟩ (fun hq37 => ?_)
      refine s_dup C dX2_init_40 rfl ?_
      refine s_initN C Rm qi_X0_init nl_113 (i_F zu_s) dX2_init_41 rfl rfl (Nat.le_of_ble_eq_true rfl) rfl ⟨Nat.le_of_ble_eq_true rfl, Nat.le_of_ble_eq_true rfl, by (try dsimp only); omega, by (try dsimp only); omega⟩ (fun μ1 hp1 => ?_)
      have q1 : zO (zb sz 2) ν μ1 := (zO.zu zO.rf (by unfold zb; omega)).tr hp1.2
      have k1 := q1.at (by unfold zb; omega) h1
      refine s_fast C k1 hp1.1.1 (by decide) dX2_init_44 ?_
      refine s_iinc (L' := [_, _]) C dX2_init_45 rfl rfl ?_
      refine s_goto (tgt := 23) C dX2_init_48 (by decide) ?_
      refine s_up (kc' := 2 + 2 * (i + 1)) (kn' := 24 + 65 * (i + 1)) (by (try dsimp only); omega) (by (try dsimp only); omega) (ih (i + 1) (k + 1) _ (zw f k.toNat (some sz)) (sz + 1 + 1) (by omega) (by omega) (by omega) (zu_k (q1.at (by unfold zb; omega) ho) (by omega)) zu_s (fun j hj => ?_) (zu_k (q1.at (by unfold zb; omega) h2) (by omega)) (fun j hj => ?_) (zO.zu (hO.tr (q1.mo (fun q hq => by unfold zb at hq ⊢; omega))) (by unfold zb; omega)))
      · by_cases e : j = k.toNat
        · rw [e, zw_s]
          congr 1
          omega
        · rw [zw_n e]
          exact hf j (by omega)
      · by_cases e : j = i
        · rw [show a + 3 + 2 * j = sz by omega]
          exact hp1.1.o (zO.zu (P := fun q => q = a + 1) zO.rf rfl) (by omega) (by omega)
        · exact ((hF j (by omega)).o q1 (by unfold zb; omega) (by unfold zb; omega)).o (zO.zu (P := fun q => q = a + 1) zO.rf rfl) (by omega) (by omega)
  refine s_aload_n C dX2_init_0 rfl ?_
  refine s_objInit C Rm m_111 m_60 m_61 dX2_init_1 rfl ⟨Nat.le_of_ble_eq_true rfl, Nat.le_of_ble_eq_true rfl⟩ ?_
  refine s_aload_n C dX2_init_4 rfl ?_
  refine s_bipush C dX2_init_5 ?_
  refine s_anewF C Rm (by decide) m_112 dX2_init_7 (by decide) (fun hq7 => ?_)
  refine s_putF C (zu_k hm (by omega)) rfl tyX2 tyX2_ok nmX2 0 (by decide) m_114 inz2 rfl rfl hin rfl (by rfl) (by rfl) (Nat.le_of_ble_eq_true rfl) dX2_init_10 ?_
  refine s_aload_n C dX2_init_13 rfl ?_
  refine s_bipush C dX2_init_14 ?_
  refine s_newI C Rm (by decide) m_105 dX2_init_16 (by decide) (fun hq16 => ?_)
  refine s_putF C (zu_k zu_s (by omega)) rfl tyX2 tyX2_ok nmX2 1 (by decide) m_115 inz2 rfl rfl hin rfl (by rfl) (by rfl) (Nat.le_of_ble_eq_true rfl) dX2_init_18 ?_
  refine s_iconst C dX2_init_21 ?_
  refine s_istore_n (L' := [_, _]) C dX2_init_22 rfl ?_
  exact loop 12 0 0 _ (fun _ => none) _ (by omega) rfl rfl zu_s (zu_k (zu_k (zu_k zu_s (by omega)) (by omega)) (by omega)) (fun j hj => absurd hj (Nat.not_lt_zero j)) (zu_k zu_s (by omega)) (fun j hj => absurd hj (Nat.not_lt_zero j)) (zO.zu (zO.zu (zO.zu (zO.zu zO.rf (by unfold zb; omega)) (by unfold zb; omega)) (by unfold zb; omega)) (by unfold zb; omega))
