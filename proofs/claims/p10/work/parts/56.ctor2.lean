set_option maxRecDepth 100000 in
set_option maxHeartbeats 4000000 in
theorem i_Ker {l : Launch} {D : va_G} {N0 : Nat} {K : Nat} {μ : zM} (hm : μ K = some (.inr (6, [.null, .null, .null, .null, .null, .null, .null]))) : zMetS l yX6_init cX6_init 2 ({ frames := 3, cells := 65, slots := 2006, locals := 120 } : Room) D N0 [.ref K] μ (K + 1) (zQVS D N0 (K + 66) (fun u => isKe D u K ∧ zKO K μ u)) := by
  refine zMetS_of rfl (Nat.le_of_ble_eq_true rfl) (fun X C Rm hin E => ?_)
  refine s_aload_n C dX6_init_0 rfl ?_
  refine s_objInit C Rm m_59 m_60 m_61 dX6_init_1 rfl ⟨Nat.le_of_ble_eq_true rfl, Nat.le_of_ble_eq_true rfl⟩ ?_
  refine s_aload_n C dX6_init_4 rfl ?_
  refine s_bipush C dX6_init_5 ?_
  refine s_anewF C Rm (by decide) m_62 dX6_init_7 (by decide) (fun hq7 => ?_)
  refine s_putF C (zu_k hm (by omega)) rfl tyX6 tyX6_ok nmX6 0 (by decide) m_223 inz6 rfl rfl hin rfl (by rfl) (by rfl) (Nat.le_of_ble_eq_true rfl) dX6_init_10 ?_
  refine s_aload_n C dX6_init_13 rfl ?_
  refine s_new C Rm (ci := 0) (fs := [.null]) rfl inz0 tyX0 tyX0_ok m_62 m_64 m_37 (fun j hj => by rcases (by omega : j = 0) with rfl <;> rfl) dX6_init_14 (by decide) (fun hq14 => ?_)
  refine s_dup C dX6_init_17 rfl ?_
  refine s_initN C Rm qi_X0_init nl_65 (i_F zu_s) dX6_init_18 rfl rfl (Nat.le_of_ble_eq_true rfl) rfl ⟨Nat.le_of_ble_eq_true rfl, Nat.le_of_ble_eq_true rfl, Nat.le_of_ble_eq_true rfl, Nat.le_of_ble_eq_true rfl⟩ (fun μ1 hp1 => ?_)
  have o1 := hp1.2.at (by unfold zb; omega) (zu_k zu_s (show K ≠ K + 1 + 1 by omega))
  have g1 := hp1.2.at (by unfold zb; omega) (zu_k (zu_k (zu_s (μ := μ) (a := K + 1)) (show K + 1 ≠ K by omega)) (show K + 1 ≠ K + 1 + 1 by omega))
  have w1 : zKO K μ μ1 := (zO.zu (zO.zu (zO.zu zO.rf (by unfold zb; omega)) (by unfold zb; omega)) (by unfold zb; omega)).tr (hp1.2.mo (fun q hq => by unfold zb at hq ⊢; omega))
  refine s_putF C o1 rfl tyX6 tyX6_ok nmX6 1 (by decide) m_224 inz6 rfl rfl hin rfl (by rfl) (by rfl) (Nat.le_of_ble_eq_true rfl) dX6_init_21 ?_
  refine s_aload_n C dX6_init_24 rfl ?_
  refine s_new C Rm (ci := 4) (fs := [.null, .null, zi 0, zi 0, zi 0, zi 0, zi 0, .null]) rfl inz4 tyX4 tyX4_ok m_74 m_75 m_38 (fun j hj => by rcases (by omega : j = 0 ∨ j = 1 ∨ j = 2 ∨ j = 3 ∨ j = 4 ∨ j = 5 ∨ j = 6 ∨ j = 7) with rfl | rfl | rfl | rfl | rfl | rfl | rfl | rfl <;> rfl) dX6_init_25 (by decide) (fun hq25 => ?_)
  refine s_dup C dX6_init_28 rfl ?_
  refine s_initN C Rm qi_X4_init nl_76 (i_Pen zu_s) dX6_init_29 rfl rfl (Nat.le_of_ble_eq_true rfl) rfl ⟨Nat.le_of_ble_eq_true rfl, Nat.le_of_ble_eq_true rfl, Nat.le_of_ble_eq_true rfl, Nat.le_of_ble_eq_true rfl⟩ (fun μ2 hp2 => ?_)
  have o2 := hp2.2.at (by unfold zb; omega) (zu_k zu_s (show K ≠ K + 1 + 1 + 1 + 1 by omega))
  have r2 : zO (fun q => q = K ∨ zb (K + 4) 4 q) μ1 μ2 := (zO.zu (zO.zu zO.rf (Or.inl rfl)) (Or.inr (by unfold zb; omega))).tr (hp2.2.mo (fun q hq => Or.inr hq))
  refine s_putF C o2 rfl tyX6 tyX6_ok nmX6 2 (by decide) m_225 inz6 rfl rfl hin rfl (by rfl) (by rfl) (Nat.le_of_ble_eq_true rfl) dX6_init_32 ?_
  refine s_aload_n C dX6_init_35 rfl ?_
  refine s_new C Rm (ci := 2) (fs := [.null, .null, zi 0, zi 0]) rfl inz2 tyX2 tyX2_ok m_106 m_107 m_39 (fun j hj => by rcases (by omega : j = 0 ∨ j = 1 ∨ j = 2 ∨ j = 3) with rfl | rfl | rfl | rfl <;> rfl) dX6_init_36 (by decide) (fun hq36 => ?_)
  refine s_dup C dX6_init_39 rfl ?_
  refine s_init C Rm qi_X2_init m_108 (i_Hist zu_s) dX6_init_40 rfl rfl (Nat.le_of_ble_eq_true rfl) rfl ⟨Nat.le_of_ble_eq_true rfl, Nat.le_of_ble_eq_true rfl, Nat.le_of_ble_eq_true rfl, Nat.le_of_ble_eq_true rfl⟩ (fun μ3 hp3 => ?_)
  have o3 := hp3.2.2.at (by unfold zb; omega) (zu_k zu_s (show K ≠ K + 1 + 1 + 1 + 1 + 1 + 1 + 1 + 1 by omega))
  have r3 : zO (fun q => q = K ∨ zb (K + 8) 27 q) μ2 μ3 := (zO.zu (zO.zu zO.rf (Or.inl rfl)) (Or.inr (by unfold zb; omega))).tr (hp3.2.2.mo (fun q hq => Or.inr hq))
  refine s_putF C o3 rfl tyX6 tyX6_ok nmX6 3 (by decide) m_226 inz6 rfl rfl hin rfl (by rfl) (by rfl) (Nat.le_of_ble_eq_true rfl) dX6_init_43 ?_
  refine s_aload_n C dX6_init_46 rfl ?_
  refine s_new C Rm (ci := 1) (fs := [.null, .null, zi 0, zi 0]) rfl inz1 tyX1 tyX1_ok m_127 m_128 m_40 (fun j hj => by rcases (by omega : j = 0 ∨ j = 1 ∨ j = 2 ∨ j = 3) with rfl | rfl | rfl | rfl <;> rfl) dX6_init_47 (by decide) (fun hq47 => ?_)
  refine s_dup C dX6_init_50 rfl ?_
  refine s_initN C Rm qi_X1_init nl_129 (i_Flood zu_s) dX6_init_51 rfl rfl (Nat.le_of_ble_eq_true rfl) rfl ⟨Nat.le_of_ble_eq_true rfl, Nat.le_of_ble_eq_true rfl, Nat.le_of_ble_eq_true rfl, Nat.le_of_ble_eq_true rfl⟩ (fun μ4 hp4 => ?_)
  have o4 := hp4.2.at (by unfold zb; omega) (zu_k zu_s (by omega))
  have r4 : zO (fun q => q = K ∨ zb (K + 35) 5 q) μ3 μ4 := (zO.zu (zO.zu zO.rf (Or.inl rfl)) (Or.inr (by unfold zb; omega))).tr (hp4.2.mo (fun q hq => Or.inr (by unfold zb at hq ⊢; omega)))
  refine s_putF C o4 rfl tyX6 tyX6_ok nmX6 4 (by decide) m_227 inz6 rfl rfl hin rfl (by rfl) (by rfl) (Nat.le_of_ble_eq_true rfl) dX6_init_54 ?_
  refine s_aload_n C dX6_init_57 rfl ?_
  refine s_new C Rm (ci := 3) (fs := [.null, .null, .null, zi 0, zi 0, zi 0, zi 0, zi 0, zi 0, zi 0, zi 0, zi 0]) rfl inz3 tyX3 tyX3_ok m_148 m_149 m_41 (fun j hj => by rcases (by omega : j = 0 ∨ j = 1 ∨ j = 2 ∨ j = 3 ∨ j = 4 ∨ j = 5 ∨ j = 6 ∨ j = 7 ∨ j = 8 ∨ j = 9 ∨ j = 10 ∨ j = 11) with rfl | rfl | rfl | rfl | rfl | rfl | rfl | rfl | rfl | rfl | rfl | rfl <;> rfl) dX6_init_58 (by decide) (fun hq58 => ?_)
  refine s_dup C dX6_init_61 rfl ?_
  refine s_initN C Rm qi_X3_init nl_150 (i_Out zu_s) dX6_init_62 rfl rfl (Nat.le_of_ble_eq_true rfl) rfl ⟨Nat.le_of_ble_eq_true rfl, Nat.le_of_ble_eq_true rfl, Nat.le_of_ble_eq_true rfl, Nat.le_of_ble_eq_true rfl⟩ (fun μ5 hp5 => ?_)
  have o5 := hp5.2.at (by unfold zb; omega) (zu_k zu_s (by omega))
  have r5 : zO (fun q => q = K ∨ zb (K + 40) 7 q) μ4 μ5 := (zO.zu (zO.zu zO.rf (Or.inl rfl)) (Or.inr (by unfold zb; omega))).tr (hp5.2.mo (fun q hq => Or.inr (by unfold zb at hq ⊢; omega)))
  refine s_putF C o5 rfl tyX6 tyX6_ok nmX6 5 (by decide) m_228 inz6 rfl rfl hin rfl (by rfl) (by rfl) (Nat.le_of_ble_eq_true rfl) dX6_init_65 ?_
  refine s_aload_n C dX6_init_68 rfl ?_
  refine s_new C Rm (ci := 5) (fs := [.null, zi 0, .long 0, zi 0, zi 0, zi 0, zi 0]) rfl inz5 tyX5 tyX5_ok m_193 m_194 m_42 (fun j hj => by rcases (by omega : j = 0 ∨ j = 1 ∨ j = 2 ∨ j = 3 ∨ j = 4 ∨ j = 5 ∨ j = 6) with rfl | rfl | rfl | rfl | rfl | rfl | rfl <;> rfl) dX6_init_69 (by decide) (fun hq69 => ?_)
  refine s_dup C dX6_init_72 rfl ?_
  refine s_initN C Rm qi_X5_init nl_195 (i_Strip zu_s) dX6_init_73 rfl rfl (Nat.le_of_ble_eq_true rfl) rfl ⟨Nat.le_of_ble_eq_true rfl, Nat.le_of_ble_eq_true rfl, Nat.le_of_ble_eq_true rfl, Nat.le_of_ble_eq_true rfl⟩ (fun μ6 hp6 => ?_)
  have o6 := hp6.2.at (by unfold zb; omega) (zu_k zu_s (by omega))
  have r6 : zO (fun q => q = K ∨ zb (K + 47) 3 q) μ5 μ6 := (zO.zu (zO.zu zO.rf (Or.inl rfl)) (Or.inr (by unfold zb; omega))).tr (hp6.2.mo (fun q hq => Or.inr (by unfold zb at hq ⊢; omega)))
  refine s_putF C o6 rfl tyX6 tyX6_ok nmX6 6 (by decide) m_229 inz6 rfl rfl hin rfl (by rfl) (by rfl) (Nat.le_of_ble_eq_true rfl) dX6_init_76 ?_
  refine s_iconst C dX6_init_79 ?_
  refine s_istore_n (L' := [_, _]) C dX6_init_80 rfl ?_
  have w6 : zKO K μ μ6 := (((((w1.tr (r2.mo (fun q hq => by unfold zb at hq ⊢; omega))).tr (r3.mo (fun q hq => by unfold zb at hq ⊢; omega))).tr (r4.mo (fun q hq => by unfold zb at hq ⊢; omega))).tr (r5.mo (fun q hq => by unfold zb at hq ⊢; omega))).tr (r6.mo (fun q hq => by unfold zb at hq ⊢; omega)))
  have t26 : zO (fun q => q = K ∨ (K + 4 ≤ q ∧ q < K + 50)) μ1 μ6 := ((((r2.mo (fun q hq => by unfold zb at hq; omega)).tr (r3.mo (fun q hq => by unfold zb at hq; omega))).tr (r4.mo (fun q hq => by unfold zb at hq; omega))).tr (r5.mo (fun q hq => by unfold zb at hq; omega))).tr (r6.mo (fun q hq => by unfold zb at hq; omega))
  have t36 : zO (fun q => q = K ∨ (K + 8 ≤ q ∧ q < K + 50)) μ2 μ6 := (((r3.mo (fun q hq => by unfold zb at hq; omega)).tr (r4.mo (fun q hq => by unfold zb at hq; omega))).tr (r5.mo (fun q hq => by unfold zb at hq; omega))).tr (r6.mo (fun q hq => by unfold zb at hq; omega))
  have t46 : zO (fun q => q = K ∨ (K + 35 ≤ q ∧ q < K + 50)) μ3 μ6 := ((r4.mo (fun q hq => by unfold zb at hq; omega)).tr (r5.mo (fun q hq => by unfold zb at hq; omega))).tr (r6.mo (fun q hq => by unfold zb at hq; omega))
  have t56 : zO (fun q => q = K ∨ (K + 40 ≤ q ∧ q < K + 50)) μ4 μ6 := (r5.mo (fun q hq => by unfold zb at hq; omega)).tr (r6.mo (fun q hq => by unfold zb at hq; omega))
  have t66 : zO (fun q => q = K ∨ (K + 47 ≤ q ∧ q < K + 50)) μ5 μ6 := r6.mo (fun q hq => by unfold zb at hq; omega)
  have cg := t26.at (by omega) g1
  have cS := hp1.1.o t26 (by omega) (by omega)
  have cP := hp2.1.o t36 (fun q h1 h2 => by omega)
  have cH1 := t46.at (by omega) hp3.1.1
  have cH2 := t46.at (by omega) hp3.1.2.1
  have cH3 := t46.at (by omega) hp3.1.2.2
  have cK := (hp3.2.1 1 (by omega)).o t46 (by omega) (by omega)
  have cF := hp4.1.o t56 (fun q h1 h2 => by omega)
  have cO := hp5.1.o t66 (fun q h1 h2 => by omega)
  have cT := hp6.1
  have loop : ∀ (n i : Nat) (k : Int) (ν : zM) (f : Nat → Option Nat) (sz : Nat), i + n = 8 → k = (i : Int) → sz = K + 50 + 2 * i → ν K = zKobj K → ν (K + 1) = some (zAF D 8 f) → (∀ j, j < i → f j = some (K + 50 + 2 * j)) → (∀ j, j < i → isF D ν (K + 50 + 2 * j) zF) → zO (fun q => q = K ∨ q = K + 1 ∨ (K + 50 ≤ q ∧ q < K + 66)) μ6 ν → ZS X sz ν (49 + 2 * i) (1486 + 65 * i) 81 [some (.ref K), some (zi k)] [] := by
    intro n
    induction n with
    | zero =>
      intro i k ν f sz hn hk hsz ho h1 hf hF hO
      obtain rfl : i = 8 := by omega
      obtain rfl : sz = K + 66 := by omega
      refine s_iload_n C dX6_init_81 rfl ?_
      refine s_aload_n C dX6_init_82 rfl ?_
      refine s_get C ho rfl 0 (by decide) m_223 inz6 rfl rfl dX6_init_83 ?_
      refine s_alen C h1 4 rfl dX6_init_86 ?_
      refine s_icmp_ge (tgt := 109) C dX6_init_87 (by decide) (fun _ => ?_) (fun hno => absurd hno (by omega))
      refine s_canF C h1 (g := fun j => some (K + 50 + 2 * j)) (fun j hj => hf j hj) ?_
      have hO2 : ∀ e, zO (fun q => q = K ∨ q = K + 1 ∨ (K + 50 ≤ q ∧ q < K + 66)) μ6 (zu ν (K + 1) e) := fun e => zO.zu hO (Or.inr (Or.inl rfl))
      exact s_vret C E dX6_init_109 (Nat.le_of_ble_eq_true rfl) (Nat.le_of_ble_eq_true rfl) ⟨⟨zu_k ho (by omega), zu_s, fun j hj => (hF j hj).o (zO.zu (P := fun q => q = K + 1) zO.rf rfl) (by omega) (by omega), cS.o (hO2 _) (by omega) (by omega), by rw [show zw zIz 0 0 = zIz from zw_id rfl]; exact cP.o (hO2 _) (fun q h1 h2 => by omega), ⟨(hO2 _).at (by omega) cH1, (hO2 _).at (by omega) cH2, (hO2 _).at (by omega) cH3⟩, cK.o (hO2 _) (by omega) (by omega), cF.o (hO2 _) (fun q h1 h2 => by omega), cO.o (hO2 _) (fun q h1 h2 => by omega), cT.o (hO2 _) (fun q h1 h2 => by omega)⟩, w6.tr ((hO2 _).mo (fun q hq => by unfold zb; omega))⟩
    | succ n ih =>
      intro i k ν f sz hn hk hsz ho h1 hf hF hO
      refine s_iload_n C dX6_init_81 rfl ?_
      refine s_aload_n C dX6_init_82 rfl ?_
      refine s_get C ho rfl 0 (by decide) m_223 inz6 rfl rfl dX6_init_83 ?_
      refine s_alen C h1 4 rfl dX6_init_86 ?_
      refine s_icmp_ge (tgt := 109) C dX6_init_87 (by decide) (fun hno => absurd hno (by omega)) (fun _ => ?_)
      refine s_aload_n C dX6_init_90 rfl ?_
      refine s_get C ho rfl 0 (by decide) m_223 inz6 rfl rfl dX6_init_91 ?_
      refine s_iload_n C dX6_init_94 rfl ?_
      refine s_new C Rm (ci := 0) (fs := [.null]) rfl inz0 tyX0 tyX0_ok m_62 m_64 m_37 (fun j hj => by rcases (by omega : j = 0) with rfl <;> rfl) dX6_init_95 ⟨by (try dsimp only); omega, by (try dsimp only); omega⟩ (fun hq95 => ?_)
      refine s_dup C dX6_init_98 rfl ?_
      refine s_initN C Rm qi_X0_init nl_65 (i_F zu_s) dX6_init_99 rfl rfl (Nat.le_of_ble_eq_true rfl) rfl ⟨Nat.le_of_ble_eq_true rfl, Nat.le_of_ble_eq_true rfl, by (try dsimp only); omega, by (try dsimp only); omega⟩ (fun ν1 hp1 => ?_)
      have q1 : zO (zb sz 2) ν ν1 := (zO.zu zO.rf (by unfold zb; omega)).tr hp1.2
      have k1 := q1.at (by unfold zb; omega) h1
      refine s_fast C k1 hp1.1.1 (by decide) dX6_init_102 ?_
      refine s_iinc (L' := [_, _]) C dX6_init_103 rfl rfl ?_
      refine s_goto (tgt := 81) C dX6_init_106 (by decide) ?_
      refine s_up (kc' := 49 + 2 * (i + 1)) (kn' := 1486 + 65 * (i + 1)) (by (try dsimp only); omega) (by (try dsimp only); omega) (ih (i + 1) (k + 1) _ (zw f k.toNat (some sz)) (sz + 1 + 1) (by omega) (by omega) (by omega) (zu_k (q1.at (by unfold zb; omega) ho) (by omega)) zu_s (fun j hj => ?_) (fun j hj => ?_) (zO.zu (hO.tr (q1.mo (fun q hq => by unfold zb at hq; omega))) (Or.inr (Or.inl rfl))))
      · by_cases e : j = k.toNat
        · rw [e, zw_s]
          congr 1
          omega
        · rw [zw_n e]
          exact hf j (by omega)
      · by_cases e : j = i
        · rw [show K + 50 + 2 * j = sz by omega]
          exact hp1.1.o (zO.zu (P := fun q => q = K + 1) zO.rf rfl) (by omega) (by omega)
        · exact ((hF j (by omega)).o q1 (by unfold zb; omega) (by unfold zb; omega)).o (zO.zu (P := fun q => q = K + 1) zO.rf rfl) (by omega) (by omega)
  exact loop 8 0 0 _ (fun _ => none) _ (by omega) rfl rfl zu_s (zu_k cg (by omega)) (fun j hj => absurd hj (Nat.not_lt_zero j)) (fun j hj => absurd hj (Nat.not_lt_zero j)) (zO.zu zO.rf (Or.inl rfl))
set_option maxRecDepth 100000 in
set_option maxHeartbeats 4000000 in
theorem i_Mod {l : Launch} {D : va_G} {N0 : Nat} {M : Nat} {μ : zM} (hm : μ M = some (.inr (7, [zi 0, .null, .null, .null, zi 0, zi 0, .null, .null]))) : zMetS l yX7_init cX7_init 1 ({ frames := 1, cells := 13, slots := 32924, locals := 40 } : Room) D N0 [.ref M] μ (M + 1) (zQVS D N0 (M + 14) (fun u => isMo D u M ∧ zO (zb M 14) μ u)) := by
  refine zMetS_of rfl (Nat.le_of_ble_eq_true rfl) (fun X C Rm hin E => ?_)
  refine s_aload_n C dX7_init_0 rfl ?_
  refine s_objInit C Rm m_1006 m_60 m_61 dX7_init_1 rfl ⟨Nat.le_of_ble_eq_true rfl, Nat.le_of_ble_eq_true rfl⟩ ?_
  refine s_aload_n C dX7_init_4 rfl ?_
  refine s_bipush C dX7_init_5 ?_
  refine s_sipush C dX7_init_7 ?_
  refine s_mna C Rm m_1007 m_1035 (N := 8) (K := 4096) rfl rfl (by decide) (by decide) dX7_init_10 (by decide) (fun hq10 => ?_)
  have z1 : ∀ q, (q = M + 1 ∨ M + 1 + 1 ≤ q ∧ q < M + 1 + 1 + 8) ∨ zMna D μ (M + 1) 8 4096 q = μ q := fun q => by
    unfold zMna
    by_cases h : q = M + 1
    · exact Or.inl (Or.inl h)
    · by_cases h2 : M + 1 + 1 ≤ q ∧ q < M + 1 + 1 + 8
      · exact Or.inl (Or.inr h2)
      · rw [if_neg h, if_neg h2]
        exact Or.inr rfl
  have o0 : zMna D μ (M + 1) 8 4096 M = _ := ((z1 M).resolve_left (by omega)).trans hm
  have a0 : zMna D μ (M + 1) 8 4096 (M + 1) = some (zAB D 8 (fun k => if k < 8 then some (M + 2 + k) else none)) := by
    unfold zMna
    rw [if_pos rfl]
  have b0 : ∀ k, k < 8 → zMna D μ (M + 1) 8 4096 (M + 2 + k) = some (zAZ D 4096 zIz) := fun k hk => by
    unfold zMna
    rw [if_neg (by omega), if_pos (by omega)]
  have c0 : zO (zb M 14) μ (zMna D μ (M + 1) 8 4096) := fun q hq => (z1 q).resolve_left (by unfold zb at hq; omega)
  obtain ⟨ν, hν⟩ : ∃ ν, ν = zMna D μ (M + 1) 8 4096 := ⟨_, rfl⟩
  rw [← hν] at o0 a0 c0 ⊢
  simp only [← hν] at b0
  refine s_putF C o0 rfl tyX7 tyX7_ok nmX7 1 (by decide) m_1011 inz7 rfl rfl hin rfl (by rfl) (by rfl) (Nat.le_of_ble_eq_true rfl) dX7_init_14 ?_
  refine s_aload_n C dX7_init_17 rfl ?_
  refine s_bipush C dX7_init_18 ?_
  refine s_newI C Rm (by decide) m_105 dX7_init_20 (by decide) (fun hq20 => ?_)
  refine s_putF C (zu_k zu_s (by omega)) rfl tyX7 tyX7_ok nmX7 2 (by decide) m_1012 inz7 rfl rfl hin rfl (by rfl) (by rfl) (Nat.le_of_ble_eq_true rfl) dX7_init_22 ?_
  refine s_aload_n C dX7_init_25 rfl ?_
  refine s_bipush C dX7_init_26 ?_
  refine s_newI C Rm (by decide) m_105 dX7_init_28 (by decide) (fun hq28 => ?_)
  refine s_putF C (zu_k zu_s (by omega)) rfl tyX7 tyX7_ok nmX7 3 (by decide) m_1013 inz7 rfl rfl hin rfl (by rfl) (by rfl) (Nat.le_of_ble_eq_true rfl) dX7_init_30 ?_
  refine s_aload_n C dX7_init_33 rfl ?_
  refine s_iconst C dX7_init_34 ?_
  refine s_put C zu_s rfl tyX7 tyX7_ok nmX7 4 (by decide) m_1014 inz7 rfl rfl (by rfl) (by rfl) (Nat.le_of_ble_eq_true rfl) dX7_init_35 ?_
  refine s_aload_n C dX7_init_38 rfl ?_
  refine s_bipush C dX7_init_39 ?_
  refine s_newI C Rm (by decide) m_105 dX7_init_41 (by decide) (fun hq41 => ?_)
  refine s_putF C (zu_k zu_s (by omega)) rfl tyX7 tyX7_ok nmX7 6 (by decide) m_1016 inz7 rfl rfl hin rfl (by rfl) (by rfl) (Nat.le_of_ble_eq_true rfl) dX7_init_43 ?_
  refine s_aload_n C dX7_init_46 rfl ?_
  refine s_bipush C dX7_init_47 ?_
  refine s_anewB C Rm (by decide) m_1009 dX7_init_49 (by decide) (fun hq49 => ?_)
  refine s_putF C (zu_k zu_s (by omega)) rfl tyX7 tyX7_ok nmX7 7 (by decide) m_1017 inz7 rfl rfl hin rfl (by rfl) (by rfl) (Nat.le_of_ble_eq_true rfl) dX7_init_52 ?_
  exact s_vret C E dX7_init_55 (Nat.le_of_ble_eq_true rfl) (Nat.le_of_ble_eq_true rfl) ⟨⟨zu_s, zu_k (zu_k (zu_k (zu_k (zu_k (zu_k (zu_k (zu_k (zu_k (zu_k a0 (by omega)) (by omega)) (by omega)) (by omega)) (by omega)) (by omega)) (by omega)) (by omega)) (by omega)) (by omega), fun k hk => zu_k (zu_k (zu_k (zu_k (zu_k (zu_k (zu_k (zu_k (zu_k (zu_k (b0 k hk) (by omega)) (by omega)) (by omega)) (by omega)) (by omega)) (by omega)) (by omega)) (by omega)) (by omega)) (by omega), zu_k (zu_k (zu_k (zu_k (zu_k (zu_k (zu_k (zu_k zu_s (by omega)) (by omega)) (by omega)) (by omega)) (by omega)) (by omega)) (by omega)) (by omega), zu_k (zu_k (zu_k (zu_k (zu_k (zu_k zu_s (by omega)) (by omega)) (by omega)) (by omega)) (by omega)) (by omega), zu_k (zu_k (zu_k zu_s (by omega)) (by omega)) (by omega), zu_k zu_s (by omega)⟩, by repeat (first | exact c0 | refine zO.zu ?_ (by unfold zb; omega))⟩
