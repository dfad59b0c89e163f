/-! the law's loop over a script of digests alone -/
theorem isMo.o {D : va_G} {μ u : zM} {M : Nat} {P : Nat → Prop} (h : isMo D μ M) (hO : zO P μ u) (hP : ∀ q, M ≤ q → q < M + 14 → ¬ P q) : isMo D u M := ⟨hO.at (hP _ (by omega) (by omega)) h.1, hO.at (hP _ (by omega) (by omega)) h.2.1, fun j hj => hO.at (hP _ (by omega) (by omega)) (h.2.2.1 j hj), hO.at (hP _ (by omega) (by omega)) h.px, hO.at (hP _ (by omega) (by omega)) h.py, hO.at (hP _ (by omega) (by omega)) h.kr, hO.at (hP _ (by omega) (by omega)) h.kf⟩
theorem isKe.o {D : va_G} {μ u : zM} {K : Nat} {P : Nat → Prop} (h : isKe D μ K) (hO : zO P μ u) (hP : ∀ q, K ≤ q → q < K + 66 → ¬ P q) : isKe D u K := ⟨hO.at (hP _ (by omega) (by omega)) h.obj, hO.at (hP _ (by omega) (by omega)) h.regs, fun k hk => (h.reg hk).o hO (hP _ (by omega) (by omega)) (hP _ (by omega) (by omega)), h.spare.o hO (hP _ (by omega) (by omega)) (hP _ (by omega) (by omega)), h.pen.o hO (fun q h1 h2 => hP _ (by omega) (by omega)), ⟨hO.at (hP _ (by omega) (by omega)) h.his.1, hO.at (hP _ (by omega) (by omega)) h.his.2.1, hO.at (hP _ (by omega) (by omega)) h.his.2.2⟩, h.kept.o hO (hP _ (by omega) (by omega)) (hP _ (by omega) (by omega)), h.fl.o hO (fun q h1 h2 => hP _ (by omega) (by omega)), h.ou.o hO (fun q h1 h2 => hP _ (by omega) (by omega)), h.st.o hO (fun q h1 h2 => hP _ (by omega) (by omega))⟩
theorem z_pop2 {X : zX} {l : Launch} {D : va_G} {N0 : Nat} {cc : ByteArray} {nL : Nat} {own : String} {Ts : List Cond} {μ : zM} {kc kn pc : Nat} {L : List (Option Value)} {st : List Value} (C : zC X l D N0 cc nL own Ts) {v : Value} (d : decode cc pc = .ok (.pop2, 1)) (hv : v.category = 2) (k : Z X μ kc kn (pc + 1) L st) : Z X μ kc kn pc L (v :: st) := by
  obtain ⟨p, l', e, R, s, m, args, below, meth, c, D', N', Q⟩ := X
  obtain ⟨rfl, rfl, rfl, hx, hb, hml, hown, hts, hlk, hB⟩ := C
  intro H locs cells slots ls hH hS hc1 hs1 hl
  exact lv_pop2_2 hx hb d hv (k H locs cells slots ls hH hS hc1 hs1 hl)
def zBg (D : va_G) (K : Nat) (μ : zM) (ps : List (Nat × Nat)) : Prop := (ps.map (fun p => p.1)).Nodup ∧ ∀ p, p ∈ ps → K + 81 < p.1 ∧ zKn D μ p.1 p.2
theorem zKn.o {D : va_G} {μ u : zM} {P : Nat → Prop} {a n : Nat} (h : zKn D μ a n) (hO : zO P μ u) (hP : ¬ P a) : zKn D u a n := h.elim (fun ⟨g, h⟩ => Or.inl ⟨g, hO.at hP h⟩) (fun ⟨g, h⟩ => Or.inr ⟨g, hO.at hP h⟩)
set_option maxRecDepth 100000 in
set_option maxHeartbeats 4000000 in
theorem lr_loop {X : zX} {l : Launch} {D : va_G} {N0 : Nat} {b K M O OD : Nat} {xs : Nat → Int32} (C : zC X l D N0 cL_law 9 RL zWS) (Rm : zR X 100000 9200000 12 446) (S : zScr X b 198 xs) (hxs : ∀ j : Nat, j < 33 → xs (6 * j) = 34) (eM : M = K + 66) (eO : O = K + 80) (eD : OD = K + 81) (fin : ∀ (ν : zM) (ps : List (Nat × Nat)) (k : Int) (L6 L7 L8 : Option Value), zWt ps = 9061536 → zBg D K ν ps → Z X ν 4000 9200000 1614 [some (.ref b), some (.ref K), some (.ref M), some (.ref O), some (.ref OD), some (zi k), L6, L7, L8] []) :
    ∀ (n j : Nat) (ν : zM) (ps : List (Nat × Nat)) (k : Int) (g : Nat → Int64) (lo hi fy wt sy : Int) (L6 L7 L8 : Option Value), j + n = 33 → k = 6 * (j : Int) → isKf D ν K g lo hi fy wt sy → isMo D ν M → ν OD = some (zAD D 1 (fun _ => 0)) → zWt ps = 274592 * j → zBg D K ν ps → Z X ν (82 + 56 * j) (34947 + 275616 * j) 28 [some (.ref b), some (.ref K), some (.ref M), some (.ref O), some (.ref OD), some (zi k), L6, L7, L8] [] := by
  intro n
  induction n with
  | zero =>
    intro j ν ps k g lo hi fy wt sy L6 L7 L8 hn hk hK hM hoD hl hB
    refine z_iload C dL_law_28 rfl ?_
    refine z_aload_n C dL_law_30 rfl ?_
    refine z_slen C S dL_law_31 ?_
    refine z_bipush C dL_law_32 ?_
    refine z_isub C dL_law_34 ?_
    refine z_icmp_gt (tgt := 1614) C dL_law_35 (by decide) (fun _ => ?_) (fun hno => absurd hno (by omega))
    exact z_up (by omega) (by omega) (fin ν ps k L6 L7 L8 (by omega) hB)
  | succ n ih =>
    intro j ν ps k g lo hi fy wt sy L6 L7 L8 hn hk hK hM hoD hl hB
    refine z_iload C dL_law_28 rfl ?_
    refine z_aload_n C dL_law_30 rfl ?_
    refine z_slen C S dL_law_31 ?_
    refine z_bipush C dL_law_32 ?_
    refine z_isub C dL_law_34 ?_
    refine z_icmp_gt (tgt := 1614) C dL_law_35 (by decide) (fun hno => absurd hno (by omega)) (fun _ => ?_)
    refine z_aload_n C dL_law_38 rfl ?_
    refine z_iload C dL_law_39 rfl ?_
    refine z_sld C S (by decide) dL_law_41 ?_
    refine z_bipush C dL_law_42 ?_
    refine z_iand C dL_law_44 (zI_as _).symm ?_
    have hv : (Int32.ofInt (xs k.toNat).toInt &&& Int32.ofInt 63).toInt = 34 := by
      rw [show k.toNat = 6 * j by omega, hxs j (by omega)]
      decide
    rw [hv]
    refine z_tableIn (tgt := 1595) C dL_law_45 (by decide) (by decide) rfl (by decide) ?_
    refine z_aload_n C dL_law_1595 rfl ?_
    refine z_cl C (z_rV C Rm qv_X6_digest m_281 (k_digest2 hK) hK.obj rfl dL_law_1596 rfl rfl (Nat.le_of_ble_eq_true rfl) rfl ⟨Nat.le_of_ble_eq_true rfl, Nat.le_of_ble_eq_true rfl, by (try dsimp only); omega, by (try dsimp only); omega⟩) (fun z μ1 hp => ?_)
    obtain ⟨rfl, ⟨g1, lo1, hi1, fy1, wt1, sy1, hK1⟩, hO⟩ := hp
    have hM1 := hM.o hO (fun q h1 h2 => by unfold zb; omega)
    have hD1 := hO.at (by unfold zb; omega) hoD
    refine z_pop2 C dL_law_1599 rfl ?_
    refine z_aload_n C dL_law_1600 rfl ?_
    refine z_cl C (z_rV C Rm qv_X7_digest m_1283 (m_digest2 hM1) hM1.obj rfl dL_law_1601 rfl rfl (Nat.le_of_ble_eq_true rfl) rfl ⟨Nat.le_of_ble_eq_true rfl, Nat.le_of_ble_eq_true rfl, by (try dsimp only); omega, by (try dsimp only); omega⟩) (fun z2 μ2 hq => ?_)
    obtain ⟨rfl, hE, p8, hl8, hN8⟩ := hq
    refine z_pop2 C dL_law_1604 rfl ?_
    refine z_goto (tgt := 1608) C dL_law_1605 (by decide) ?_
    refine z_iinc (L' := [_, _, _, _, _, _, _, _, _]) C dL_law_1608 rfl rfl ?_
    refine z_goto (tgt := 28) C dL_law_1611 (by decide) ?_
    have hB1 : ∀ p, p ∈ ps → zKn D μ1 p.1 p.2 := fun p hp => (hB.2 p hp).2.o hO (by have := (hB.2 p hp).1; unfold zb; omega)
    have hnd : ((p8 ++ ps).map (fun p => p.1)).Nodup := by
      rw [List.map_append]
      refine List.nodup_append.mpr ⟨hN8.1, hB.1, fun a ha c hc h => ?_⟩
      obtain ⟨p, hp, e1⟩ := List.mem_map.mp ha
      obtain ⟨q, hq, e2⟩ := List.mem_map.mp hc
      have h1 := (hB1 q hq).lt (hN8.2 p hp).1
      have e3 : p.1 = a := e1
      have e4 : q.1 = c := e2
      omega
    refine z_up (kc' := 82 + 56 * (j + 1)) (kn' := 34947 + 275616 * (j + 1)) (by (try dsimp only); omega) (by (try dsimp only); omega) (ih (j + 1) μ2 (p8 ++ ps) _ _ _ _ _ _ _ _ _ _ (by omega) (by omega) (hK1.ex hE) (hE.mo hM1) (hE _ _ hD1) (by rw [zWt_app]; omega) ⟨hnd, fun p hp => ?_⟩)
    rcases List.mem_append.mp hp with h | h
    · have h1 := (hN8.2 p h).1 _ _ hD1
      exact ⟨by omega, (hN8.2 p h).2⟩
    · exact ⟨(hB.2 p h).1, (hB1 p h).ex hE⟩
set_option maxRecDepth 100000 in
set_option maxHeartbeats 4000000 in
theorem lr_begin {X : zX} {l : Launch} {D : va_G} {N0 : Nat} {b sz : Nat} {xs : Nat → Int32} (C : zC X l D N0 cL_law 9 RL zWS) (Rm : zR X 100000 9200000 12 446) (S : zScr X b 198 xs) (hxs : ∀ j : Nat, j < 33 → xs (6 * j) = 34) (fin : ∀ (K M O OD : Nat) (ν : zM) (ps : List (Nat × Nat)) (k : Int) (L6 L7 L8 : Option Value), zWt ps = 9061536 → zBg D K ν ps → Z X ν 4000 9200000 1614 [some (.ref b), some (.ref K), some (.ref M), some (.ref O), some (.ref OD), some (zi k), L6, L7, L8] []) : ZS X sz (fun _ => none) 0 0 0 [some (.ref b), none, none, none, none, none, none, none, none] [] := by
  refine s_new C Rm (ci := 6) (fs := [.null, .null, .null, .null, .null, .null, .null]) rfl inz6 tyX6 tyX6_ok m_54 m_55 m_36 (fun j hj => by rcases (by omega : j = 0 ∨ j = 1 ∨ j = 2 ∨ j = 3 ∨ j = 4 ∨ j = 5 ∨ j = 6) with rfl | rfl | rfl | rfl | rfl | rfl | rfl <;> rfl) dL_law_0 (by decide) (fun hq0 => ?_)
  refine s_dup C dL_law_3 rfl ?_
  refine s_init C Rm qi_X6_init m_56 (i_Ker zu_s) dL_law_4 rfl rfl (Nat.le_of_ble_eq_true rfl) rfl ⟨Nat.le_of_ble_eq_true rfl, Nat.le_of_ble_eq_true rfl, Nat.le_of_ble_eq_true rfl, Nat.le_of_ble_eq_true rfl⟩ (fun μ1 hp1 => ?_)
  refine s_astore_n (L' := [_, _, _, _, _, _, _, _, _]) C dL_law_7 rfl ?_
  refine s_new C Rm (ci := 7) (fs := [zi 0, .null, .null, .null, zi 0, zi 0, .null, .null]) rfl inz7 tyX7 tyX7_ok m_1001 m_1002 m_43 (fun j hj => by rcases (by omega : j = 0 ∨ j = 1 ∨ j = 2 ∨ j = 3 ∨ j = 4 ∨ j = 5 ∨ j = 6 ∨ j = 7) with rfl | rfl | rfl | rfl | rfl | rfl | rfl | rfl <;> rfl) dL_law_8 (by decide) (fun hq8 => ?_)
  refine s_dup C dL_law_11 rfl ?_
  refine s_init C Rm qi_X7_init m_1003 (i_Mod zu_s) dL_law_12 rfl rfl (Nat.le_of_ble_eq_true rfl) rfl ⟨Nat.le_of_ble_eq_true rfl, Nat.le_of_ble_eq_true rfl, Nat.le_of_ble_eq_true rfl, Nat.le_of_ble_eq_true rfl⟩ (fun μ2 hp2 => ?_)
  refine s_astore_n (L' := [_, _, _, _, _, _, _, _, _]) C dL_law_15 rfl ?_
  refine s_iconst C dL_law_16 ?_
  refine s_newJ C Rm (by decide) m_73 dL_law_17 (by decide) (fun hq17 => ?_)
  refine s_astore_n (L' := [_, _, _, _, _, _, _, _, _]) C dL_law_19 rfl ?_
  refine s_iconst C dL_law_20 ?_
  refine s_newD C Rm (by decide) m_1289 dL_law_21 (by decide) (fun hq21 => ?_)
  refine s_astore (L' := [_, _, _, _, _, _, _, _, _]) C dL_law_23 rfl ?_
  refine ZS.of ?_
  refine z_iconst C dL_law_25 ?_
  refine z_istore (L' := [_, _, _, _, _, _, _, _, _]) C dL_law_26 rfl ?_
  have q1 : zO (zb (sz + 66) 14) μ1 μ2 := (zO.zu zO.rf (by unfold zb; omega)).tr hp2.2
  have q2 : zO (fun q => sz + 66 ≤ q) μ1 (zu (zu μ2 (sz + 66 + 14) (zAL D (1 : Int).toNat zF)) (sz + 66 + 14 + 1) (zAD D (1 : Int).toNat (fun _ => 0))) := zO.zu (zO.zu (q1.mo (fun q hq => by unfold zb at hq; omega)) (by omega)) (by omega)
  have q3 : zO (fun q => sz + 80 ≤ q) μ2 (zu (zu μ2 (sz + 66 + 14) (zAL D (1 : Int).toNat zF)) (sz + 66 + 14 + 1) (zAD D (1 : Int).toNat (fun _ => 0))) := zO.zu (zO.zu zO.rf (by omega)) (by omega)
  have hK : isKe D _ sz := hp1.1.o q2 (fun q h1 h2 => by omega)
  exact lr_loop C Rm S hxs (by omega) (by omega) (by omega) (fin _ _ _ _) 33 0 _ [] 0 _ _ _ _ _ _ _ _ _ (by omega) (by decide) hK.kf (hp2.1.o q3 (fun q h1 h2 => by omega)) zu_s rfl ⟨List.nodup_nil, fun a h => absurd h List.not_mem_nil⟩
