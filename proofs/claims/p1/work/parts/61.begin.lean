theorem isKe.o {D : va_G} {μ u : zM} {K : Nat} {P : Nat → Prop} (h : isKe D μ K) (hO : zO P μ u) (hP : ∀ q, K ≤ q → q < K + 66 → ¬ P q) : isKe D u K := ⟨hO.at (hP _ (by omega) (by omega)) h.obj, hO.at (hP _ (by omega) (by omega)) h.regs, fun k hk => (h.reg hk).o hO (hP _ (by omega) (by omega)) (hP _ (by omega) (by omega)), h.spare.o hO (hP _ (by omega) (by omega)) (hP _ (by omega) (by omega)), h.pen.o hO (fun q h1 h2 => hP _ (by omega) (by omega)), ⟨hO.at (hP _ (by omega) (by omega)) h.his.1, hO.at (hP _ (by omega) (by omega)) h.his.2.1, hO.at (hP _ (by omega) (by omega)) h.his.2.2⟩, h.kept.o hO (hP _ (by omega) (by omega)) (hP _ (by omega) (by omega)), h.fl.o hO (fun q h1 h2 => hP _ (by omega) (by omega)), h.ou.o hO (fun q h1 h2 => hP _ (by omega) (by omega)), h.st.o hO (fun q h1 h2 => hP _ (by omega) (by omega))⟩
set_option maxRecDepth 100000 in
set_option maxHeartbeats 4000000 in
theorem lw_begin {X : zX} {l : Launch} {D : va_G} {N0 : Nat} (hl0 : l.stackTraces = false) {b sz n : Nat} {xs : Nat → Int32} (C : zC X l D N0 cL_law 9 RL zWS) (Rm : zR X 600002 7302232 12 446) (S : zScr X b n xs) (hn : n ≤ 6) (fin : ∀ (K M O OD : Nat) (ν : zM) (k : Int) (L6 L7 L8 : Option Value), Z X ν 1000 400000 2517 [some (.ref b), some (.ref K), some (.ref M), some (.ref O), some (.ref OD), some (zi k), L6, L7, L8] []) : ZS X sz (fun _ => none) 0 0 0 [some (.ref b), none, none, none, none, none, none, none, none] [] := by
  refine s_new C Rm (ci := 6) (fs := [.null, .null, .null, .null, .null, .null, .null]) rfl inz6 tyX6 tyX6_ok m_54 m_55 m_36 (fun j hj => by rcases (by omega : j = 0 ∨ j = 1 ∨ j = 2 ∨ j = 3 ∨ j = 4 ∨ j = 5 ∨ j = 6) with rfl | rfl | rfl | rfl | rfl | rfl | rfl <;> rfl) dL_law_0 (by decide) (fun hq0 => ?_)
  refine s_dup C dL_law_3 rfl ?_
  refine s_init C Rm qi_X6_init m_56 (i_Ker zu_s) dL_law_4 rfl rfl (Nat.le_of_ble_eq_true rfl) rfl ⟨Nat.le_of_ble_eq_true rfl, Nat.le_of_ble_eq_true rfl, Nat.le_of_ble_eq_true rfl, Nat.le_of_ble_eq_true rfl⟩ (fun μ1 hp1 => ?_)
  refine s_astore_n (L' := [_, _, _, _, _, _, _, _, _]) C dL_law_7 rfl ?_
  refine s_new C Rm (ci := 7) (fs := [zi 0, .null, .null, .null, zi 0, zi 0, .null, .null]) rfl inz7 tyX7 tyX7_ok m_1001 m_1002 m_43 (fun j hj => by rcases (by omega : j = 0 ∨ j = 1 ∨ j = 2 ∨ j = 3 ∨ j = 4 ∨ j = 5 ∨ j = 6 ∨ j = 7) with rfl | rfl | rfl | rfl | rfl | rfl | rfl | rfl <;> rfl) dL_law_8 (by decide) (fun hq8 => ?_)
  refine s_dup C dL_law_11 rfl ?_
  refine s_init C Rm qi_X7_init m_1003 (i_Mod zu_s) dL_law_12 rfl rfl (Nat.le_of_ble_eq_true rfl) rfl ⟨Nat.le_of_ble_eq_true rfl, Nat.le_of_ble_eq_true rfl, Nat.le_of_ble_eq_true rfl, Nat.le_of_ble_eq_true rfl⟩ (fun μ2 hp2 => ?_)
  refine s_astore_n (L' := [_, _, _, _, _, _, _, _, _]) C dL_law_15 rfl ?_
  refine s_iconst C dL_law_16 ?_
  refine s_newJ C Rm (by decide) m_73 dL_law_17 (by decide) (fun hq17 => ?_)
  refine s_astore_n (L' := [_, _, _, _, _, _, _, _, _]) C dL_law_19 rfl ?_
  refine s_iconst C dL_law_20 ?_
  refine s_newD C Rm (by decide) m_1289 dL_law_21 (by decide) (fun hq21 => ?_)
  refine s_astore (L' := [_, _, _, _, _, _, _, _, _]) C dL_law_23 rfl ?_
  refine ZS.of ?_
  refine z_iconst C dL_law_25 ?_
  refine z_istore (L' := [_, _, _, _, _, _, _, _, _]) C dL_law_26 rfl ?_
  have q1 : zO (zb (sz + 66) 14) μ1 μ2 := (zO.zu zO.rf (by unfold zb; omega)).tr hp2.2
  have q2 : zO (fun q => sz + 66 ≤ q) μ1 (zu (zu μ2 (sz + 66 + 14) (zAL D (1 : Int).toNat zF)) (sz + 66 + 14 + 1) (zAD D (1 : Int).toNat (fun _ => 0))) := zO.zu (zO.zu (q1.mo (fun q hq => by unfold zb at hq; omega)) (by omega)) (by omega)
  have q3 : zO (fun q => sz + 80 ≤ q) μ2 (zu (zu μ2 (sz + 66 + 14) (zAL D (1 : Int).toNat zF)) (sz + 66 + 14 + 1) (zAD D (1 : Int).toNat (fun _ => 0))) := zO.zu (zO.zu zO.rf (by omega)) (by omega)
  exact lw_loop hl0 C Rm S ⟨hp1.1.o q2 (fun q h1 h2 => by omega), hp2.1.o q3 (fun q h1 h2 => by omega), zu_k zu_s (by omega), zu_s, rfl, by omega, by omega⟩ hn (fin _ _ _ _)
