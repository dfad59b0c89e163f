theorem isMo.o {D : va_G} {μ u : zM} {M : Nat} {P : Nat → Prop} (h : isMo D μ M) (hO : zO P μ u) (hP : ∀ q, M ≤ q → q < M + 14 → ¬ P q) : isMo D u M := ⟨hO.at (hP _ (by omega) (by omega)) h.1, hO.at (hP _ (by omega) (by omega)) h.2.1, fun j hj => hO.at (hP _ (by omega) (by omega)) (h.2.2.1 j hj), hO.at (hP _ (by omega) (by omega)) h.px, hO.at (hP _ (by omega) (by omega)) h.py, hO.at (hP _ (by omega) (by omega)) h.kr, hO.at (hP _ (by omega) (by omega)) h.kf⟩
/-- where the law stands when it reads the one call of its script -/
def zAtC (D : va_G) (μ : zM) (K M O OD : Nat) : Prop := isKe D μ K ∧ isMo D μ M ∧ μ O = some (zAL D 1 zF) ∧ μ OD = some (zAD D 1 (fun _ => 0)) ∧ M = K + 66 ∧ O = K + 80 ∧ OD = K + 81
def zCont (X : zX) (b K M O OD : Nat) : Prop := ∀ (ν : zM) (L6 L7 L8 : Option Value), Z X ν 1000 400000 2511 [some (.ref b), some (.ref K), some (.ref M), some (.ref O), some (.ref OD), some (zi 0), L6, L7, L8] []

set_option maxRecDepth 100000 in
set_option maxHeartbeats 4000000 in
theorem lc_moveTo {X : zX} {l : Launch} {D : va_G} {N0 : Nat} {Ts : List Cond} (hl0 : l.stackTraces = false) {b K M O OD : Nat} {xs : Nat → Int32} {μ : zM} (C : zC X l D N0 cL_law 9 RL zWS) (Rm : zR X 600002 7302232 12 446) (S : zScr X b 6 xs) (H : zAtC D μ K M O OD) (cont : zCont X b K M O OD) : Z X μ 82 34947 200 [some (.ref b), some (.ref K), some (.ref M), some (.ref O), some (.ref OD), some (zi 0), none, none, none] [] := by
  obtain ⟨hK, hM, hout, hoD, eM, eO, eD⟩ := H
  refine z_aload_n C dL_law_200 rfl ?_
  refine z_aload_n C dL_law_201 rfl ?_
  refine z_iload C dL_law_202 rfl ?_
  refine z_iconst C dL_law_204 ?_
  refine z_iadd C dL_law_205 ?_
  refine z_sld C S (by decide) dL_law_206 ?_
  refine z_aload_n C dL_law_207 rfl ?_
  refine z_iload C dL_law_208 rfl ?_
  refine z_iconst C dL_law_210 ?_
  refine z_iadd C dL_law_211 ?_
  refine z_sld C S (by decide) dL_law_212 ?_
  refine z_aload_n C dL_law_213 rfl ?_
  refine zx_ci C (zx_rW C Rm qw_L_moveTo m_500 (w_moveTo hl0 hK hout (by unfold zb; omega) (zI_rng _) (zI_rng _)) dL_law_214 rfl rfl (Nat.le_of_ble_eq_true rfl) rfl ⟨Nat.le_of_ble_eq_true rfl, Nat.le_of_ble_eq_true rfl, Nat.le_of_ble_eq_true rfl, Nat.le_of_ble_eq_true rfl⟩) (fun _ _ h => h.elim) (fun z μ1 hp => ?_)
  obtain ⟨fo, ho, hO, hcase⟩ := hp
  have hM1 := hM.o hO (fun q h1 h2 => by unfold zb; omega)
  refine z_istore (L' := [_, _, _, _, _, _, _, _, _]) C dL_law_217 rfl ?_
  refine z_aload_n C dL_law_219 rfl ?_
  refine z_aload_n C dL_law_220 rfl ?_
  refine z_iload C dL_law_221 rfl ?_
  refine z_iconst C dL_law_223 ?_
  refine z_iadd C dL_law_224 ?_
  refine z_sld C S (by decide) dL_law_225 ?_
  refine z_aload_n C dL_law_226 rfl ?_
  refine z_iload C dL_law_227 rfl ?_
  refine z_iconst C dL_law_229 ?_
  refine z_iadd C dL_law_230 ?_
  refine z_sld C S (by decide) dL_law_231 ?_
  refine z_ci C (z_rV C Rm qv_X7_moveTo m_1040 (m_moveTo hM1 (zI_rng _) (zI_rng _)) hM1.obj rfl dL_law_232 rfl rfl (Nat.le_of_ble_eq_true rfl) rfl ⟨Nat.le_of_ble_eq_true rfl, Nat.le_of_ble_eq_true rfl, Nat.le_of_ble_eq_true rfl, Nat.le_of_ble_eq_true rfl⟩) (fun z2 μ2 hq => ?_)
  obtain ⟨t, ht, ⟨fs, hfs⟩, hN⟩ := hq
  have ho2 := hN _ _ ho (by unfold zb; omega)
  refine z_istore (L' := [_, _, _, _, _, _, _, _, _]) C dL_law_235 rfl ?_
  refine z_aload_n C dL_law_237 rfl ?_
  refine z_ci C (z_rV C Rm qv_X7_thrown m_1036 (m_thrown hfs) hfs rfl dL_law_238 rfl rfl (Nat.le_of_ble_eq_true rfl) rfl ⟨Nat.le_of_ble_eq_true rfl, Nat.le_of_ble_eq_true rfl, Nat.le_of_ble_eq_true rfl, Nat.le_of_ble_eq_true rfl⟩) (fun z3 μ3 hr => ?_)
  obtain ⟨rfl, rfl⟩ := hr
  refine z_iload C dL_law_241 rfl ?_
  refine z_icmp_eq (tgt := 248) C dL_law_243 (by decide) (fun _ => ?_) (fun hno => absurd hno (fun hne => hne (by omega)))
  refine z_iload C dL_law_248 rfl ?_
  refine z_if_ne (tgt := 265) C dL_law_250 (by decide) (fun hz => ?_) (fun hz => ?_)
  · refine z_goto (tgt := 2511) C dL_law_265 (by decide) ?_
    exact z_up (by decide) (by decide) (cont _ _ _ _)
  · have hv : fo (0 : Int).toNat = (Int32.ofInt z2).toInt64 := by
      rcases hcase with h | h
      · rcases ht with g | g
        · rw [g.2.1]
          exact h.2.1
        · omega
      · omega
    refine z_aload_n C dL_law_253 rfl ?_
    refine z_iconst C dL_law_254 ?_
    refine z_lald C ho2 (by decide) dL_law_255 ?_
    refine z_iload C dL_law_256 rfl ?_
    refine z_i2l C dL_law_258 ?_
    rw [hv]
    refine z_lcmp C dL_law_259 ?_
    rw [zcmp_s]
    refine z_if_eq (tgt := 265) C dL_law_260 (by decide) (fun _ => ?_) (fun hno => absurd hno (fun h => h rfl))
    refine z_goto (tgt := 2511) C dL_law_265 (by decide) ?_
    exact z_up (by decide) (by decide) (cont _ _ _ _)
set_option maxRecDepth 100000 in
set_option maxHeartbeats 4000000 in
theorem lc_lineX {X : zX} {l : Launch} {D : va_G} {N0 : Nat} {Ts : List Cond} (hl0 : l.stackTraces = false) {b K M O OD : Nat} {xs : Nat → Int32} {μ : zM} (C : zC X l D N0 cL_law 9 RL zWS) (Rm : zR X 600002 7302232 12 446) (S : zScr X b 6 xs) (H : zAtC D μ K M O OD) (cont : zCont X b K M O OD) : Z X μ 82 34947 268 [some (.ref b), some (.ref K), some (.ref M), some (.ref O), some (.ref OD), some (zi 0), none, none, none] [] := by
  obtain ⟨hK, hM, hout, hoD, eM, eO, eD⟩ := H
  refine z_aload_n C dL_law_268 rfl ?_
  refine z_aload_n C dL_law_269 rfl ?_
  refine z_iload C dL_law_270 rfl ?_
  refine z_iconst C dL_law_272 ?_
  refine z_iadd C dL_law_273 ?_
  refine z_sld C S (by decide) dL_law_274 ?_
  refine z_aload_n C dL_law_275 rfl ?_
  refine zx_ci C (zx_rW C Rm qw_L_lineX m_589 (w_lineX hl0 hK hout (by unfold zb; omega) (zI_rng _)) dL_law_276 rfl rfl (Nat.le_of_ble_eq_true rfl) rfl ⟨Nat.le_of_ble_eq_true rfl, Nat.le_of_ble_eq_true rfl, Nat.le_of_ble_eq_true rfl, Nat.le_of_ble_eq_true rfl⟩) (fun _ _ h => h.elim) (fun z μ1 hp => ?_)
  obtain ⟨fo, ho, hO, hcase⟩ := hp
  have hM1 := hM.o hO (fun q h1 h2 => by unfold zb; omega)
  refine z_istore (L' := [_, _, _, _, _, _, _, _, _]) C dL_law_279 rfl ?_
  refine z_aload_n C dL_law_281 rfl ?_
  refine z_aload_n C dL_law_282 rfl ?_
  refine z_iload C dL_law_283 rfl ?_
  refine z_iconst C dL_law_285 ?_
  refine z_iadd C dL_law_286 ?_
  refine z_sld C S (by decide) dL_law_287 ?_
  refine z_ci C (z_rV C Rm qv_X7_lineX m_1051 (m_lineX hM1 (zI_rng _)) hM1.obj rfl dL_law_288 rfl rfl (Nat.le_of_ble_eq_true rfl) rfl ⟨Nat.le_of_ble_eq_true rfl, Nat.le_of_ble_eq_true rfl, Nat.le_of_ble_eq_true rfl, Nat.le_of_ble_eq_true rfl⟩) (fun z2 μ2 hq => ?_)
  obtain ⟨t, ht, ⟨fs, hfs⟩, hN⟩ := hq
  have ho2 := hN _ _ ho (by unfold zb; omega)
  refine z_istore (L' := [_, _, _, _, _, _, _, _, _]) C dL_law_291 rfl ?_
  refine z_aload_n C dL_law_293 rfl ?_
  refine z_ci C (z_rV C Rm qv_X7_thrown m_1036 (m_thrown hfs) hfs rfl dL_law_294 rfl rfl (Nat.le_of_ble_eq_true rfl) rfl ⟨Nat.le_of_ble_eq_true rfl, Nat.le_of_ble_eq_true rfl, Nat.le_of_ble_eq_true rfl, Nat.le_of_ble_eq_true rfl⟩) (fun z3 μ3 hr => ?_)
  obtain ⟨rfl, rfl⟩ := hr
  refine z_iload C dL_law_297 rfl ?_
  refine z_icmp_eq (tgt := 304) C dL_law_299 (by decide) (fun _ => ?_) (fun hno => absurd hno (fun hne => hne (by omega)))
  refine z_iload C dL_law_304 rfl ?_
  refine z_if_ne (tgt := 321) C dL_law_306 (by decide) (fun hz => ?_) (fun hz => ?_)
  · refine z_goto (tgt := 2511) C dL_law_321 (by decide) ?_
    exact z_up (by decide) (by decide) (cont _ _ _ _)
  · have hv : fo (0 : Int).toNat = (Int32.ofInt z2).toInt64 := by
      rcases hcase with h | h
      · rcases ht with g | g
        · rw [g.2.1]
          exact h.2.1
        · omega
      · omega
    refine z_aload_n C dL_law_309 rfl ?_
    refine z_iconst C dL_law_310 ?_
    refine z_lald C ho2 (by decide) dL_law_311 ?_
    refine z_iload C dL_law_312 rfl ?_
    refine z_i2l C dL_law_314 ?_
    rw [hv]
    refine z_lcmp C dL_law_315 ?_
    rw [zcmp_s]
    refine z_if_eq (tgt := 321) C dL_law_316 (by decide) (fun _ => ?_) (fun hno => absurd hno (fun h => h rfl))
    refine z_goto (tgt := 2511) C dL_law_321 (by decide) ?_
    exact z_up (by decide) (by decide) (cont _ _ _ _)
set_option maxRecDepth 100000 in
set_option maxHeartbeats 4000000 in
theorem lc_lineY {X : zX} {l : Launch} {D : va_G} {N0 : Nat} {Ts : List Cond} (hl0 : l.stackTraces = false) {b K M O OD : Nat} {xs : Nat → Int32} {μ : zM} (C : zC X l D N0 cL_law 9 RL zWS) (Rm : zR X 600002 7302232 12 446) (S : zScr X b 6 xs) (H : zAtC D μ K M O OD) (cont : zCont X b K M O OD) : Z X μ 82 34947 324 [some (.ref b), some (.ref K), some (.ref M), some (.ref O), some (.ref OD), some (zi 0), none, none, none] [] := by
  obtain ⟨hK, hM, hout, hoD, eM, eO, eD⟩ := H
  refine z_aload_n C dL_law_324 rfl ?_
  refine z_aload_n C dL_law_325 rfl ?_
  refine z_iload C dL_law_326 rfl ?_
  refine z_iconst C dL_law_328 ?_
  refine z_iadd C dL_law_329 ?_
  refine z_sld C S (by decide) dL_law_330 ?_
  refine z_aload_n C dL_law_331 rfl ?_
  refine zx_ci C (zx_rW C Rm qw_L_lineY m_631 (w_lineY hl0 hK hout (by unfold zb; omega) (zI_rng _)) dL_law_332 rfl rfl (Nat.le_of_ble_eq_true rfl) rfl ⟨Nat.le_of_ble_eq_true rfl, Nat.le_of_ble_eq_true rfl, Nat.le_of_ble_eq_true rfl, Nat.le_of_ble_eq_true rfl⟩) (fun _ _ h => h.elim) (fun z μ1 hp => ?_)
  obtain ⟨fo, ho, hO, hcase⟩ := hp
  have hM1 := hM.o hO (fun q h1 h2 => by unfold zb; omega)
  refine z_istore (L' := [_, _, _, _, _, _, _, _, _]) C dL_law_335 rfl ?_
  refine z_aload_n C dL_law_337 rfl ?_
  refine z_aload_n C dL_law_338 rfl ?_
  refine z_iload C dL_law_339 rfl ?_
  refine z_iconst C dL_law_341 ?_
  refine z_iadd C dL_law_342 ?_
  refine z_sld C S (by decide) dL_law_343 ?_
  refine z_ci C (z_rV C Rm qv_X7_lineY m_1059 (m_lineY hM1 (zI_rng _)) hM1.obj rfl dL_law_344 rfl rfl (Nat.le_of_ble_eq_true rfl) rfl ⟨Nat.le_of_ble_eq_true rfl, Nat.le_of_ble_eq_true rfl, Nat.le_of_ble_eq_true rfl, Nat.le_of_ble_eq_true rfl⟩) (fun z2 μ2 hq => ?_)
  obtain ⟨t, ht, ⟨fs, hfs⟩, hN⟩ := hq
  have ho2 := hN _ _ ho (by unfold zb; omega)
  refine z_istore (L' := [_, _, _, _, _, _, _, _, _]) C dL_law_347 rfl ?_
  refine z_aload_n C dL_law_349 rfl ?_
  refine z_ci C (z_rV C Rm qv_X7_thrown m_1036 (m_thrown hfs) hfs rfl dL_law_350 rfl rfl (Nat.le_of_ble_eq_true rfl) rfl ⟨Nat.le_of_ble_eq_true rfl, Nat.le_of_ble_eq_true rfl, Nat.le_of_ble_eq_true rfl, Nat.le_of_ble_eq_true rfl⟩) (fun z3 μ3 hr => ?_)
  obtain ⟨rfl, rfl⟩ := hr
  refine z_iload C dL_law_353 rfl ?_
  refine z_icmp_eq (tgt := 360) C dL_law_355 (by decide) (fun _ => ?_) (fun hno => absurd hno (fun hne => hne (by omega)))
  refine z_iload C dL_law_360 rfl ?_
  refine z_if_ne (tgt := 377) C dL_law_362 (by decide) (fun hz => ?_) (fun hz => ?_)
  · refine z_goto (tgt := 2511) C dL_law_377 (by decide) ?_
    exact z_up (by decide) (by decide) (cont _ _ _ _)
  · have hv : fo (0 : Int).toNat = (Int32.ofInt z2).toInt64 := by
      rcases hcase with h | h
      · rcases ht with g | g
        · rw [g.2.1]
          exact h.2.1
        · omega
      · omega
    refine z_aload_n C dL_law_365 rfl ?_
    refine z_iconst C dL_law_366 ?_
    refine z_lald C ho2 (by decide) dL_law_367 ?_
    refine z_iload C dL_law_368 rfl ?_
    refine z_i2l C dL_law_370 ?_
    rw [hv]
    refine z_lcmp C dL_law_371 ?_
    rw [zcmp_s]
    refine z_if_eq (tgt := 377) C dL_law_372 (by decide) (fun _ => ?_) (fun hno => absurd hno (fun h => h rfl))
    refine z_goto (tgt := 2511) C dL_law_377 (by decide) ?_
    exact z_up (by decide) (by decide) (cont _ _ _ _)
set_option maxRecDepth 100000 in
set_option maxHeartbeats 4000000 in
theorem lc_close {X : zX} {l : Launch} {D : va_G} {N0 : Nat} {Ts : List Cond} (hl0 : l.stackTraces = false) {b K M O OD : Nat} {xs : Nat → Int32} {μ : zM} (C : zC X l D N0 cL_law 9 RL zWS) (Rm : zR X 600002 7302232 12 446) (S : zScr X b 6 xs) (H : zAtC D μ K M O OD) (cont : zCont X b K M O OD) : Z X μ 82 34947 380 [some (.ref b), some (.ref K), some (.ref M), some (.ref O), some (.ref OD), some (zi 0), none, none, none] [] := by
  obtain ⟨hK, hM, hout, hoD, eM, eO, eD⟩ := H
  refine z_aload_n C dL_law_380 rfl ?_
  refine z_aload_n C dL_law_381 rfl ?_
  refine z_iload C dL_law_382 rfl ?_
  refine z_iconst C dL_law_384 ?_
  refine z_iadd C dL_law_385 ?_
  refine z_sld C S (by decide) dL_law_386 ?_
  refine z_aload_n C dL_law_387 rfl ?_
  refine z_iload C dL_law_388 rfl ?_
  refine z_iconst C dL_law_390 ?_
  refine z_iadd C dL_law_391 ?_
  refine z_sld C S (by decide) dL_law_392 ?_
  refine z_aload_n C dL_law_393 rfl ?_
  refine zx_ci C (zx_rW C Rm qw_L_close m_638 (w_close hl0 hK hout (by unfold zb; omega) (zI_rng _) (zI_rng _)) dL_law_394 rfl rfl (Nat.le_of_ble_eq_true rfl) rfl ⟨Nat.le_of_ble_eq_true rfl, Nat.le_of_ble_eq_true rfl, Nat.le_of_ble_eq_true rfl, Nat.le_of_ble_eq_true rfl⟩) (fun _ _ h => h.elim) (fun z μ1 hp => ?_)
  obtain ⟨fo, ho, hO, hcase⟩ := hp
  have hM1 := hM.o hO (fun q h1 h2 => by unfold zb; omega)
  refine z_istore (L' := [_, _, _, _, _, _, _, _, _]) C dL_law_397 rfl ?_
  refine z_aload_n C dL_law_399 rfl ?_
  refine z_aload_n C dL_law_400 rfl ?_
  refine z_iload C dL_law_401 rfl ?_
  refine z_iconst C dL_law_403 ?_
  refine z_iadd C dL_law_404 ?_
  refine z_sld C S (by decide) dL_law_405 ?_
  refine z_aload_n C dL_law_406 rfl ?_
  refine z_iload C dL_law_407 rfl ?_
  refine z_iconst C dL_law_409 ?_
  refine z_iadd C dL_law_410 ?_
  refine z_sld C S (by decide) dL_law_411 ?_
  refine z_ci C (z_rV C Rm qv_X7_close m_1063 (m_close hM1 (zI_rng _) (zI_rng _)) hM1.obj rfl dL_law_412 rfl rfl (Nat.le_of_ble_eq_true rfl) rfl ⟨Nat.le_of_ble_eq_true rfl, Nat.le_of_ble_eq_true rfl, Nat.le_of_ble_eq_true rfl, Nat.le_of_ble_eq_true rfl⟩) (fun z2 μ2 hq => ?_)
  obtain ⟨t, ht, ⟨fs, hfs⟩, hN⟩ := hq
  have ho2 := hN _ _ ho (by unfold zb; omega)
  refine z_istore (L' := [_, _, _, _, _, _, _, _, _]) C dL_law_415 rfl ?_
  refine z_aload_n C dL_law_417 rfl ?_
  refine z_ci C (z_rV C Rm qv_X7_thrown m_1036 (m_thrown hfs) hfs rfl dL_law_418 rfl rfl (Nat.le_of_ble_eq_true rfl) rfl ⟨Nat.le_of_ble_eq_true rfl, Nat.le_of_ble_eq_true rfl, Nat.le_of_ble_eq_true rfl, Nat.le_of_ble_eq_true rfl⟩) (fun z3 μ3 hr => ?_)
  obtain ⟨rfl, rfl⟩ := hr
  refine z_iload C dL_law_421 rfl ?_
  refine z_icmp_eq (tgt := 428) C dL_law_423 (by decide) (fun _ => ?_) (fun hno => absurd hno (fun hne => hne (by omega)))
  refine z_iload C dL_law_428 rfl ?_
  refine z_if_ne (tgt := 445) C dL_law_430 (by decide) (fun hz => ?_) (fun hz => ?_)
  · refine z_goto (tgt := 2511) C dL_law_445 (by decide) ?_
    exact z_up (by decide) (by decide) (cont _ _ _ _)
  · have hv : fo (0 : Int).toNat = (Int32.ofInt z2).toInt64 := by
      rcases hcase with h | h | h
      · rcases ht with g | g | g
        · rw [g.2.1]
          exact h.2.1
        · omega
        · omega
      · omega
      · omega
    refine z_aload_n C dL_law_433 rfl ?_
    refine z_iconst C dL_law_434 ?_
    refine z_lald C ho2 (by decide) dL_law_435 ?_
    refine z_iload C dL_law_436 rfl ?_
    refine z_i2l C dL_law_438 ?_
    rw [hv]
    refine z_lcmp C dL_law_439 ?_
    rw [zcmp_s]
    refine z_if_eq (tgt := 445) C dL_law_440 (by decide) (fun _ => ?_) (fun hno => absurd hno (fun h => h rfl))
    refine z_goto (tgt := 2511) C dL_law_445 (by decide) ?_
    exact z_up (by decide) (by decide) (cont _ _ _ _)
set_option maxRecDepth 100000 in
set_option maxHeartbeats 4000000 in
theorem lc_addRectangle {X : zX} {l : Launch} {D : va_G} {N0 : Nat} {Ts : List Cond} (hl0 : l.stackTraces = false) {b K M O OD : Nat} {xs : Nat → Int32} {μ : zM} (C : zC X l D N0 cL_law 9 RL zWS) (Rm : zR X 600002 7302232 12 446) (S : zScr X b 6 xs) (H : zAtC D μ K M O OD) (cont : zCont X b K M O OD) : Z X μ 82 34947 461 [some (.ref b), some (.ref K), some (.ref M), some (.ref O), some (.ref OD), some (zi 0), none, none, none] [] := by
  obtain ⟨hK, hM, hout, hoD, eM, eO, eD⟩ := H
  refine z_aload_n C dL_law_461 rfl ?_
  refine z_aload_n C dL_law_462 rfl ?_
  refine z_iload C dL_law_463 rfl ?_
  refine z_iconst C dL_law_465 ?_
  refine z_iadd C dL_law_466 ?_
  refine z_sld C S (by decide) dL_law_467 ?_
  refine z_aload_n C dL_law_468 rfl ?_
  refine z_iload C dL_law_469 rfl ?_
  refine z_iconst C dL_law_471 ?_
  refine z_iadd C dL_law_472 ?_
  refine z_sld C S (by decide) dL_law_473 ?_
  refine z_aload_n C dL_law_474 rfl ?_
  refine z_iload C dL_law_475 rfl ?_
  refine z_iconst C dL_law_477 ?_
  refine z_iadd C dL_law_478 ?_
  refine z_sld C S (by decide) dL_law_479 ?_
  refine z_aload_n C dL_law_480 rfl ?_
  refine z_iload C dL_law_481 rfl ?_
  refine z_iconst C dL_law_483 ?_
  refine z_iadd C dL_law_484 ?_
  refine z_sld C S (by decide) dL_law_485 ?_
  refine z_aload_n C dL_law_486 rfl ?_
  refine z_iload C dL_law_487 rfl ?_
  refine z_iconst C dL_law_489 ?_
  refine z_iadd C dL_law_490 ?_
  refine z_sld C S (by decide) dL_law_491 ?_
  refine z_aload_n C dL_law_492 rfl ?_
  refine zx_ci C (zx_rW C Rm qw_L_addRectangle m_700 (w_addRectangle hl0 hK hout (by unfold zb; omega) (zI_rng _) (zI_rng _) (zI_rng _) (zI_rng _) (zI_rng _)) dL_law_493 rfl rfl (Nat.le_of_ble_eq_true rfl) rfl ⟨Nat.le_of_ble_eq_true rfl, Nat.le_of_ble_eq_true rfl, Nat.le_of_ble_eq_true rfl, Nat.le_of_ble_eq_true rfl⟩) (fun _ _ h => h.elim) (fun z μ1 hp => ?_)
  obtain ⟨fo, ho, hO, hcase⟩ := hp
  have hM1 := hM.o hO (fun q h1 h2 => by unfold zb; omega)
  refine z_istore (L' := [_, _, _, _, _, _, _, _, _]) C dL_law_496 rfl ?_
  refine z_aload_n C dL_law_498 rfl ?_
  refine z_aload_n C dL_law_499 rfl ?_
  refine z_iload C dL_law_500 rfl ?_
  refine z_iconst C dL_law_502 ?_
  refine z_iadd C dL_law_503 ?_
  refine z_sld C S (by decide) dL_law_504 ?_
  refine z_aload_n C dL_law_505 rfl ?_
  refine z_iload C dL_law_506 rfl ?_
  refine z_iconst C dL_law_508 ?_
  refine z_iadd C dL_law_509 ?_
  refine z_sld C S (by decide) dL_law_510 ?_
  refine z_aload_n C dL_law_511 rfl ?_
  refine z_iload C dL_law_512 rfl ?_
  refine z_iconst C dL_law_514 ?_
  refine z_iadd C dL_law_515 ?_
  refine z_sld C S (by decide) dL_law_516 ?_
  refine z_aload_n C dL_law_517 rfl ?_
  refine z_iload C dL_law_518 rfl ?_
  refine z_iconst C dL_law_520 ?_
  refine z_iadd C dL_law_521 ?_
  refine z_sld C S (by decide) dL_law_522 ?_
  refine z_aload_n C dL_law_523 rfl ?_
  refine z_iload C dL_law_524 rfl ?_
  refine z_iconst C dL_law_526 ?_
  refine z_iadd C dL_law_527 ?_
  refine z_sld C S (by decide) dL_law_528 ?_
  refine z_ci C (z_rV C Rm qv_X7_addRectangle m_1092 (m_addRect hM1 (zI_rng _) (zI_rng _) (zI_rng _) (zI_rng _) (zI_rng _)) hM1.obj rfl dL_law_529 rfl rfl (Nat.le_of_ble_eq_true rfl) rfl ⟨Nat.le_of_ble_eq_true rfl, Nat.le_of_ble_eq_true rfl, Nat.le_of_ble_eq_true rfl, Nat.le_of_ble_eq_true rfl⟩) (fun z2 μ2 hq => ?_)
  obtain ⟨t, ht, ⟨fs, hfs⟩, hN⟩ := hq
  have ho2 := hN _ _ ho (by unfold zb; omega)
  refine z_istore (L' := [_, _, _, _, _, _, _, _, _]) C dL_law_532 rfl ?_
  refine z_aload_n C dL_law_534 rfl ?_
  refine z_ci C (z_rV C Rm qv_X7_thrown m_1036 (m_thrown hfs) hfs rfl dL_law_535 rfl rfl (Nat.le_of_ble_eq_true rfl) rfl ⟨Nat.le_of_ble_eq_true rfl, Nat.le_of_ble_eq_true rfl, Nat.le_of_ble_eq_true rfl, Nat.le_of_ble_eq_true rfl⟩) (fun z3 μ3 hr => ?_)
  obtain ⟨rfl, rfl⟩ := hr
  refine z_iload C dL_law_538 rfl ?_
  refine z_icmp_eq (tgt := 545) C dL_law_540 (by decide) (fun _ => ?_) (fun hno => absurd hno (fun hne => hne (by omega)))
  refine z_iload C dL_law_545 rfl ?_
  refine z_if_ne (tgt := 562) C dL_law_547 (by decide) (fun hz => ?_) (fun hz => ?_)
  · refine z_goto (tgt := 2511) C dL_law_562 (by decide) ?_
    exact z_up (by decide) (by decide) (cont _ _ _ _)
  · have hv : fo (0 : Int).toNat = (Int32.ofInt z2).toInt64 := by
      rcases hcase with h | h | h | h
      · rcases ht with g | g | g | g
        · rw [g.2.1]
          exact h.2.1
        · omega
        · omega
        · omega
      · omega
      · omega
      · omega
    refine z_aload_n C dL_law_550 rfl ?_
    refine z_iconst C dL_law_551 ?_
    refine z_lald C ho2 (by decide) dL_law_552 ?_
    refine z_iload C dL_law_553 rfl ?_
    refine z_i2l C dL_law_555 ?_
    rw [hv]
    refine z_lcmp C dL_law_556 ?_
    rw [zcmp_s]
    refine z_if_eq (tgt := 562) C dL_law_557 (by decide) (fun _ => ?_) (fun hno => absurd hno (fun h => h rfl))
    refine z_goto (tgt := 2511) C dL_law_562 (by decide) ?_
    exact z_up (by decide) (by decide) (cont _ _ _ _)
set_option maxRecDepth 100000 in
set_option maxHeartbeats 4000000 in
theorem lc_combine {X : zX} {l : Launch} {D : va_G} {N0 : Nat} {Ts : List Cond} (hl0 : l.stackTraces = false) {b K M O OD : Nat} {xs : Nat → Int32} {μ : zM} (C : zC X l D N0 cL_law 9 RL zWS) (Rm : zR X 600002 7302232 12 446) (S : zScr X b 6 xs) (H : zAtC D μ K M O OD) (cont : zCont X b K M O OD) : Z X μ 82 34947 565 [some (.ref b), some (.ref K), some (.ref M), some (.ref O), some (.ref OD), some (zi 0), none, none, none] [] := by
  obtain ⟨hK, hM, hout, hoD, eM, eO, eD⟩ := H
  refine z_aload_n C dL_law_565 rfl ?_
  refine z_aload_n C dL_law_566 rfl ?_
  refine z_iload C dL_law_567 rfl ?_
  refine z_iconst C dL_law_569 ?_
  refine z_iadd C dL_law_570 ?_
  refine z_sld C S (by decide) dL_law_571 ?_
  refine z_aload_n C dL_law_572 rfl ?_
  refine z_iload C dL_law_573 rfl ?_
  refine z_iconst C dL_law_575 ?_
  refine z_iadd C dL_law_576 ?_
  refine z_sld C S (by decide) dL_law_577 ?_
  refine z_aload_n C dL_law_578 rfl ?_
  refine z_iload C dL_law_579 rfl ?_
  refine z_iconst C dL_law_581 ?_
  refine z_iadd C dL_law_582 ?_
  refine z_sld C S (by decide) dL_law_583 ?_
  refine z_aload_n C dL_law_584 rfl ?_
  refine z_iload C dL_law_585 rfl ?_
  refine z_iconst C dL_law_587 ?_
  refine z_iadd C dL_law_588 ?_
  refine z_sld C S (by decide) dL_law_589 ?_
  refine z_aload_n C dL_law_590 rfl ?_
  refine zx_ci C (zx_rW C Rm qw_L_combine m_716 (w_combine hl0 hK hout (by unfold zb; omega) (zI_rng _) (zI_rng _) (zI_rng _) (zI_rng _)) dL_law_591 rfl rfl (Nat.le_of_ble_eq_true rfl) rfl ⟨Nat.le_of_ble_eq_true rfl, Nat.le_of_ble_eq_true rfl, Nat.le_of_ble_eq_true rfl, Nat.le_of_ble_eq_true rfl⟩) (fun _ _ h => h.elim) (fun z μ1 hp => ?_)
  obtain ⟨fo, ho, hO, hcase⟩ := hp
  have hM1 := hM.o hO (fun q h1 h2 => by unfold zb; omega)
  refine z_istore (L' := [_, _, _, _, _, _, _, _, _]) C dL_law_594 rfl ?_
  refine z_aload_n C dL_law_596 rfl ?_
  refine z_aload_n C dL_law_597 rfl ?_
  refine z_iload C dL_law_598 rfl ?_
  refine z_iconst C dL_law_600 ?_
  refine z_iadd C dL_law_601 ?_
  refine z_sld C S (by decide) dL_law_602 ?_
  refine z_aload_n C dL_law_603 rfl ?_
  refine z_iload C dL_law_604 rfl ?_
  refine z_iconst C dL_law_606 ?_
  refine z_iadd C dL_law_607 ?_
  refine z_sld C S (by decide) dL_law_608 ?_
  refine z_aload_n C dL_law_609 rfl ?_
  refine z_iload C dL_law_610 rfl ?_
  refine z_iconst C dL_law_612 ?_
  refine z_iadd C dL_law_613 ?_
  refine z_sld C S (by decide) dL_law_614 ?_
  refine z_aload_n C dL_law_615 rfl ?_
  refine z_iload C dL_law_616 rfl ?_
  refine z_iconst C dL_law_618 ?_
  refine z_iadd C dL_law_619 ?_
  refine z_sld C S (by decide) dL_law_620 ?_
  refine z_ci C (z_rV C Rm qv_X7_combine m_1096 (m_combine hM1 (zI_rng _) (zI_rng _) (zI_rng _) (zI_rng _)) hM1.obj rfl dL_law_621 rfl rfl (Nat.le_of_ble_eq_true rfl) rfl ⟨Nat.le_of_ble_eq_true rfl, Nat.le_of_ble_eq_true rfl, Nat.le_of_ble_eq_true rfl, Nat.le_of_ble_eq_true rfl⟩) (fun z2 μ2 hq => ?_)
  obtain ⟨t, ht, ⟨fs, hfs⟩, hN⟩ := hq
  have ho2 := hN _ _ ho (by unfold zb; omega)
  refine z_istore (L' := [_, _, _, _, _, _, _, _, _]) C dL_law_624 rfl ?_
  refine z_aload_n C dL_law_626 rfl ?_
  refine z_ci C (z_rV C Rm qv_X7_thrown m_1036 (m_thrown hfs) hfs rfl dL_law_627 rfl rfl (Nat.le_of_ble_eq_true rfl) rfl ⟨Nat.le_of_ble_eq_true rfl, Nat.le_of_ble_eq_true rfl, Nat.le_of_ble_eq_true rfl, Nat.le_of_ble_eq_true rfl⟩) (fun z3 μ3 hr => ?_)
  obtain ⟨rfl, rfl⟩ := hr
  refine z_iload C dL_law_630 rfl ?_
  refine z_icmp_eq (tgt := 637) C dL_law_632 (by decide) (fun _ => ?_) (fun hno => absurd hno (fun hne => hne (by omega)))
  refine z_iload C dL_law_637 rfl ?_
  refine z_if_ne (tgt := 654) C dL_law_639 (by decide) (fun hz => ?_) (fun hz => ?_)
  · refine z_goto (tgt := 2511) C dL_law_654 (by decide) ?_
    exact z_up (by decide) (by decide) (cont _ _ _ _)
  · have hv : fo (0 : Int).toNat = (Int32.ofInt z2).toInt64 := by
      rcases hcase with h | h | h
      · rcases ht with g | g | g
        · rw [g.2.1]
          exact h.2.1
        · omega
        · omega
      · omega
      · omega
    refine z_aload_n C dL_law_642 rfl ?_
    refine z_iconst C dL_law_643 ?_
    refine z_lald C ho2 (by decide) dL_law_644 ?_
    refine z_iload C dL_law_645 rfl ?_
    refine z_i2l C dL_law_647 ?_
    rw [hv]
    refine z_lcmp C dL_law_648 ?_
    rw [zcmp_s]
    refine z_if_eq (tgt := 654) C dL_law_649 (by decide) (fun _ => ?_) (fun hno => absurd hno (fun h => h rfl))
    refine z_goto (tgt := 2511) C dL_law_654 (by decide) ?_
    exact z_up (by decide) (by decide) (cont _ _ _ _)
set_option maxRecDepth 100000 in
set_option maxHeartbeats 4000000 in
theorem lc_move {X : zX} {l : Launch} {D : va_G} {N0 : Nat} {Ts : List Cond} (hl0 : l.stackTraces = false) {b K M O OD : Nat} {xs : Nat → Int32} {μ : zM} (C : zC X l D N0 cL_law 9 RL zWS) (Rm : zR X 600002 7302232 12 446) (S : zScr X b 6 xs) (H : zAtC D μ K M O OD) (cont : zCont X b K M O OD) : Z X μ 82 34947 657 [some (.ref b), some (.ref K), some (.ref M), some (.ref O), some (.ref OD), some (zi 0), none, none, none] [] := by
  obtain ⟨hK, hM, hout, hoD, eM, eO, eD⟩ := H
  refine z_aload_n C dL_law_657 rfl ?_
  refine z_aload_n C dL_law_658 rfl ?_
  refine z_iload C dL_law_659 rfl ?_
  refine z_iconst C dL_law_661 ?_
  refine z_iadd C dL_law_662 ?_
  refine z_sld C S (by decide) dL_law_663 ?_
  refine z_aload_n C dL_law_664 rfl ?_
  refine z_iload C dL_law_665 rfl ?_
  refine z_iconst C dL_law_667 ?_
  refine z_iadd C dL_law_668 ?_
  refine z_sld C S (by decide) dL_law_669 ?_
  refine z_aload_n C dL_law_670 rfl ?_
  refine z_iload C dL_law_671 rfl ?_
  refine z_iconst C dL_law_673 ?_
  refine z_iadd C dL_law_674 ?_
  refine z_sld C S (by decide) dL_law_675 ?_
  refine z_aload_n C dL_law_676 rfl ?_
  refine zx_ci C (zx_rW C Rm qw_L_move m_727 (w_move hl0 hK hout (by unfold zb; omega) (zI_rng _) (zI_rng _) (zI_rng _)) dL_law_677 rfl rfl (Nat.le_of_ble_eq_true rfl) rfl ⟨Nat.le_of_ble_eq_true rfl, Nat.le_of_ble_eq_true rfl, Nat.le_of_ble_eq_true rfl, Nat.le_of_ble_eq_true rfl⟩) (fun _ _ h => h.elim) (fun z μ1 hp => ?_)
  obtain ⟨fo, ho, hO, hcase⟩ := hp
  have hM1 := hM.o hO (fun q h1 h2 => by unfold zb; omega)
  refine z_istore (L' := [_, _, _, _, _, _, _, _, _]) C dL_law_680 rfl ?_
  refine z_aload_n C dL_law_682 rfl ?_
  refine z_aload_n C dL_law_683 rfl ?_
  refine z_iload C dL_law_684 rfl ?_
  refine z_iconst C dL_law_686 ?_
  refine z_iadd C dL_law_687 ?_
  refine z_sld C S (by decide) dL_law_688 ?_
  refine z_aload_n C dL_law_689 rfl ?_
  refine z_iload C dL_law_690 rfl ?_
  refine z_iconst C dL_law_692 ?_
  refine z_iadd C dL_law_693 ?_
  refine z_sld C S (by decide) dL_law_694 ?_
  refine z_aload_n C dL_law_695 rfl ?_
  refine z_iload C dL_law_696 rfl ?_
  refine z_iconst C dL_law_698 ?_
  refine z_iadd C dL_law_699 ?_
  refine z_sld C S (by decide) dL_law_700 ?_
  refine z_ci C (z_rV C Rm qv_X7_move m_1100 (m_move hM1 (zI_rng _) (zI_rng _) (zI_rng _)) hM1.obj rfl dL_law_701 rfl rfl (Nat.le_of_ble_eq_true rfl) rfl ⟨Nat.le_of_ble_eq_true rfl, Nat.le_of_ble_eq_true rfl, Nat.le_of_ble_eq_true rfl, Nat.le_of_ble_eq_true rfl⟩) (fun z2 μ2 hq => ?_)
  obtain ⟨t, ht, ⟨fs, hfs⟩, hN⟩ := hq
  have ho2 := hN _ _ ho (by unfold zb; omega)
  refine z_istore (L' := [_, _, _, _, _, _, _, _, _]) C dL_law_704 rfl ?_
  refine z_aload_n C dL_law_706 rfl ?_
  refine z_ci C (z_rV C Rm qv_X7_thrown m_1036 (m_thrown hfs) hfs rfl dL_law_707 rfl rfl (Nat.le_of_ble_eq_true rfl) rfl ⟨Nat.le_of_ble_eq_true rfl, Nat.le_of_ble_eq_true rfl, Nat.le_of_ble_eq_true rfl, Nat.le_of_ble_eq_true rfl⟩) (fun z3 μ3 hr => ?_)
  obtain ⟨rfl, rfl⟩ := hr
  refine z_iload C dL_law_710 rfl ?_
  refine z_icmp_eq (tgt := 717) C dL_law_712 (by decide) (fun _ => ?_) (fun hno => absurd hno (fun hne => hne (by omega)))
  refine z_iload C dL_law_717 rfl ?_
  refine z_if_ne (tgt := 734) C dL_law_719 (by decide) (fun hz => ?_) (fun hz => ?_)
  · refine z_goto (tgt := 2511) C dL_law_734 (by decide) ?_
    exact z_up (by decide) (by decide) (cont _ _ _ _)
  · have hv : fo (0 : Int).toNat = (Int32.ofInt z2).toInt64 := by
      rcases hcase with h | h | h
      · rcases ht with g | g | g
        · rw [g.2.1]
          exact h.2.1
        · omega
        · omega
      · omega
      · omega
    refine z_aload_n C dL_law_722 rfl ?_
    refine z_iconst C dL_law_723 ?_
    refine z_lald C ho2 (by decide) dL_law_724 ?_
    refine z_iload C dL_law_725 rfl ?_
    refine z_i2l C dL_law_727 ?_
    rw [hv]
    refine z_lcmp C dL_law_728 ?_
    rw [zcmp_s]
    refine z_if_eq (tgt := 734) C dL_law_729 (by decide) (fun _ => ?_) (fun hno => absurd hno (fun h => h rfl))
    refine z_goto (tgt := 2511) C dL_law_734 (by decide) ?_
    exact z_up (by decide) (by decide) (cont _ _ _ _)
set_option maxRecDepth 100000 in
set_option maxHeartbeats 4000000 in
theorem lc_turn {X : zX} {l : Launch} {D : va_G} {N0 : Nat} {Ts : List Cond} (hl0 : l.stackTraces = false) {b K M O OD : Nat} {xs : Nat → Int32} {μ : zM} (C : zC X l D N0 cL_law 9 RL zWS) (Rm : zR X 600002 7302232 12 446) (S : zScr X b 6 xs) (H : zAtC D μ K M O OD) (cont : zCont X b K M O OD) : Z X μ 82 34947 737 [some (.ref b), some (.ref K), some (.ref M), some (.ref O), some (.ref OD), some (zi 0), none, none, none] [] := by
  obtain ⟨hK, hM, hout, hoD, eM, eO, eD⟩ := H
  refine z_aload_n C dL_law_737 rfl ?_
  refine z_aload_n C dL_law_738 rfl ?_
  refine z_iload C dL_law_739 rfl ?_
  refine z_iconst C dL_law_741 ?_
  refine z_iadd C dL_law_742 ?_
  refine z_sld C S (by decide) dL_law_743 ?_
  refine z_aload_n C dL_law_744 rfl ?_
  refine z_iload C dL_law_745 rfl ?_
  refine z_iconst C dL_law_747 ?_
  refine z_iadd C dL_law_748 ?_
  refine z_sld C S (by decide) dL_law_749 ?_
  refine z_aload_n C dL_law_750 rfl ?_
  refine zx_ci C (zx_rW C Rm qw_L_turn m_746 (w_turn hl0 hK hout (by unfold zb; omega) (zI_rng _) (zI_rng _)) dL_law_751 rfl rfl (Nat.le_of_ble_eq_true rfl) rfl ⟨Nat.le_of_ble_eq_true rfl, Nat.le_of_ble_eq_true rfl, Nat.le_of_ble_eq_true rfl, Nat.le_of_ble_eq_true rfl⟩) (fun _ _ h => h.elim) (fun z μ1 hp => ?_)
  obtain ⟨fo, ho, hO, hcase⟩ := hp
  have hM1 := hM.o hO (fun q h1 h2 => by unfold zb; omega)
  refine z_istore (L' := [_, _, _, _, _, _, _, _, _]) C dL_law_754 rfl ?_
  refine z_aload_n C dL_law_756 rfl ?_
  refine z_aload_n C dL_law_757 rfl ?_
  refine z_iload C dL_law_758 rfl ?_
  refine z_iconst C dL_law_760 ?_
  refine z_iadd C dL_law_761 ?_
  refine z_sld C S (by decide) dL_law_762 ?_
  refine z_aload_n C dL_law_763 rfl ?_
  refine z_iload C dL_law_764 rfl ?_
  refine z_iconst C dL_law_766 ?_
  refine z_iadd C dL_law_767 ?_
  refine z_sld C S (by decide) dL_law_768 ?_
  refine z_ci C (z_rV C Rm qv_X7_turn m_1107 (m_turn hM1 (zI_rng _) (zI_rng _)) hM1.obj rfl dL_law_769 rfl rfl (Nat.le_of_ble_eq_true rfl) rfl ⟨Nat.le_of_ble_eq_true rfl, Nat.le_of_ble_eq_true rfl, Nat.le_of_ble_eq_true rfl, Nat.le_of_ble_eq_true rfl⟩) (fun z2 μ2 hq => ?_)
  obtain ⟨t, ht, ⟨fs, hfs⟩, hN⟩ := hq
  have ho2 := hN _ _ ho (by unfold zb; omega)
  refine z_istore (L' := [_, _, _, _, _, _, _, _, _]) C dL_law_772 rfl ?_
  refine z_aload_n C dL_law_774 rfl ?_
  refine z_ci C (z_rV C Rm qv_X7_thrown m_1036 (m_thrown hfs) hfs rfl dL_law_775 rfl rfl (Nat.le_of_ble_eq_true rfl) rfl ⟨Nat.le_of_ble_eq_true rfl, Nat.le_of_ble_eq_true rfl, Nat.le_of_ble_eq_true rfl, Nat.le_of_ble_eq_true rfl⟩) (fun z3 μ3 hr => ?_)
  obtain ⟨rfl, rfl⟩ := hr
  refine z_iload C dL_law_778 rfl ?_
  refine z_icmp_eq (tgt := 785) C dL_law_780 (by decide) (fun _ => ?_) (fun hno => absurd hno (fun hne => hne (by omega)))
  refine z_iload C dL_law_785 rfl ?_
  refine z_if_ne (tgt := 802) C dL_law_787 (by decide) (fun hz => ?_) (fun hz => ?_)
  · refine z_goto (tgt := 2511) C dL_law_802 (by decide) ?_
    exact z_up (by decide) (by decide) (cont _ _ _ _)
  · have hv : fo (0 : Int).toNat = (Int32.ofInt z2).toInt64 := by
      rcases hcase with h | h | h
      · rcases ht with g | g | g
        · rw [g.2.1]
          exact h.2.1
        · omega
        · omega
      · omega
      · omega
    refine z_aload_n C dL_law_790 rfl ?_
    refine z_iconst C dL_law_791 ?_
    refine z_lald C ho2 (by decide) dL_law_792 ?_
    refine z_iload C dL_law_793 rfl ?_
    refine z_i2l C dL_law_795 ?_
    rw [hv]
    refine z_lcmp C dL_law_796 ?_
    rw [zcmp_s]
    refine z_if_eq (tgt := 802) C dL_law_797 (by decide) (fun _ => ?_) (fun hno => absurd hno (fun h => h rfl))
    refine z_goto (tgt := 2511) C dL_law_802 (by decide) ?_
    exact z_up (by decide) (by decide) (cont _ _ _ _)
set_option maxRecDepth 100000 in
set_option maxHeartbeats 4000000 in
theorem lc_mirror {X : zX} {l : Launch} {D : va_G} {N0 : Nat} {Ts : List Cond} (hl0 : l.stackTraces = false) {b K M O OD : Nat} {xs : Nat → Int32} {μ : zM} (C : zC X l D N0 cL_law 9 RL zWS) (Rm : zR X 600002 7302232 12 446) (S : zScr X b 6 xs) (H : zAtC D μ K M O OD) (cont : zCont X b K M O OD) : Z X μ 82 34947 805 [some (.ref b), some (.ref K), some (.ref M), some (.ref O), some (.ref OD), some (zi 0), none, none, none] [] := by
  obtain ⟨hK, hM, hout, hoD, eM, eO, eD⟩ := H
  refine z_aload_n C dL_law_805 rfl ?_
  refine z_aload_n C dL_law_806 rfl ?_
  refine z_iload C dL_law_807 rfl ?_
  refine z_iconst C dL_law_809 ?_
  refine z_iadd C dL_law_810 ?_
  refine z_sld C S (by decide) dL_law_811 ?_
  refine z_aload_n C dL_law_812 rfl ?_
  refine zx_ci C (zx_rW C Rm qw_L_mirror m_760 (w_mirror hl0 hK hout (by unfold zb; omega) (zI_rng _)) dL_law_813 rfl rfl (Nat.le_of_ble_eq_true rfl) rfl ⟨Nat.le_of_ble_eq_true rfl, Nat.le_of_ble_eq_true rfl, Nat.le_of_ble_eq_true rfl, Nat.le_of_ble_eq_true rfl⟩) (fun _ _ h => h.elim) (fun z μ1 hp => ?_)
  obtain ⟨fo, ho, hO, hcase⟩ := hp
  have hM1 := hM.o hO (fun q h1 h2 => by unfold zb; omega)
  refine z_istore (L' := [_, _, _, _, _, _, _, _, _]) C dL_law_816 rfl ?_
  refine z_aload_n C dL_law_818 rfl ?_
  refine z_aload_n C dL_law_819 rfl ?_
  refine z_iload C dL_law_820 rfl ?_
  refine z_iconst C dL_law_822 ?_
  refine z_iadd C dL_law_823 ?_
  refine z_sld C S (by decide) dL_law_824 ?_
  refine z_ci C (z_rV C Rm qv_X7_mirror m_1111 (m_mirror hM1 (zI_rng _)) hM1.obj rfl dL_law_825 rfl rfl (Nat.le_of_ble_eq_true rfl) rfl ⟨Nat.le_of_ble_eq_true rfl, Nat.le_of_ble_eq_true rfl, Nat.le_of_ble_eq_true rfl, Nat.le_of_ble_eq_true rfl⟩) (fun z2 μ2 hq => ?_)
  obtain ⟨t, ht, ⟨fs, hfs⟩, hN⟩ := hq
  simp only [not_true_eq_false, and_false, or_false, and_true] at ht
  have ho2 := hN _ _ ho (by unfold zb; omega)
  refine z_istore (L' := [_, _, _, _, _, _, _, _, _]) C dL_law_828 rfl ?_
  refine z_aload_n C dL_law_830 rfl ?_
  refine z_ci C (z_rV C Rm qv_X7_thrown m_1036 (m_thrown hfs) hfs rfl dL_law_831 rfl rfl (Nat.le_of_ble_eq_true rfl) rfl ⟨Nat.le_of_ble_eq_true rfl, Nat.le_of_ble_eq_true rfl, Nat.le_of_ble_eq_true rfl, Nat.le_of_ble_eq_true rfl⟩) (fun z3 μ3 hr => ?_)
  obtain ⟨rfl, rfl⟩ := hr
  refine z_iload C dL_law_834 rfl ?_
  refine z_icmp_eq (tgt := 841) C dL_law_836 (by decide) (fun _ => ?_) (fun hno => absurd hno (fun hne => hne (by omega)))
  refine z_iload C dL_law_841 rfl ?_
  refine z_if_ne (tgt := 858) C dL_law_843 (by decide) (fun hz => ?_) (fun hz => ?_)
  · refine z_goto (tgt := 2511) C dL_law_858 (by decide) ?_
    exact z_up (by decide) (by decide) (cont _ _ _ _)
  · have hv : fo (0 : Int).toNat = (Int32.ofInt z2).toInt64 := by
      rcases hcase with h | h
      · rcases ht with g | g
        · rw [g.2.1]
          exact h.2.1
        · omega
      · omega
    refine z_aload_n C dL_law_846 rfl ?_
    refine z_iconst C dL_law_847 ?_
    refine z_lald C ho2 (by decide) dL_law_848 ?_
    refine z_iload C dL_law_849 rfl ?_
    refine z_i2l C dL_law_851 ?_
    rw [hv]
    refine z_lcmp C dL_law_852 ?_
    rw [zcmp_s]
    refine z_if_eq (tgt := 858) C dL_law_853 (by decide) (fun _ => ?_) (fun hno => absurd hno (fun h => h rfl))
    refine z_goto (tgt := 2511) C dL_law_858 (by decide) ?_
    exact z_up (by decide) (by decide) (cont _ _ _ _)
set_option maxRecDepth 100000 in
set_option maxHeartbeats 4000000 in
theorem lc_grow {X : zX} {l : Launch} {D : va_G} {N0 : Nat} {Ts : List Cond} (hl0 : l.stackTraces = false) {b K M O OD : Nat} {xs : Nat → Int32} {μ : zM} (C : zC X l D N0 cL_law 9 RL zWS) (Rm : zR X 600002 7302232 12 446) (S : zScr X b 6 xs) (H : zAtC D μ K M O OD) (cont : zCont X b K M O OD) : Z X μ 82 34947 861 [some (.ref b), some (.ref K), some (.ref M), some (.ref O), some (.ref OD), some (zi 0), none, none, none] [] := by
  obtain ⟨hK, hM, hout, hoD, eM, eO, eD⟩ := H
  refine z_aload_n C dL_law_861 rfl ?_
  refine z_aload_n C dL_law_862 rfl ?_
  refine z_iload C dL_law_863 rfl ?_
  refine z_iconst C dL_law_865 ?_
  refine z_iadd C dL_law_866 ?_
  refine z_sld C S (by decide) dL_law_867 ?_
  refine z_aload_n C dL_law_868 rfl ?_
  refine z_iload C dL_law_869 rfl ?_
  refine z_iconst C dL_law_871 ?_
  refine z_iadd C dL_law_872 ?_
  refine z_sld C S (by decide) dL_law_873 ?_
  refine z_aload_n C dL_law_874 rfl ?_
  refine z_iload C dL_law_875 rfl ?_
  refine z_iconst C dL_law_877 ?_
  refine z_iadd C dL_law_878 ?_
  refine z_sld C S (by decide) dL_law_879 ?_
  refine z_aload_n C dL_law_880 rfl ?_
  refine zx_ci C (zx_rW C Rm qw_L_grow m_770 (w_grow hl0 hK hout (by unfold zb; omega) (zI_rng _) (zI_rng _) (zI_rng _)) dL_law_881 rfl rfl (Nat.le_of_ble_eq_true rfl) rfl ⟨Nat.le_of_ble_eq_true rfl, Nat.le_of_ble_eq_true rfl, Nat.le_of_ble_eq_true rfl, Nat.le_of_ble_eq_true rfl⟩) (fun _ _ h => h.elim) (fun z μ1 hp => ?_)
  obtain ⟨fo, ho, hO, hcase⟩ := hp
  have hM1 := hM.o hO (fun q h1 h2 => by unfold zb; omega)
  refine z_istore (L' := [_, _, _, _, _, _, _, _, _]) C dL_law_884 rfl ?_
  refine z_aload_n C dL_law_886 rfl ?_
  refine z_aload_n C dL_law_887 rfl ?_
  refine z_iload C dL_law_888 rfl ?_
  refine z_iconst C dL_law_890 ?_
  refine z_iadd C dL_law_891 ?_
  refine z_sld C S (by decide) dL_law_892 ?_
  refine z_aload_n C dL_law_893 rfl ?_
  refine z_iload C dL_law_894 rfl ?_
  refine z_iconst C dL_law_896 ?_
  refine z_iadd C dL_law_897 ?_
  refine z_sld C S (by decide) dL_law_898 ?_
  refine z_aload_n C dL_law_899 rfl ?_
  refine z_iload C dL_law_900 rfl ?_
  refine z_iconst C dL_law_902 ?_
  refine z_iadd C dL_law_903 ?_
  refine z_sld C S (by decide) dL_law_904 ?_
  refine z_ci C (z_rV C Rm qv_X7_grow m_1115 (m_grow hM1 (zI_rng _) (zI_rng _) (zI_rng _)) hM1.obj rfl dL_law_905 rfl rfl (Nat.le_of_ble_eq_true rfl) rfl ⟨Nat.le_of_ble_eq_true rfl, Nat.le_of_ble_eq_true rfl, Nat.le_of_ble_eq_true rfl, Nat.le_of_ble_eq_true rfl⟩) (fun z2 μ2 hq => ?_)
  obtain ⟨t, ht, ⟨fs, hfs⟩, hN⟩ := hq
  have ho2 := hN _ _ ho (by unfold zb; omega)
  refine z_istore (L' := [_, _, _, _, _, _, _, _, _]) C dL_law_908 rfl ?_
  refine z_aload_n C dL_law_910 rfl ?_
  refine z_ci C (z_rV C Rm qv_X7_thrown m_1036 (m_thrown hfs) hfs rfl dL_law_911 rfl rfl (Nat.le_of_ble_eq_true rfl) rfl ⟨Nat.le_of_ble_eq_true rfl, Nat.le_of_ble_eq_true rfl, Nat.le_of_ble_eq_true rfl, Nat.le_of_ble_eq_true rfl⟩) (fun z3 μ3 hr => ?_)
  obtain ⟨rfl, rfl⟩ := hr
  refine z_iload C dL_law_914 rfl ?_
  refine z_icmp_eq (tgt := 921) C dL_law_916 (by decide) (fun _ => ?_) (fun hno => absurd hno (fun hne => hne (by omega)))
  refine z_iload C dL_law_921 rfl ?_
  refine z_if_ne (tgt := 938) C dL_law_923 (by decide) (fun hz => ?_) (fun hz => ?_)
  · refine z_goto (tgt := 2511) C dL_law_938 (by decide) ?_
    exact z_up (by decide) (by decide) (cont _ _ _ _)
  · have hv : fo (0 : Int).toNat = (Int32.ofInt z2).toInt64 := by
      rcases hcase with h | h | h
      · rcases ht with g | g | g
        · rw [g.2.1]
          exact h.2.1
        · omega
        · omega
      · omega
      · omega
    refine z_aload_n C dL_law_926 rfl ?_
    refine z_iconst C dL_law_927 ?_
    refine z_lald C ho2 (by decide) dL_law_928 ?_
    refine z_iload C dL_law_929 rfl ?_
    refine z_i2l C dL_law_931 ?_
    rw [hv]
    refine z_lcmp C dL_law_932 ?_
    rw [zcmp_s]
    refine z_if_eq (tgt := 938) C dL_law_933 (by decide) (fun _ => ?_) (fun hno => absurd hno (fun h => h rfl))
    refine z_goto (tgt := 2511) C dL_law_938 (by decide) ?_
    exact z_up (by decide) (by decide) (cont _ _ _ _)
set_option maxRecDepth 100000 in
set_option maxHeartbeats 4000000 in
theorem lc_shrink {X : zX} {l : Launch} {D : va_G} {N0 : Nat} {Ts : List Cond} (hl0 : l.stackTraces = false) {b K M O OD : Nat} {xs : Nat → Int32} {μ : zM} (C : zC X l D N0 cL_law 9 RL zWS) (Rm : zR X 600002 7302232 12 446) (S : zScr X b 6 xs) (H : zAtC D μ K M O OD) (cont : zCont X b K M O OD) : Z X μ 82 34947 941 [some (.ref b), some (.ref K), some (.ref M), some (.ref O), some (.ref OD), some (zi 0), none, none, none] [] := by
  obtain ⟨hK, hM, hout, hoD, eM, eO, eD⟩ := H
  refine z_aload_n C dL_law_941 rfl ?_
  refine z_aload_n C dL_law_942 rfl ?_
  refine z_iload C dL_law_943 rfl ?_
  refine z_iconst C dL_law_945 ?_
  refine z_iadd C dL_law_946 ?_
  refine z_sld C S (by decide) dL_law_947 ?_
  refine z_aload_n C dL_law_948 rfl ?_
  refine z_iload C dL_law_949 rfl ?_
  refine z_iconst C dL_law_951 ?_
  refine z_iadd C dL_law_952 ?_
  refine z_sld C S (by decide) dL_law_953 ?_
  refine z_aload_n C dL_law_954 rfl ?_
  refine z_iload C dL_law_955 rfl ?_
  refine z_iconst C dL_law_957 ?_
  refine z_iadd C dL_law_958 ?_
  refine z_sld C S (by decide) dL_law_959 ?_
  refine z_aload_n C dL_law_960 rfl ?_
  refine zx_ci C (zx_rW C Rm qw_L_shrink m_785 (w_shrink hl0 hK hout (by unfold zb; omega) (zI_rng _) (zI_rng _) (zI_rng _)) dL_law_961 rfl rfl (Nat.le_of_ble_eq_true rfl) rfl ⟨Nat.le_of_ble_eq_true rfl, Nat.le_of_ble_eq_true rfl, Nat.le_of_ble_eq_true rfl, Nat.le_of_ble_eq_true rfl⟩) (fun _ _ h => h.elim) (fun z μ1 hp => ?_)
  obtain ⟨fo, ho, hO, hcase⟩ := hp
  have hM1 := hM.o hO (fun q h1 h2 => by unfold zb; omega)
  refine z_istore (L' := [_, _, _, _, _, _, _, _, _]) C dL_law_964 rfl ?_
  refine z_aload_n C dL_law_966 rfl ?_
  refine z_aload_n C dL_law_967 rfl ?_
  refine z_iload C dL_law_968 rfl ?_
  refine z_iconst C dL_law_970 ?_
  refine z_iadd C dL_law_971 ?_
  refine z_sld C S (by decide) dL_law_972 ?_
  refine z_aload_n C dL_law_973 rfl ?_
  refine z_iload C dL_law_974 rfl ?_
  refine z_iconst C dL_law_976 ?_
  refine z_iadd C dL_law_977 ?_
  refine z_sld C S (by decide) dL_law_978 ?_
  refine z_aload_n C dL_law_979 rfl ?_
  refine z_iload C dL_law_980 rfl ?_
  refine z_iconst C dL_law_982 ?_
  refine z_iadd C dL_law_983 ?_
  refine z_sld C S (by decide) dL_law_984 ?_
  refine z_ci C (z_rV C Rm qv_X7_shrink m_1125 (m_shrink hM1 (zI_rng _) (zI_rng _) (zI_rng _)) hM1.obj rfl dL_law_985 rfl rfl (Nat.le_of_ble_eq_true rfl) rfl ⟨Nat.le_of_ble_eq_true rfl, Nat.le_of_ble_eq_true rfl, Nat.le_of_ble_eq_true rfl, Nat.le_of_ble_eq_true rfl⟩) (fun z2 μ2 hq => ?_)
  obtain ⟨t, ht, ⟨fs, hfs⟩, hN⟩ := hq
  have ho2 := hN _ _ ho (by unfold zb; omega)
  refine z_istore (L' := [_, _, _, _, _, _, _, _, _]) C dL_law_988 rfl ?_
  refine z_aload_n C dL_law_990 rfl ?_
  refine z_ci C (z_rV C Rm qv_X7_thrown m_1036 (m_thrown hfs) hfs rfl dL_law_991 rfl rfl (Nat.le_of_ble_eq_true rfl) rfl ⟨Nat.le_of_ble_eq_true rfl, Nat.le_of_ble_eq_true rfl, Nat.le_of_ble_eq_true rfl, Nat.le_of_ble_eq_true rfl⟩) (fun z3 μ3 hr => ?_)
  obtain ⟨rfl, rfl⟩ := hr
  refine z_iload C dL_law_994 rfl ?_
  refine z_icmp_eq (tgt := 1001) C dL_law_996 (by decide) (fun _ => ?_) (fun hno => absurd hno (fun hne => hne (by omega)))
  refine z_iload C dL_law_1001 rfl ?_
  refine z_if_ne (tgt := 1018) C dL_law_1003 (by decide) (fun hz => ?_) (fun hz => ?_)
  · refine z_goto (tgt := 2511) C dL_law_1018 (by decide) ?_
    exact z_up (by decide) (by decide) (cont _ _ _ _)
  · have hv : fo (0 : Int).toNat = (Int32.ofInt z2).toInt64 := by
      rcases hcase with h | h | h
      · rcases ht with g | g | g
        · rw [g.2.1]
          exact h.2.1
        · omega
        · omega
      · omega
      · omega
    refine z_aload_n C dL_law_1006 rfl ?_
    refine z_iconst C dL_law_1007 ?_
    refine z_lald C ho2 (by decide) dL_law_1008 ?_
    refine z_iload C dL_law_1009 rfl ?_
    refine z_i2l C dL_law_1011 ?_
    rw [hv]
    refine z_lcmp C dL_law_1012 ?_
    rw [zcmp_s]
    refine z_if_eq (tgt := 1018) C dL_law_1013 (by decide) (fun _ => ?_) (fun hno => absurd hno (fun h => h rfl))
    refine z_goto (tgt := 2511) C dL_law_1018 (by decide) ?_
    exact z_up (by decide) (by decide) (cont _ _ _ _)
set_option maxRecDepth 100000 in
set_option maxHeartbeats 4000000 in
theorem lc_fill {X : zX} {l : Launch} {D : va_G} {N0 : Nat} {Ts : List Cond} (hl0 : l.stackTraces = false) {b K M O OD : Nat} {xs : Nat → Int32} {μ : zM} (C : zC X l D N0 cL_law 9 RL zWS) (Rm : zR X 600002 7302232 12 446) (S : zScr X b 6 xs) (H : zAtC D μ K M O OD) (cont : zCont X b K M O OD) : Z X μ 82 34947 1021 [some (.ref b), some (.ref K), some (.ref M), some (.ref O), some (.ref OD), some (zi 0), none, none, none] [] := by
  obtain ⟨hK, hM, hout, hoD, eM, eO, eD⟩ := H
  refine z_aload_n C dL_law_1021 rfl ?_
  refine z_aload_n C dL_law_1022 rfl ?_
  refine z_iload C dL_law_1023 rfl ?_
  refine z_iconst C dL_law_1025 ?_
  refine z_iadd C dL_law_1026 ?_
  refine z_sld C S (by decide) dL_law_1027 ?_
  refine z_aload_n C dL_law_1028 rfl ?_
  refine zx_ci C (zx_rW C Rm qw_L_fill m_796 (w_fill hl0 hK hout (by unfold zb; omega) (zI_rng _)) dL_law_1029 rfl rfl (Nat.le_of_ble_eq_true rfl) rfl ⟨Nat.le_of_ble_eq_true rfl, Nat.le_of_ble_eq_true rfl, Nat.le_of_ble_eq_true rfl, Nat.le_of_ble_eq_true rfl⟩) (fun _ _ h => h.elim) (fun z μ1 hp => ?_)
  obtain ⟨fo, ho, hO, hcase⟩ := hp
  have hM1 := hM.o hO (fun q h1 h2 => by unfold zb; omega)
  refine z_istore (L' := [_, _, _, _, _, _, _, _, _]) C dL_law_1032 rfl ?_
  refine z_aload_n C dL_law_1034 rfl ?_
  refine z_aload_n C dL_law_1035 rfl ?_
  refine z_iload C dL_law_1036 rfl ?_
  refine z_iconst C dL_law_1038 ?_
  refine z_iadd C dL_law_1039 ?_
  refine z_sld C S (by decide) dL_law_1040 ?_
  refine z_ci C (z_rV C Rm qv_X7_fill m_1132 (m_fill hM1 (zI_rng _)) hM1.obj rfl dL_law_1041 rfl rfl (Nat.le_of_ble_eq_true rfl) rfl ⟨Nat.le_of_ble_eq_true rfl, Nat.le_of_ble_eq_true rfl, Nat.le_of_ble_eq_true rfl, Nat.le_of_ble_eq_true rfl⟩) (fun z2 μ2 hq => ?_)
  obtain ⟨t, ht, ⟨fs, hfs⟩, hN⟩ := hq
  simp only [not_true_eq_false, and_false, or_false, and_true] at ht
  have ho2 := hN _ _ ho (by unfold zb; omega)
  refine z_istore (L' := [_, _, _, _, _, _, _, _, _]) C dL_law_1044 rfl ?_
  refine z_aload_n C dL_law_1046 rfl ?_
  refine z_ci C (z_rV C Rm qv_X7_thrown m_1036 (m_thrown hfs) hfs rfl dL_law_1047 rfl rfl (Nat.le_of_ble_eq_true rfl) rfl ⟨Nat.le_of_ble_eq_true rfl, Nat.le_of_ble_eq_true rfl, Nat.le_of_ble_eq_true rfl, Nat.le_of_ble_eq_true rfl⟩) (fun z3 μ3 hr => ?_)
  obtain ⟨rfl, rfl⟩ := hr
  refine z_iload C dL_law_1050 rfl ?_
  refine z_icmp_eq (tgt := 1057) C dL_law_1052 (by decide) (fun _ => ?_) (fun hno => absurd hno (fun hne => hne (by omega)))
  refine z_iload C dL_law_1057 rfl ?_
  refine z_if_ne (tgt := 1074) C dL_law_1059 (by decide) (fun hz => ?_) (fun hz => ?_)
  · refine z_goto (tgt := 2511) C dL_law_1074 (by decide) ?_
    exact z_up (by decide) (by decide) (cont _ _ _ _)
  · have hv : fo (0 : Int).toNat = (Int32.ofInt z2).toInt64 := by
      rcases hcase with h | h
      · rcases ht with g | g
        · rw [g.2.1]
          exact h.2.1
        · omega
      · omega
    refine z_aload_n C dL_law_1062 rfl ?_
    refine z_iconst C dL_law_1063 ?_
    refine z_lald C ho2 (by decide) dL_law_1064 ?_
    refine z_iload C dL_law_1065 rfl ?_
    refine z_i2l C dL_law_1067 ?_
    rw [hv]
    refine z_lcmp C dL_law_1068 ?_
    rw [zcmp_s]
    refine z_if_eq (tgt := 1074) C dL_law_1069 (by decide) (fun _ => ?_) (fun hno => absurd hno (fun h => h rfl))
    refine z_goto (tgt := 2511) C dL_law_1074 (by decide) ?_
    exact z_up (by decide) (by decide) (cont _ _ _ _)
set_option maxRecDepth 100000 in
set_option maxHeartbeats 4000000 in
theorem lc_keepPiece {X : zX} {l : Launch} {D : va_G} {N0 : Nat} {Ts : List Cond} (hl0 : l.stackTraces = false) {b K M O OD : Nat} {xs : Nat → Int32} {μ : zM} (C : zC X l D N0 cL_law 9 RL zWS) (Rm : zR X 600002 7302232 12 446) (S : zScr X b 6 xs) (H : zAtC D μ K M O OD) (cont : zCont X b K M O OD) : Z X μ 82 34947 1077 [some (.ref b), some (.ref K), some (.ref M), some (.ref O), some (.ref OD), some (zi 0), none, none, none] [] := by
  obtain ⟨hK, hM, hout, hoD, eM, eO, eD⟩ := H
  refine z_aload_n C dL_law_1077 rfl ?_
  refine z_aload_n C dL_law_1078 rfl ?_
  refine z_iload C dL_law_1079 rfl ?_
  refine z_iconst C dL_law_1081 ?_
  refine z_iadd C dL_law_1082 ?_
  refine z_sld C S (by decide) dL_law_1083 ?_
  refine z_aload_n C dL_law_1084 rfl ?_
  refine z_iload C dL_law_1085 rfl ?_
  refine z_iconst C dL_law_1087 ?_
  refine z_iadd C dL_law_1088 ?_
  refine z_sld C S (by decide) dL_law_1089 ?_
  refine z_aload_n C dL_law_1090 rfl ?_
  refine z_iload C dL_law_1091 rfl ?_
  refine z_iconst C dL_law_1093 ?_
  refine z_iadd C dL_law_1094 ?_
  refine z_sld C S (by decide) dL_law_1095 ?_
  refine z_aload_n C dL_law_1096 rfl ?_
  refine zx_ci C (zx_rW C Rm qw_L_keepPiece m_811 (w_keepPiece hl0 hK hout (by unfold zb; omega) (zI_rng _) (zI_rng _) (zI_rng _)) dL_law_1097 rfl rfl (Nat.le_of_ble_eq_true rfl) rfl ⟨Nat.le_of_ble_eq_true rfl, Nat.le_of_ble_eq_true rfl, Nat.le_of_ble_eq_true rfl, Nat.le_of_ble_eq_true rfl⟩) (fun _ _ h => h.elim) (fun z μ1 hp => ?_)
  obtain ⟨fo, ho, hO, hcase⟩ := hp
  have hM1 := hM.o hO (fun q h1 h2 => by unfold zb; omega)
  refine z_istore (L' := [_, _, _, _, _, _, _, _, _]) C dL_law_1100 rfl ?_
  refine z_aload_n C dL_law_1102 rfl ?_
  refine z_aload_n C dL_law_1103 rfl ?_
  refine z_iload C dL_law_1104 rfl ?_
  refine z_iconst C dL_law_1106 ?_
  refine z_iadd C dL_law_1107 ?_
  refine z_sld C S (by decide) dL_law_1108 ?_
  refine z_aload_n C dL_law_1109 rfl ?_
  refine z_iload C dL_law_1110 rfl ?_
  refine z_iconst C dL_law_1112 ?_
  refine z_iadd C dL_law_1113 ?_
  refine z_sld C S (by decide) dL_law_1114 ?_
  refine z_aload_n C dL_law_1115 rfl ?_
  refine z_iload C dL_law_1116 rfl ?_
  refine z_iconst C dL_law_1118 ?_
  refine z_iadd C dL_law_1119 ?_
  refine z_sld C S (by decide) dL_law_1120 ?_
  refine z_ci C (z_rV C Rm qv_X7_keepPiece m_1145 (m_keepPiece hM1 (zI_rng _) (zI_rng _) (zI_rng _)) hM1.obj rfl dL_law_1121 rfl rfl (Nat.le_of_ble_eq_true rfl) rfl ⟨Nat.le_of_ble_eq_true rfl, Nat.le_of_ble_eq_true rfl, Nat.le_of_ble_eq_true rfl, Nat.le_of_ble_eq_true rfl⟩) (fun z2 μ2 hq => ?_)
  obtain ⟨t, ht, ⟨fs, hfs⟩, hN⟩ := hq
  simp only [not_true_eq_false, and_false, or_false, and_true] at ht
  have ho2 := hN _ _ ho (by unfold zb; omega)
  refine z_istore (L' := [_, _, _, _, _, _, _, _, _]) C dL_law_1124 rfl ?_
  refine z_aload_n C dL_law_1126 rfl ?_
  refine z_ci C (z_rV C Rm qv_X7_thrown m_1036 (m_thrown hfs) hfs rfl dL_law_1127 rfl rfl (Nat.le_of_ble_eq_true rfl) rfl ⟨Nat.le_of_ble_eq_true rfl, Nat.le_of_ble_eq_true rfl, Nat.le_of_ble_eq_true rfl, Nat.le_of_ble_eq_true rfl⟩) (fun z3 μ3 hr => ?_)
  obtain ⟨rfl, rfl⟩ := hr
  refine z_iload C dL_law_1130 rfl ?_
  refine z_icmp_eq (tgt := 1137) C dL_law_1132 (by decide) (fun _ => ?_) (fun hno => absurd hno (fun hne => hne (by omega)))
  refine z_iload C dL_law_1137 rfl ?_
  refine z_if_ne (tgt := 1154) C dL_law_1139 (by decide) (fun hz => ?_) (fun hz => ?_)
  · refine z_goto (tgt := 2511) C dL_law_1154 (by decide) ?_
    exact z_up (by decide) (by decide) (cont _ _ _ _)
  · have hv : fo (0 : Int).toNat = (Int32.ofInt z2).toInt64 := by
      rcases hcase with h | h
      · rcases ht with g | g
        · rw [g.2.1]
          exact h.2.1
        · omega
      · omega
    refine z_aload_n C dL_law_1142 rfl ?_
    refine z_iconst C dL_law_1143 ?_
    refine z_lald C ho2 (by decide) dL_law_1144 ?_
    refine z_iload C dL_law_1145 rfl ?_
    refine z_i2l C dL_law_1147 ?_
    rw [hv]
    refine z_lcmp C dL_law_1148 ?_
    rw [zcmp_s]
    refine z_if_eq (tgt := 1154) C dL_law_1149 (by decide) (fun _ => ?_) (fun hno => absurd hno (fun h => h rfl))
    refine z_goto (tgt := 2511) C dL_law_1154 (by decide) ?_
    exact z_up (by decide) (by decide) (cont _ _ _ _)
set_option maxRecDepth 100000 in
set_option maxHeartbeats 4000000 in
theorem lc_clear {X : zX} {l : Launch} {D : va_G} {N0 : Nat} {Ts : List Cond} (hl0 : l.stackTraces = false) {b K M O OD : Nat} {xs : Nat → Int32} {μ : zM} (C : zC X l D N0 cL_law 9 RL zWS) (Rm : zR X 600002 7302232 12 446) (S : zScr X b 6 xs) (H : zAtC D μ K M O OD) (cont : zCont X b K M O OD) : Z X μ 82 34947 1157 [some (.ref b), some (.ref K), some (.ref M), some (.ref O), some (.ref OD), some (zi 0), none, none, none] [] := by
  obtain ⟨hK, hM, hout, hoD, eM, eO, eD⟩ := H
  refine z_aload_n C dL_law_1157 rfl ?_
  refine z_aload_n C dL_law_1158 rfl ?_
  refine z_iload C dL_law_1159 rfl ?_
  refine z_iconst C dL_law_1161 ?_
  refine z_iadd C dL_law_1162 ?_
  refine z_sld C S (by decide) dL_law_1163 ?_
  refine z_aload_n C dL_law_1164 rfl ?_
  refine zx_ci C (zx_rW C Rm qw_L_clear m_823 (w_clear hl0 hK hout (by unfold zb; omega) (zI_rng _)) dL_law_1165 rfl rfl (Nat.le_of_ble_eq_true rfl) rfl ⟨Nat.le_of_ble_eq_true rfl, Nat.le_of_ble_eq_true rfl, Nat.le_of_ble_eq_true rfl, Nat.le_of_ble_eq_true rfl⟩) (fun _ _ h => h.elim) (fun z μ1 hp => ?_)
  obtain ⟨fo, ho, hO, hcase⟩ := hp
  have hM1 := hM.o hO (fun q h1 h2 => by unfold zb; omega)
  refine z_istore (L' := [_, _, _, _, _, _, _, _, _]) C dL_law_1168 rfl ?_
  refine z_aload_n C dL_law_1170 rfl ?_
  refine z_aload_n C dL_law_1171 rfl ?_
  refine z_iload C dL_law_1172 rfl ?_
  refine z_iconst C dL_law_1174 ?_
  refine z_iadd C dL_law_1175 ?_
  refine z_sld C S (by decide) dL_law_1176 ?_
  refine z_ci C (z_rV C Rm qv_X7_clear m_1149 (m_clear hM1 (zI_rng _)) hM1.obj rfl dL_law_1177 rfl rfl (Nat.le_of_ble_eq_true rfl) rfl ⟨Nat.le_of_ble_eq_true rfl, Nat.le_of_ble_eq_true rfl, Nat.le_of_ble_eq_true rfl, Nat.le_of_ble_eq_true rfl⟩) (fun z2 μ2 hq => ?_)
  obtain ⟨t, ht, ⟨fs, hfs⟩, hN⟩ := hq
  simp only [not_true_eq_false, and_false, or_false, and_true] at ht
  have ho2 := hN _ _ ho (by unfold zb; omega)
  refine z_istore (L' := [_, _, _, _, _, _, _, _, _]) C dL_law_1180 rfl ?_
  refine z_aload_n C dL_law_1182 rfl ?_
  refine z_ci C (z_rV C Rm qv_X7_thrown m_1036 (m_thrown hfs) hfs rfl dL_law_1183 rfl rfl (Nat.le_of_ble_eq_true rfl) rfl ⟨Nat.le_of_ble_eq_true rfl, Nat.le_of_ble_eq_true rfl, Nat.le_of_ble_eq_true rfl, Nat.le_of_ble_eq_true rfl⟩) (fun z3 μ3 hr => ?_)
  obtain ⟨rfl, rfl⟩ := hr
  refine z_iload C dL_law_1186 rfl ?_
  refine z_icmp_eq (tgt := 1193) C dL_law_1188 (by decide) (fun _ => ?_) (fun hno => absurd hno (fun hne => hne (by omega)))
  refine z_iload C dL_law_1193 rfl ?_
  refine z_if_ne (tgt := 1210) C dL_law_1195 (by decide) (fun hz => ?_) (fun hz => ?_)
  · refine z_goto (tgt := 2511) C dL_law_1210 (by decide) ?_
    exact z_up (by decide) (by decide) (cont _ _ _ _)
  · have hv : fo (0 : Int).toNat = (Int32.ofInt z2).toInt64 := by
      rcases hcase with h | h
      · rcases ht with g | g
        · rw [g.2.1]
          exact h.2.1
        · omega
      · omega
    refine z_aload_n C dL_law_1198 rfl ?_
    refine z_iconst C dL_law_1199 ?_
    refine z_lald C ho2 (by decide) dL_law_1200 ?_
    refine z_iload C dL_law_1201 rfl ?_
    refine z_i2l C dL_law_1203 ?_
    rw [hv]
    refine z_lcmp C dL_law_1204 ?_
    rw [zcmp_s]
    refine z_if_eq (tgt := 1210) C dL_law_1205 (by decide) (fun _ => ?_) (fun hno => absurd hno (fun h => h rfl))
    refine z_goto (tgt := 2511) C dL_law_1210 (by decide) ?_
    exact z_up (by decide) (by decide) (cont _ _ _ _)
set_option maxRecDepth 100000 in
set_option maxHeartbeats 4000000 in
theorem lc_area {X : zX} {l : Launch} {D : va_G} {N0 : Nat} {Ts : List Cond} (hl0 : l.stackTraces = false) {b K M O OD : Nat} {xs : Nat → Int32} {μ : zM} (C : zC X l D N0 cL_law 9 RL zWS) (Rm : zR X 600002 7302232 12 446) (S : zScr X b 6 xs) (H : zAtC D μ K M O OD) (cont : zCont X b K M O OD) : Z X μ 82 34947 1226 [some (.ref b), some (.ref K), some (.ref M), some (.ref O), some (.ref OD), some (zi 0), none, none, none] [] := by
  obtain ⟨hK, hM, hout, hoD, eM, eO, eD⟩ := H
  refine z_aload_n C dL_law_1226 rfl ?_
  refine z_aload_n C dL_law_1227 rfl ?_
  refine z_iload C dL_law_1228 rfl ?_
  refine z_iconst C dL_law_1230 ?_
  refine z_iadd C dL_law_1231 ?_
  refine z_sld C S (by decide) dL_law_1232 ?_
  refine z_aload_n C dL_law_1233 rfl ?_
  refine zx_ci C (zx_rW C Rm qw_L_area m_831 (w_area hl0 hK hout (by unfold zb; omega) (zI_rng _)) dL_law_1234 rfl rfl (Nat.le_of_ble_eq_true rfl) rfl ⟨Nat.le_of_ble_eq_true rfl, Nat.le_of_ble_eq_true rfl, Nat.le_of_ble_eq_true rfl, Nat.le_of_ble_eq_true rfl⟩) (fun _ _ h => h.elim) (fun z μ1 hp => ?_)
  obtain ⟨fo, ho, hO, hcase⟩ := hp
  have hM1 := hM.o hO (fun q h1 h2 => by unfold zb; omega)
  refine z_istore (L' := [_, _, _, _, _, _, _, _, _]) C dL_law_1237 rfl ?_
  refine z_aload_n C dL_law_1239 rfl ?_
  refine z_aload_n C dL_law_1240 rfl ?_
  refine z_iload C dL_law_1241 rfl ?_
  refine z_iconst C dL_law_1243 ?_
  refine z_iadd C dL_law_1244 ?_
  refine z_sld C S (by decide) dL_law_1245 ?_
  refine z_ci C (z_rV C Rm qv_X7_area m_1157 (m_areaR hM1 (zI_rng _)) hM1.obj rfl dL_law_1246 rfl rfl (Nat.le_of_ble_eq_true rfl) rfl ⟨Nat.le_of_ble_eq_true rfl, Nat.le_of_ble_eq_true rfl, Nat.le_of_ble_eq_true rfl, Nat.le_of_ble_eq_true rfl⟩) (fun z2 μ2 hq => ?_)
  obtain ⟨t, ht, ⟨fs, hfs⟩, hN⟩ := hq
  simp only [not_true_eq_false, and_false, or_false, and_true] at ht
  have ho2 := hN _ _ ho (by unfold zb; omega)
  refine z_istore (L' := [_, _, _, _, _, _, _, _, _]) C dL_law_1249 rfl ?_
  refine z_aload_n C dL_law_1251 rfl ?_
  refine z_ci C (z_rV C Rm qv_X7_thrown m_1036 (m_thrown hfs) hfs rfl dL_law_1252 rfl rfl (Nat.le_of_ble_eq_true rfl) rfl ⟨Nat.le_of_ble_eq_true rfl, Nat.le_of_ble_eq_true rfl, Nat.le_of_ble_eq_true rfl, Nat.le_of_ble_eq_true rfl⟩) (fun z3 μ3 hr => ?_)
  obtain ⟨rfl, rfl⟩ := hr
  refine z_iload C dL_law_1255 rfl ?_
  refine z_icmp_eq (tgt := 1262) C dL_law_1257 (by decide) (fun _ => ?_) (fun hno => absurd hno (fun hne => hne (by omega)))
  refine z_iload C dL_law_1262 rfl ?_
  refine z_if_ne (tgt := 1279) C dL_law_1264 (by decide) (fun hz => ?_) (fun hz => ?_)
  · refine z_goto (tgt := 2511) C dL_law_1279 (by decide) ?_
    exact z_up (by decide) (by decide) (cont _ _ _ _)
  · have hv : fo (0 : Int).toNat = (Int32.ofInt z2).toInt64 := by
      rcases hcase with h | h
      · rcases ht with g | g
        · rw [g.2.1]
          exact h.2.1
        · omega
      · omega
    refine z_aload_n C dL_law_1267 rfl ?_
    refine z_iconst C dL_law_1268 ?_
    refine z_lald C ho2 (by decide) dL_law_1269 ?_
    refine z_iload C dL_law_1270 rfl ?_
    refine z_i2l C dL_law_1272 ?_
    rw [hv]
    refine z_lcmp C dL_law_1273 ?_
    rw [zcmp_s]
    refine z_if_eq (tgt := 1279) C dL_law_1274 (by decide) (fun _ => ?_) (fun hno => absurd hno (fun h => h rfl))
    refine z_goto (tgt := 2511) C dL_law_1279 (by decide) ?_
    exact z_up (by decide) (by decide) (cont _ _ _ _)
set_option maxRecDepth 100000 in
set_option maxHeartbeats 4000000 in
theorem lc_edges {X : zX} {l : Launch} {D : va_G} {N0 : Nat} {Ts : List Cond} (hl0 : l.stackTraces = false) {b K M O OD : Nat} {xs : Nat → Int32} {μ : zM} (C : zC X l D N0 cL_law 9 RL zWS) (Rm : zR X 600002 7302232 12 446) (S : zScr X b 6 xs) (H : zAtC D μ K M O OD) (cont : zCont X b K M O OD) : Z X μ 82 34947 1282 [some (.ref b), some (.ref K), some (.ref M), some (.ref O), some (.ref OD), some (zi 0), none, none, none] [] := by
  obtain ⟨hK, hM, hout, hoD, eM, eO, eD⟩ := H
  refine z_aload_n C dL_law_1282 rfl ?_
  refine z_aload_n C dL_law_1283 rfl ?_
  refine z_iload C dL_law_1284 rfl ?_
  refine z_iconst C dL_law_1286 ?_
  refine z_iadd C dL_law_1287 ?_
  refine z_sld C S (by decide) dL_law_1288 ?_
  refine z_aload_n C dL_law_1289 rfl ?_
  refine zx_ci C (zx_rW C Rm qw_L_edges m_838 (w_edges hl0 hK hout (by unfold zb; omega) (zI_rng _)) dL_law_1290 rfl rfl (Nat.le_of_ble_eq_true rfl) rfl ⟨Nat.le_of_ble_eq_true rfl, Nat.le_of_ble_eq_true rfl, Nat.le_of_ble_eq_true rfl, Nat.le_of_ble_eq_true rfl⟩) (fun _ _ h => h.elim) (fun z μ1 hp => ?_)
  obtain ⟨fo, ho, hO, hcase⟩ := hp
  have hM1 := hM.o hO (fun q h1 h2 => by unfold zb; omega)
  refine z_istore (L' := [_, _, _, _, _, _, _, _, _]) C dL_law_1293 rfl ?_
  refine z_aload_n C dL_law_1295 rfl ?_
  refine z_aload_n C dL_law_1296 rfl ?_
  refine z_iload C dL_law_1297 rfl ?_
  refine z_iconst C dL_law_1299 ?_
  refine z_iadd C dL_law_1300 ?_
  refine z_sld C S (by decide) dL_law_1301 ?_
  refine z_ci C (z_rV C Rm qv_X7_edges m_1161 (m_edges hM1 (zI_rng _)) hM1.obj rfl dL_law_1302 rfl rfl (Nat.le_of_ble_eq_true rfl) rfl ⟨Nat.le_of_ble_eq_true rfl, Nat.le_of_ble_eq_true rfl, Nat.le_of_ble_eq_true rfl, Nat.le_of_ble_eq_true rfl⟩) (fun z2 μ2 hq => ?_)
  obtain ⟨t, ht, ⟨fs, hfs⟩, hN⟩ := hq
  simp only [not_true_eq_false, and_false, or_false, and_true] at ht
  have ho2 := hN _ _ ho (by unfold zb; omega)
  refine z_istore (L' := [_, _, _, _, _, _, _, _, _]) C dL_law_1305 rfl ?_
  refine z_aload_n C dL_law_1307 rfl ?_
  refine z_ci C (z_rV C Rm qv_X7_thrown m_1036 (m_thrown hfs) hfs rfl dL_law_1308 rfl rfl (Nat.le_of_ble_eq_true rfl) rfl ⟨Nat.le_of_ble_eq_true rfl, Nat.le_of_ble_eq_true rfl, Nat.le_of_ble_eq_true rfl, Nat.le_of_ble_eq_true rfl⟩) (fun z3 μ3 hr => ?_)
  obtain ⟨rfl, rfl⟩ := hr
  refine z_iload C dL_law_1311 rfl ?_
  refine z_icmp_eq (tgt := 1318) C dL_law_1313 (by decide) (fun _ => ?_) (fun hno => absurd hno (fun hne => hne (by omega)))
  refine z_iload C dL_law_1318 rfl ?_
  refine z_if_ne (tgt := 1335) C dL_law_1320 (by decide) (fun hz => ?_) (fun hz => ?_)
  · refine z_goto (tgt := 2511) C dL_law_1335 (by decide) ?_
    exact z_up (by decide) (by decide) (cont _ _ _ _)
  · have hv : fo (0 : Int).toNat = (Int32.ofInt z2).toInt64 := by
      rcases hcase with h | h
      · rcases ht with g | g
        · rw [g.2.1]
          exact h.2.1
        · omega
      · omega
    refine z_aload_n C dL_law_1323 rfl ?_
    refine z_iconst C dL_law_1324 ?_
    refine z_lald C ho2 (by decide) dL_law_1325 ?_
    refine z_iload C dL_law_1326 rfl ?_
    refine z_i2l C dL_law_1328 ?_
    rw [hv]
    refine z_lcmp C dL_law_1329 ?_
    rw [zcmp_s]
    refine z_if_eq (tgt := 1335) C dL_law_1330 (by decide) (fun _ => ?_) (fun hno => absurd hno (fun h => h rfl))
    refine z_goto (tgt := 2511) C dL_law_1335 (by decide) ?_
    exact z_up (by decide) (by decide) (cont _ _ _ _)
set_option maxRecDepth 100000 in
set_option maxHeartbeats 4000000 in
theorem lc_pieces {X : zX} {l : Launch} {D : va_G} {N0 : Nat} {Ts : List Cond} (hl0 : l.stackTraces = false) {b K M O OD : Nat} {xs : Nat → Int32} {μ : zM} (C : zC X l D N0 cL_law 9 RL zWS) (Rm : zR X 600002 7302232 12 446) (S : zScr X b 6 xs) (H : zAtC D μ K M O OD) (cont : zCont X b K M O OD) : Z X μ 82 34947 1338 [some (.ref b), some (.ref K), some (.ref M), some (.ref O), some (.ref OD), some (zi 0), none, none, none] [] := by
  obtain ⟨hK, hM, hout, hoD, eM, eO, eD⟩ := H
  refine z_aload_n C dL_law_1338 rfl ?_
  refine z_aload_n C dL_law_1339 rfl ?_
  refine z_iload C dL_law_1340 rfl ?_
  refine z_iconst C dL_law_1342 ?_
  refine z_iadd C dL_law_1343 ?_
  refine z_sld C S (by decide) dL_law_1344 ?_
  refine z_aload_n C dL_law_1345 rfl ?_
  refine zx_ci C (zx_rW C Rm qw_L_pieces m_845 (w_pieces hl0 hK hout (by unfold zb; omega) (zI_rng _)) dL_law_1346 rfl rfl (Nat.le_of_ble_eq_true rfl) rfl ⟨Nat.le_of_ble_eq_true rfl, Nat.le_of_ble_eq_true rfl, Nat.le_of_ble_eq_true rfl, Nat.le_of_ble_eq_true rfl⟩) (fun _ _ h => h.elim) (fun z μ1 hp => ?_)
  obtain ⟨fo, ho, hO, hcase⟩ := hp
  have hM1 := hM.o hO (fun q h1 h2 => by unfold zb; omega)
  refine z_istore (L' := [_, _, _, _, _, _, _, _, _]) C dL_law_1349 rfl ?_
  refine z_aload_n C dL_law_1351 rfl ?_
  refine z_aload_n C dL_law_1352 rfl ?_
  refine z_iload C dL_law_1353 rfl ?_
  refine z_iconst C dL_law_1355 ?_
  refine z_iadd C dL_law_1356 ?_
  refine z_sld C S (by decide) dL_law_1357 ?_
  refine z_ci C (z_rV C Rm qv_X7_pieces m_1169 (m_pieces hM1 (zI_rng _)) hM1.obj rfl dL_law_1358 rfl rfl (Nat.le_of_ble_eq_true rfl) rfl ⟨Nat.le_of_ble_eq_true rfl, Nat.le_of_ble_eq_true rfl, Nat.le_of_ble_eq_true rfl, Nat.le_of_ble_eq_true rfl⟩) (fun z2 μ2 hq => ?_)
  obtain ⟨t, ht, ⟨fs, hfs⟩, hN⟩ := hq
  simp only [not_true_eq_false, and_false, or_false, and_true] at ht
  have ho2 := hN _ _ ho (by unfold zb; omega)
  refine z_istore (L' := [_, _, _, _, _, _, _, _, _]) C dL_law_1361 rfl ?_
  refine z_aload_n C dL_law_1363 rfl ?_
  refine z_ci C (z_rV C Rm qv_X7_thrown m_1036 (m_thrown hfs) hfs rfl dL_law_1364 rfl rfl (Nat.le_of_ble_eq_true rfl) rfl ⟨Nat.le_of_ble_eq_true rfl, Nat.le_of_ble_eq_true rfl, Nat.le_of_ble_eq_true rfl, Nat.le_of_ble_eq_true rfl⟩) (fun z3 μ3 hr => ?_)
  obtain ⟨rfl, rfl⟩ := hr
  refine z_iload C dL_law_1367 rfl ?_
  refine z_icmp_eq (tgt := 1374) C dL_law_1369 (by decide) (fun _ => ?_) (fun hno => absurd hno (fun hne => hne (by omega)))
  refine z_iload C dL_law_1374 rfl ?_
  refine z_if_ne (tgt := 1391) C dL_law_1376 (by decide) (fun hz => ?_) (fun hz => ?_)
  · refine z_goto (tgt := 2511) C dL_law_1391 (by decide) ?_
    exact z_up (by decide) (by decide) (cont _ _ _ _)
  · have hv : fo (0 : Int).toNat = (Int32.ofInt z2).toInt64 := by
      rcases hcase with h | h
      · rcases ht with g | g
        · rw [g.2.1]
          exact h.2.1
        · omega
      · omega
    refine z_aload_n C dL_law_1379 rfl ?_
    refine z_iconst C dL_law_1380 ?_
    refine z_lald C ho2 (by decide) dL_law_1381 ?_
    refine z_iload C dL_law_1382 rfl ?_
    refine z_i2l C dL_law_1384 ?_
    rw [hv]
    refine z_lcmp C dL_law_1385 ?_
    rw [zcmp_s]
    refine z_if_eq (tgt := 1391) C dL_law_1386 (by decide) (fun _ => ?_) (fun hno => absurd hno (fun h => h rfl))
    refine z_goto (tgt := 2511) C dL_law_1391 (by decide) ?_
    exact z_up (by decide) (by decide) (cont _ _ _ _)
set_option maxRecDepth 100000 in
set_option maxHeartbeats 4000000 in
theorem lc_holes {X : zX} {l : Launch} {D : va_G} {N0 : Nat} {Ts : List Cond} (hl0 : l.stackTraces = false) {b K M O OD : Nat} {xs : Nat → Int32} {μ : zM} (C : zC X l D N0 cL_law 9 RL zWS) (Rm : zR X 600002 7302232 12 446) (S : zScr X b 6 xs) (H : zAtC D μ K M O OD) (cont : zCont X b K M O OD) : Z X μ 82 34947 1394 [some (.ref b), some (.ref K), some (.ref M), some (.ref O), some (.ref OD), some (zi 0), none, none, none] [] := by
  obtain ⟨hK, hM, hout, hoD, eM, eO, eD⟩ := H
  refine z_aload_n C dL_law_1394 rfl ?_
  refine z_aload_n C dL_law_1395 rfl ?_
  refine z_iload C dL_law_1396 rfl ?_
  refine z_iconst C dL_law_1398 ?_
  refine z_iadd C dL_law_1399 ?_
  refine z_sld C S (by decide) dL_law_1400 ?_
  refine z_aload_n C dL_law_1401 rfl ?_
  refine zx_ci C (zx_rW C Rm qw_L_holes m_852 (w_holes hl0 hK hout (by unfold zb; omega) (zI_rng _)) dL_law_1402 rfl rfl (Nat.le_of_ble_eq_true rfl) rfl ⟨Nat.le_of_ble_eq_true rfl, Nat.le_of_ble_eq_true rfl, Nat.le_of_ble_eq_true rfl, Nat.le_of_ble_eq_true rfl⟩) (fun _ _ h => h.elim) (fun z μ1 hp => ?_)
  obtain ⟨fo, ho, hO, hcase⟩ := hp
  have hM1 := hM.o hO (fun q h1 h2 => by unfold zb; omega)
  refine z_istore (L' := [_, _, _, _, _, _, _, _, _]) C dL_law_1405 rfl ?_
  refine z_aload_n C dL_law_1407 rfl ?_
  refine z_aload_n C dL_law_1408 rfl ?_
  refine z_iload C dL_law_1409 rfl ?_
  refine z_iconst C dL_law_1411 ?_
  refine z_iadd C dL_law_1412 ?_
  refine z_sld C S (by decide) dL_law_1413 ?_
  refine z_ci C (z_rV C Rm qv_X7_holes m_1173 (m_holes hM1 (zI_rng _)) hM1.obj rfl dL_law_1414 rfl rfl (Nat.le_of_ble_eq_true rfl) rfl ⟨Nat.le_of_ble_eq_true rfl, Nat.le_of_ble_eq_true rfl, Nat.le_of_ble_eq_true rfl, Nat.le_of_ble_eq_true rfl⟩) (fun z2 μ2 hq => ?_)
  obtain ⟨t, ht, ⟨fs, hfs⟩, hN⟩ := hq
  simp only [not_true_eq_false, and_false, or_false, and_true] at ht
  have ho2 := hN _ _ ho (by unfold zb; omega)
  refine z_istore (L' := [_, _, _, _, _, _, _, _, _]) C dL_law_1417 rfl ?_
  refine z_aload_n C dL_law_1419 rfl ?_
  refine z_ci C (z_rV C Rm qv_X7_thrown m_1036 (m_thrown hfs) hfs rfl dL_law_1420 rfl rfl (Nat.le_of_ble_eq_true rfl) rfl ⟨Nat.le_of_ble_eq_true rfl, Nat.le_of_ble_eq_true rfl, Nat.le_of_ble_eq_true rfl, Nat.le_of_ble_eq_true rfl⟩) (fun z3 μ3 hr => ?_)
  obtain ⟨rfl, rfl⟩ := hr
  refine z_iload C dL_law_1423 rfl ?_
  refine z_icmp_eq (tgt := 1430) C dL_law_1425 (by decide) (fun _ => ?_) (fun hno => absurd hno (fun hne => hne (by omega)))
  refine z_iload C dL_law_1430 rfl ?_
  refine z_if_ne (tgt := 1447) C dL_law_1432 (by decide) (fun hz => ?_) (fun hz => ?_)
  · refine z_goto (tgt := 2511) C dL_law_1447 (by decide) ?_
    exact z_up (by decide) (by decide) (cont _ _ _ _)
  · have hv : fo (0 : Int).toNat = (Int32.ofInt z2).toInt64 := by
      rcases hcase with h | h
      · rcases ht with g | g
        · rw [g.2.1]
          exact h.2.1
        · omega
      · omega
    refine z_aload_n C dL_law_1435 rfl ?_
    refine z_iconst C dL_law_1436 ?_
    refine z_lald C ho2 (by decide) dL_law_1437 ?_
    refine z_iload C dL_law_1438 rfl ?_
    refine z_i2l C dL_law_1440 ?_
    rw [hv]
    refine z_lcmp C dL_law_1441 ?_
    rw [zcmp_s]
    refine z_if_eq (tgt := 1447) C dL_law_1442 (by decide) (fun _ => ?_) (fun hno => absurd hno (fun h => h rfl))
    refine z_goto (tgt := 2511) C dL_law_1447 (by decide) ?_
    exact z_up (by decide) (by decide) (cont _ _ _ _)
set_option maxRecDepth 100000 in
set_option maxHeartbeats 4000000 in
theorem lc_has {X : zX} {l : Launch} {D : va_G} {N0 : Nat} {Ts : List Cond} (hl0 : l.stackTraces = false) {b K M O OD : Nat} {xs : Nat → Int32} {μ : zM} (C : zC X l D N0 cL_law 9 RL zWS) (Rm : zR X 600002 7302232 12 446) (S : zScr X b 6 xs) (H : zAtC D μ K M O OD) (cont : zCont X b K M O OD) : Z X μ 82 34947 1450 [some (.ref b), some (.ref K), some (.ref M), some (.ref O), some (.ref OD), some (zi 0), none, none, none] [] := by
  obtain ⟨hK, hM, hout, hoD, eM, eO, eD⟩ := H
  refine z_aload_n C dL_law_1450 rfl ?_
  refine z_aload_n C dL_law_1451 rfl ?_
  refine z_iload C dL_law_1452 rfl ?_
  refine z_iconst C dL_law_1454 ?_
  refine z_iadd C dL_law_1455 ?_
  refine z_sld C S (by decide) dL_law_1456 ?_
  refine z_aload_n C dL_law_1457 rfl ?_
  refine z_iload C dL_law_1458 rfl ?_
  refine z_iconst C dL_law_1460 ?_
  refine z_iadd C dL_law_1461 ?_
  refine z_sld C S (by decide) dL_law_1462 ?_
  refine z_aload_n C dL_law_1463 rfl ?_
  refine z_iload C dL_law_1464 rfl ?_
  refine z_iconst C dL_law_1466 ?_
  refine z_iadd C dL_law_1467 ?_
  refine z_sld C S (by decide) dL_law_1468 ?_
  refine z_aload_n C dL_law_1469 rfl ?_
  refine zx_ci C (zx_rW C Rm qw_L_has m_859 (w_has hl0 hK hout (by unfold zb; omega) (zI_rng _) (zI_rng _) (zI_rng _)) dL_law_1470 rfl rfl (Nat.le_of_ble_eq_true rfl) rfl ⟨Nat.le_of_ble_eq_true rfl, Nat.le_of_ble_eq_true rfl, Nat.le_of_ble_eq_true rfl, Nat.le_of_ble_eq_true rfl⟩) (fun _ _ h => h.elim) (fun z μ1 hp => ?_)
  obtain ⟨fo, ho, hO, hcase⟩ := hp
  have hM1 := hM.o hO (fun q h1 h2 => by unfold zb; omega)
  refine z_istore (L' := [_, _, _, _, _, _, _, _, _]) C dL_law_1473 rfl ?_
  refine z_aload_n C dL_law_1475 rfl ?_
  refine z_aload_n C dL_law_1476 rfl ?_
  refine z_iload C dL_law_1477 rfl ?_
  refine z_iconst C dL_law_1479 ?_
  refine z_iadd C dL_law_1480 ?_
  refine z_sld C S (by decide) dL_law_1481 ?_
  refine z_aload_n C dL_law_1482 rfl ?_
  refine z_iload C dL_law_1483 rfl ?_
  refine z_iconst C dL_law_1485 ?_
  refine z_iadd C dL_law_1486 ?_
  refine z_sld C S (by decide) dL_law_1487 ?_
  refine z_aload_n C dL_law_1488 rfl ?_
  refine z_iload C dL_law_1489 rfl ?_
  refine z_iconst C dL_law_1491 ?_
  refine z_iadd C dL_law_1492 ?_
  refine z_sld C S (by decide) dL_law_1493 ?_
  refine z_ci C (z_rV C Rm qv_X7_has_ m_1181 (m_hasR hM1 (zI_rng _) (zI_rng _) (zI_rng _)) hM1.obj rfl dL_law_1494 rfl rfl (Nat.le_of_ble_eq_true rfl) rfl ⟨Nat.le_of_ble_eq_true rfl, Nat.le_of_ble_eq_true rfl, Nat.le_of_ble_eq_true rfl, Nat.le_of_ble_eq_true rfl⟩) (fun z2 μ2 hq => ?_)
  obtain ⟨t, ht, ⟨fs, hfs⟩, hN⟩ := hq
  simp only [not_true_eq_false, and_false, or_false, and_true] at ht
  have ho2 := hN _ _ ho (by unfold zb; omega)
  refine z_istore (L' := [_, _, _, _, _, _, _, _, _]) C dL_law_1497 rfl ?_
  refine z_aload_n C dL_law_1499 rfl ?_
  refine z_ci C (z_rV C Rm qv_X7_thrown m_1036 (m_thrown hfs) hfs rfl dL_law_1500 rfl rfl (Nat.le_of_ble_eq_true rfl) rfl ⟨Nat.le_of_ble_eq_true rfl, Nat.le_of_ble_eq_true rfl, Nat.le_of_ble_eq_true rfl, Nat.le_of_ble_eq_true rfl⟩) (fun z3 μ3 hr => ?_)
  obtain ⟨rfl, rfl⟩ := hr
  refine z_iload C dL_law_1503 rfl ?_
  refine z_icmp_eq (tgt := 1510) C dL_law_1505 (by decide) (fun _ => ?_) (fun hno => absurd hno (fun hne => hne (by omega)))
  refine z_iload C dL_law_1510 rfl ?_
  refine z_if_ne (tgt := 1534) C dL_law_1512 (by decide) (fun hz => ?_) (fun hz => ?_)
  · refine z_goto (tgt := 2511) C dL_law_1534 (by decide) ?_
    exact z_up (by decide) (by decide) (cont _ _ _ _)
  · have hv : fo (0 : Int).toNat = 0 := by
      rcases hcase with h | h
      · exact h.2.1
      · omega
    have h2 : z2 = 0 := by
      rcases ht with g | g
      · exact g.2.1
      · omega
    subst h2
    refine z_aload_n C dL_law_1515 rfl ?_
    refine z_iconst C dL_law_1516 ?_
    refine z_lald C ho2 (by decide) dL_law_1517 ?_
    refine z_iload C dL_law_1518 rfl ?_
    rw [hv]
    refine z_if_eq (tgt := 1527) C dL_law_1520 (by decide) (fun _ => ?_) (fun hno => absurd hno (fun h => h rfl))
    refine z_lconst_0 C dL_law_1527 ?_
    refine z_lcmp C dL_law_1528 ?_
    rw [zcmp_s]
    refine z_if_eq (tgt := 1534) C dL_law_1529 (by decide) (fun _ => ?_) (fun hno => absurd hno (fun h => h rfl))
    refine z_goto (tgt := 2511) C dL_law_1534 (by decide) ?_
    exact z_up (by decide) (by decide) (cont _ _ _ _)
set_option maxRecDepth 100000 in
set_option maxHeartbeats 4000000 in
theorem lc_bound {X : zX} {l : Launch} {D : va_G} {N0 : Nat} {Ts : List Cond} (hl0 : l.stackTraces = false) {b K M O OD : Nat} {xs : Nat → Int32} {μ : zM} (C : zC X l D N0 cL_law 9 RL zWS) (Rm : zR X 600002 7302232 12 446) (S : zScr X b 6 xs) (H : zAtC D μ K M O OD) (cont : zCont X b K M O OD) : Z X μ 82 34947 1537 [some (.ref b), some (.ref K), some (.ref M), some (.ref O), some (.ref OD), some (zi 0), none, none, none] [] := by
  obtain ⟨hK, hM, hout, hoD, eM, eO, eD⟩ := H
  refine z_aload_n C dL_law_1537 rfl ?_
  refine z_aload_n C dL_law_1538 rfl ?_
  refine z_iload C dL_law_1539 rfl ?_
  refine z_iconst C dL_law_1541 ?_
  refine z_iadd C dL_law_1542 ?_
  refine z_sld C S (by decide) dL_law_1543 ?_
  refine z_aload_n C dL_law_1544 rfl ?_
  refine z_iload C dL_law_1545 rfl ?_
  refine z_iconst C dL_law_1547 ?_
  refine z_iadd C dL_law_1548 ?_
  refine z_sld C S (by decide) dL_law_1549 ?_
  refine z_aload_n C dL_law_1550 rfl ?_
  refine zx_ci C (zx_rW C Rm qw_L_bound m_867 (w_bound hl0 hK hout (by unfold zb; omega) (zI_rng _) (zI_rng _)) dL_law_1551 rfl rfl (Nat.le_of_ble_eq_true rfl) rfl ⟨Nat.le_of_ble_eq_true rfl, Nat.le_of_ble_eq_true rfl, Nat.le_of_ble_eq_true rfl, Nat.le_of_ble_eq_true rfl⟩) (fun _ _ h => h.elim) (fun z μ1 hp => ?_)
  obtain ⟨fo, ho, hO, hcase⟩ := hp
  have hM1 := hM.o hO (fun q h1 h2 => by unfold zb; omega)
  refine z_istore (L' := [_, _, _, _, _, _, _, _, _]) C dL_law_1554 rfl ?_
  refine z_aload_n C dL_law_1556 rfl ?_
  refine z_aload_n C dL_law_1557 rfl ?_
  refine z_iload C dL_law_1558 rfl ?_
  refine z_iconst C dL_law_1560 ?_
  refine z_iadd C dL_law_1561 ?_
  refine z_sld C S (by decide) dL_law_1562 ?_
  refine z_aload_n C dL_law_1563 rfl ?_
  refine z_iload C dL_law_1564 rfl ?_
  refine z_iconst C dL_law_1566 ?_
  refine z_iadd C dL_law_1567 ?_
  refine z_sld C S (by decide) dL_law_1568 ?_
  refine z_ci C (z_rV C Rm qv_X7_bound m_1185 (m_bound hM1 (zI_rng _) (zI_rng _)) hM1.obj rfl dL_law_1569 rfl rfl (Nat.le_of_ble_eq_true rfl) rfl ⟨Nat.le_of_ble_eq_true rfl, Nat.le_of_ble_eq_true rfl, Nat.le_of_ble_eq_true rfl, Nat.le_of_ble_eq_true rfl⟩) (fun z2 μ2 hq => ?_)
  obtain ⟨t, ht, ⟨fs, hfs⟩, hN⟩ := hq
  have ho2 := hN _ _ ho (by unfold zb; omega)
  refine z_istore (L' := [_, _, _, _, _, _, _, _, _]) C dL_law_1572 rfl ?_
  refine z_aload_n C dL_law_1574 rfl ?_
  refine z_ci C (z_rV C Rm qv_X7_thrown m_1036 (m_thrown hfs) hfs rfl dL_law_1575 rfl rfl (Nat.le_of_ble_eq_true rfl) rfl ⟨Nat.le_of_ble_eq_true rfl, Nat.le_of_ble_eq_true rfl, Nat.le_of_ble_eq_true rfl, Nat.le_of_ble_eq_true rfl⟩) (fun z3 μ3 hr => ?_)
  obtain ⟨rfl, rfl⟩ := hr
  refine z_iload C dL_law_1578 rfl ?_
  refine z_icmp_eq (tgt := 1585) C dL_law_1580 (by decide) (fun _ => ?_) (fun hno => absurd hno (fun hne => hne (by omega)))
  refine z_iload C dL_law_1585 rfl ?_
  refine z_if_ne (tgt := 1602) C dL_law_1587 (by decide) (fun hz => ?_) (fun hz => ?_)
  · refine z_goto (tgt := 2511) C dL_law_1602 (by decide) ?_
    exact z_up (by decide) (by decide) (cont _ _ _ _)
  · have hv : fo (0 : Int).toNat = (Int32.ofInt z2).toInt64 := by
      rcases hcase with h | h | h
      · rcases ht with g | g | g
        · rw [g.2.1]
          exact h.2.1
        · omega
        · omega
      · omega
      · omega
    refine z_aload_n C dL_law_1590 rfl ?_
    refine z_iconst C dL_law_1591 ?_
    refine z_lald C ho2 (by decide) dL_law_1592 ?_
    refine z_iload C dL_law_1593 rfl ?_
    refine z_i2l C dL_law_1595 ?_
    rw [hv]
    refine z_lcmp C dL_law_1596 ?_
    rw [zcmp_s]
    refine z_if_eq (tgt := 1602) C dL_law_1597 (by decide) (fun _ => ?_) (fun hno => absurd hno (fun h => h rfl))
    refine z_goto (tgt := 2511) C dL_law_1602 (by decide) ?_
    exact z_up (by decide) (by decide) (cont _ _ _ _)
set_option maxRecDepth 100000 in
set_option maxHeartbeats 4000000 in
theorem lc_contours {X : zX} {l : Launch} {D : va_G} {N0 : Nat} {Ts : List Cond} (hl0 : l.stackTraces = false) {b K M O OD : Nat} {xs : Nat → Int32} {μ : zM} (C : zC X l D N0 cL_law 9 RL zWS) (Rm : zR X 600002 7302232 12 446) (S : zScr X b 6 xs) (H : zAtC D μ K M O OD) (cont : zCont X b K M O OD) : Z X μ 82 34947 1605 [some (.ref b), some (.ref K), some (.ref M), some (.ref O), some (.ref OD), some (zi 0), none, none, none] [] := by
  obtain ⟨hK, hM, hout, hoD, eM, eO, eD⟩ := H
  refine z_aload_n C dL_law_1605 rfl ?_
  refine z_aload_n C dL_law_1606 rfl ?_
  refine z_iload C dL_law_1607 rfl ?_
  refine z_iconst C dL_law_1609 ?_
  refine z_iadd C dL_law_1610 ?_
  refine z_sld C S (by decide) dL_law_1611 ?_
  refine z_aload_n C dL_law_1612 rfl ?_
  refine zx_ci C (zx_rW C Rm qw_L_contours m_875 (w_contours hl0 hK hout (by unfold zb; omega) (zI_rng _)) dL_law_1613 rfl rfl (Nat.le_of_ble_eq_true rfl) rfl ⟨Nat.le_of_ble_eq_true rfl, Nat.le_of_ble_eq_true rfl, Nat.le_of_ble_eq_true rfl, Nat.le_of_ble_eq_true rfl⟩) (fun _ _ h => h.elim) (fun z μ1 hp => ?_)
  obtain ⟨fo, ho, hO, hcase⟩ := hp
  have hM1 := hM.o hO (fun q h1 h2 => by unfold zb; omega)
  refine z_istore (L' := [_, _, _, _, _, _, _, _, _]) C dL_law_1616 rfl ?_
  refine z_aload_n C dL_law_1618 rfl ?_
  refine z_aload_n C dL_law_1619 rfl ?_
  refine z_iload C dL_law_1620 rfl ?_
  refine z_iconst C dL_law_1622 ?_
  refine z_iadd C dL_law_1623 ?_
  refine z_sld C S (by decide) dL_law_1624 ?_
  refine z_ci C (z_rV C Rm qv_X7_contours m_1193 (m_contours hM1 (zI_rng _)) hM1.obj rfl dL_law_1625 rfl rfl (Nat.le_of_ble_eq_true rfl) rfl ⟨Nat.le_of_ble_eq_true rfl, Nat.le_of_ble_eq_true rfl, Nat.le_of_ble_eq_true rfl, Nat.le_of_ble_eq_true rfl⟩) (fun z2 μ2 hq => ?_)
  obtain ⟨t, ht, ⟨fs, hfs⟩, hN⟩ := hq
  simp only [not_true_eq_false, and_false, or_false, and_true] at ht
  have ho2 := hN _ _ ho (by unfold zb; omega)
  refine z_istore (L' := [_, _, _, _, _, _, _, _, _]) C dL_law_1628 rfl ?_
  refine z_aload_n C dL_law_1630 rfl ?_
  refine z_ci C (z_rV C Rm qv_X7_thrown m_1036 (m_thrown hfs) hfs rfl dL_law_1631 rfl rfl (Nat.le_of_ble_eq_true rfl) rfl ⟨Nat.le_of_ble_eq_true rfl, Nat.le_of_ble_eq_true rfl, Nat.le_of_ble_eq_true rfl, Nat.le_of_ble_eq_true rfl⟩) (fun z3 μ3 hr => ?_)
  obtain ⟨rfl, rfl⟩ := hr
  refine z_iload C dL_law_1634 rfl ?_
  refine z_icmp_eq (tgt := 1641) C dL_law_1636 (by decide) (fun _ => ?_) (fun hno => absurd hno (fun hne => hne (by omega)))
  refine z_iload C dL_law_1641 rfl ?_
  refine z_if_ne (tgt := 1658) C dL_law_1643 (by decide) (fun hz => ?_) (fun hz => ?_)
  · refine z_goto (tgt := 2511) C dL_law_1658 (by decide) ?_
    exact z_up (by decide) (by decide) (cont _ _ _ _)
  · have hv : fo (0 : Int).toNat = (Int32.ofInt z2).toInt64 := by
      rcases hcase with h | h
      · rcases ht with g | g
        · rw [g.2.1]
          exact h.2.1
        · omega
      · omega
    refine z_aload_n C dL_law_1646 rfl ?_
    refine z_iconst C dL_law_1647 ?_
    refine z_lald C ho2 (by decide) dL_law_1648 ?_
    refine z_iload C dL_law_1649 rfl ?_
    refine z_i2l C dL_law_1651 ?_
    rw [hv]
    refine z_lcmp C dL_law_1652 ?_
    rw [zcmp_s]
    refine z_if_eq (tgt := 1658) C dL_law_1653 (by decide) (fun _ => ?_) (fun hno => absurd hno (fun h => h rfl))
    refine z_goto (tgt := 2511) C dL_law_1658 (by decide) ?_
    exact z_up (by decide) (by decide) (cont _ _ _ _)
set_option maxRecDepth 100000 in
set_option maxHeartbeats 4000000 in
theorem lc_corners {X : zX} {l : Launch} {D : va_G} {N0 : Nat} {Ts : List Cond} (hl0 : l.stackTraces = false) {b K M O OD : Nat} {xs : Nat → Int32} {μ : zM} (C : zC X l D N0 cL_law 9 RL zWS) (Rm : zR X 600002 7302232 12 446) (S : zScr X b 6 xs) (H : zAtC D μ K M O OD) (cont : zCont X b K M O OD) : Z X μ 82 34947 1661 [some (.ref b), some (.ref K), some (.ref M), some (.ref O), some (.ref OD), some (zi 0), none, none, none] [] := by
  obtain ⟨hK, hM, hout, hoD, eM, eO, eD⟩ := H
  refine z_aload_n C dL_law_1661 rfl ?_
  refine z_aload_n C dL_law_1662 rfl ?_
  refine z_iload C dL_law_1663 rfl ?_
  refine z_iconst C dL_law_1665 ?_
  refine z_iadd C dL_law_1666 ?_
  refine z_sld C S (by decide) dL_law_1667 ?_
  refine z_aload_n C dL_law_1668 rfl ?_
  refine z_iload C dL_law_1669 rfl ?_
  refine z_iconst C dL_law_1671 ?_
  refine z_iadd C dL_law_1672 ?_
  refine z_sld C S (by decide) dL_law_1673 ?_
  refine z_aload_n C dL_law_1674 rfl ?_
  refine zx_ci C (zx_rW C Rm qw_L_corners m_882 (w_corners hl0 hK hout (by unfold zb; omega) (zI_rng _) (zI_rng _)) dL_law_1675 rfl rfl (Nat.le_of_ble_eq_true rfl) rfl ⟨Nat.le_of_ble_eq_true rfl, Nat.le_of_ble_eq_true rfl, Nat.le_of_ble_eq_true rfl, Nat.le_of_ble_eq_true rfl⟩) (fun _ _ h => h.elim) (fun z μ1 hp => ?_)
  obtain ⟨fo, ho, hO, hcase⟩ := hp
  have hM1 := hM.o hO (fun q h1 h2 => by unfold zb; omega)
  refine z_istore (L' := [_, _, _, _, _, _, _, _, _]) C dL_law_1678 rfl ?_
  refine z_aload_n C dL_law_1680 rfl ?_
  refine z_aload_n C dL_law_1681 rfl ?_
  refine z_iload C dL_law_1682 rfl ?_
  refine z_iconst C dL_law_1684 ?_
  refine z_iadd C dL_law_1685 ?_
  refine z_sld C S (by decide) dL_law_1686 ?_
  refine z_aload_n C dL_law_1687 rfl ?_
  refine z_iload C dL_law_1688 rfl ?_
  refine z_iconst C dL_law_1690 ?_
  refine z_iadd C dL_law_1691 ?_
  refine z_sld C S (by decide) dL_law_1692 ?_
  refine z_ci C (z_rV C Rm qv_X7_corners m_1213 (m_corners hM1 (zI_rng _) (zI_rng _)) hM1.obj rfl dL_law_1693 rfl rfl (Nat.le_of_ble_eq_true rfl) rfl ⟨Nat.le_of_ble_eq_true rfl, Nat.le_of_ble_eq_true rfl, Nat.le_of_ble_eq_true rfl, Nat.le_of_ble_eq_true rfl⟩) (fun z2 μ2 hq => ?_)
  obtain ⟨hz2, ⟨fs, hfs⟩, hN⟩ := hq
  have ho2 := hN _ _ ho (by unfold zb; omega)
  refine z_istore (L' := [_, _, _, _, _, _, _, _, _]) C dL_law_1696 rfl ?_
  refine z_aload_n C dL_law_1698 rfl ?_
  refine z_ci C (z_rV C Rm qv_X7_thrown m_1036 (m_thrown hfs) hfs rfl dL_law_1699 rfl rfl (Nat.le_of_ble_eq_true rfl) rfl ⟨Nat.le_of_ble_eq_true rfl, Nat.le_of_ble_eq_true rfl, Nat.le_of_ble_eq_true rfl, Nat.le_of_ble_eq_true rfl⟩) (fun z3 μ3 hr => ?_)
  obtain ⟨rfl, rfl⟩ := hr
  refine z_iload C dL_law_1702 rfl ?_
  refine z_icmp_eq (tgt := 1709) C dL_law_1704 (by decide) (fun _ => ?_) (fun hno => absurd hno (fun hne => hne (by omega)))
  refine z_iload C dL_law_1709 rfl ?_
  refine z_if_ne (tgt := 1726) C dL_law_1711 (by decide) (fun hz => ?_) (fun hz => ?_)
  · refine z_goto (tgt := 2511) C dL_law_1726 (by decide) ?_
    exact z_up (by decide) (by decide) (cont _ _ _ _)
  · exact absurd hcase (by omega)
set_option maxRecDepth 100000 in
set_option maxHeartbeats 4000000 in
theorem lc_cornerX {X : zX} {l : Launch} {D : va_G} {N0 : Nat} {Ts : List Cond} (hl0 : l.stackTraces = false) {b K M O OD : Nat} {xs : Nat → Int32} {μ : zM} (C : zC X l D N0 cL_law 9 RL zWS) (Rm : zR X 600002 7302232 12 446) (S : zScr X b 6 xs) (H : zAtC D μ K M O OD) (cont : zCont X b K M O OD) : Z X μ 82 34947 1729 [some (.ref b), some (.ref K), some (.ref M), some (.ref O), some (.ref OD), some (zi 0), none, none, none] [] := by
  obtain ⟨hK, hM, hout, hoD, eM, eO, eD⟩ := H
  refine z_aload_n C dL_law_1729 rfl ?_
  refine z_aload_n C dL_law_1730 rfl ?_
  refine z_iload C dL_law_1731 rfl ?_
  refine z_iconst C dL_law_1733 ?_
  refine z_iadd C dL_law_1734 ?_
  refine z_sld C S (by decide) dL_law_1735 ?_
  refine z_aload_n C dL_law_1736 rfl ?_
  refine z_iload C dL_law_1737 rfl ?_
  refine z_iconst C dL_law_1739 ?_
  refine z_iadd C dL_law_1740 ?_
  refine z_sld C S (by decide) dL_law_1741 ?_
  refine z_aload_n C dL_law_1742 rfl ?_
  refine z_iload C dL_law_1743 rfl ?_
  refine z_iconst C dL_law_1745 ?_
  refine z_iadd C dL_law_1746 ?_
  refine z_sld C S (by decide) dL_law_1747 ?_
  refine z_aload_n C dL_law_1748 rfl ?_
  refine zx_ci C (zx_rW C Rm qw_L_cornerX m_899 (w_cornerX hl0 hK hout (by unfold zb; omega) (zI_rng _) (zI_rng _) (zI_rng _)) dL_law_1749 rfl rfl (Nat.le_of_ble_eq_true rfl) rfl ⟨Nat.le_of_ble_eq_true rfl, Nat.le_of_ble_eq_true rfl, Nat.le_of_ble_eq_true rfl, Nat.le_of_ble_eq_true rfl⟩) (fun _ _ h => h.elim) (fun z μ1 hp => ?_)
  obtain ⟨fo, ho, hO, hcase⟩ := hp
  have hM1 := hM.o hO (fun q h1 h2 => by unfold zb; omega)
  refine z_istore (L' := [_, _, _, _, _, _, _, _, _]) C dL_law_1752 rfl ?_
  refine z_aload_n C dL_law_1754 rfl ?_
  refine z_aload_n C dL_law_1755 rfl ?_
  refine z_iload C dL_law_1756 rfl ?_
  refine z_iconst C dL_law_1758 ?_
  refine z_iadd C dL_law_1759 ?_
  refine z_sld C S (by decide) dL_law_1760 ?_
  refine z_aload_n C dL_law_1761 rfl ?_
  refine z_iload C dL_law_1762 rfl ?_
  refine z_iconst C dL_law_1764 ?_
  refine z_iadd C dL_law_1765 ?_
  refine z_sld C S (by decide) dL_law_1766 ?_
  refine z_aload_n C dL_law_1767 rfl ?_
  refine z_iload C dL_law_1768 rfl ?_
  refine z_iconst C dL_law_1770 ?_
  refine z_iadd C dL_law_1771 ?_
  refine z_sld C S (by decide) dL_law_1772 ?_
  refine z_ci C (z_rV C Rm qv_X7_cornerX m_1228 (m_cornerX hM1 (zI_rng _) (zI_rng _)) hM1.obj rfl dL_law_1773 rfl rfl (Nat.le_of_ble_eq_true rfl) rfl ⟨Nat.le_of_ble_eq_true rfl, Nat.le_of_ble_eq_true rfl, Nat.le_of_ble_eq_true rfl, Nat.le_of_ble_eq_true rfl⟩) (fun z2 μ2 hq => ?_)
  obtain ⟨⟨fs, hfs⟩, hN⟩ := hq
  have ho2 := hN _ _ ho (by unfold zb; omega)
  refine z_istore (L' := [_, _, _, _, _, _, _, _, _]) C dL_law_1776 rfl ?_
  refine z_aload_n C dL_law_1778 rfl ?_
  refine z_ci C (z_rV C Rm qv_X7_thrown m_1036 (m_thrown hfs) hfs rfl dL_law_1779 rfl rfl (Nat.le_of_ble_eq_true rfl) rfl ⟨Nat.le_of_ble_eq_true rfl, Nat.le_of_ble_eq_true rfl, Nat.le_of_ble_eq_true rfl, Nat.le_of_ble_eq_true rfl⟩) (fun z3 μ3 hr => ?_)
  obtain ⟨rfl, rfl⟩ := hr
  refine z_iload C dL_law_1782 rfl ?_
  refine z_icmp_eq (tgt := 1789) C dL_law_1784 (by decide) (fun _ => ?_) (fun hno => absurd hno (fun hne => hne (by omega)))
  refine z_iload C dL_law_1789 rfl ?_
  refine z_if_ne (tgt := 1806) C dL_law_1791 (by decide) (fun hz => ?_) (fun hz => ?_)
  · refine z_goto (tgt := 2511) C dL_law_1806 (by decide) ?_
    exact z_up (by decide) (by decide) (cont _ _ _ _)
  · exact absurd hcase (by omega)
set_option maxRecDepth 100000 in
set_option maxHeartbeats 4000000 in
theorem lc_cornerY {X : zX} {l : Launch} {D : va_G} {N0 : Nat} {Ts : List Cond} (hl0 : l.stackTraces = false) {b K M O OD : Nat} {xs : Nat → Int32} {μ : zM} (C : zC X l D N0 cL_law 9 RL zWS) (Rm : zR X 600002 7302232 12 446) (S : zScr X b 6 xs) (H : zAtC D μ K M O OD) (cont : zCont X b K M O OD) : Z X μ 82 34947 1809 [some (.ref b), some (.ref K), some (.ref M), some (.ref O), some (.ref OD), some (zi 0), none, none, none] [] := by
  obtain ⟨hK, hM, hout, hoD, eM, eO, eD⟩ := H
  refine z_aload_n C dL_law_1809 rfl ?_
  refine z_aload_n C dL_law_1810 rfl ?_
  refine z_iload C dL_law_1811 rfl ?_
  refine z_iconst C dL_law_1813 ?_
  refine z_iadd C dL_law_1814 ?_
  refine z_sld C S (by decide) dL_law_1815 ?_
  refine z_aload_n C dL_law_1816 rfl ?_
  refine z_iload C dL_law_1817 rfl ?_
  refine z_iconst C dL_law_1819 ?_
  refine z_iadd C dL_law_1820 ?_
  refine z_sld C S (by decide) dL_law_1821 ?_
  refine z_aload_n C dL_law_1822 rfl ?_
  refine z_iload C dL_law_1823 rfl ?_
  refine z_iconst C dL_law_1825 ?_
  refine z_iadd C dL_law_1826 ?_
  refine z_sld C S (by decide) dL_law_1827 ?_
  refine z_aload_n C dL_law_1828 rfl ?_
  refine zx_ci C (zx_rW C Rm qw_L_cornerY m_906 (w_cornerY hl0 hK hout (by unfold zb; omega) (zI_rng _) (zI_rng _) (zI_rng _)) dL_law_1829 rfl rfl (Nat.le_of_ble_eq_true rfl) rfl ⟨Nat.le_of_ble_eq_true rfl, Nat.le_of_ble_eq_true rfl, Nat.le_of_ble_eq_true rfl, Nat.le_of_ble_eq_true rfl⟩) (fun _ _ h => h.elim) (fun z μ1 hp => ?_)
  obtain ⟨fo, ho, hO, hcase⟩ := hp
  have hM1 := hM.o hO (fun q h1 h2 => by unfold zb; omega)
  refine z_istore (L' := [_, _, _, _, _, _, _, _, _]) C dL_law_1832 rfl ?_
  refine z_aload_n C dL_law_1834 rfl ?_
  refine z_aload_n C dL_law_1835 rfl ?_
  refine z_iload C dL_law_1836 rfl ?_
  refine z_iconst C dL_law_1838 ?_
  refine z_iadd C dL_law_1839 ?_
  refine z_sld C S (by decide) dL_law_1840 ?_
  refine z_aload_n C dL_law_1841 rfl ?_
  refine z_iload C dL_law_1842 rfl ?_
  refine z_iconst C dL_law_1844 ?_
  refine z_iadd C dL_law_1845 ?_
  refine z_sld C S (by decide) dL_law_1846 ?_
  refine z_aload_n C dL_law_1847 rfl ?_
  refine z_iload C dL_law_1848 rfl ?_
  refine z_iconst C dL_law_1850 ?_
  refine z_iadd C dL_law_1851 ?_
  refine z_sld C S (by decide) dL_law_1852 ?_
  refine z_ci C (z_rV C Rm qv_X7_cornerY m_1237 (m_cornerY hM1 (zI_rng _) (zI_rng _)) hM1.obj rfl dL_law_1853 rfl rfl (Nat.le_of_ble_eq_true rfl) rfl ⟨Nat.le_of_ble_eq_true rfl, Nat.le_of_ble_eq_true rfl, Nat.le_of_ble_eq_true rfl, Nat.le_of_ble_eq_true rfl⟩) (fun z2 μ2 hq => ?_)
  obtain ⟨⟨fs, hfs⟩, hN⟩ := hq
  have ho2 := hN _ _ ho (by unfold zb; omega)
  refine z_istore (L' := [_, _, _, _, _, _, _, _, _]) C dL_law_1856 rfl ?_
  refine z_aload_n C dL_law_1858 rfl ?_
  refine z_ci C (z_rV C Rm qv_X7_thrown m_1036 (m_thrown hfs) hfs rfl dL_law_1859 rfl rfl (Nat.le_of_ble_eq_true rfl) rfl ⟨Nat.le_of_ble_eq_true rfl, Nat.le_of_ble_eq_true rfl, Nat.le_of_ble_eq_true rfl, Nat.le_of_ble_eq_true rfl⟩) (fun z3 μ3 hr => ?_)
  obtain ⟨rfl, rfl⟩ := hr
  refine z_iload C dL_law_1862 rfl ?_
  refine z_icmp_eq (tgt := 1869) C dL_law_1864 (by decide) (fun _ => ?_) (fun hno => absurd hno (fun hne => hne (by omega)))
  refine z_iload C dL_law_1869 rfl ?_
  refine z_if_ne (tgt := 1886) C dL_law_1871 (by decide) (fun hz => ?_) (fun hz => ?_)
  · refine z_goto (tgt := 2511) C dL_law_1886 (by decide) ?_
    exact z_up (by decide) (by decide) (cont _ _ _ _)
  · exact absurd hcase (by omega)
set_option maxRecDepth 100000 in
set_option maxHeartbeats 4000000 in
theorem lc_areaOf {X : zX} {l : Launch} {D : va_G} {N0 : Nat} {Ts : List Cond} (hl0 : l.stackTraces = false) {b K M O OD : Nat} {xs : Nat → Int32} {μ : zM} (C : zC X l D N0 cL_law 9 RL zWS) (Rm : zR X 600002 7302232 12 446) (S : zScr X b 6 xs) (H : zAtC D μ K M O OD) (cont : zCont X b K M O OD) : Z X μ 82 34947 1889 [some (.ref b), some (.ref K), some (.ref M), some (.ref O), some (.ref OD), some (zi 0), none, none, none] [] := by
  obtain ⟨hK, hM, hout, hoD, eM, eO, eD⟩ := H
  refine z_aload_n C dL_law_1889 rfl ?_
  refine z_aload_n C dL_law_1890 rfl ?_
  refine z_iload C dL_law_1891 rfl ?_
  refine z_iconst C dL_law_1893 ?_
  refine z_iadd C dL_law_1894 ?_
  refine z_sld C S (by decide) dL_law_1895 ?_
  refine z_aload_n C dL_law_1896 rfl ?_
  refine z_iload C dL_law_1897 rfl ?_
  refine z_iconst C dL_law_1899 ?_
  refine z_iadd C dL_law_1900 ?_
  refine z_sld C S (by decide) dL_law_1901 ?_
  refine z_aload_n C dL_law_1902 rfl ?_
  refine zx_ci C (zx_rW C Rm qw_L_areaOf m_913 (w_areaOf hl0 hK hout (by unfold zb; omega) (zI_rng _) (zI_rng _)) dL_law_1903 rfl rfl (Nat.le_of_ble_eq_true rfl) rfl ⟨Nat.le_of_ble_eq_true rfl, Nat.le_of_ble_eq_true rfl, Nat.le_of_ble_eq_true rfl, Nat.le_of_ble_eq_true rfl⟩) (fun _ _ h => h.elim) (fun z μ1 hp => ?_)
  obtain ⟨fo, ho, hO, hcase⟩ := hp
  have hM1 := hM.o hO (fun q h1 h2 => by unfold zb; omega)
  refine z_istore (L' := [_, _, _, _, _, _, _, _, _]) C dL_law_1906 rfl ?_
  refine z_aload_n C dL_law_1908 rfl ?_
  refine z_aload_n C dL_law_1909 rfl ?_
  refine z_iload C dL_law_1910 rfl ?_
  refine z_iconst C dL_law_1912 ?_
  refine z_iadd C dL_law_1913 ?_
  refine z_sld C S (by decide) dL_law_1914 ?_
  refine z_aload_n C dL_law_1915 rfl ?_
  refine z_iload C dL_law_1916 rfl ?_
  refine z_iconst C dL_law_1918 ?_
  refine z_iadd C dL_law_1919 ?_
  refine z_sld C S (by decide) dL_law_1920 ?_
  refine z_ci C (z_rV C Rm qv_X7_areaOf_ m_1224 (m_areaOf hM1 (zI_rng _) (zI_rng _)) hM1.obj rfl dL_law_1921 rfl rfl (Nat.le_of_ble_eq_true rfl) rfl ⟨Nat.le_of_ble_eq_true rfl, Nat.le_of_ble_eq_true rfl, Nat.le_of_ble_eq_true rfl, Nat.le_of_ble_eq_true rfl⟩) (fun z2 μ2 hq => ?_)
  obtain ⟨hz2, ⟨fs, hfs⟩, hN⟩ := hq
  have ho2 := hN _ _ ho (by unfold zb; omega)
  refine z_istore (L' := [_, _, _, _, _, _, _, _, _]) C dL_law_1924 rfl ?_
  refine z_aload_n C dL_law_1926 rfl ?_
  refine z_ci C (z_rV C Rm qv_X7_thrown m_1036 (m_thrown hfs) hfs rfl dL_law_1927 rfl rfl (Nat.le_of_ble_eq_true rfl) rfl ⟨Nat.le_of_ble_eq_true rfl, Nat.le_of_ble_eq_true rfl, Nat.le_of_ble_eq_true rfl, Nat.le_of_ble_eq_true rfl⟩) (fun z3 μ3 hr => ?_)
  obtain ⟨rfl, rfl⟩ := hr
  refine z_iload C dL_law_1930 rfl ?_
  refine z_icmp_eq (tgt := 1937) C dL_law_1932 (by decide) (fun _ => ?_) (fun hno => absurd hno (fun hne => hne (by omega)))
  refine z_iload C dL_law_1937 rfl ?_
  refine z_if_ne (tgt := 1954) C dL_law_1939 (by decide) (fun hz => ?_) (fun hz => ?_)
  · refine z_goto (tgt := 2511) C dL_law_1954 (by decide) ?_
    exact z_up (by decide) (by decide) (cont _ _ _ _)
  · exact absurd hcase (by omega)
set_option maxRecDepth 100000 in
set_option maxHeartbeats 4000000 in
theorem lc_strips {X : zX} {l : Launch} {D : va_G} {N0 : Nat} {Ts : List Cond} (hl0 : l.stackTraces = false) {b K M O OD : Nat} {xs : Nat → Int32} {μ : zM} (C : zC X l D N0 cL_law 9 RL zWS) (Rm : zR X 600002 7302232 12 446) (S : zScr X b 6 xs) (H : zAtC D μ K M O OD) (cont : zCont X b K M O OD) : Z X μ 82 34947 1957 [some (.ref b), some (.ref K), some (.ref M), some (.ref O), some (.ref OD), some (zi 0), none, none, none] [] := by
  obtain ⟨hK, hM, hout, hoD, eM, eO, eD⟩ := H
  refine z_aload_n C dL_law_1957 rfl ?_
  refine z_aload_n C dL_law_1958 rfl ?_
  refine z_iload C dL_law_1959 rfl ?_
  refine z_iconst C dL_law_1961 ?_
  refine z_iadd C dL_law_1962 ?_
  refine z_sld C S (by decide) dL_law_1963 ?_
  refine z_aload_n C dL_law_1964 rfl ?_
  refine zx_ci C (zx_rW C Rm qw_L_strips m_920 (w_strips hl0 hK hout (by unfold zb; omega) (zI_rng _)) dL_law_1965 rfl rfl (Nat.le_of_ble_eq_true rfl) rfl ⟨Nat.le_of_ble_eq_true rfl, Nat.le_of_ble_eq_true rfl, Nat.le_of_ble_eq_true rfl, Nat.le_of_ble_eq_true rfl⟩) (fun _ _ h => h.elim) (fun z μ1 hp => ?_)
  obtain ⟨fo, ho, hO, hcase⟩ := hp
  have hM1 := hM.o hO (fun q h1 h2 => by unfold zb; omega)
  refine z_istore (L' := [_, _, _, _, _, _, _, _, _]) C dL_law_1968 rfl ?_
  refine z_aload_n C dL_law_1970 rfl ?_
  refine z_aload_n C dL_law_1971 rfl ?_
  refine z_iload C dL_law_1972 rfl ?_
  refine z_iconst C dL_law_1974 ?_
  refine z_iadd C dL_law_1975 ?_
  refine z_sld C S (by decide) dL_law_1976 ?_
  refine z_ci C (z_rV C Rm qv_X7_strips m_1241 (m_strips hM1 (zI_rng _)) hM1.obj rfl dL_law_1977 rfl rfl (Nat.le_of_ble_eq_true rfl) rfl ⟨Nat.le_of_ble_eq_true rfl, Nat.le_of_ble_eq_true rfl, Nat.le_of_ble_eq_true rfl, Nat.le_of_ble_eq_true rfl⟩) (fun z2 μ2 hq => ?_)
  obtain ⟨t, ht, ⟨fs, hfs⟩, hN⟩ := hq
  simp only [not_true_eq_false, and_false, or_false, and_true] at ht
  have ho2 := hN _ _ ho (by unfold zb; omega)
  refine z_istore (L' := [_, _, _, _, _, _, _, _, _]) C dL_law_1980 rfl ?_
  refine z_aload_n C dL_law_1982 rfl ?_
  refine z_ci C (z_rV C Rm qv_X7_thrown m_1036 (m_thrown hfs) hfs rfl dL_law_1983 rfl rfl (Nat.le_of_ble_eq_true rfl) rfl ⟨Nat.le_of_ble_eq_true rfl, Nat.le_of_ble_eq_true rfl, Nat.le_of_ble_eq_true rfl, Nat.le_of_ble_eq_true rfl⟩) (fun z3 μ3 hr => ?_)
  obtain ⟨rfl, rfl⟩ := hr
  refine z_iload C dL_law_1986 rfl ?_
  refine z_icmp_eq (tgt := 1993) C dL_law_1988 (by decide) (fun _ => ?_) (fun hno => absurd hno (fun hne => hne (by omega)))
  refine z_iload C dL_law_1993 rfl ?_
  refine z_if_ne (tgt := 2010) C dL_law_1995 (by decide) (fun hz => ?_) (fun hz => ?_)
  · refine z_goto (tgt := 2511) C dL_law_2010 (by decide) ?_
    exact z_up (by decide) (by decide) (cont _ _ _ _)
  · have hv : fo (0 : Int).toNat = (Int32.ofInt z2).toInt64 := by
      rcases hcase with h | h
      · rcases ht with g | g
        · rw [g.2.1]
          exact h.2.1
        · omega
      · omega
    refine z_aload_n C dL_law_1998 rfl ?_
    refine z_iconst C dL_law_1999 ?_
    refine z_lald C ho2 (by decide) dL_law_2000 ?_
    refine z_iload C dL_law_2001 rfl ?_
    refine z_i2l C dL_law_2003 ?_
    rw [hv]
    refine z_lcmp C dL_law_2004 ?_
    rw [zcmp_s]
    refine z_if_eq (tgt := 2010) C dL_law_2005 (by decide) (fun _ => ?_) (fun hno => absurd hno (fun h => h rfl))
    refine z_goto (tgt := 2511) C dL_law_2010 (by decide) ?_
    exact z_up (by decide) (by decide) (cont _ _ _ _)
set_option maxRecDepth 100000 in
set_option maxHeartbeats 4000000 in
theorem lc_strip {X : zX} {l : Launch} {D : va_G} {N0 : Nat} {Ts : List Cond} (hl0 : l.stackTraces = false) {b K M O OD : Nat} {xs : Nat → Int32} {μ : zM} (C : zC X l D N0 cL_law 9 RL zWS) (Rm : zR X 600002 7302232 12 446) (S : zScr X b 6 xs) (H : zAtC D μ K M O OD) (cont : zCont X b K M O OD) : Z X μ 82 34947 2013 [some (.ref b), some (.ref K), some (.ref M), some (.ref O), some (.ref OD), some (zi 0), none, none, none] [] := by
  obtain ⟨hK, hM, hout, hoD, eM, eO, eD⟩ := H
  refine z_aload_n C dL_law_2013 rfl ?_
  refine z_aload_n C dL_law_2014 rfl ?_
  refine z_iload C dL_law_2015 rfl ?_
  refine z_iconst C dL_law_2017 ?_
  refine z_iadd C dL_law_2018 ?_
  refine z_sld C S (by decide) dL_law_2019 ?_
  refine z_aload_n C dL_law_2020 rfl ?_
  refine z_iload C dL_law_2021 rfl ?_
  refine z_iconst C dL_law_2023 ?_
  refine z_iadd C dL_law_2024 ?_
  refine z_sld C S (by decide) dL_law_2025 ?_
  refine z_aload_n C dL_law_2026 rfl ?_
  refine z_iload C dL_law_2027 rfl ?_
  refine z_iconst C dL_law_2029 ?_
  refine z_iadd C dL_law_2030 ?_
  refine z_sld C S (by decide) dL_law_2031 ?_
  refine z_aload_n C dL_law_2032 rfl ?_
  refine zx_ci C (zx_rW C Rm qw_L_strip m_927 (w_strip hl0 hK hout (by unfold zb; omega) (zI_rng _) (zI_rng _) (zI_rng _)) dL_law_2033 rfl rfl (Nat.le_of_ble_eq_true rfl) rfl ⟨Nat.le_of_ble_eq_true rfl, Nat.le_of_ble_eq_true rfl, Nat.le_of_ble_eq_true rfl, Nat.le_of_ble_eq_true rfl⟩) (fun _ _ h => h.elim) (fun z μ1 hp => ?_)
  obtain ⟨fo, ho, hO, hcase⟩ := hp
  have hM1 := hM.o hO (fun q h1 h2 => by unfold zb; omega)
  refine z_istore (L' := [_, _, _, _, _, _, _, _, _]) C dL_law_2036 rfl ?_
  refine z_aload_n C dL_law_2038 rfl ?_
  refine z_aload_n C dL_law_2039 rfl ?_
  refine z_iload C dL_law_2040 rfl ?_
  refine z_iconst C dL_law_2042 ?_
  refine z_iadd C dL_law_2043 ?_
  refine z_sld C S (by decide) dL_law_2044 ?_
  refine z_aload_n C dL_law_2045 rfl ?_
  refine z_iload C dL_law_2046 rfl ?_
  refine z_iconst C dL_law_2048 ?_
  refine z_iadd C dL_law_2049 ?_
  refine z_sld C S (by decide) dL_law_2050 ?_
  refine z_aload_n C dL_law_2051 rfl ?_
  refine z_iload C dL_law_2052 rfl ?_
  refine z_iconst C dL_law_2054 ?_
  refine z_iadd C dL_law_2055 ?_
  refine z_sld C S (by decide) dL_law_2056 ?_
  refine z_ci C (z_rV C Rm qv_X7_strip m_1252 (m_strip hM1 (zI_rng _) (zI_rng _)) hM1.obj rfl dL_law_2057 rfl rfl (Nat.le_of_ble_eq_true rfl) rfl ⟨Nat.le_of_ble_eq_true rfl, Nat.le_of_ble_eq_true rfl, Nat.le_of_ble_eq_true rfl, Nat.le_of_ble_eq_true rfl⟩) (fun z2 μ2 hq => ?_)
  obtain ⟨⟨fs, hfs⟩, hN⟩ := hq
  have ho2 := hN _ _ ho (by unfold zb; omega)
  refine z_istore (L' := [_, _, _, _, _, _, _, _, _]) C dL_law_2060 rfl ?_
  refine z_aload_n C dL_law_2062 rfl ?_
  refine z_ci C (z_rV C Rm qv_X7_thrown m_1036 (m_thrown hfs) hfs rfl dL_law_2063 rfl rfl (Nat.le_of_ble_eq_true rfl) rfl ⟨Nat.le_of_ble_eq_true rfl, Nat.le_of_ble_eq_true rfl, Nat.le_of_ble_eq_true rfl, Nat.le_of_ble_eq_true rfl⟩) (fun z3 μ3 hr => ?_)
  obtain ⟨rfl, rfl⟩ := hr
  refine z_iload C dL_law_2066 rfl ?_
  refine z_icmp_eq (tgt := 2073) C dL_law_2068 (by decide) (fun _ => ?_) (fun hno => absurd hno (fun hne => hne (by omega)))
  refine z_iload C dL_law_2073 rfl ?_
  refine z_if_ne (tgt := 2090) C dL_law_2075 (by decide) (fun hz => ?_) (fun hz => ?_)
  · refine z_goto (tgt := 2511) C dL_law_2090 (by decide) ?_
    exact z_up (by decide) (by decide) (cont _ _ _ _)
  · exact absurd hcase (by omega)
set_option maxRecDepth 100000 in
set_option maxHeartbeats 4000000 in
theorem lc_hatch {X : zX} {l : Launch} {D : va_G} {N0 : Nat} {Ts : List Cond} (hl0 : l.stackTraces = false) {b K M O OD : Nat} {xs : Nat → Int32} {μ : zM} (C : zC X l D N0 cL_law 9 RL zWS) (Rm : zR X 600002 7302232 12 446) (S : zScr X b 6 xs) (H : zAtC D μ K M O OD) (cont : zCont X b K M O OD) : Z X μ 82 34947 2093 [some (.ref b), some (.ref K), some (.ref M), some (.ref O), some (.ref OD), some (zi 0), none, none, none] [] := by
  obtain ⟨hK, hM, hout, hoD, eM, eO, eD⟩ := H
  refine z_aload_n C dL_law_2093 rfl ?_
  refine z_aload_n C dL_law_2094 rfl ?_
  refine z_iload C dL_law_2095 rfl ?_
  refine z_iconst C dL_law_2097 ?_
  refine z_iadd C dL_law_2098 ?_
  refine z_sld C S (by decide) dL_law_2099 ?_
  refine z_aload_n C dL_law_2100 rfl ?_
  refine z_iload C dL_law_2101 rfl ?_
  refine z_iconst C dL_law_2103 ?_
  refine z_iadd C dL_law_2104 ?_
  refine z_sld C S (by decide) dL_law_2105 ?_
  refine z_aload_n C dL_law_2106 rfl ?_
  refine z_iload C dL_law_2107 rfl ?_
  refine z_iconst C dL_law_2109 ?_
  refine z_iadd C dL_law_2110 ?_
  refine z_sld C S (by decide) dL_law_2111 ?_
  refine z_aload_n C dL_law_2112 rfl ?_
  refine z_iload C dL_law_2113 rfl ?_
  refine z_iconst C dL_law_2115 ?_
  refine z_iadd C dL_law_2116 ?_
  refine z_sld C S (by decide) dL_law_2117 ?_
  refine z_aload_n C dL_law_2118 rfl ?_
  refine zx_ci C (zx_rW C Rm qw_L_hatch m_940 (w_hatch hl0 hK hout (by unfold zb; omega) (zI_rng _) (zI_rng _) (zI_rng _) (zI_rng _)) dL_law_2119 rfl rfl (Nat.le_of_ble_eq_true rfl) rfl ⟨Nat.le_of_ble_eq_true rfl, Nat.le_of_ble_eq_true rfl, Nat.le_of_ble_eq_true rfl, Nat.le_of_ble_eq_true rfl⟩) (fun _ _ h => h.elim) (fun z μ1 hp => ?_)
  obtain ⟨fo, ho, hO, hcase⟩ := hp
  have hM1 := hM.o hO (fun q h1 h2 => by unfold zb; omega)
  refine z_istore (L' := [_, _, _, _, _, _, _, _, _]) C dL_law_2122 rfl ?_
  refine z_aload_n C dL_law_2124 rfl ?_
  refine z_aload_n C dL_law_2125 rfl ?_
  refine z_iload C dL_law_2126 rfl ?_
  refine z_iconst C dL_law_2128 ?_
  refine z_iadd C dL_law_2129 ?_
  refine z_sld C S (by decide) dL_law_2130 ?_
  refine z_aload_n C dL_law_2131 rfl ?_
  refine z_iload C dL_law_2132 rfl ?_
  refine z_iconst C dL_law_2134 ?_
  refine z_iadd C dL_law_2135 ?_
  refine z_sld C S (by decide) dL_law_2136 ?_
  refine z_aload_n C dL_law_2137 rfl ?_
  refine z_iload C dL_law_2138 rfl ?_
  refine z_iconst C dL_law_2140 ?_
  refine z_iadd C dL_law_2141 ?_
  refine z_sld C S (by decide) dL_law_2142 ?_
  refine z_aload_n C dL_law_2143 rfl ?_
  refine z_iload C dL_law_2144 rfl ?_
  refine z_iconst C dL_law_2146 ?_
  refine z_iadd C dL_law_2147 ?_
  refine z_sld C S (by decide) dL_law_2148 ?_
  refine z_ci C (z_rV C Rm qv_X7_hatch m_1256 (m_hatch hM1 (zI_rng _) (zI_rng _) (zI_rng _) (zI_rng _)) hM1.obj rfl dL_law_2149 rfl rfl (Nat.le_of_ble_eq_true rfl) rfl ⟨Nat.le_of_ble_eq_true rfl, Nat.le_of_ble_eq_true rfl, Nat.le_of_ble_eq_true rfl, Nat.le_of_ble_eq_true rfl⟩) (fun z2 μ2 hq => ?_)
  obtain ⟨t, ht, ⟨fs, hfs⟩, hN⟩ := hq
  have ho2 := hN _ _ ho (by unfold zb; omega)
  refine z_istore (L' := [_, _, _, _, _, _, _, _, _]) C dL_law_2152 rfl ?_
  refine z_aload_n C dL_law_2154 rfl ?_
  refine z_ci C (z_rV C Rm qv_X7_thrown m_1036 (m_thrown hfs) hfs rfl dL_law_2155 rfl rfl (Nat.le_of_ble_eq_true rfl) rfl ⟨Nat.le_of_ble_eq_true rfl, Nat.le_of_ble_eq_true rfl, Nat.le_of_ble_eq_true rfl, Nat.le_of_ble_eq_true rfl⟩) (fun z3 μ3 hr => ?_)
  obtain ⟨rfl, rfl⟩ := hr
  refine z_iload C dL_law_2158 rfl ?_
  refine z_icmp_eq (tgt := 2165) C dL_law_2160 (by decide) (fun _ => ?_) (fun hno => absurd hno (fun hne => hne (by omega)))
  refine z_iload C dL_law_2165 rfl ?_
  refine z_if_ne (tgt := 2182) C dL_law_2167 (by decide) (fun hz => ?_) (fun hz => ?_)
  · refine z_goto (tgt := 2511) C dL_law_2182 (by decide) ?_
    exact z_up (by decide) (by decide) (cont _ _ _ _)
  · have hv : fo (0 : Int).toNat = (Int32.ofInt z2).toInt64 := by
      rcases hcase with h | h | h
      · rcases ht with g | g | g
        · rw [g.2.1]
          exact h.2.1
        · omega
        · omega
      · omega
      · omega
    refine z_aload_n C dL_law_2170 rfl ?_
    refine z_iconst C dL_law_2171 ?_
    refine z_lald C ho2 (by decide) dL_law_2172 ?_
    refine z_iload C dL_law_2173 rfl ?_
    refine z_i2l C dL_law_2175 ?_
    rw [hv]
    refine z_lcmp C dL_law_2176 ?_
    rw [zcmp_s]
    refine z_if_eq (tgt := 2182) C dL_law_2177 (by decide) (fun _ => ?_) (fun hno => absurd hno (fun h => h rfl))
    refine z_goto (tgt := 2511) C dL_law_2182 (by decide) ?_
    exact z_up (by decide) (by decide) (cont _ _ _ _)
set_option maxRecDepth 100000 in
set_option maxHeartbeats 4000000 in
theorem lc_hatched {X : zX} {l : Launch} {D : va_G} {N0 : Nat} {Ts : List Cond} (hl0 : l.stackTraces = false) {b K M O OD : Nat} {xs : Nat → Int32} {μ : zM} (C : zC X l D N0 cL_law 9 RL zWS) (Rm : zR X 600002 7302232 12 446) (S : zScr X b 6 xs) (H : zAtC D μ K M O OD) (cont : zCont X b K M O OD) : Z X μ 82 34947 2185 [some (.ref b), some (.ref K), some (.ref M), some (.ref O), some (.ref OD), some (zi 0), none, none, none] [] := by
  obtain ⟨hK, hM, hout, hoD, eM, eO, eD⟩ := H
  refine z_aload_n C dL_law_2185 rfl ?_
  refine z_aload_n C dL_law_2186 rfl ?_
  refine z_iload C dL_law_2187 rfl ?_
  refine z_iconst C dL_law_2189 ?_
  refine z_iadd C dL_law_2190 ?_
  refine z_sld C S (by decide) dL_law_2191 ?_
  refine z_aload_n C dL_law_2192 rfl ?_
  refine z_iload C dL_law_2193 rfl ?_
  refine z_iconst C dL_law_2195 ?_
  refine z_iadd C dL_law_2196 ?_
  refine z_sld C S (by decide) dL_law_2197 ?_
  refine z_aload_n C dL_law_2198 rfl ?_
  refine z_iload C dL_law_2199 rfl ?_
  refine z_iconst C dL_law_2201 ?_
  refine z_iadd C dL_law_2202 ?_
  refine z_sld C S (by decide) dL_law_2203 ?_
  refine z_aload_n C dL_law_2204 rfl ?_
  refine z_iload C dL_law_2205 rfl ?_
  refine z_iconst C dL_law_2207 ?_
  refine z_iadd C dL_law_2208 ?_
  refine z_sld C S (by decide) dL_law_2209 ?_
  refine z_aload_n C dL_law_2210 rfl ?_
  refine zx_ci C (zx_rW C Rm qw_L_hatched m_961 (w_hatched hl0 hK hout (by unfold zb; omega) (zI_rng _) (zI_rng _) (zI_rng _) (zI_rng _)) dL_law_2211 rfl rfl (Nat.le_of_ble_eq_true rfl) rfl ⟨Nat.le_of_ble_eq_true rfl, Nat.le_of_ble_eq_true rfl, Nat.le_of_ble_eq_true rfl, Nat.le_of_ble_eq_true rfl⟩) (fun _ _ h => h.elim) (fun z μ1 hp => ?_)
  obtain ⟨fo, ho, hO, hcase⟩ := hp
  have hM1 := hM.o hO (fun q h1 h2 => by unfold zb; omega)
  refine z_istore (L' := [_, _, _, _, _, _, _, _, _]) C dL_law_2214 rfl ?_
  refine z_aload_n C dL_law_2216 rfl ?_
  refine z_aload_n C dL_law_2217 rfl ?_
  refine z_iload C dL_law_2218 rfl ?_
  refine z_iconst C dL_law_2220 ?_
  refine z_iadd C dL_law_2221 ?_
  refine z_sld C S (by decide) dL_law_2222 ?_
  refine z_aload_n C dL_law_2223 rfl ?_
  refine z_iload C dL_law_2224 rfl ?_
  refine z_iconst C dL_law_2226 ?_
  refine z_iadd C dL_law_2227 ?_
  refine z_sld C S (by decide) dL_law_2228 ?_
  refine z_aload_n C dL_law_2229 rfl ?_
  refine z_iload C dL_law_2230 rfl ?_
  refine z_iconst C dL_law_2232 ?_
  refine z_iadd C dL_law_2233 ?_
  refine z_sld C S (by decide) dL_law_2234 ?_
  refine z_aload_n C dL_law_2235 rfl ?_
  refine z_iload C dL_law_2236 rfl ?_
  refine z_iconst C dL_law_2238 ?_
  refine z_iadd C dL_law_2239 ?_
  refine z_sld C S (by decide) dL_law_2240 ?_
  refine z_ci C (z_rV C Rm qv_X7_hatched m_1267 (m_hatched hM1 (zI_rng _) (zI_rng _) (zI_rng _) (zI_rng _)) hM1.obj rfl dL_law_2241 rfl rfl (Nat.le_of_ble_eq_true rfl) rfl ⟨Nat.le_of_ble_eq_true rfl, Nat.le_of_ble_eq_true rfl, Nat.le_of_ble_eq_true rfl, Nat.le_of_ble_eq_true rfl⟩) (fun z2 μ2 hq => ?_)
  obtain ⟨t, ht, ⟨fs, hfs⟩, hN⟩ := hq
  have ho2 := hN _ _ ho (by unfold zb; omega)
  refine z_istore (L' := [_, _, _, _, _, _, _, _, _]) C dL_law_2244 rfl ?_
  refine z_aload_n C dL_law_2246 rfl ?_
  refine z_ci C (z_rV C Rm qv_X7_thrown m_1036 (m_thrown hfs) hfs rfl dL_law_2247 rfl rfl (Nat.le_of_ble_eq_true rfl) rfl ⟨Nat.le_of_ble_eq_true rfl, Nat.le_of_ble_eq_true rfl, Nat.le_of_ble_eq_true rfl, Nat.le_of_ble_eq_true rfl⟩) (fun z3 μ3 hr => ?_)
  obtain ⟨rfl, rfl⟩ := hr
  refine z_iload C dL_law_2250 rfl ?_
  refine z_icmp_eq (tgt := 2257) C dL_law_2252 (by decide) (fun _ => ?_) (fun hno => absurd hno (fun hne => hne (by omega)))
  refine z_iload C dL_law_2257 rfl ?_
  refine z_if_ne (tgt := 2274) C dL_law_2259 (by decide) (fun hz => ?_) (fun hz => ?_)
  · refine z_goto (tgt := 2511) C dL_law_2274 (by decide) ?_
    exact z_up (by decide) (by decide) (cont _ _ _ _)
  · have hv : fo (0 : Int).toNat = (Int32.ofInt z2).toInt64 := by
      rcases hcase with h | h | h
      · rcases ht with g | g | g
        · rw [g.2.1]
          exact h.2.1
        · omega
        · omega
      · omega
      · omega
    refine z_aload_n C dL_law_2262 rfl ?_
    refine z_iconst C dL_law_2263 ?_
    refine z_lald C ho2 (by decide) dL_law_2264 ?_
    refine z_iload C dL_law_2265 rfl ?_
    refine z_i2l C dL_law_2267 ?_
    rw [hv]
    refine z_lcmp C dL_law_2268 ?_
    rw [zcmp_s]
    refine z_if_eq (tgt := 2274) C dL_law_2269 (by decide) (fun _ => ?_) (fun hno => absurd hno (fun h => h rfl))
    refine z_goto (tgt := 2511) C dL_law_2274 (by decide) ?_
    exact z_up (by decide) (by decide) (cont _ _ _ _)
set_option maxRecDepth 100000 in
set_option maxHeartbeats 4000000 in
theorem lc_apart {X : zX} {l : Launch} {D : va_G} {N0 : Nat} {Ts : List Cond} (hl0 : l.stackTraces = false) {b K M O OD : Nat} {xs : Nat → Int32} {μ : zM} (C : zC X l D N0 cL_law 9 RL zWS) (Rm : zR X 600002 7302232 12 446) (S : zScr X b 6 xs) (H : zAtC D μ K M O OD) (cont : zCont X b K M O OD) : Z X μ 82 34947 2277 [some (.ref b), some (.ref K), some (.ref M), some (.ref O), some (.ref OD), some (zi 0), none, none, none] [] := by
  obtain ⟨hK, hM, hout, hoD, eM, eO, eD⟩ := H
  refine z_aload_n C dL_law_2277 rfl ?_
  refine z_aload_n C dL_law_2278 rfl ?_
  refine z_iload C dL_law_2279 rfl ?_
  refine z_iconst C dL_law_2281 ?_
  refine z_iadd C dL_law_2282 ?_
  refine z_sld C S (by decide) dL_law_2283 ?_
  refine z_aload_n C dL_law_2284 rfl ?_
  refine z_iload C dL_law_2285 rfl ?_
  refine z_iconst C dL_law_2287 ?_
  refine z_iadd C dL_law_2288 ?_
  refine z_sld C S (by decide) dL_law_2289 ?_
  refine z_aload_n C dL_law_2290 rfl ?_
  refine zx_ci C (zx_rW C Rm qw_L_apart m_968 (w_apart hl0 hK hout (by unfold zb; omega) (zI_rng _) (zI_rng _)) dL_law_2291 rfl rfl (Nat.le_of_ble_eq_true rfl) rfl ⟨Nat.le_of_ble_eq_true rfl, Nat.le_of_ble_eq_true rfl, Nat.le_of_ble_eq_true rfl, Nat.le_of_ble_eq_true rfl⟩) (fun _ _ h => h.elim) (fun z μ1 hp => ?_)
  obtain ⟨fo, ho, hO, hcase⟩ := hp
  have hM1 := hM.o hO (fun q h1 h2 => by unfold zb; omega)
  refine z_istore (L' := [_, _, _, _, _, _, _, _, _]) C dL_law_2294 rfl ?_
  refine z_aload_n C dL_law_2296 rfl ?_
  refine z_aload_n C dL_law_2297 rfl ?_
  refine z_iload C dL_law_2298 rfl ?_
  refine z_iconst C dL_law_2300 ?_
  refine z_iadd C dL_law_2301 ?_
  refine z_sld C S (by decide) dL_law_2302 ?_
  refine z_aload_n C dL_law_2303 rfl ?_
  refine z_iload C dL_law_2304 rfl ?_
  refine z_iconst C dL_law_2306 ?_
  refine z_iadd C dL_law_2307 ?_
  refine z_sld C S (by decide) dL_law_2308 ?_
  refine z_ci C (z_rV C Rm qv_X7_apart m_1271 (m_apart hM1 (zI_rng _) (zI_rng _)) hM1.obj rfl dL_law_2309 rfl rfl (Nat.le_of_ble_eq_true rfl) rfl ⟨Nat.le_of_ble_eq_true rfl, Nat.le_of_ble_eq_true rfl, Nat.le_of_ble_eq_true rfl, Nat.le_of_ble_eq_true rfl⟩) (fun z2 μ2 hq => ?_)
  obtain ⟨t, ht, ⟨fs, hfs⟩, hN⟩ := hq
  have ho2 := hN _ _ ho (by unfold zb; omega)
  refine z_istore (L' := [_, _, _, _, _, _, _, _, _]) C dL_law_2312 rfl ?_
  refine z_aload_n C dL_law_2314 rfl ?_
  refine z_ci C (z_rV C Rm qv_X7_thrown m_1036 (m_thrown hfs) hfs rfl dL_law_2315 rfl rfl (Nat.le_of_ble_eq_true rfl) rfl ⟨Nat.le_of_ble_eq_true rfl, Nat.le_of_ble_eq_true rfl, Nat.le_of_ble_eq_true rfl, Nat.le_of_ble_eq_true rfl⟩) (fun z3 μ3 hr => ?_)
  obtain ⟨rfl, rfl⟩ := hr
  refine z_iload C dL_law_2318 rfl ?_
  refine z_icmp_eq (tgt := 2325) C dL_law_2320 (by decide) (fun _ => ?_) (fun hno => absurd hno (fun hne => hne (by omega)))
  refine z_iload C dL_law_2325 rfl ?_
  refine z_if_ne (tgt := 2342) C dL_law_2327 (by decide) (fun hz => ?_) (fun hz => ?_)
  · refine z_goto (tgt := 2511) C dL_law_2342 (by decide) ?_
    exact z_up (by decide) (by decide) (cont _ _ _ _)
  · have hv : fo (0 : Int).toNat = (Int32.ofInt z2).toInt64 := by
      rcases hcase with h | h
      · rcases ht with g | g
        · rw [g.2.1]
          exact h.2.1
        · omega
      · omega
    refine z_aload_n C dL_law_2330 rfl ?_
    refine z_iconst C dL_law_2331 ?_
    refine z_lald C ho2 (by decide) dL_law_2332 ?_
    refine z_iload C dL_law_2333 rfl ?_
    refine z_i2l C dL_law_2335 ?_
    rw [hv]
    refine z_lcmp C dL_law_2336 ?_
    rw [zcmp_s]
    refine z_if_eq (tgt := 2342) C dL_law_2337 (by decide) (fun _ => ?_) (fun hno => absurd hno (fun h => h rfl))
    refine z_goto (tgt := 2511) C dL_law_2342 (by decide) ?_
    exact z_up (by decide) (by decide) (cont _ _ _ _)
set_option maxRecDepth 100000 in
set_option maxHeartbeats 4000000 in
theorem lc_isSameForm {X : zX} {l : Launch} {D : va_G} {N0 : Nat} {Ts : List Cond} (hl0 : l.stackTraces = false) {b K M O OD : Nat} {xs : Nat → Int32} {μ : zM} (C : zC X l D N0 cL_law 9 RL zWS) (Rm : zR X 600002 7302232 12 446) (S : zScr X b 6 xs) (H : zAtC D μ K M O OD) (cont : zCont X b K M O OD) : Z X μ 82 34947 2345 [some (.ref b), some (.ref K), some (.ref M), some (.ref O), some (.ref OD), some (zi 0), none, none, none] [] := by
  obtain ⟨hK, hM, hout, hoD, eM, eO, eD⟩ := H
  refine z_aload_n C dL_law_2345 rfl ?_
  refine z_aload_n C dL_law_2346 rfl ?_
  refine z_iload C dL_law_2347 rfl ?_
  refine z_iconst C dL_law_2349 ?_
  refine z_iadd C dL_law_2350 ?_
  refine z_sld C S (by decide) dL_law_2351 ?_
  refine z_aload_n C dL_law_2352 rfl ?_
  refine z_iload C dL_law_2353 rfl ?_
  refine z_iconst C dL_law_2355 ?_
  refine z_iadd C dL_law_2356 ?_
  refine z_sld C S (by decide) dL_law_2357 ?_
  refine z_aload_n C dL_law_2358 rfl ?_
  refine zx_ci C (zx_rW C Rm qw_L_isSameForm m_979 (w_isSameForm hl0 hK hout (by unfold zb; omega) (zI_rng _) (zI_rng _)) dL_law_2359 rfl rfl (Nat.le_of_ble_eq_true rfl) rfl ⟨Nat.le_of_ble_eq_true rfl, Nat.le_of_ble_eq_true rfl, Nat.le_of_ble_eq_true rfl, Nat.le_of_ble_eq_true rfl⟩) (fun _ _ h => h.elim) (fun z μ1 hp => ?_)
  obtain ⟨fo, ho, hO, hcase⟩ := hp
  have hM1 := hM.o hO (fun q h1 h2 => by unfold zb; omega)
  refine z_istore (L' := [_, _, _, _, _, _, _, _, _]) C dL_law_2362 rfl ?_
  refine z_aload_n C dL_law_2364 rfl ?_
  refine z_aload_n C dL_law_2365 rfl ?_
  refine z_iload C dL_law_2366 rfl ?_
  refine z_iconst C dL_law_2368 ?_
  refine z_iadd C dL_law_2369 ?_
  refine z_sld C S (by decide) dL_law_2370 ?_
  refine z_aload_n C dL_law_2371 rfl ?_
  refine z_iload C dL_law_2372 rfl ?_
  refine z_iconst C dL_law_2374 ?_
  refine z_iadd C dL_law_2375 ?_
  refine z_sld C S (by decide) dL_law_2376 ?_
  refine z_ci C (z_rV C Rm qv_X7_isSameForm m_1275 (m_isSameForm hM1 (zI_rng _) (zI_rng _)) hM1.obj rfl dL_law_2377 rfl rfl (Nat.le_of_ble_eq_true rfl) rfl ⟨Nat.le_of_ble_eq_true rfl, Nat.le_of_ble_eq_true rfl, Nat.le_of_ble_eq_true rfl, Nat.le_of_ble_eq_true rfl⟩) (fun z2 μ2 hq => ?_)
  obtain ⟨t, ht, ⟨fs, hfs⟩, hN⟩ := hq
  have ho2 := hN _ _ ho (by unfold zb; omega)
  refine z_istore (L' := [_, _, _, _, _, _, _, _, _]) C dL_law_2380 rfl ?_
  refine z_aload_n C dL_law_2382 rfl ?_
  refine z_ci C (z_rV C Rm qv_X7_thrown m_1036 (m_thrown hfs) hfs rfl dL_law_2383 rfl rfl (Nat.le_of_ble_eq_true rfl) rfl ⟨Nat.le_of_ble_eq_true rfl, Nat.le_of_ble_eq_true rfl, Nat.le_of_ble_eq_true rfl, Nat.le_of_ble_eq_true rfl⟩) (fun z3 μ3 hr => ?_)
  obtain ⟨rfl, rfl⟩ := hr
  refine z_iload C dL_law_2386 rfl ?_
  refine z_icmp_eq (tgt := 2393) C dL_law_2388 (by decide) (fun _ => ?_) (fun hno => absurd hno (fun hne => hne (by omega)))
  refine z_iload C dL_law_2393 rfl ?_
  refine z_if_ne (tgt := 2417) C dL_law_2395 (by decide) (fun hz => ?_) (fun hz => ?_)
  · refine z_goto (tgt := 2511) C dL_law_2417 (by decide) ?_
    exact z_up (by decide) (by decide) (cont _ _ _ _)
  · have hv : fo (0 : Int).toNat = 1 := by
      rcases hcase with h | h
      · exact h.2.1
      · omega
    have h2 : z2 = 1 := by
      rcases ht with g | g
      · exact g.2.1
      · omega
    subst h2
    refine z_aload_n C dL_law_2398 rfl ?_
    refine z_iconst C dL_law_2399 ?_
    refine z_lald C ho2 (by decide) dL_law_2400 ?_
    refine z_iload C dL_law_2401 rfl ?_
    rw [hv]
    refine z_if_eq (tgt := 2410) C dL_law_2403 (by decide) (fun hno => absurd hno (by decide)) (fun _ => ?_)
    refine z_lconst_1 C dL_law_2406 ?_
    refine z_goto (tgt := 2411) C dL_law_2407 (by decide) ?_
    refine z_lcmp C dL_law_2411 ?_
    rw [zcmp_s]
    refine z_if_eq (tgt := 2417) C dL_law_2412 (by decide) (fun _ => ?_) (fun hno => absurd hno (fun h => h rfl))
    refine z_goto (tgt := 2511) C dL_law_2417 (by decide) ?_
    exact z_up (by decide) (by decide) (cont _ _ _ _)
