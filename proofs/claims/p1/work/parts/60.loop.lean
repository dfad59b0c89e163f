set_option maxRecDepth 100000 in
set_option maxHeartbeats 4000000 in
theorem lw_loop {X : zX} {l : Launch} {D : va_G} {N0 : Nat} (hl0 : l.stackTraces = false) {b K M O OD n : Nat} {xs : Nat → Int32} {μ : zM} (C : zC X l D N0 cL_law 9 RL zWS) (Rm : zR X 600002 7302232 12 446) (S : zScr X b n xs) (H : zAtC D μ K M O OD) (hn : n ≤ 6) (fin : ∀ (ν : zM) (k : Int) (L6 L7 L8 : Option Value), Z X ν 1000 400000 2517 [some (.ref b), some (.ref K), some (.ref M), some (.ref O), some (.ref OD), some (zi k), L6, L7, L8] []) : Z X μ 82 34947 28 [some (.ref b), some (.ref K), some (.ref M), some (.ref O), some (.ref OD), some (zi 0), none, none, none] [] := by
  refine z_iload C dL_law_28 rfl ?_
  refine z_aload_n C dL_law_30 rfl ?_
  refine z_slen C S dL_law_31 ?_
  refine z_bipush C dL_law_32 ?_
  refine z_isub C dL_law_34 ?_
  refine z_icmp_gt (tgt := 2517) C dL_law_35 (by decide) (fun h6 => ?_) (fun h6 => ?_)
  · exact z_up (by decide) (by decide) (fin _ _ _ _ _)
  obtain rfl : n = 6 := by omega
  have cont : zCont X b K M O OD := by
    intro ν L6 L7 L8
    refine z_iinc (L' := [_, _, _, _, _, _, _, _, _]) C dL_law_2511 rfl rfl ?_
    refine z_goto (tgt := 28) C dL_law_2514 (by decide) ?_
    refine z_iload C dL_law_28 rfl ?_
    refine z_aload_n C dL_law_30 rfl ?_
    refine z_slen C S dL_law_31 ?_
    refine z_bipush C dL_law_32 ?_
    refine z_isub C dL_law_34 ?_
    refine z_icmp_gt (tgt := 2517) C dL_law_35 (by decide) (fun _ => ?_) (fun hno => absurd hno (by omega))
    exact fin _ _ _ _ _
  refine z_aload_n C dL_law_38 rfl ?_
  refine z_iload C dL_law_39 rfl ?_
  refine z_sld C S (by decide) dL_law_41 ?_
  refine z_bipush C dL_law_42 ?_
  refine z_iand C dL_law_44 (zI_as _).symm ?_
  obtain ⟨v, hv⟩ : ∃ v, v = (Int32.ofInt (xs (0 : Int).toNat).toInt &&& Int32.ofInt 63).toInt := ⟨_, rfl⟩
  have hr : -2147483648 ≤ v ∧ v < 2147483648 := by rw [hv]; exact zI_rng _
  rw [← hv]
  by_cases hd : v < 0 ∨ 34 < v
  · refine z_tableOut (tgt := 2511) C dL_law_45 hd (by decide) ?_
    exact z_up (by decide) (by decide) (cont _ _ _ _)
  rcases (by omega : v = 0 ∨ v = 1 ∨ v = 2 ∨ v = 3 ∨ v = 4 ∨ v = 5 ∨ v = 6 ∨ v = 7 ∨ v = 8 ∨ v = 9 ∨ v = 10 ∨ v = 11 ∨ v = 12 ∨ v = 13 ∨ v = 14 ∨ v = 15 ∨ v = 16 ∨ v = 17 ∨ v = 18 ∨ v = 19 ∨ v = 20 ∨ v = 21 ∨ v = 22 ∨ v = 23 ∨ v = 24 ∨ v = 25 ∨ v = 26 ∨ v = 27 ∨ v = 28 ∨ v = 29 ∨ v = 30 ∨ v = 31 ∨ v = 32 ∨ v = 33 ∨ v = 34) with rfl | rfl | rfl | rfl | rfl | rfl | rfl | rfl | rfl | rfl | rfl | rfl | rfl | rfl | rfl | rfl | rfl | rfl | rfl | rfl | rfl | rfl | rfl | rfl | rfl | rfl | rfl | rfl | rfl | rfl | rfl | rfl | rfl | rfl | rfl
  · refine z_tableIn (tgt := 200) C dL_law_45 (by decide) (by decide) rfl (by decide) ?_
    exact lc_moveTo (Ts := []) hl0 C Rm S H cont
  · refine z_tableIn (tgt := 268) C dL_law_45 (by decide) (by decide) rfl (by decide) ?_
    exact lc_lineX (Ts := []) hl0 C Rm S H cont
  · refine z_tableIn (tgt := 324) C dL_law_45 (by decide) (by decide) rfl (by decide) ?_
    exact lc_lineY (Ts := []) hl0 C Rm S H cont
  · refine z_tableIn (tgt := 380) C dL_law_45 (by decide) (by decide) rfl (by decide) ?_
    exact lc_close (Ts := []) hl0 C Rm S H cont
  · refine z_tableIn (tgt := 448) C dL_law_45 (by decide) (by decide) rfl (by decide) ?_
    exact lc_points (Ts := []) hl0 C Rm S H cont
  · refine z_tableIn (tgt := 461) C dL_law_45 (by decide) (by decide) rfl (by decide) ?_
    exact lc_addRectangle (Ts := []) hl0 C Rm S H cont
  · refine z_tableIn (tgt := 565) C dL_law_45 (by decide) (by decide) rfl (by decide) ?_
    exact lc_combine (Ts := []) hl0 C Rm S H cont
  · refine z_tableIn (tgt := 657) C dL_law_45 (by decide) (by decide) rfl (by decide) ?_
    exact lc_move (Ts := []) hl0 C Rm S H cont
  · refine z_tableIn (tgt := 737) C dL_law_45 (by decide) (by decide) rfl (by decide) ?_
    exact lc_turn (Ts := []) hl0 C Rm S H cont
  · refine z_tableIn (tgt := 805) C dL_law_45 (by decide) (by decide) rfl (by decide) ?_
    exact lc_mirror (Ts := []) hl0 C Rm S H cont
  · refine z_tableIn (tgt := 861) C dL_law_45 (by decide) (by decide) rfl (by decide) ?_
    exact lc_grow (Ts := []) hl0 C Rm S H cont
  · refine z_tableIn (tgt := 941) C dL_law_45 (by decide) (by decide) rfl (by decide) ?_
    exact lc_shrink (Ts := []) hl0 C Rm S H cont
  · refine z_tableIn (tgt := 1021) C dL_law_45 (by decide) (by decide) rfl (by decide) ?_
    exact lc_fill (Ts := []) hl0 C Rm S H cont
  · refine z_tableIn (tgt := 1077) C dL_law_45 (by decide) (by decide) rfl (by decide) ?_
    exact lc_keepPiece (Ts := []) hl0 C Rm S H cont
  · refine z_tableIn (tgt := 1157) C dL_law_45 (by decide) (by decide) rfl (by decide) ?_
    exact lc_clear (Ts := []) hl0 C Rm S H cont
  · refine z_tableIn (tgt := 1213) C dL_law_45 (by decide) (by decide) rfl (by decide) ?_
    exact lc_undo (Ts := []) hl0 C Rm S H cont
  · refine z_tableIn (tgt := 1226) C dL_law_45 (by decide) (by decide) rfl (by decide) ?_
    exact lc_area (Ts := []) hl0 C Rm S H cont
  · refine z_tableIn (tgt := 1282) C dL_law_45 (by decide) (by decide) rfl (by decide) ?_
    exact lc_edges (Ts := []) hl0 C Rm S H cont
  · refine z_tableIn (tgt := 1338) C dL_law_45 (by decide) (by decide) rfl (by decide) ?_
    exact lc_pieces (Ts := []) hl0 C Rm S H cont
  · refine z_tableIn (tgt := 1394) C dL_law_45 (by decide) (by decide) rfl (by decide) ?_
    exact lc_holes (Ts := []) hl0 C Rm S H cont
  · refine z_tableIn (tgt := 1450) C dL_law_45 (by decide) (by decide) rfl (by decide) ?_
    exact lc_has (Ts := []) hl0 C Rm S H cont
  · refine z_tableIn (tgt := 1537) C dL_law_45 (by decide) (by decide) rfl (by decide) ?_
    exact lc_bound (Ts := []) hl0 C Rm S H cont
  · refine z_tableIn (tgt := 1605) C dL_law_45 (by decide) (by decide) rfl (by decide) ?_
    exact lc_contours (Ts := []) hl0 C Rm S H cont
  · refine z_tableIn (tgt := 1661) C dL_law_45 (by decide) (by decide) rfl (by decide) ?_
    exact lc_corners (Ts := []) hl0 C Rm S H cont
  · refine z_tableIn (tgt := 1729) C dL_law_45 (by decide) (by decide) rfl (by decide) ?_
    exact lc_cornerX (Ts := []) hl0 C Rm S H cont
  · refine z_tableIn (tgt := 1809) C dL_law_45 (by decide) (by decide) rfl (by decide) ?_
    exact lc_cornerY (Ts := []) hl0 C Rm S H cont
  · refine z_tableIn (tgt := 1889) C dL_law_45 (by decide) (by decide) rfl (by decide) ?_
    exact lc_areaOf (Ts := []) hl0 C Rm S H cont
  · refine z_tableIn (tgt := 1957) C dL_law_45 (by decide) (by decide) rfl (by decide) ?_
    exact lc_strips (Ts := []) hl0 C Rm S H cont
  · refine z_tableIn (tgt := 2013) C dL_law_45 (by decide) (by decide) rfl (by decide) ?_
    exact lc_strip (Ts := []) hl0 C Rm S H cont
  · refine z_tableIn (tgt := 2093) C dL_law_45 (by decide) (by decide) rfl (by decide) ?_
    exact lc_hatch (Ts := []) hl0 C Rm S H cont
  · refine z_tableIn (tgt := 2185) C dL_law_45 (by decide) (by decide) rfl (by decide) ?_
    exact lc_hatched (Ts := []) hl0 C Rm S H cont
  · refine z_tableIn (tgt := 2277) C dL_law_45 (by decide) (by decide) rfl (by decide) ?_
    exact lc_apart (Ts := []) hl0 C Rm S H cont
  · refine z_tableIn (tgt := 2345) C dL_law_45 (by decide) (by decide) rfl (by decide) ?_
    exact lc_isSameForm (Ts := []) hl0 C Rm S H cont
  · refine z_tableIn (tgt := 2420) C dL_law_45 (by decide) (by decide) rfl (by decide) ?_
    exact lc_middleX (Ts := []) hl0 C Rm S H cont
  · refine z_tableIn (tgt := 2497) C dL_law_45 (by decide) (by decide) rfl (by decide) ?_
    exact lc_digest (Ts := []) hl0 C Rm S H cont
