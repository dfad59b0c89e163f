/-! the class on an object whose only past is digests -/
def isKf (D : va_G) (μ : zM) (K : Nat) (g : Nat → Int64) (lo hi fy wt sy : Int) : Prop := μ K = some (.inr (6, [.ref (K + 1), .ref (K + 2), .ref (K + 4), .ref (K + 8), .ref (K + 35), .ref (K + 40), .ref (K + 47)])) ∧ μ (K + 1) = some (zAF D 8 (fun k => some (K + 50 + 2 * k))) ∧ (∀ k, k < 8 → isF D μ (K + 50 + 2 * k) zF) ∧ isF D μ (K + 2) zF ∧ isPen D μ (K + 4) 1 0 0 0 0 (zw zIz 0 0) (zw zIz 0 0) zIz ∧ isHi D μ (K + 8) 0 0 zIz ∧ isF D μ (K + 8 + 5) zF ∧ isFl D μ (K + 35) zF g lo hi ∧ isOu D μ (K + 40) fy wt ∧ isSt D μ (K + 47) sy
theorem isKe.kf {D : va_G} {μ : zM} {K : Nat} (h : isKe D μ K) : isKf D μ K zF 0 0 0 0 0 := h
section KF
variable {D : va_G} {μ : zM} {K : Nat} {g : Nat → Int64} {lo hi fy wt sy : Int}
theorem isKf.obj (h : isKf D μ K g lo hi fy wt sy) : μ K = some (.inr (6, [.ref (K + 1), .ref (K + 2), .ref (K + 4), .ref (K + 8), .ref (K + 35), .ref (K + 40), .ref (K + 47)])) := h.1
theorem isKf.regs (h : isKf D μ K g lo hi fy wt sy) : μ (K + 1) = some (zAF D 8 (fun k => some (K + 50 + 2 * k))) := h.2.1
theorem isKf.reg (h : isKf D μ K g lo hi fy wt sy) {k : Nat} (hk : k < 8) : isF D μ (K + 50 + 2 * k) zF := h.2.2.1 k hk
theorem isKf.spare (h : isKf D μ K g lo hi fy wt sy) : isF D μ (K + 2) zF := h.2.2.2.1
theorem isKf.pen (h : isKf D μ K g lo hi fy wt sy) : isPen D μ (K + 4) 1 0 0 0 0 (zw zIz 0 0) (zw zIz 0 0) zIz := h.2.2.2.2.1
theorem isKf.his (h : isKf D μ K g lo hi fy wt sy) : isHi D μ (K + 8) 0 0 zIz := h.2.2.2.2.2.1
theorem isKf.kept (h : isKf D μ K g lo hi fy wt sy) : isF D μ (K + 8 + 5) zF := h.2.2.2.2.2.2.1
theorem isKf.fl (h : isKf D μ K g lo hi fy wt sy) : isFl D μ (K + 35) zF g lo hi := h.2.2.2.2.2.2.2.1
theorem isKf.ou (h : isKf D μ K g lo hi fy wt sy) : isOu D μ (K + 40) fy wt := h.2.2.2.2.2.2.2.2.1
theorem isKf.st (h : isKf D μ K g lo hi fy wt sy) : isSt D μ (K + 47) sy := h.2.2.2.2.2.2.2.2.2
theorem isKf.at (h : isKf D μ K g lo hi fy wt sy) {r : Int} (hr : 0 ≤ r ∧ r < 8) : isF D μ (zReg K r) zF := h.reg (by omega)
theorem isKf.mk2 {u : zM} {g2 : Nat → Int64} {lo2 hi2 fy2 wt2 sy2 : Int} (h : isKf D μ K g lo hi fy wt sy) (hA : isFl D u (K + 35) zF g2 lo2 hi2) (hU : isOu D u (K + 40) fy2 wt2) (hS : isSt D u (K + 47) sy2) (hO : zO (zb (K + 35) 15) μ u) : isKf D u K g2 lo2 hi2 fy2 wt2 sy2 :=
  ⟨hO.at (by unfold zb; omega) h.obj, hO.at (by unfold zb; omega) h.regs, fun k hk => (h.reg hk).o hO (by unfold zb; omega) (by unfold zb; omega), h.spare.o hO (by unfold zb; omega) (by unfold zb; omega), h.pen.o hO (fun q h1 h2 => by unfold zb; omega), ⟨hO.at (by unfold zb; omega) h.his.1, hO.at (by unfold zb; omega) h.his.2.1, hO.at (by unfold zb; omega) h.his.2.2⟩, h.kept.o hO (by unfold zb; omega) (by unfold zb; omega), hA, hU, hS⟩
theorem isF.ex {u : zM} {o : Nat} {f : Nat → Int64} (h : isF D μ o f) (hE : zEx μ u) : isF D u o f := ⟨hE _ _ h.1, hE _ _ h.2⟩
theorem isKf.ex {u : zM} (h : isKf D μ K g lo hi fy wt sy) (hE : zEx μ u) : isKf D u K g lo hi fy wt sy :=
  ⟨hE _ _ h.obj, hE _ _ h.regs, fun k hk => (h.reg hk).ex hE, h.spare.ex hE, ⟨hE _ _ h.pen.1, hE _ _ h.pen.2.1, hE _ _ h.pen.2.2.1, hE _ _ h.pen.2.2.2⟩, ⟨hE _ _ h.his.1, hE _ _ h.his.2.1, hE _ _ h.his.2.2⟩, h.kept.ex hE, ⟨hE _ _ h.fl.1, h.fl.2.1.ex hE, h.fl.2.2.ex hE⟩, ⟨hE _ _ h.ou.1, h.ou.2.1.ex hE, h.ou.2.2.1.ex hE, h.ou.2.2.2.ex hE⟩, hE _ _ h.st.1, h.st.2.ex hE⟩
end KF
set_option maxRecDepth 100000 in
set_option maxHeartbeats 4000000 in
theorem k_digest2 {l : Launch} {D : va_G} {N0 : Nat} {K : Nat} {μ : zM} {g0 : Nat → Int64} {lo0 hi0 fy0 wt0 sy0 : Int} (hK : isKf D μ K g0 lo0 hi0 fy0 wt0 sy0) : zMet l yX6_digest cX6_digest 6 (some .long) ({ frames := 5, cells := 0, slots := 0, locals := 200 } : Room) D N0 [.ref K] μ (zQL D N0 (fun z u => z = zmz (zdg 8) ∧ (∃ (g : Nat → Int64) (lo hi fy wt sy : Int), isKf D u K g lo hi fy wt sy) ∧ zKO K μ u)) := by
  refine zMet_of rfl (Nat.le_of_ble_eq_true rfl) (fun X C Rm hin E => ?_)
  have loop : ∀ (n i : Nat) (k : Int) (d : Int64) (L4 L5 : Option Value) (ν : zM) (g : Nat → Int64) (lo hi fy wt sy : Int), i + n = 8 → k = (i : Int) → d = zdg i → isFl D ν (K + 35) zF g lo hi → isOu D ν (K + 40) fy wt → isSt D ν (K + 47) sy → zO (zb (K + 35) 15) μ ν → Z X ν 0 0 17 [some (.ref K), some (.long d), none, some (zi k), L4, L5] [] := by
    intro n
    induction n with
    | zero =>
      intro i k d L4 L5 ν g lo hi fy wt sy hn hk hd hA hU hS hO
      subst hd
      have hob := hO.at (by unfold zb; omega) hK.obj
      have hrg := hO.at (by unfold zb; omega) hK.regs
      refine z_iload_n C dX6_digest_17 rfl ?_
      refine z_aload_n C dX6_digest_18 rfl ?_
      refine z_get C hob rfl 0 (by decide) m_223 inz6 rfl rfl dX6_digest_19 ?_
      refine z_alen C hrg 4 rfl dX6_digest_22 ?_
      refine z_icmp_ge (tgt := 166) C dX6_digest_23 (by decide) (fun _ => ?_) (fun hno => absurd hno (by omega))
      have hH := hO.at (by unfold zb; omega) hK.his.1
      have hH2 : isHi D ν (K + 8) 0 0 zIz := ⟨hH, hO.at (by unfold zb; omega) hK.his.2.1, hO.at (by unfold zb; omega) hK.his.2.2⟩
      refine z_lload_n C dX6_digest_166 rfl ?_
      refine z_aload_n C dX6_digest_167 rfl ?_
      refine z_get C hob rfl 3 (by decide) m_226 inz6 rfl rfl dX6_digest_168 ?_
      refine z_ci C (z_rV C Rm qv_X2_count m_496 (c_hcount hH2) hH rfl dX6_digest_171 rfl rfl (Nat.le_of_ble_eq_true rfl) rfl ⟨Nat.le_of_ble_eq_true rfl, Nat.le_of_ble_eq_true rfl, Nat.le_of_ble_eq_true rfl, Nat.le_of_ble_eq_true rfl⟩) (fun z μ3 hq3 => ?_)
      obtain ⟨rfl, rfl⟩ := hq3
      refine z_i2l C dX6_digest_174 ?_
      refine z_cl C (z_rS C Rm qs_X6_mixed m_286 (k_mixz) dX6_digest_175 rfl rfl (Nat.le_of_ble_eq_true rfl) rfl ⟨Nat.le_of_ble_eq_true rfl, Nat.le_of_ble_eq_true rfl, Nat.le_of_ble_eq_true rfl, Nat.le_of_ble_eq_true rfl⟩) (fun z μ3 hq3 => ?_)
      obtain ⟨rfl, rfl⟩ := hq3
      exact z_lret C E dX6_digest_178 (Nat.le_of_ble_eq_true rfl) (Nat.le_of_ble_eq_true rfl) ⟨by rw [show i = 8 by omega], ⟨g, lo, hi, fy, wt, sy, hK.mk2 hA hU hS hO⟩, hO.mo (fun q hq => by unfold zb at hq ⊢; omega)⟩
    | succ n ih =>
      intro i k d L4 L5 ν g lo hi fy wt sy hn hk hd hA hU hS hO
      have hob := hO.at (by unfold zb; omega) hK.obj
      have hrg := hO.at (by unfold zb; omega) hK.regs
      have h8 : 0 ≤ k ∧ k < 8 := by omega
      have b8 := zReg_b (K := K) h8
      have hF := (hK.at h8).o hO (by unfold zb; omega) (by unfold zb; omega)
      have hne : ¬ zb (K + 35) 5 (zReg K k) ∧ ¬ zb (K + 35) 5 (zReg K k + 1) := ⟨by unfold zb; omega, by unfold zb; omega⟩
      refine z_iload_n C dX6_digest_17 rfl ?_
      refine z_aload_n C dX6_digest_18 rfl ?_
      refine z_get C hob rfl 0 (by decide) m_223 inz6 rfl rfl dX6_digest_19 ?_
      refine z_alen C hrg 4 rfl dX6_digest_22 ?_
      refine z_icmp_ge (tgt := 166) C dX6_digest_23 (by decide) (fun hno => absurd hno (by omega)) (fun _ => ?_)
      refine z_aload_n C dX6_digest_26 rfl ?_
      refine z_get C hob rfl 0 (by decide) m_223 inz6 rfl rfl dX6_digest_27 ?_
      refine z_iload_n C dX6_digest_30 rfl ?_
      refine z_fald C hrg (by decide) (show _ = some (zReg K k) from rfl) dX6_digest_31 ?_
      refine z_astore (L' := [_, _, _, _, _, _]) C dX6_digest_32 rfl ?_
      refine z_lload_n C dX6_digest_34 rfl ?_
      refine z_aload C dX6_digest_35 rfl ?_
      refine z_ci C (z_rV C Rm qv_X0_count m_290 (c_count hF) hF.1 rfl dX6_digest_37 rfl rfl (Nat.le_of_ble_eq_true rfl) rfl ⟨Nat.le_of_ble_eq_true rfl, Nat.le_of_ble_eq_true rfl, Nat.le_of_ble_eq_true rfl, Nat.le_of_ble_eq_true rfl⟩) (fun z μ3 hq3 => ?_)
      obtain ⟨rfl, rfl⟩ := hq3
      rw [cntF_z]
      refine z_i2l C dX6_digest_40 ?_
      refine z_cl C (z_rS C Rm qs_X6_mixed m_286 (k_mixz) dX6_digest_41 rfl rfl (Nat.le_of_ble_eq_true rfl) rfl ⟨Nat.le_of_ble_eq_true rfl, Nat.le_of_ble_eq_true rfl, Nat.le_of_ble_eq_true rfl, Nat.le_of_ble_eq_true rfl⟩) (fun z μ3 hq3 => ?_)
      obtain ⟨rfl, rfl⟩ := hq3
      refine z_lstore_n (L' := [_, _, _, _, _, _]) C dX6_digest_44 rfl ?_
      refine z_lload_n C dX6_digest_45 rfl ?_
      refine z_aload C dX6_digest_46 rfl ?_
      refine z_ci C (z_rV C Rm qv_X0_countEdges m_300 (c_countEdges0 hF) hF.1 rfl dX6_digest_48 rfl rfl (Nat.le_of_ble_eq_true rfl) rfl ⟨Nat.le_of_ble_eq_true rfl, Nat.le_of_ble_eq_true rfl, Nat.le_of_ble_eq_true rfl, Nat.le_of_ble_eq_true rfl⟩) (fun z μ3 hq3 => ?_)
      obtain ⟨rfl, rfl⟩ := hq3
      refine z_i2l C dX6_digest_51 ?_
      refine z_cl C (z_rS C Rm qs_X6_mixed m_286 (k_mixz) dX6_digest_52 rfl rfl (Nat.le_of_ble_eq_true rfl) rfl ⟨Nat.le_of_ble_eq_true rfl, Nat.le_of_ble_eq_true rfl, Nat.le_of_ble_eq_true rfl, Nat.le_of_ble_eq_true rfl⟩) (fun z μ3 hq3 => ?_)
      obtain ⟨rfl, rfl⟩ := hq3
      refine z_lstore_n (L' := [_, _, _, _, _, _]) C dX6_digest_55 rfl ?_
      refine z_lload_n C dX6_digest_56 rfl ?_
      refine z_aload_n C dX6_digest_57 rfl ?_
      refine z_get C hob rfl 4 (by decide) m_227 inz6 rfl rfl dX6_digest_58 ?_
      refine z_aload C dX6_digest_61 rfl ?_
      refine z_ci C (z_rV C Rm qv_X1_countPieces m_305 (c_pieces0 hA hF (by omega)) hA.1 rfl dX6_digest_63 rfl rfl (Nat.le_of_ble_eq_true rfl) rfl ⟨Nat.le_of_ble_eq_true rfl, Nat.le_of_ble_eq_true rfl, Nat.le_of_ble_eq_true rfl, Nat.le_of_ble_eq_true rfl⟩) (fun z μ3 hq3 => ?_)
      obtain ⟨rfl, rfl⟩ := hq3
      refine z_i2l C dX6_digest_66 ?_
      refine z_cl C (z_rS C Rm qs_X6_mixed m_286 (k_mixz) dX6_digest_67 rfl rfl (Nat.le_of_ble_eq_true rfl) rfl ⟨Nat.le_of_ble_eq_true rfl, Nat.le_of_ble_eq_true rfl, Nat.le_of_ble_eq_true rfl, Nat.le_of_ble_eq_true rfl⟩) (fun z μ3 hq3 => ?_)
      obtain ⟨rfl, rfl⟩ := hq3
      refine z_lstore_n (L' := [_, _, _, _, _, _]) C dX6_digest_70 rfl ?_
      refine z_lload_n C dX6_digest_71 rfl ?_
      refine z_aload_n C dX6_digest_72 rfl ?_
      refine z_get C hob rfl 4 (by decide) m_227 inz6 rfl rfl dX6_digest_73 ?_
      refine z_aload C dX6_digest_76 rfl ?_
      refine z_ci C (z_rV C Rm qv_X1_countHoles m_357 (c_holes0 hA hF hne) hA.1 rfl dX6_digest_78 rfl rfl (Nat.le_of_ble_eq_true rfl) rfl ⟨Nat.le_of_ble_eq_true rfl, Nat.le_of_ble_eq_true rfl, Nat.le_of_ble_eq_true rfl, Nat.le_of_ble_eq_true rfl⟩) (fun z ν2 hq3 => ?_)
      obtain ⟨rfl, hA2, hO2⟩ := hq3
      refine z_i2l C dX6_digest_81 ?_
      refine z_cl C (z_rS C Rm qs_X6_mixed m_286 (k_mixz) dX6_digest_82 rfl rfl (Nat.le_of_ble_eq_true rfl) rfl ⟨Nat.le_of_ble_eq_true rfl, Nat.le_of_ble_eq_true rfl, Nat.le_of_ble_eq_true rfl, Nat.le_of_ble_eq_true rfl⟩) (fun z μ3 hq3 => ?_)
      obtain ⟨rfl, rfl⟩ := hq3
      have hob2 := hO2.at (by unfold zb; omega) hob
      have hF2 := hF.o hO2 hne.1 hne.2
      have hU2 := hU.o hO2 (fun q h1 h2 => by unfold zb; omega)
      have hS2 := hS.o hO2 (fun q h1 h2 => by unfold zb; omega)
      refine z_lstore_n (L' := [_, _, _, _, _, _]) C dX6_digest_85 rfl ?_
      refine z_iconst C dX6_digest_86 ?_
      refine z_istore (L' := [_, _, _, _, _, _]) C dX6_digest_87 rfl ?_
      refine z_iload C dX6_digest_89 rfl ?_
      refine z_iconst C dX6_digest_91 ?_
      refine z_icmp_ge (tgt := 114) C dX6_digest_92 (by decide) (fun hno => absurd hno (by omega)) (fun _ => ?_)
      refine z_lload_n C dX6_digest_95 rfl ?_
      refine z_aload C dX6_digest_96 rfl ?_
      refine z_iload C dX6_digest_98 rfl ?_
      refine z_ci C (z_rS C Rm qs_X6_boundOf m_368 (k_boundOf0 hF2 (by omega)) dX6_digest_100 rfl rfl (Nat.le_of_ble_eq_true rfl) rfl ⟨Nat.le_of_ble_eq_true rfl, Nat.le_of_ble_eq_true rfl, Nat.le_of_ble_eq_true rfl, Nat.le_of_ble_eq_true rfl⟩) (fun z μ3 hq3 => ?_)
      obtain ⟨rfl, rfl⟩ := hq3
      refine z_i2l C dX6_digest_103 ?_
      refine z_cl C (z_rS C Rm qs_X6_mixed m_286 (k_mixz) dX6_digest_104 rfl rfl (Nat.le_of_ble_eq_true rfl) rfl ⟨Nat.le_of_ble_eq_true rfl, Nat.le_of_ble_eq_true rfl, Nat.le_of_ble_eq_true rfl, Nat.le_of_ble_eq_true rfl⟩) (fun z μ3 hq3 => ?_)
      obtain ⟨rfl, rfl⟩ := hq3
      refine z_lstore_n (L' := [_, _, _, _, _, _]) C dX6_digest_107 rfl ?_
      refine z_iinc (L' := [_, _, _, _, _, _]) C dX6_digest_108 rfl rfl ?_
      refine z_goto (tgt := 89) C dX6_digest_111 (by decide) ?_
      refine z_iload C dX6_digest_89 rfl ?_
      refine z_iconst C dX6_digest_91 ?_
      refine z_icmp_ge (tgt := 114) C dX6_digest_92 (by decide) (fun hno => absurd hno (by omega)) (fun _ => ?_)
      refine z_lload_n C dX6_digest_95 rfl ?_
      refine z_aload C dX6_digest_96 rfl ?_
      refine z_iload C dX6_digest_98 rfl ?_
      refine z_ci C (z_rS C Rm qs_X6_boundOf m_368 (k_boundOf0 hF2 (by omega)) dX6_digest_100 rfl rfl (Nat.le_of_ble_eq_true rfl) rfl ⟨Nat.le_of_ble_eq_true rfl, Nat.le_of_ble_eq_true rfl, Nat.le_of_ble_eq_true rfl, Nat.le_of_ble_eq_true rfl⟩) (fun z μ3 hq3 => ?_)
      obtain ⟨rfl, rfl⟩ := hq3
      refine z_i2l C dX6_digest_103 ?_
      refine z_cl C (z_rS C Rm qs_X6_mixed m_286 (k_mixz) dX6_digest_104 rfl rfl (Nat.le_of_ble_eq_true rfl) rfl ⟨Nat.le_of_ble_eq_true rfl, Nat.le_of_ble_eq_true rfl, Nat.le_of_ble_eq_true rfl, Nat.le_of_ble_eq_true rfl⟩) (fun z μ3 hq3 => ?_)
      obtain ⟨rfl, rfl⟩ := hq3
      refine z_lstore_n (L' := [_, _, _, _, _, _]) C dX6_digest_107 rfl ?_
      refine z_iinc (L' := [_, _, _, _, _, _]) C dX6_digest_108 rfl rfl ?_
      refine z_goto (tgt := 89) C dX6_digest_111 (by decide) ?_
      refine z_iload C dX6_digest_89 rfl ?_
      refine z_iconst C dX6_digest_91 ?_
      refine z_icmp_ge (tgt := 114) C dX6_digest_92 (by decide) (fun hno => absurd hno (by omega)) (fun _ => ?_)
      refine z_lload_n C dX6_digest_95 rfl ?_
      refine z_aload C dX6_digest_96 rfl ?_
      refine z_iload C dX6_digest_98 rfl ?_
      refine z_ci C (z_rS C Rm qs_X6_boundOf m_368 (k_boundOf0 hF2 (by omega)) dX6_digest_100 rfl rfl (Nat.le_of_ble_eq_true rfl) rfl ⟨Nat.le_of_ble_eq_true rfl, Nat.le_of_ble_eq_true rfl, Nat.le_of_ble_eq_true rfl, Nat.le_of_ble_eq_true rfl⟩) (fun z μ3 hq3 => ?_)
      obtain ⟨rfl, rfl⟩ := hq3
      refine z_i2l C dX6_digest_103 ?_
      refine z_cl C (z_rS C Rm qs_X6_mixed m_286 (k_mixz) dX6_digest_104 rfl rfl (Nat.le_of_ble_eq_true rfl) rfl ⟨Nat.le_of_ble_eq_true rfl, Nat.le_of_ble_eq_true rfl, Nat.le_of_ble_eq_true rfl, Nat.le_of_ble_eq_true rfl⟩) (fun z μ3 hq3 => ?_)
      obtain ⟨rfl, rfl⟩ := hq3
      refine z_lstore_n (L' := [_, _, _, _, _, _]) C dX6_digest_107 rfl ?_
      refine z_iinc (L' := [_, _, _, _, _, _]) C dX6_digest_108 rfl rfl ?_
      refine z_goto (tgt := 89) C dX6_digest_111 (by decide) ?_
      refine z_iload C dX6_digest_89 rfl ?_
      refine z_iconst C dX6_digest_91 ?_
      refine z_icmp_ge (tgt := 114) C dX6_digest_92 (by decide) (fun hno => absurd hno (by omega)) (fun _ => ?_)
      refine z_lload_n C dX6_digest_95 rfl ?_
      refine z_aload C dX6_digest_96 rfl ?_
      refine z_iload C dX6_digest_98 rfl ?_
      refine z_ci C (z_rS C Rm qs_X6_boundOf m_368 (k_boundOf0 hF2 (by omega)) dX6_digest_100 rfl rfl (Nat.le_of_ble_eq_true rfl) rfl ⟨Nat.le_of_ble_eq_true rfl, Nat.le_of_ble_eq_true rfl, Nat.le_of_ble_eq_true rfl, Nat.le_of_ble_eq_true rfl⟩) (fun z μ3 hq3 => ?_)
      obtain ⟨rfl, rfl⟩ := hq3
      refine z_i2l C dX6_digest_103 ?_
      refine z_cl C (z_rS C Rm qs_X6_mixed m_286 (k_mixz) dX6_digest_104 rfl rfl (Nat.le_of_ble_eq_true rfl) rfl ⟨Nat.le_of_ble_eq_true rfl, Nat.le_of_ble_eq_true rfl, Nat.le_of_ble_eq_true rfl, Nat.le_of_ble_eq_true rfl⟩) (fun z μ3 hq3 => ?_)
      obtain ⟨rfl, rfl⟩ := hq3
      refine z_lstore_n (L' := [_, _, _, _, _, _]) C dX6_digest_107 rfl ?_
      refine z_iinc (L' := [_, _, _, _, _, _]) C dX6_digest_108 rfl rfl ?_
      refine z_goto (tgt := 89) C dX6_digest_111 (by decide) ?_
      refine z_iload C dX6_digest_89 rfl ?_
      refine z_iconst C dX6_digest_91 ?_
      refine z_icmp_ge (tgt := 114) C dX6_digest_92 (by decide) (fun _ => ?_) (fun hno => absurd hno (by omega))
      refine z_lload_n C dX6_digest_114 rfl ?_
      refine z_aload_n C dX6_digest_115 rfl ?_
      refine z_get C hob2 rfl 5 (by decide) m_228 inz6 rfl rfl dX6_digest_116 ?_
      refine z_aload C dX6_digest_119 rfl ?_
      refine z_ci C (z_rV C Rm qv_X3_countContours m_393 (c_contours0 hU2 hF2 (by omega)) hU2.1 rfl dX6_digest_121 rfl rfl (Nat.le_of_ble_eq_true rfl) rfl ⟨Nat.le_of_ble_eq_true rfl, Nat.le_of_ble_eq_true rfl, Nat.le_of_ble_eq_true rfl, Nat.le_of_ble_eq_true rfl⟩) (fun z ν3 hq3 => ?_)
      obtain ⟨rfl, hU3, hO3⟩ := hq3
      have hob3 := hO3.at (by omega) hob2
      have hF3 := hF2.o hO3 (by omega) (by omega)
      have hA3 := hA2.o hO3 (fun q h1 h2 => by omega)
      have hS3 := hS2.o hO3 (fun q h1 h2 => by omega)
      refine z_i2l C dX6_digest_124 ?_
      refine z_cl C (z_rS C Rm qs_X6_mixed m_286 (k_mixz) dX6_digest_125 rfl rfl (Nat.le_of_ble_eq_true rfl) rfl ⟨Nat.le_of_ble_eq_true rfl, Nat.le_of_ble_eq_true rfl, Nat.le_of_ble_eq_true rfl, Nat.le_of_ble_eq_true rfl⟩) (fun z μ3 hq3 => ?_)
      obtain ⟨rfl, rfl⟩ := hq3
      refine z_lstore_n (L' := [_, _, _, _, _, _]) C dX6_digest_128 rfl ?_
      refine z_aload_n C dX6_digest_129 rfl ?_
      refine z_lload_n C dX6_digest_130 rfl ?_
      refine z_aload C dX6_digest_131 rfl ?_
      refine z_cl C (z_rV C Rm qv_X6_digestOfContours m_436 (k_dCont hob3 hU3 hF3 (by omega)) hob3 rfl dX6_digest_133 rfl rfl (Nat.le_of_ble_eq_true rfl) rfl ⟨Nat.le_of_ble_eq_true rfl, Nat.le_of_ble_eq_true rfl, Nat.le_of_ble_eq_true rfl, Nat.le_of_ble_eq_true rfl⟩) (fun z ν4 hq3 => ?_)
      obtain ⟨rfl, hU4, hO4⟩ := hq3
      have hob4 := hO4.at (by omega) hob3
      have hF4 := hF3.o hO4 (by omega) (by omega)
      have hA4 := hA3.o hO4 (fun q h1 h2 => by omega)
      have hS4 := hS3.o hO4 (fun q h1 h2 => by omega)
      refine z_lstore_n (L' := [_, _, _, _, _, _]) C dX6_digest_136 rfl ?_
      refine z_lload_n C dX6_digest_137 rfl ?_
      refine z_aload_n C dX6_digest_138 rfl ?_
      refine z_get C hob4 rfl 6 (by decide) m_229 inz6 rfl rfl dX6_digest_139 ?_
      refine z_aload C dX6_digest_142 rfl ?_
      refine z_ci C (z_rV C Rm qv_X5_countStrips m_458 (c_strips0 hS4 hF4 (by omega)) hS4.1 rfl dX6_digest_144 rfl rfl (Nat.le_of_ble_eq_true rfl) rfl ⟨Nat.le_of_ble_eq_true rfl, Nat.le_of_ble_eq_true rfl, Nat.le_of_ble_eq_true rfl, Nat.le_of_ble_eq_true rfl⟩) (fun z ν5 hq3 => ?_)
      obtain ⟨rfl, hS5, hO5⟩ := hq3
      have hob5 := hO5.at (by omega) hob4
      have hF5 := hF4.o hO5 (by omega) (by omega)
      have hA5 := hA4.o hO5 (fun q h1 h2 => by omega)
      have hU5 := hU4.o hO5 (fun q h1 h2 => by omega)
      refine z_i2l C dX6_digest_147 ?_
      refine z_cl C (z_rS C Rm qs_X6_mixed m_286 (k_mixz) dX6_digest_148 rfl rfl (Nat.le_of_ble_eq_true rfl) rfl ⟨Nat.le_of_ble_eq_true rfl, Nat.le_of_ble_eq_true rfl, Nat.le_of_ble_eq_true rfl, Nat.le_of_ble_eq_true rfl⟩) (fun z μ3 hq3 => ?_)
      obtain ⟨rfl, rfl⟩ := hq3
      refine z_lstore_n (L' := [_, _, _, _, _, _]) C dX6_digest_151 rfl ?_
      refine z_aload_n C dX6_digest_152 rfl ?_
      refine z_lload_n C dX6_digest_153 rfl ?_
      refine z_aload C dX6_digest_154 rfl ?_
      refine z_cl C (z_rV C Rm qv_X6_digestOfStrips m_486 (k_dStr hob5 hS5 hF5 (by omega)) hob5 rfl dX6_digest_156 rfl rfl (Nat.le_of_ble_eq_true rfl) rfl ⟨Nat.le_of_ble_eq_true rfl, Nat.le_of_ble_eq_true rfl, Nat.le_of_ble_eq_true rfl, Nat.le_of_ble_eq_true rfl⟩) (fun z ν6 hq3 => ?_)
      obtain ⟨rfl, hS6, hO6⟩ := hq3
      have hA6 := hA5.o hO6 (fun q h1 h2 => by omega)
      have hU6 := hU5.o hO6 (fun q h1 h2 => by omega)
      refine z_lstore_n (L' := [_, _, _, _, _, _]) C dX6_digest_159 rfl ?_
      refine z_iinc (L' := [_, _, _, _, _, _]) C dX6_digest_160 rfl rfl ?_
      refine z_goto (tgt := 17) C dX6_digest_163 (by decide) ?_
      refine ih (i + 1) (k + 1) _ _ _ _ _ _ _ _ _ _ (by omega) (by omega) ?_ hA6 hU6 hS6 ?_
      · rw [hd]
        rfl
      · exact (((((hO.tr (hO2.mo (fun q hq => by unfold zb at hq ⊢; omega))).tr (hO3.mo (fun q hq => by unfold zb; omega))).tr (hO4.mo (fun q hq => by unfold zb; omega))).tr (hO5.mo (fun q hq => by unfold zb; omega))).tr (hO6.mo (fun q hq => by unfold zb; omega)))
  refine z_ldc2 C m_285 dX6_digest_0 ?_
  refine z_aload_n C dX6_digest_3 rfl ?_
  refine z_get C hK.obj rfl 2 (by decide) m_225 inz6 rfl rfl dX6_digest_4 ?_
  refine z_ci C (z_rV C Rm qv_X4_length m_249 (c_plen hK.pen) hK.pen.1 rfl dX6_digest_7 rfl rfl (Nat.le_of_ble_eq_true rfl) rfl ⟨Nat.le_of_ble_eq_true rfl, Nat.le_of_ble_eq_true rfl, Nat.le_of_ble_eq_true rfl, Nat.le_of_ble_eq_true rfl⟩) (fun z μ3 hq3 => ?_)
  obtain ⟨rfl, rfl⟩ := hq3
  refine z_i2l C dX6_digest_10 ?_
  refine z_cl C (z_rS C Rm qs_X6_mixed m_286 (k_mixed) dX6_digest_11 rfl rfl (Nat.le_of_ble_eq_true rfl) rfl ⟨Nat.le_of_ble_eq_true rfl, Nat.le_of_ble_eq_true rfl, Nat.le_of_ble_eq_true rfl, Nat.le_of_ble_eq_true rfl⟩) (fun z μ3 hq3 => ?_)
  obtain ⟨rfl, rfl⟩ := hq3
  refine z_lstore_n (L' := [_, _, _, _, _, _]) C dX6_digest_14 rfl ?_
  refine z_iconst C dX6_digest_15 ?_
  refine z_istore_n (L' := [_, _, _, _, _, _]) C dX6_digest_16 rfl ?_
  exact loop 8 0 0 _ _ _ _ _ _ _ _ _ _ (by omega) rfl rfl hK.fl hK.ou hK.st zO.rf
