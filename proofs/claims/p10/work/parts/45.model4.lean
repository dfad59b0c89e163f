def zEx (μ u : zM) : Prop := ∀ (b : Nat) (e : va_E), μ b = some e → u b = some e
theorem zEx.rf {μ : zM} : zEx μ μ := fun _ _ h => h
theorem zEx.tr {μ ν u : zM} (h : zEx μ ν) (h2 : zEx ν u) : zEx μ u := fun b e hb => h2 b e (h b e hb)
theorem zEx.own {μ u : zM} {a : Nat} {x : va_E} (h : zEx μ u) (ha : ∀ (b : Nat) (e : va_E), μ b = some e → b < a) : zEx μ (zu u a x) := fun q e hq => (zu_n (by have := ha q e hq; omega)).trans (h q e hq)
theorem zEx.n {M : Nat} {μ u : zM} (h : zEx μ u) : zN M μ u := fun q e hq _ => h q e hq
theorem zEx.mo {D : va_G} {M : Nat} {μ u : zM} (h : zEx μ u) (hM : isMo D μ M) : isMo D u M := ⟨h _ _ hM.1, h _ _ hM.2.1, fun j hj => h _ _ (hM.2.2.1 j hj), h _ _ hM.px, h _ _ hM.py, h _ _ hM.kr, h _ _ hM.kf⟩
theorem zEx.lt {μ ν : zM} {q : Nat} (h : zEx μ ν) (hq : ∀ (b : Nat) (e : va_E), ν b = some e → b < q) : ∀ (b : Nat) (e : va_E), μ b = some e → b < q := fun b e hb => hq b e (h b e hb)
set_option maxRecDepth 100000 in
set_option maxHeartbeats 4000000 in
theorem m_most {l : Launch} {D : va_G} {N0 : Nat} {a : Nat} {g : Nat → Int} {v : Int} {μ : zM} (hA : μ a = some (zAI D 4356 g)) (hg : ∀ i, i < 4356 → g i = v) (hv : v = 0 ∨ v = 1) : zMet l yX7_most cX7_most 6 (some .int) ({ frames := 1, cells := 0, slots := 0, locals := 40 } : Room) D N0 [.ref a] μ (zQI D N0 (fun z u => z = v ∧ u = μ)) := by
  refine zMet_of rfl (Nat.le_of_ble_eq_true rfl) (fun X C Rm hin E => ?_)
  have loop : ∀ (n i : Nat) (k s : Int) (L5 : Option Value), i + n = 4356 → k = (i : Int) → (i = 0 ∧ s = 0 ∨ 0 < i ∧ s = v) → Z X μ 0 0 10 [some (.ref a), some (zi s), some (.ref a), some (zi 4356), some (zi k), L5] [] := by
    intro n
    induction n with
    | zero =>
      intro i k s L5 hn hk hs
      refine z_iload C dX7_most_10 rfl ?_
      refine z_iload_n C dX7_most_12 rfl ?_
      refine z_icmp_ge (tgt := 35) C dX7_most_13 (by decide) (fun _ => ?_) (fun hno => absurd hno (by omega))
      refine z_iload_n C dX7_most_35 rfl ?_
      exact z_iret C E dX7_most_36 (Nat.le_of_ble_eq_true rfl) (Nat.le_of_ble_eq_true rfl) ⟨by omega, rfl⟩
    | succ n ih =>
      intro i k s L5 hn hk hs
      have hgi := hg k.toNat (by omega)
      refine z_iload C dX7_most_10 rfl ?_
      refine z_iload_n C dX7_most_12 rfl ?_
      refine z_icmp_ge (tgt := 35) C dX7_most_13 (by decide) (fun hno => absurd hno (by omega)) (fun _ => ?_)
      refine z_aload_n C dX7_most_16 rfl ?_
      refine z_iload C dX7_most_17 rfl ?_
      refine z_iald C hA (by decide) dX7_most_19 ?_
      rw [hgi]
      refine z_istore (L' := [_, _, _, _, _, _]) C dX7_most_20 rfl ?_
      refine z_iload_n C dX7_most_22 rfl ?_
      refine z_iload C dX7_most_23 rfl ?_
      refine z_mmax C Rm m_1074 m_350 m_50 m_351 dX7_most_25 rfl ⟨Nat.le_of_ble_eq_true rfl, Nat.le_of_ble_eq_true rfl, Nat.le_of_ble_eq_true rfl, Nat.le_of_ble_eq_true rfl⟩ ?_
      refine z_istore_n (L' := [_, _, _, _, _, _]) C dX7_most_28 rfl ?_
      refine z_iinc (L' := [_, _, _, _, _, _]) C dX7_most_29 rfl rfl ?_
      refine z_goto (tgt := 10) C dX7_most_32 (by decide) ?_
      exact ih (i + 1) (k + 1) _ _ (by omega) (by omega) (Or.inr ⟨by omega, by omega⟩)
  refine z_iconst C dX7_most_0 ?_
  refine z_istore_n (L' := [_, _, _, _, _, _]) C dX7_most_1 rfl ?_
  refine z_aload_n C dX7_most_2 rfl ?_
  refine z_astore_n (L' := [_, _, _, _, _, _]) C dX7_most_3 rfl ?_
  refine z_aload_n C dX7_most_4 rfl ?_
  refine z_alen C hA 0 rfl dX7_most_5 ?_
  refine z_istore_n (L' := [_, _, _, _, _, _]) C dX7_most_6 rfl ?_
  refine z_iconst C dX7_most_7 ?_
  refine z_istore (L' := [_, _, _, _, _, _]) C dX7_most_8 rfl ?_
  exact loop 4356 0 0 0 _ (by omega) rfl (Or.inl ⟨rfl, rfl⟩)
