/-! the reference's digest, that tells of the arrays which it makes: (place, length) -/
def zKn (D : va_G) (u : zM) (a n : Nat) : Prop := (∃ g : Nat → Int, u a = some (zAI D n g)) ∨ (∃ g : Nat → Int, u a = some (zAZ D n g))
theorem zKn.ex {D : va_G} {ν u : zM} {a n : Nat} (h : zKn D ν a n) (hE : zEx ν u) : zKn D u a n := h.elim (fun ⟨g, h⟩ => Or.inl ⟨g, hE _ _ h⟩) (fun ⟨g, h⟩ => Or.inr ⟨g, hE _ _ h⟩)
theorem zKn.lt {D : va_G} {ν : zM} {a n q : Nat} (h : zKn D ν a n) (hq : ∀ (b : Nat) (e : va_E), ν b = some e → b < q) : a < q := h.elim (fun ⟨_, h⟩ => hq _ _ h) (fun ⟨_, h⟩ => hq _ _ h)
def zWt (ps : List (Nat × Nat)) : Nat := (ps.map (fun p => p.2)).sum
theorem zWt_cons {p : Nat × Nat} {ps : List (Nat × Nat)} : zWt (p :: ps) = p.2 + zWt ps := by simp [zWt]
theorem zWt_app {ps qs : List (Nat × Nat)} : zWt (ps ++ qs) = zWt ps + zWt qs := by simp [zWt]
def zNw (D : va_G) (μ u : zM) (ps : List (Nat × Nat)) : Prop := (ps.map (fun p => p.1)).Nodup ∧ ∀ p, p ∈ ps → (∀ (b : Nat) (e : va_E), μ b = some e → b < p.1) ∧ zKn D u p.1 p.2
theorem zNw.nil {D : va_G} {μ u : zM} : zNw D μ u [] := ⟨List.nodup_nil, fun a h => absurd h List.not_mem_nil⟩
theorem zNw.up {D : va_G} {μ ν u : zM} {ps : List (Nat × Nat)} (h : zNw D μ ν ps) (hE : zEx ν u) : zNw D μ u ps := ⟨h.1, fun a ha => ⟨(h.2 a ha).1, (h.2 a ha).2.ex hE⟩⟩
theorem zNw.cons {D : va_G} {μ u : zM} {ps : List (Nat × Nat)} {a n : Nat} (h : zNw D μ u ps) (ha : ∀ (b : Nat) (e : va_E), μ b = some e → b < a) (hne : ∀ p, p ∈ ps → p.1 < a) (hu : zKn D u a n) : zNw D μ u ((a, n) :: ps) := by
  refine ⟨List.nodup_cons.mpr ⟨fun hm => ?_, h.1⟩, fun x hx => ?_⟩
  · obtain ⟨p, hp, he⟩ := List.mem_map.mp hm
    have h1 := hne p hp
    have h2 : p.1 = a := he
    omega
  · rcases List.mem_cons.mp hx with e | hx
    · subst e
      exact ⟨ha, hu⟩
    · exact h.2 x hx
/-- a new array behind all that is known -/
theorem zNw.put {D : va_G} {μ ν u : zM} {ps : List (Nat × Nat)} {a n : Nat} (h : zNw D μ ν ps) (hE : zEx μ ν) (hE2 : zEx ν u) (ha : ∀ (b : Nat) (e : va_E), ν b = some e → b < a) (hu : zKn D u a n) : zNw D μ u ((a, n) :: ps) := (h.up hE2).cons (hE.lt ha) (fun p hp => (h.2 p hp).2.lt ha) hu
/-- two of them -/
theorem zNw.put2 {D : va_G} {μ ν u : zM} {ps : List (Nat × Nat)} {a c n k : Nat} (h : zNw D μ ν ps) (hE : zEx μ ν) (hE2 : zEx ν u) (ha : ∀ (b : Nat) (e : va_E), ν b = some e → b < a) (hac : a < c) (hu : zKn D u a n) (hv : zKn D u c k) : zNw D μ u ((c, k) :: (a, n) :: ps) := by
  refine (h.put hE hE2 ha hu).cons (fun b e hb => Nat.lt_trans (ha b e (hE _ _ hb)) hac) (fun p hp => ?_) hv
  rcases List.mem_cons.mp hp with e | hp
  · subst e
    exact hac
  · exact Nat.lt_trans ((h.2 p hp).2.lt ha) hac
set_option maxRecDepth 100000 in
set_option maxHeartbeats 4000000 in
theorem m_parts1b {l : Launch} {D : va_G} {N0 : Nat} {a : Nat} {μ : zM} (hA : μ a = some (zAZ D 4096 zIz)) : zMet l yX7_parts cX7_parts 17 (some (.array .int)) ({ frames := 4, cells := 2, slots := 8712, locals := 160 } : Room) D N0 [.ref a, zi 1] μ (zQR D N0 (fun q u => u q = some (zAI D 4356 zIz) ∧ zEx μ u ∧ (∀ (b : Nat) (e : va_E), μ b = some e → b < q) ∧ ∃ c, q < c ∧ u c = some (zAI D 4356 zIz))) := by
  refine zMet_of rfl (Nat.le_of_ble_eq_true rfl) (fun X C Rm hin E => ?_)
  refine z_bipush C dX7_parts_0 ?_
  refine z_istore_n (L' := [_, _, _, _, _, _, _, _, _, _, _, _, _, _, _, _, _]) C dX7_parts_2 rfl ?_
  refine z_iload_n C dX7_parts_3 rfl ?_
  refine z_iload_n C dX7_parts_4 rfl ?_
  refine z_imul C dX7_parts_5 ?_
  refine z_newI C Rm (by decide) m_105 dX7_parts_6 (by decide) (fun q1 hNq1 hqq1 => ?_)
  refine z_astore_n (L' := [_, _, _, _, _, _, _, _, _, _, _, _, _, _, _, _, _]) C dX7_parts_8 rfl ?_
  refine z_iload_n C dX7_parts_9 rfl ?_
  refine z_iload_n C dX7_parts_10 rfl ?_
  refine z_imul C dX7_parts_11 ?_
  refine z_newI C Rm (by decide) m_105 dX7_parts_12 (by decide) (fun q2 hNq2 hqq2 => ?_)
  obtain ⟨ν, hν⟩ : ∃ ν, ν = zu (zu μ q1 (zAI D 4356 zIz)) q2 (zAI D 4356 zIz) := ⟨_, rfl⟩
  have hE : zEx μ ν := by rw [hν]; exact (zEx.rf.own hqq1).own (fun b e hb => hqq2 b e (zu_k hb (by have := hqq1 b e hb; omega)))
  have h12 : q1 < q2 := hqq2 q1 _ zu_s
  have h1 : ν q1 = some (zAI D 4356 zIz) := by rw [hν]; exact zu_k zu_s (by omega)
  have h2 : ν q2 = some (zAI D 4356 zIz) := by rw [hν]; exact zu_s
  refine (show Z X ν 2 8712 (8 + 1 + 1 + 1 + 1 + 2) [some (.ref a), some (zi 1), some (zi 66), some (.ref q1), none, none, none, none, none, none, none, none, none, none, none, none, none] [.ref q2] → _ from fun h => by rw [hν] at h; exact h) ?_
  have loop : ∀ (n : Nat) (k : Int) (L7 : Option Value), k + n = 4356 → 0 ≤ k → Z X ν 2 8712 22 [some (.ref a), some (zi 1), some (zi 66), some (.ref q1), some (.ref q2), some (zi 0), some (zi k), L7, none, none, none, none, none, none, none, none, none] [] := by
    intro n
    induction n with
    | zero =>
      intro k L7 hn h0
      refine z_iload C dX7_parts_22 rfl ?_
      refine z_aload_n C dX7_parts_24 rfl ?_
      refine z_alen C h1 0 rfl dX7_parts_25 ?_
      refine z_icmp_ge (tgt := 279) C dX7_parts_26 (by decide) (fun _ => ?_) (fun hno => absurd hno (by omega))
      refine z_aload_n C dX7_parts_279 rfl ?_
      exact z_aret C E (Or.inr ⟨_, rfl⟩) dX7_parts_280 (Nat.le_of_ble_eq_true rfl) (Nat.le_of_ble_eq_true rfl) ⟨h1, hE, hqq1, q2, h12, h2⟩
    | succ n ih =>
      intro k L7 hn h0
      refine z_iload C dX7_parts_22 rfl ?_
      refine z_aload_n C dX7_parts_24 rfl ?_
      refine z_alen C h1 0 rfl dX7_parts_25 ?_
      refine z_icmp_ge (tgt := 279) C dX7_parts_26 (by decide) (fun hno => absurd hno (by omega)) (fun _ => ?_)
      refine z_aload_n C dX7_parts_29 rfl ?_
      refine z_iload C dX7_parts_30 rfl ?_
      refine z_iload_n C dX7_parts_32 rfl ?_
      refine z_iremP C dX7_parts_33 ?_
      refine z_bipush C dX7_parts_34 ?_
      refine z_iadd C dX7_parts_36 ?_
      refine z_iconst C dX7_parts_37 ?_
      refine z_isub C dX7_parts_38 ?_
      refine z_iload C dX7_parts_39 rfl ?_
      refine z_iload_n C dX7_parts_41 rfl ?_
      refine z_idivP C dX7_parts_42 ?_
      refine z_bipush C dX7_parts_43 ?_
      refine z_iadd C dX7_parts_45 ?_
      refine z_iconst C dX7_parts_46 ?_
      refine z_isub C dX7_parts_47 ?_
      refine z_ci C (z_rS C Rm qs_X7_has m_1129 (m_has0 (hE _ _ hA) (x := k % 66 + -32 - 1) (y := k / 66 + -32 - 1) (by omega) (by omega)) dX7_parts_48 rfl rfl (Nat.le_of_ble_eq_true rfl) rfl ⟨Nat.le_of_ble_eq_true rfl, Nat.le_of_ble_eq_true rfl, Nat.le_of_ble_eq_true rfl, Nat.le_of_ble_eq_true rfl⟩) (fun z μ5 hq5 => ?_)
      obtain ⟨rfl, rfl⟩ := hq5
      refine z_iload_n C dX7_parts_51 rfl ?_
      refine z_icmp_ne (tgt := 59) C dX7_parts_52 (by decide) (fun _ => ?_) (fun hno => absurd hno (by decide))
      refine z_iconst C dX7_parts_59 ?_
      refine z_istore (L' := [_, _, _, _, _, _, _, _, _, _, _, _, _, _, _, _, _]) C dX7_parts_60 rfl ?_
      refine z_iload C dX7_parts_62 rfl ?_
      refine z_if_eq (tgt := 273) C dX7_parts_64 (by decide) (fun _ => ?_) (fun hno => absurd hno (fun h => h rfl))
      refine z_iinc (L' := [_, _, _, _, _, _, _, _, _, _, _, _, _, _, _, _, _]) C dX7_parts_273 rfl rfl ?_
      refine z_goto (tgt := 22) C dX7_parts_276 (by decide) ?_
      exact ih (k + 1) _ (by omega) (by omega)
  refine z_astore (L' := [_, _, _, _, _, _, _, _, _, _, _, _, _, _, _, _, _]) C dX7_parts_14 rfl ?_
  refine z_iconst C dX7_parts_16 ?_
  refine z_istore (L' := [_, _, _, _, _, _, _, _, _, _, _, _, _, _, _, _, _]) C dX7_parts_17 rfl ?_
  refine z_iconst C dX7_parts_19 ?_
  refine z_istore (L' := [_, _, _, _, _, _, _, _, _, _, _, _, _, _, _, _, _]) C dX7_parts_20 rfl ?_
  exact loop 4356 0 _ (by omega) (by omega)
set_option maxRecDepth 100000 in
set_option maxHeartbeats 4000000 in
theorem m_parts0b {l : Launch} {D : va_G} {N0 : Nat} {a : Nat} {μ : zM} (hA : μ a = some (zAZ D 4096 zIz)) : zMet l yX7_parts cX7_parts 17 (some (.array .int)) ({ frames := 4, cells := 2, slots := 8712, locals := 160 } : Room) D N0 [.ref a, zi 0] μ (zQR D N0 (fun q u => (∃ g : Nat → Int, u q = some (zAI D 4356 g) ∧ ∀ j, j < 4356 → g j = 1) ∧ (∀ (b : Nat) (e : va_E), μ b = some e → b < q) ∧ zEx μ u ∧ ∃ c, q < c ∧ ∃ w : Nat → Int, u c = some (zAI D 4356 w))) := by
  refine zMet_of rfl (Nat.le_of_ble_eq_true rfl) (fun X C Rm hin E => ?_)
  refine z_bipush C dX7_parts_0 ?_
  refine z_istore_n (L' := [_, _, _, _, _, _, _, _, _, _, _, _, _, _, _, _, _]) C dX7_parts_2 rfl ?_
  refine z_iload_n C dX7_parts_3 rfl ?_
  refine z_iload_n C dX7_parts_4 rfl ?_
  refine z_imul C dX7_parts_5 ?_
  refine z_newI C Rm (by decide) m_105 dX7_parts_6 (by decide) (fun q1 hNq1 hqq1 => ?_)
  refine z_astore_n (L' := [_, _, _, _, _, _, _, _, _, _, _, _, _, _, _, _, _]) C dX7_parts_8 rfl ?_
  refine z_iload_n C dX7_parts_9 rfl ?_
  refine z_iload_n C dX7_parts_10 rfl ?_
  refine z_imul C dX7_parts_11 ?_
  refine z_newI C Rm (by decide) m_105 dX7_parts_12 (by decide) (fun q2 hNq2 hqq2 => ?_)
  obtain ⟨ν0, hν⟩ : ∃ ν0, ν0 = zu (zu μ q1 (zAI D 4356 zIz)) q2 (zAI D 4356 zIz) := ⟨_, rfl⟩
  have hlt2 : ∀ (b : Nat) (e : va_E), μ b = some e → b < q2 := fun b e hb => hqq2 b e (zu_k hb (by have := hqq1 b e hb; omega))
  have hE0 : zEx μ ν0 := by rw [hν]; exact (zEx.rf.own hqq1).own hlt2
  have h12 : q1 < q2 := hqq2 q1 _ zu_s
  have h1 : ν0 q1 = some (zAI D 4356 zIz) := by rw [hν]; exact zu_k zu_s (by omega)
  have h2 : ν0 q2 = some (zAI D 4356 zIz) := by rw [hν]; exact zu_s
  refine (show Z X ν0 2 8712 (8 + 1 + 1 + 1 + 1 + 2) [some (.ref a), some (zi 0), some (zi 66), some (.ref q1), none, none, none, none, none, none, none, none, none, none, none, none, none] [.ref q2] → _ from fun h => by rw [hν] at h; exact h) ?_
  have rest : ∀ (g : Nat → Int) (ν : zM) (L8 L9 L10 L11 L12 L13 L14 L15 L16 : Option Value), (∀ j, j < 4356 → g j = 1) → ν q1 = some (zAI D 4356 g) → (∃ w : Nat → Int, ν q2 = some (zAI D 4356 w)) → zEx μ ν → ∀ (n : Nat) (k : Int), k + n = 4356 → 0 ≤ k → Z X ν 2 8712 22 [some (.ref a), some (zi 0), some (zi 66), some (.ref q1), some (.ref q2), some (zi 1), some (zi k), some (zi 1), L8, L9, L10, L11, L12, L13, L14, L15, L16] [] := by
    intro g ν L8 L9 L10 L11 L12 L13 L14 L15 L16 hg hg1 hw2 hE n
    induction n with
    | zero =>
      intro k hn h0
      refine z_iload C dX7_parts_22 rfl ?_
      refine z_aload_n C dX7_parts_24 rfl ?_
      refine z_alen C hg1 0 rfl dX7_parts_25 ?_
      refine z_icmp_ge (tgt := 279) C dX7_parts_26 (by decide) (fun _ => ?_) (fun hno => absurd hno (by omega))
      refine z_aload_n C dX7_parts_279 rfl ?_
      exact z_aret C E (Or.inr ⟨_, rfl⟩) dX7_parts_280 (Nat.le_of_ble_eq_true rfl) (Nat.le_of_ble_eq_true rfl) ⟨⟨g, hg1, hg⟩, hqq1, hE, q2, h12, hw2⟩
    | succ n ih =>
      intro k hn h0
      have hgk := hg k.toNat (by omega)
      refine z_iload C dX7_parts_22 rfl ?_
      refine z_aload_n C dX7_parts_24 rfl ?_
      refine z_alen C hg1 0 rfl dX7_parts_25 ?_
      refine z_icmp_ge (tgt := 279) C dX7_parts_26 (by decide) (fun hno => absurd hno (by omega)) (fun _ => ?_)
      refine z_aload_n C dX7_parts_29 rfl ?_
      refine z_iload C dX7_parts_30 rfl ?_
      refine z_iload_n C dX7_parts_32 rfl ?_
      refine z_iremP C dX7_parts_33 ?_
      refine z_bipush C dX7_parts_34 ?_
      refine z_iadd C dX7_parts_36 ?_
      refine z_iconst C dX7_parts_37 ?_
      refine z_isub C dX7_parts_38 ?_
      refine z_iload C dX7_parts_39 rfl ?_
      refine z_iload_n C dX7_parts_41 rfl ?_
      refine z_idivP C dX7_parts_42 ?_
      refine z_bipush C dX7_parts_43 ?_
      refine z_iadd C dX7_parts_45 ?_
      refine z_iconst C dX7_parts_46 ?_
      refine z_isub C dX7_parts_47 ?_
      refine z_ci C (z_rS C Rm qs_X7_has m_1129 (m_has0 (hE _ _ hA) (x := k % 66 + -32 - 1) (y := k / 66 + -32 - 1) (by omega) (by omega)) dX7_parts_48 rfl rfl (Nat.le_of_ble_eq_true rfl) rfl ⟨Nat.le_of_ble_eq_true rfl, Nat.le_of_ble_eq_true rfl, Nat.le_of_ble_eq_true rfl, Nat.le_of_ble_eq_true rfl⟩) (fun z μ5 hq5 => ?_)
      obtain ⟨rfl, rfl⟩ := hq5
      refine z_iload_n C dX7_parts_51 rfl ?_
      refine z_icmp_ne (tgt := 59) C dX7_parts_52 (by decide) (fun hno => absurd hno (fun h => h rfl)) (fun _ => ?_)
      refine z_iconst C dX7_parts_55 ?_
      refine z_goto (tgt := 60) C dX7_parts_56 (by decide) ?_
      refine z_istore (L' := [_, _, _, _, _, _, _, _, _, _, _, _, _, _, _, _, _]) C dX7_parts_60 rfl ?_
      refine z_iload C dX7_parts_62 rfl ?_
      refine z_if_eq (tgt := 273) C dX7_parts_64 (by decide) (fun hno => absurd hno (by decide)) (fun _ => ?_)
      refine z_aload_n C dX7_parts_67 rfl ?_
      refine z_iload C dX7_parts_68 rfl ?_
      refine z_iald C hg1 (by decide) dX7_parts_70 ?_
      rw [hgk]
      refine z_if_eq (tgt := 77) C dX7_parts_71 (by decide) (fun hno => absurd hno (by decide)) (fun _ => ?_)
      refine z_goto (tgt := 273) C dX7_parts_74 (by decide) ?_
      refine z_iinc (L' := [_, _, _, _, _, _, _, _, _, _, _, _, _, _, _, _, _]) C dX7_parts_273 rfl rfl ?_
      refine z_goto (tgt := 22) C dX7_parts_276 (by decide) ?_
      exact ih (k + 1) (by omega) (by omega)
  have bfs : ∀ (n : Nat) (f e : Int) (g w : Nat → Int) (ν : zM) (L10 L11 L12 L13 L14 L15 L16 : Option Value), f + n = 4356 → 0 ≤ f → f ≤ e → bfI g w e → bfD g w f → ν q1 = some (zAI D 4356 g) → ν q2 = some (zAI D 4356 w) → zEx μ ν → Z X ν 2 8712 102 [some (.ref a), some (zi 0), some (zi 66), some (.ref q1), some (.ref q2), some (zi 1), some (zi 0), some (zi 1), some (zi f), some (zi e), L10, L11, L12, L13, L14, L15, L16] [] := by
    intro n
    induction n with
    | zero =>
      intro f e g w ν L10 L11 L12 L13 L14 L15 L16 hn h0 hfe hI hD hg hw hE
      have hb := cntZ_b g 4356
      have hb2 := hI.2.1
      have hef : f = e := by omega
      subst hef
      refine z_iload C dX7_parts_102 rfl ?_
      refine z_iload C dX7_parts_104 rfl ?_
      refine z_icmp_ge (tgt := 273) C dX7_parts_106 (by decide) (fun _ => ?_) (fun hno => absurd hno (by omega))
      refine z_iinc (L' := [_, _, _, _, _, _, _, _, _, _, _, _, _, _, _, _, _]) C dX7_parts_273 rfl rfl ?_
      refine z_goto (tgt := 22) C dX7_parts_276 (by decide) ?_
      exact rest g ν _ _ _ _ _ _ _ _ _ (bf_fin hI hD) hg ⟨w, hw⟩ hE 4355 (0 + 1) (by omega) (by omega)
    | succ n ih =>
      intro f e g w ν L10 L11 L12 L13 L14 L15 L16 hn h0 hfe hI hD hg hw hE
      have hb := cntZ_b g 4356
      have hb2 := hI.2.1
      refine z_iload C dX7_parts_102 rfl ?_
      refine z_iload C dX7_parts_104 rfl ?_
      refine z_icmp_ge (tgt := 273) C dX7_parts_106 (by decide) (fun hx => ?_) (fun hx => ?_)
      · have hef : f = e := by omega
        subst hef
        refine z_iinc (L' := [_, _, _, _, _, _, _, _, _, _, _, _, _, _, _, _, _]) C dX7_parts_273 rfl rfl ?_
        refine z_goto (tgt := 22) C dX7_parts_276 (by decide) ?_
        exact rest g ν _ _ _ _ _ _ _ _ _ (bf_fin hI hD) hg ⟨w, hw⟩ hE 4355 (0 + 1) (by omega) (by omega)
      have hwf := (hI.2.2.1 f.toNat (by omega)).1
      obtain ⟨c, hc⟩ : ∃ c, c = w f.toNat := ⟨_, rfl⟩
      rw [← hc] at hwf
      refine z_aload C dX7_parts_109 rfl ?_
      refine z_iload C dX7_parts_111 rfl ?_
      refine z_iinc (L' := [_, _, _, _, _, _, _, _, _, _, _, _, _, _, _, _, _]) C dX7_parts_113 rfl rfl ?_
      refine z_iald C hw (by decide) dX7_parts_116 ?_
      rw [← hc]
      refine z_istore (L' := [_, _, _, _, _, _, _, _, _, _, _, _, _, _, _, _, _]) C dX7_parts_117 rfl ?_
      refine z_iconst C dX7_parts_119 ?_
      refine z_istore (L' := [_, _, _, _, _, _, _, _, _, _, _, _, _, _, _, _, _]) C dX7_parts_120 rfl ?_
      have dirs : ∀ (m : Nat) (d e : Int) (g w : Nat → Int) (ν : zM) (L12 L13 L14 L15 L16 : Option Value), d + m = 9 → 0 ≤ d → f + 1 ≤ e → bfI g w e → bfD g w f → w f.toNat = c → (∀ (d2 : Int) (j : Nat), 0 ≤ d2 ∧ d2 < d → j < 4356 → bfN c j d2 → g j = 1) → ν q1 = some (zAI D 4356 g) → ν q2 = some (zAI D 4356 w) → zEx μ ν → Z X ν 2 8712 122 [some (.ref a), some (zi 0), some (zi 66), some (.ref q1), some (.ref q2), some (zi 1), some (zi 0), some (zi 1), some (zi (f + 1)), some (zi e), some (zi c), some (zi d), L12, L13, L14, L15, L16] [] := by
        intro m
        induction m with
        | zero =>
          intro d e g w ν L12 L13 L14 L15 L16 hm hd he hI hD hwc hdn hg hw hE
          refine z_iload C dX7_parts_122 rfl ?_
          refine z_bipush C dX7_parts_124 ?_
          refine z_icmp_ge (tgt := 270) C dX7_parts_126 (by decide) (fun _ => ?_) (fun hno => absurd hno (by omega))
          refine z_goto (tgt := 102) C dX7_parts_270 (by decide) ?_
          refine ih (f + 1) e g w ν _ _ _ _ _ _ _ (by omega) (by omega) he hI ?_ hg hw hE
          intro i hi d2 j hd2 hj hnb
          by_cases hif : (i : Int) < f
          · exact hD i hif d2 j hd2 hj hnb
          · have : i = f.toNat := by omega
            subst this
            rw [hwc] at hnb
            exact hdn d2 j (by omega) hj hnb
        | succ m ihm =>
          intro d e g w ν L12 L13 L14 L15 L16 hm hd he hI hD hwc hdn hg hw hE
          have hb := cntZ_b g 4356
          have hb2 := hI.2.1
          refine z_iload C dX7_parts_122 rfl ?_
          refine z_bipush C dX7_parts_124 ?_
          refine z_icmp_ge (tgt := 270) C dX7_parts_126 (by decide) (fun hno => absurd hno (by omega)) (fun _ => ?_)
          refine z_iload C dX7_parts_129 rfl ?_
          refine z_iconst C dX7_parts_131 ?_
          refine z_iremP C dX7_parts_132 ?_
          refine z_iconst C dX7_parts_133 ?_
          refine z_isub C dX7_parts_134 ?_
          refine z_istore (L' := [_, _, _, _, _, _, _, _, _, _, _, _, _, _, _, _, _]) C dX7_parts_135 rfl ?_
          refine z_iload C dX7_parts_137 rfl ?_
          refine z_iconst C dX7_parts_139 ?_
          refine z_idivP C dX7_parts_140 ?_
          refine z_iconst C dX7_parts_141 ?_
          refine z_isub C dX7_parts_142 ?_
          refine z_istore (L' := [_, _, _, _, _, _, _, _, _, _, _, _, _, _, _, _, _]) C dX7_parts_143 rfl ?_
          refine z_iload_n C dX7_parts_145 rfl ?_
          refine z_if_eq (tgt := 162) C dX7_parts_146 (by decide) (fun _ => ?_) (fun hno => absurd hno (fun h => h rfl))
          obtain ⟨x, hxx⟩ : ∃ x, x = c % 66 + (d % 3 - 1) := ⟨_, rfl⟩
          obtain ⟨y, hyy⟩ : ∃ y, y = c / 66 + (d / 3 - 1) := ⟨_, rfl⟩
          refine z_iload C dX7_parts_162 rfl ?_
          refine z_iload_n C dX7_parts_164 rfl ?_
          refine z_iremP C dX7_parts_165 ?_
          refine z_iload C dX7_parts_166 rfl ?_
          refine z_iadd C dX7_parts_168 ?_
          rw [← hxx]
          refine z_istore (L' := [_, _, _, _, _, _, _, _, _, _, _, _, _, _, _, _, _]) C dX7_parts_169 rfl ?_
          refine z_iload C dX7_parts_171 rfl ?_
          refine z_iload_n C dX7_parts_173 rfl ?_
          refine z_idivP C dX7_parts_174 ?_
          refine z_iload C dX7_parts_175 rfl ?_
          refine z_iadd C dX7_parts_177 ?_
          rw [← hyy]
          refine z_istore (L' := [_, _, _, _, _, _, _, _, _, _, _, _, _, _, _, _, _]) C dX7_parts_178 rfl ?_
          have skip : ∀ (L16 : Option Value), (∀ j : Nat, j < 4356 → bfN c j d → g j = 1) → Z X ν 2 8712 264 [some (.ref a), some (zi 0), some (zi 66), some (.ref q1), some (.ref q2), some (zi 1), some (zi 0), some (zi 1), some (zi (f + 1)), some (zi e), some (zi c), some (zi d), some (zi (d % 3 - 1)), some (zi (d / 3 - 1)), some (zi x), some (zi y), L16] [] := by
            intro L16 hs
            refine z_iinc (L' := [_, _, _, _, _, _, _, _, _, _, _, _, _, _, _, _, _]) C dX7_parts_264 rfl rfl ?_
            refine z_goto (tgt := 122) C dX7_parts_267 (by decide) ?_
            refine ihm (d + 1) e g w ν _ _ _ _ _ (by omega) (by omega) he hI hD hwc (fun d2 j hd2 hj hnb => ?_) hg hw hE
            by_cases hdd : d2 = d
            · subst hdd; exact hs j hj hnb
            · exact hdn d2 j (by omega) hj hnb
          refine z_iload C dX7_parts_180 rfl ?_
          refine z_iconst C dX7_parts_182 ?_
          refine z_iload_n C dX7_parts_183 rfl ?_
          refine z_iconst C dX7_parts_184 ?_
          refine z_isub C dX7_parts_185 ?_
          refine z_ci C (z_rS C Rm qs_X7_isIn m_1044 (m_isIn (x := x) (by omega) (by decide) (by decide)) dX7_parts_186 rfl rfl (Nat.le_of_ble_eq_true rfl) rfl ⟨Nat.le_of_ble_eq_true rfl, Nat.le_of_ble_eq_true rfl, Nat.le_of_ble_eq_true rfl, Nat.le_of_ble_eq_true rfl⟩) (fun z1 μ5 hq5 => ?_)
          obtain ⟨hz1, rfl⟩ := hq5
          refine z_if_eq (tgt := 264) C dX7_parts_189 (by decide) (fun h3 => ?_) (fun h3 => ?_)
          · exact skip _ (fun j hj hnb => by unfold bfN at hnb; omega)
          refine z_iload C dX7_parts_192 rfl ?_
          refine z_iconst C dX7_parts_194 ?_
          refine z_iload_n C dX7_parts_195 rfl ?_
          refine z_iconst C dX7_parts_196 ?_
          refine z_isub C dX7_parts_197 ?_
          refine z_ci C (z_rS C Rm qs_X7_isIn m_1044 (m_isIn (x := y) (by omega) (by decide) (by decide)) dX7_parts_198 rfl rfl (Nat.le_of_ble_eq_true rfl) rfl ⟨Nat.le_of_ble_eq_true rfl, Nat.le_of_ble_eq_true rfl, Nat.le_of_ble_eq_true rfl, Nat.le_of_ble_eq_true rfl⟩) (fun z2 μ5 hq5 => ?_)
          obtain ⟨hz2, rfl⟩ := hq5
          refine z_if_ne (tgt := 207) C dX7_parts_201 (by decide) (fun h4 => ?_) (fun h4 => ?_)
          rotate_left
          · refine z_goto (tgt := 264) C dX7_parts_204 (by decide) ?_
            exact skip _ (fun j hj hnb => by unfold bfN at hnb; omega)
          have hx6 : 0 ≤ x ∧ x ≤ 65 := by omega
          have hy6 : 0 ≤ y ∧ y ≤ 65 := by omega
          obtain ⟨k, hk⟩ : ∃ k : Nat, (k : Int) = y * 66 + x := ⟨(y * 66 + x).toNat, by omega⟩
          have hk6 : k < 4356 := by omega
          refine z_iload C dX7_parts_207 rfl ?_
          refine z_iload_n C dX7_parts_209 rfl ?_
          refine z_imul C dX7_parts_210 ?_
          refine z_iload C dX7_parts_211 rfl ?_
          refine z_iadd C dX7_parts_213 ?_
          rw [← hk]
          refine z_istore (L' := [_, _, _, _, _, _, _, _, _, _, _, _, _, _, _, _, _]) C dX7_parts_214 rfl ?_
          refine z_aload_n C dX7_parts_216 rfl ?_
          refine z_iload C dX7_parts_217 rfl ?_
          refine z_iald C hg (by decide) dX7_parts_219 ?_
          rw [show ((k : Int)).toNat = k by omega]
          have hgk := hI.1 k hk6
          refine z_if_ne (tgt := 264) C dX7_parts_220 (by decide) (fun h5 => ?_) (fun h5 => ?_)
          · exact skip _ (fun j hj hnb => by
              have : j = k := by unfold bfN at hnb; omega
              subst this
              omega)
          have hgk0 : g k = 0 := by omega
          refine z_aload_n C dX7_parts_223 rfl ?_
          refine z_iload C dX7_parts_224 rfl ?_
          refine z_bipush C dX7_parts_226 ?_
          refine z_iadd C dX7_parts_228 ?_
          refine z_iconst C dX7_parts_229 ?_
          refine z_isub C dX7_parts_230 ?_
          refine z_iload C dX7_parts_231 rfl ?_
          refine z_bipush C dX7_parts_233 ?_
          refine z_iadd C dX7_parts_235 ?_
          refine z_iconst C dX7_parts_236 ?_
          refine z_isub C dX7_parts_237 ?_
          refine z_ci C (z_rS C Rm qs_X7_has m_1129 (m_has0 (hE _ _ hA) (x := x + -32 - 1) (y := y + -32 - 1) (by omega) (by omega)) dX7_parts_238 rfl rfl (Nat.le_of_ble_eq_true rfl) rfl ⟨Nat.le_of_ble_eq_true rfl, Nat.le_of_ble_eq_true rfl, Nat.le_of_ble_eq_true rfl, Nat.le_of_ble_eq_true rfl⟩) (fun z3 μ5 hq5 => ?_)
          obtain ⟨rfl, rfl⟩ := hq5
          refine z_iload_n C dX7_parts_241 rfl ?_
          refine z_icmp_eq (tgt := 248) C dX7_parts_242 (by decide) (fun _ => ?_) (fun hno => absurd hno (fun h => h rfl))
          obtain ⟨i1, i2⟩ := bf_add hI hk6 hgk0
          refine z_aload_n C dX7_parts_248 rfl ?_
          refine z_iload C dX7_parts_249 rfl ?_
          refine z_iload C dX7_parts_251 rfl ?_
          refine z_iast C hg (by decide) dX7_parts_253 ?_
          refine z_aload C dX7_parts_254 rfl ?_
          refine z_iload C dX7_parts_256 rfl ?_
          refine z_iinc (L' := [_, _, _, _, _, _, _, _, _, _, _, _, _, _, _, _, _]) C dX7_parts_258 rfl rfl ?_
          refine z_iload C dX7_parts_261 rfl ?_
          refine z_iast C (zu_k hw (by omega)) (by decide) dX7_parts_263 ?_
          rw [show ((k : Int)).toNat = k by omega]
          refine z_iinc (L' := [_, _, _, _, _, _, _, _, _, _, _, _, _, _, _, _, _]) C dX7_parts_264 rfl rfl ?_
          refine z_goto (tgt := 122) C dX7_parts_267 (by decide) ?_
          refine ihm (d + 1) (e + 1) (zw g k 1) (zw w e.toNat (k : Int)) _ _ _ _ _ _ (by omega) (by omega) (by omega) i1 (bf_keep hD (by omega)) (by rw [zw_n (show f.toNat ≠ e.toNat by omega)]; exact hwc) (fun d2 j hd2 hj hnb => ?_) (zu_k zu_s (by omega)) zu_s ((hE.own hqq1).own hlt2)
          by_cases hdd : d2 = d
          · subst hdd
            have : j = k := by unfold bfN at hnb; omega
            subst this
            exact zw_s
          · exact bf_mo (hdn d2 j (by omega) hj hnb)
      exact dirs 9 0 e g w ν _ _ _ _ _ (by omega) (by omega) (by omega) hI hD hc.symm (fun d2 j hd2 => by omega) hg hw hE
  refine z_astore (L' := [_, _, _, _, _, _, _, _, _, _, _, _, _, _, _, _, _]) C dX7_parts_14 rfl ?_
  refine z_iconst C dX7_parts_16 ?_
  refine z_istore (L' := [_, _, _, _, _, _, _, _, _, _, _, _, _, _, _, _, _]) C dX7_parts_17 rfl ?_
  refine z_iconst C dX7_parts_19 ?_
  refine z_istore (L' := [_, _, _, _, _, _, _, _, _, _, _, _, _, _, _, _, _]) C dX7_parts_20 rfl ?_
  refine z_iload C dX7_parts_22 rfl ?_
  refine z_aload_n C dX7_parts_24 rfl ?_
  refine z_alen C h1 0 rfl dX7_parts_25 ?_
  refine z_icmp_ge (tgt := 279) C dX7_parts_26 (by decide) (fun hno => absurd hno (by omega)) (fun _ => ?_)
  refine z_aload_n C dX7_parts_29 rfl ?_
  refine z_iload C dX7_parts_30 rfl ?_
  refine z_iload_n C dX7_parts_32 rfl ?_
  refine z_iremP C dX7_parts_33 ?_
  refine z_bipush C dX7_parts_34 ?_
  refine z_iadd C dX7_parts_36 ?_
  refine z_iconst C dX7_parts_37 ?_
  refine z_isub C dX7_parts_38 ?_
  refine z_iload C dX7_parts_39 rfl ?_
  refine z_iload_n C dX7_parts_41 rfl ?_
  refine z_idivP C dX7_parts_42 ?_
  refine z_bipush C dX7_parts_43 ?_
  refine z_iadd C dX7_parts_45 ?_
  refine z_iconst C dX7_parts_46 ?_
  refine z_isub C dX7_parts_47 ?_
  refine z_ci C (z_rS C Rm qs_X7_has m_1129 (m_has0 (hE0 _ _ hA) (x := 0 % 66 + -32 - 1) (y := 0 / 66 + -32 - 1) (by decide) (by decide)) dX7_parts_48 rfl rfl (Nat.le_of_ble_eq_true rfl) rfl ⟨Nat.le_of_ble_eq_true rfl, Nat.le_of_ble_eq_true rfl, Nat.le_of_ble_eq_true rfl, Nat.le_of_ble_eq_true rfl⟩) (fun z μ5 hq5 => ?_)
  obtain ⟨rfl, rfl⟩ := hq5
  refine z_iload_n C dX7_parts_51 rfl ?_
  refine z_icmp_ne (tgt := 59) C dX7_parts_52 (by decide) (fun hno => absurd hno (fun h => h rfl)) (fun _ => ?_)
  refine z_iconst C dX7_parts_55 ?_
  refine z_goto (tgt := 60) C dX7_parts_56 (by decide) ?_
  refine z_istore (L' := [_, _, _, _, _, _, _, _, _, _, _, _, _, _, _, _, _]) C dX7_parts_60 rfl ?_
  refine z_iload C dX7_parts_62 rfl ?_
  refine z_if_eq (tgt := 273) C dX7_parts_64 (by decide) (fun hno => absurd hno (by decide)) (fun _ => ?_)
  refine z_aload_n C dX7_parts_67 rfl ?_
  refine z_iload C dX7_parts_68 rfl ?_
  refine z_iald C h1 (by decide) dX7_parts_70 ?_
  rw [show zIz (0 : Int).toNat = 0 from rfl]
  refine z_if_eq (tgt := 77) C dX7_parts_71 (by decide) (fun _ => ?_) (fun hno => absurd hno (fun h => h rfl))
  refine z_aload_n C dX7_parts_77 rfl ?_
  refine z_iload C dX7_parts_78 rfl ?_
  refine z_iinc (L' := [_, _, _, _, _, _, _, _, _, _, _, _, _, _, _, _, _]) C dX7_parts_80 rfl rfl ?_
  refine z_iload C dX7_parts_83 rfl ?_
  refine z_iast C h1 (by decide) dX7_parts_85 ?_
  refine z_iconst C dX7_parts_86 ?_
  refine z_istore (L' := [_, _, _, _, _, _, _, _, _, _, _, _, _, _, _, _, _]) C dX7_parts_87 rfl ?_
  refine z_iconst C dX7_parts_89 ?_
  refine z_istore (L' := [_, _, _, _, _, _, _, _, _, _, _, _, _, _, _, _, _]) C dX7_parts_90 rfl ?_
  refine z_aload C dX7_parts_92 rfl ?_
  refine z_iload C dX7_parts_94 rfl ?_
  refine z_iinc (L' := [_, _, _, _, _, _, _, _, _, _, _, _, _, _, _, _, _]) C dX7_parts_96 rfl rfl ?_
  refine z_iload C dX7_parts_99 rfl ?_
  refine z_iast C (zu_k h2 (by omega)) (by decide) dX7_parts_101 ?_
  refine bfs 4356 0 1 (zw zIz 0 1) (zw zIz 0 0) _ _ _ _ _ _ _ _ (by omega) (by omega) (by omega) ⟨fun j hj => ?_, ?_, fun i hi => ?_, fun j hj h9 => ?_, zw_s⟩ (fun i hi => by omega) (zu_k zu_s (by omega)) zu_s ((hE0.own hqq1).own hlt2)
  · by_cases q : j = 0
    · subst q; exact Or.inr zw_s
    · rw [zw_n q]; exact Or.inl rfl
  · rw [cntZ_add (g := zIz) rfl 4356 (by decide), cntZ_z]; rfl
  · have : i = 0 := by omega
    subst this
    rw [zw_s]
    exact ⟨by decide, zw_s⟩
  · by_cases q : j = 0
    · subst q; exact ⟨0, by decide, zw_s⟩
    · rw [zw_n q] at h9
      exact absurd (show (0 : Int) = 1 from h9) (by decide)
set_option maxRecDepth 100000 in
set_option maxHeartbeats 4000000 in
theorem m_holesNowb {l : Launch} {D : va_G} {N0 : Nat} {M : Nat} {μ : zM} (hM : isMo D μ M) {r : Int} (h8 : 0 ≤ r ∧ r < 8) : zMet l yX7_holesNow cX7_holesNow 2 (some .int) ({ frames := 5, cells := 2, slots := 8712, locals := 200 } : Room) D N0 [.ref M, zi r] μ (zQI D N0 (fun z u => z = 0 ∧ zEx μ u ∧ ∃ a c, (∀ (b : Nat) (e : va_E), μ b = some e → b < a) ∧ a < c ∧ zKn D u a 4356 ∧ zKn D u c 4356)) := by
  refine zMet_of rfl (Nat.le_of_ble_eq_true rfl) (fun X C Rm hin E => ?_)
  refine z_aload_n C dX7_holesNow_0 rfl ?_
  refine z_get C hM.obj rfl 1 (by decide) m_1011 inz7 rfl rfl dX7_holesNow_1 ?_
  refine z_iload_n C dX7_holesNow_4 rfl ?_
  refine z_bald C hM.rows (by decide) (isMo.row_eq h8) dX7_holesNow_5 ?_
  refine z_iconst C dX7_holesNow_6 ?_
  refine z_cr C (z_rS C Rm qs_X7_parts m_1136 (m_parts0b (hM.row h8)) dX7_holesNow_7 rfl rfl (Nat.le_of_ble_eq_true rfl) rfl ⟨Nat.le_of_ble_eq_true rfl, Nat.le_of_ble_eq_true rfl, Nat.le_of_ble_eq_true rfl, Nat.le_of_ble_eq_true rfl⟩) (fun q μ2 hq => ?_)
  obtain ⟨⟨g, hg1, hg⟩, hlt, hE, c, hc, w, hw⟩ := hq
  refine z_ci C (z_rS C Rm qs_X7_most m_1142 (m_most hg1 hg (Or.inr rfl)) dX7_holesNow_10 rfl rfl (Nat.le_of_ble_eq_true rfl) rfl ⟨Nat.le_of_ble_eq_true rfl, Nat.le_of_ble_eq_true rfl, Nat.le_of_ble_eq_true rfl, Nat.le_of_ble_eq_true rfl⟩) (fun z3 μ3 hq3 => ?_)
  refine z_iconst C dX7_holesNow_13 ?_
  refine z_isub C dX7_holesNow_14 ?_
  obtain ⟨rfl, rfl⟩ := hq3
  exact z_iret C E dX7_holesNow_15 (Nat.le_of_ble_eq_true rfl) (Nat.le_of_ble_eq_true rfl) ⟨rfl, hE, q, c, hlt, hc, Or.inl ⟨g, hg1⟩, Or.inl ⟨w, hw⟩⟩
set_option maxRecDepth 100000 in
set_option maxHeartbeats 4000000 in
theorem m_contoursNow2 {l : Launch} {D : va_G} {N0 : Nat} {M : Nat} {μ : zM} (hM : isMo D μ M) {r : Int} (h8 : 0 ≤ r ∧ r < 8) : zMet l yX7_contoursNow cX7_contoursNow 21 (some (.array .int)) ({ frames := 4, cells := 2, slots := 16964, locals := 160 } : Room) D N0 [.ref M, zi r] μ (zQR D N0 (fun q u => u q = some (zAI D 64 zIz) ∧ zEx μ u ∧ ∃ a, (∀ (b : Nat) (e : va_E), μ b = some e → b < a) ∧ u a = some (zAZ D 16900 zIz))) := by
  refine zMet_of rfl (Nat.le_of_ble_eq_true rfl) (fun X C Rm hin E => ?_)
  refine z_aload_n C dX7_contoursNow_0 rfl ?_
  refine z_get C hM.obj rfl 1 (by decide) m_1011 inz7 rfl rfl dX7_contoursNow_1 ?_
  refine z_iload_n C dX7_contoursNow_4 rfl ?_
  refine z_bald C hM.rows (by decide) (isMo.row_eq h8) dX7_contoursNow_5 ?_
  refine z_astore_n (L' := [_, _, _, _, _, _, _, _, _, _, _, _, _, _, _, _, _, _, _, _, _]) C dX7_contoursNow_6 rfl ?_
  refine z_sipush C dX7_contoursNow_7 ?_
  refine z_newZ C Rm (by decide) m_1035 dX7_contoursNow_10 (by decide) (fun q1 hNq1 hqq1 => ?_)
  refine z_astore_n (L' := [_, _, _, _, _, _, _, _, _, _, _, _, _, _, _, _, _, _, _, _, _]) C dX7_contoursNow_12 rfl ?_
  refine z_bipush C dX7_contoursNow_13 ?_
  refine z_newI C Rm (by decide) m_105 dX7_contoursNow_15 (by decide) (fun q2 hNq2 hqq2 => ?_)
  obtain ⟨ν, hν⟩ : ∃ ν, ν = zu (zu μ q1 (zAZ D 16900 zIz)) q2 (zAI D 64 zIz) := ⟨_, rfl⟩
  have hE : zEx μ ν := by rw [hν]; exact (zEx.rf.own hqq1).own (fun b e hb => hqq2 b e (zu_k hb (by have := hqq1 b e hb; omega)))
  have h2 : ν q2 = some (zAI D 64 zIz) := by rw [hν]; exact zu_s
  have h1 : ν q1 = some (zAZ D 16900 zIz) := by rw [hν]; exact zu_k zu_s (by have := hqq2 _ _ zu_s; omega)
  have hA : ν (M + 2 + r.toNat) = some (zAZ D 4096 zIz) := hE _ _ (hM.row h8)
  refine (show Z X ν 2 16964 (12 + 1 + 2 + 2) [some (.ref M), some (zi r), some (.ref (M + 2 + r.toNat)), some (.ref q1), none, none, none, none, none, none, none, none, none, none, none, none, none, none, none, none, none] [.ref q2] → _ from fun h => by rw [hν] at h; exact h) ?_
  have grid : ∀ (n : Nat) (y : Int) (Lx L8 L9 : Option Value), y + n = 33 → -32 ≤ y → Z X ν 2 16964 26 [some (.ref M), some (zi r), some (.ref (M + 2 + r.toNat)), some (.ref q1), some (.ref q2), some (zi 1), some (zi y), Lx, L8, L9, none, none, none, none, none, none, none, none, none, none, none] [] := by
    intro n
    induction n with
    | zero =>
      intro y Lx L8 L9 hn h0
      refine z_iload C dX7_contoursNow_26 rfl ?_
      refine z_bipush C dX7_contoursNow_28 ?_
      refine z_icmp_gt (tgt := 432) C dX7_contoursNow_30 (by decide) (fun _ => ?_) (fun hno => absurd hno (by omega))
      refine z_aload C dX7_contoursNow_432 rfl ?_
      exact z_aret C E (Or.inr ⟨_, rfl⟩) dX7_contoursNow_434 (Nat.le_of_ble_eq_true rfl) (Nat.le_of_ble_eq_true rfl) ⟨h2, hE, q1, hqq1, h1⟩
    | succ n ih =>
      intro y Lx L8 L9 hn h0
      have row : ∀ (j : Nat) (x : Int) (L8 L9 : Option Value), x + j = 33 → -32 ≤ x → Z X ν 2 16964 37 [some (.ref M), some (zi r), some (.ref (M + 2 + r.toNat)), some (.ref q1), some (.ref q2), some (zi 1), some (zi y), some (zi x), L8, L9, none, none, none, none, none, none, none, none, none, none, none] [] := by
        intro j
        induction j with
        | zero =>
          intro x L8 L9 hj hx
          refine z_iload C dX7_contoursNow_37 rfl ?_
          refine z_bipush C dX7_contoursNow_39 ?_
          refine z_icmp_gt (tgt := 426) C dX7_contoursNow_41 (by decide) (fun _ => ?_) (fun hno => absurd hno (by omega))
          refine z_iinc (L' := [_, _, _, _, _, _, _, _, _, _, _, _, _, _, _, _, _, _, _, _, _]) C dX7_contoursNow_426 rfl rfl ?_
          refine z_goto (tgt := 26) C dX7_contoursNow_429 (by decide) ?_
          exact ih (y + 1) _ _ _ (by omega) (by omega)
        | succ j ih2 =>
          intro x L8 L9 hj hx
          refine z_iload C dX7_contoursNow_37 rfl ?_
          refine z_bipush C dX7_contoursNow_39 ?_
          refine z_icmp_gt (tgt := 426) C dX7_contoursNow_41 (by decide) (fun hno => absurd hno (by omega)) (fun _ => ?_)
          refine z_iconst C dX7_contoursNow_44 ?_
          refine z_istore (L' := [_, _, _, _, _, _, _, _, _, _, _, _, _, _, _, _, _, _, _, _, _]) C dX7_contoursNow_45 rfl ?_
          refine z_iload C dX7_contoursNow_47 rfl ?_
          refine z_iconst C dX7_contoursNow_49 ?_
          refine z_icmp_ge (tgt := 420) C dX7_contoursNow_50 (by decide) (fun hno => absurd hno (by omega)) (fun _ => ?_)
          refine z_iload C dX7_contoursNow_53 rfl ?_
          refine z_bipush C dX7_contoursNow_55 ?_
          refine z_isub C dX7_contoursNow_57 ?_
          refine z_bipush C dX7_contoursNow_58 ?_
          refine z_imul C dX7_contoursNow_60 ?_
          refine z_iload C dX7_contoursNow_61 rfl ?_
          refine z_iadd C dX7_contoursNow_63 ?_
          refine z_bipush C dX7_contoursNow_64 ?_
          refine z_isub C dX7_contoursNow_66 ?_
          refine z_iconst C dX7_contoursNow_67 ?_
          refine z_imul C dX7_contoursNow_68 ?_
          refine z_iload C dX7_contoursNow_69 rfl ?_
          refine z_iadd C dX7_contoursNow_71 ?_
          refine z_istore (L' := [_, _, _, _, _, _, _, _, _, _, _, _, _, _, _, _, _, _, _, _, _]) C dX7_contoursNow_72 rfl ?_
          refine z_aload_n C dX7_contoursNow_74 rfl ?_
          refine z_iload C dX7_contoursNow_75 rfl ?_
          refine z_iload C dX7_contoursNow_77 rfl ?_
          refine z_iload C dX7_contoursNow_79 rfl ?_
          refine z_ci C (z_rS C Rm qs_X7_isEdge m_1201 (m_isEdge0 hA (x := x) (y := y) (by omega) (by omega) (Or.inl rfl)) dX7_contoursNow_81 rfl rfl (Nat.le_of_ble_eq_true rfl) rfl ⟨Nat.le_of_ble_eq_true rfl, Nat.le_of_ble_eq_true rfl, Nat.le_of_ble_eq_true rfl, Nat.le_of_ble_eq_true rfl⟩) (fun z μ5 hq5 => ?_)
          obtain ⟨rfl, rfl⟩ := hq5
          refine z_if_eq (tgt := 414) C dX7_contoursNow_84 (by decide) (fun _ => ?_) (fun hno => absurd hno (fun h => h rfl))
          refine z_iinc (L' := [_, _, _, _, _, _, _, _, _, _, _, _, _, _, _, _, _, _, _, _, _]) C dX7_contoursNow_414 rfl rfl ?_
          refine z_goto (tgt := 47) C dX7_contoursNow_417 (by decide) ?_
          refine z_iload C dX7_contoursNow_47 rfl ?_
          refine z_iconst C dX7_contoursNow_49 ?_
          refine z_icmp_ge (tgt := 420) C dX7_contoursNow_50 (by decide) (fun hno => absurd hno (by omega)) (fun _ => ?_)
          refine z_iload C dX7_contoursNow_53 rfl ?_
          refine z_bipush C dX7_contoursNow_55 ?_
          refine z_isub C dX7_contoursNow_57 ?_
          refine z_bipush C dX7_contoursNow_58 ?_
          refine z_imul C dX7_contoursNow_60 ?_
          refine z_iload C dX7_contoursNow_61 rfl ?_
          refine z_iadd C dX7_contoursNow_63 ?_
          refine z_bipush C dX7_contoursNow_64 ?_
          refine z_isub C dX7_contoursNow_66 ?_
          refine z_iconst C dX7_contoursNow_67 ?_
          refine z_imul C dX7_contoursNow_68 ?_
          refine z_iload C dX7_contoursNow_69 rfl ?_
          refine z_iadd C dX7_contoursNow_71 ?_
          refine z_istore (L' := [_, _, _, _, _, _, _, _, _, _, _, _, _, _, _, _, _, _, _, _, _]) C dX7_contoursNow_72 rfl ?_
          refine z_aload_n C dX7_contoursNow_74 rfl ?_
          refine z_iload C dX7_contoursNow_75 rfl ?_
          refine z_iload C dX7_contoursNow_77 rfl ?_
          refine z_iload C dX7_contoursNow_79 rfl ?_
          refine z_ci C (z_rS C Rm qs_X7_isEdge m_1201 (m_isEdge0 hA (x := x) (y := y) (by omega) (by omega) (Or.inr rfl)) dX7_contoursNow_81 rfl rfl (Nat.le_of_ble_eq_true rfl) rfl ⟨Nat.le_of_ble_eq_true rfl, Nat.le_of_ble_eq_true rfl, Nat.le_of_ble_eq_true rfl, Nat.le_of_ble_eq_true rfl⟩) (fun z μ5 hq5 => ?_)
          obtain ⟨rfl, rfl⟩ := hq5
          refine z_if_eq (tgt := 414) C dX7_contoursNow_84 (by decide) (fun _ => ?_) (fun hno => absurd hno (fun h => h rfl))
          refine z_iinc (L' := [_, _, _, _, _, _, _, _, _, _, _, _, _, _, _, _, _, _, _, _, _]) C dX7_contoursNow_414 rfl rfl ?_
          refine z_goto (tgt := 47) C dX7_contoursNow_417 (by decide) ?_
          refine z_iload C dX7_contoursNow_47 rfl ?_
          refine z_iconst C dX7_contoursNow_49 ?_
          refine z_icmp_ge (tgt := 420) C dX7_contoursNow_50 (by decide) (fun _ => ?_) (fun hno => absurd hno (by omega))
          refine z_iinc (L' := [_, _, _, _, _, _, _, _, _, _, _, _, _, _, _, _, _, _, _, _, _]) C dX7_contoursNow_420 rfl rfl ?_
          refine z_goto (tgt := 37) C dX7_contoursNow_423 (by decide) ?_
          exact ih2 (x + 1) _ _ (by omega) (by omega)
      refine z_iload C dX7_contoursNow_26 rfl ?_
      refine z_bipush C dX7_contoursNow_28 ?_
      refine z_icmp_gt (tgt := 432) C dX7_contoursNow_30 (by decide) (fun hno => absurd hno (by omega)) (fun _ => ?_)
      refine z_bipush C dX7_contoursNow_33 ?_
      refine z_istore (L' := [_, _, _, _, _, _, _, _, _, _, _, _, _, _, _, _, _, _, _, _, _]) C dX7_contoursNow_35 rfl ?_
      exact row 65 (-32) _ _ (by omega) (by omega)
  refine z_astore (L' := [_, _, _, _, _, _, _, _, _, _, _, _, _, _, _, _, _, _, _, _, _]) C dX7_contoursNow_17 rfl ?_
  refine z_iconst C dX7_contoursNow_19 ?_
  refine z_istore (L' := [_, _, _, _, _, _, _, _, _, _, _, _, _, _, _, _, _, _, _, _, _]) C dX7_contoursNow_20 rfl ?_
  refine z_bipush C dX7_contoursNow_22 ?_
  refine z_istore (L' := [_, _, _, _, _, _, _, _, _, _, _, _, _, _, _, _, _, _, _, _, _]) C dX7_contoursNow_24 rfl ?_
  exact grid 65 (-32) _ _ _ (by omega) (by omega)
set_option maxRecDepth 100000 in
set_option maxHeartbeats 4000000 in
theorem m_digest2 {l : Launch} {D : va_G} {N0 : Nat} {M : Nat} {μ : zM} (hM : isMo D μ M) : zMet l yX7_digest cX7_digest 7 (some .long) ({ frames := 6, cells := 56, slots := 275616, locals := 240 } : Room) D N0 [.ref M] μ (zQL D N0 (fun z u => z = zmz (zdg 8) ∧ zEx μ u ∧ ∃ ps : List (Nat × Nat), zWt ps = 274592 ∧ zNw D μ u ps)) := by
  refine zMet_of rfl (Nat.le_of_ble_eq_true rfl) (fun X C Rm hin E => ?_)
  refine z_aload_n C dX7_digest_0 rfl ?_
  refine z_iconst C dX7_digest_1 ?_
  refine z_put C hM.obj rfl tyX7 tyX7_ok nmX7 0 (by decide) m_1010 inz7 rfl rfl (by rfl) (by rfl) (Nat.le_of_ble_eq_true rfl) dX7_digest_2 ?_
  refine z_same hM.obj ?_
  refine z_ldc2 C m_1287 dX7_digest_5 ?_
  refine z_aload_n C dX7_digest_8 rfl ?_
  refine z_get C hM.obj rfl 4 (by decide) m_1014 inz7 rfl rfl dX7_digest_9 ?_
  refine z_i2l C dX7_digest_12 ?_
  refine z_ladd C dX7_digest_13 ?_
  refine z_lstore_n (L' := [_, _, _, _, _, _, _]) C dX7_digest_14 rfl ?_
  refine z_iconst C dX7_digest_15 ?_
  refine z_istore_n (L' := [_, _, _, _, _, _, _]) C dX7_digest_16 rfl ?_
  have loop : ∀ (n i : Nat) (k : Int) (d : Int64) (L4 L5 L6 : Option Value) (ν : zM), i + n = 8 → k = (i : Int) → d = zdg i → isMo D ν M → zEx μ ν → (∃ ps : List (Nat × Nat), zWt ps = 34324 * i ∧ zNw D μ ν ps) → Z X ν (7 * i) (34452 * i) 17 [some (.ref M), some (.long d), none, some (zi k), L4, L5, L6] [] := by
    intro n
    induction n with
    | zero =>
      intro i k d L4 L5 L6 ν hn hk hd hM1 hE hW
      refine z_iload_n C dX7_digest_17 rfl ?_
      refine z_bipush C dX7_digest_18 ?_
      refine z_icmp_ge (tgt := 255) C dX7_digest_20 (by decide) (fun _ => ?_) (fun hno => absurd hno (by omega))
      refine z_lload_n C dX7_digest_255 rfl ?_
      refine z_ldc2 C m_1288 dX7_digest_256 ?_
      refine z_lmul C dX7_digest_259 ?_
      refine z_aload_n C dX7_digest_260 rfl ?_
      refine z_get C hM1.obj rfl 5 (by decide) m_1015 inz7 rfl rfl dX7_digest_261 ?_
      refine z_i2l C dX7_digest_264 ?_
      refine z_ladd C dX7_digest_265 ?_
      refine z_up (kc' := 56) (kn' := 275616) (by omega) (by omega) ?_
      exact z_lret C E dX7_digest_266 (Nat.le_of_ble_eq_true rfl) (Nat.le_of_ble_eq_true rfl) ⟨by rw [hd, show i = 8 by omega]; rfl, hE, by obtain ⟨ps, h1, h2⟩ := hW; exact ⟨ps, by omega, h2⟩⟩
    | succ n ih =>
      intro i k d L4 L5 L6 ν hn hk hd hM1 hE hW
      have h8 : 0 ≤ k ∧ k < 8 := by omega
      refine z_iload_n C dX7_digest_17 rfl ?_
      refine z_bipush C dX7_digest_18 ?_
      refine z_icmp_ge (tgt := 255) C dX7_digest_20 (by decide) (fun hno => absurd hno (by omega)) (fun _ => ?_)
      refine z_lload_n C dX7_digest_23 rfl ?_
      refine z_ldc2 C m_1288 dX7_digest_24 ?_
      refine z_lmul C dX7_digest_27 ?_
      refine z_aload_n C dX7_digest_28 rfl ?_
      refine z_get C hM1.obj rfl 1 (by decide) m_1011 inz7 rfl rfl dX7_digest_29 ?_
      refine z_iload_n C dX7_digest_32 rfl ?_
      refine z_bald C hM1.rows (by decide) (isMo.row_eq h8) dX7_digest_33 ?_
      refine z_ci C (z_rS C Rm qs_X7_areaOf m_1085 (m_area (hM1.row h8) (fun i => Or.inl rfl)) dX7_digest_34 rfl rfl (Nat.le_of_ble_eq_true rfl) rfl ⟨Nat.le_of_ble_eq_true rfl, Nat.le_of_ble_eq_true rfl, by (try dsimp only); omega, by (try dsimp only); omega⟩) (fun z μ3 hq3 => ?_)
      obtain ⟨rfl, rfl⟩ := hq3
      rw [cntZ_z]
      refine z_i2l C dX7_digest_37 ?_
      refine z_ladd C dX7_digest_38 ?_
      refine z_ldc2 C m_1288 dX7_digest_39 ?_
      refine z_lmul C dX7_digest_42 ?_
      refine z_aload_n C dX7_digest_43 rfl ?_
      refine z_iload_n C dX7_digest_44 rfl ?_
      refine z_ci C (z_rV C Rm qv_X7_edgesNow m_1165 (m_edgesNow hM1 h8) hM1.obj rfl dX7_digest_45 rfl rfl (Nat.le_of_ble_eq_true rfl) rfl ⟨Nat.le_of_ble_eq_true rfl, Nat.le_of_ble_eq_true rfl, by (try dsimp only); omega, by (try dsimp only); omega⟩) (fun z μ3 hq3 => ?_)
      obtain ⟨rfl, rfl⟩ := hq3
      refine z_i2l C dX7_digest_48 ?_
      refine z_ladd C dX7_digest_49 ?_
      refine z_ldc2 C m_1288 dX7_digest_50 ?_
      refine z_lmul C dX7_digest_53 ?_
      refine z_aload_n C dX7_digest_54 rfl ?_
      refine z_get C hM1.obj rfl 1 (by decide) m_1011 inz7 rfl rfl dX7_digest_55 ?_
      refine z_iload_n C dX7_digest_58 rfl ?_
      refine z_bald C hM1.rows (by decide) (isMo.row_eq h8) dX7_digest_59 ?_
      refine z_iconst C dX7_digest_60 ?_
      refine z_cr C (z_rS C Rm qs_X7_parts m_1136 (m_parts1b (hM1.row h8)) dX7_digest_61 rfl rfl (Nat.le_of_ble_eq_true rfl) rfl ⟨Nat.le_of_ble_eq_true rfl, Nat.le_of_ble_eq_true rfl, by (try dsimp only); omega, by (try dsimp only); omega⟩) (fun q ν2 hq2 => ?_)
      have hM2 := hq2.2.1.mo hM1
      refine z_ci C (z_rS C Rm qs_X7_most m_1142 (m_most hq2.1 (fun i hi => rfl) (Or.inl rfl)) dX7_digest_64 rfl rfl (Nat.le_of_ble_eq_true rfl) rfl ⟨Nat.le_of_ble_eq_true rfl, Nat.le_of_ble_eq_true rfl, by (try dsimp only); omega, by (try dsimp only); omega⟩) (fun z μ3 hq3 => ?_)
      obtain ⟨rfl, rfl⟩ := hq3
      refine z_i2l C dX7_digest_67 ?_
      refine z_ladd C dX7_digest_68 ?_
      refine z_ldc2 C m_1288 dX7_digest_69 ?_
      refine z_lmul C dX7_digest_72 ?_
      refine z_aload_n C dX7_digest_73 rfl ?_
      refine z_iload_n C dX7_digest_74 rfl ?_
      refine z_ci C (z_rV C Rm qv_X7_holesNow m_1177 (m_holesNowb hM2 h8) hM2.obj rfl dX7_digest_75 rfl rfl (Nat.le_of_ble_eq_true rfl) rfl ⟨Nat.le_of_ble_eq_true rfl, Nat.le_of_ble_eq_true rfl, by (try dsimp only); omega, by (try dsimp only); omega⟩) (fun z ν3 hq3 => ?_)
      obtain ⟨rfl, hE3, a3, c3, hl3, hc3, ka3, kc3⟩ := hq3
      have hM3 := hE3.mo hM2
      refine z_i2l C dX7_digest_78 ?_
      refine z_ladd C dX7_digest_79 ?_
      refine z_lstore_n (L' := [_, _, _, _, _, _, _]) C dX7_digest_80 rfl ?_
      refine z_iconst C dX7_digest_81 ?_
      refine z_istore (L' := [_, _, _, _, _, _, _]) C dX7_digest_82 rfl ?_
      refine z_iload C dX7_digest_84 rfl ?_
      refine z_iconst C dX7_digest_86 ?_
      refine z_icmp_ge (tgt := 111) C dX7_digest_87 (by decide) (fun hno => absurd hno (by omega)) (fun _ => ?_)
      refine z_lload_n C dX7_digest_90 rfl ?_
      refine z_ldc2 C m_1288 dX7_digest_91 ?_
      refine z_lmul C dX7_digest_94 ?_
      refine z_aload_n C dX7_digest_95 rfl ?_
      refine z_iload_n C dX7_digest_96 rfl ?_
      refine z_iload C dX7_digest_97 rfl ?_
      refine z_ci C (z_rV C Rm qv_X7_boundNow m_1189 (m_boundNow hM3 h8) hM3.obj rfl dX7_digest_99 rfl rfl (Nat.le_of_ble_eq_true rfl) rfl ⟨Nat.le_of_ble_eq_true rfl, Nat.le_of_ble_eq_true rfl, by (try dsimp only); omega, by (try dsimp only); omega⟩) (fun z μ3 hq3 => ?_)
      obtain ⟨rfl, rfl⟩ := hq3
      refine z_i2l C dX7_digest_102 ?_
      refine z_ladd C dX7_digest_103 ?_
      refine z_lstore_n (L' := [_, _, _, _, _, _, _]) C dX7_digest_104 rfl ?_
      refine z_iinc (L' := [_, _, _, _, _, _, _]) C dX7_digest_105 rfl rfl ?_
      refine z_goto (tgt := 84) C dX7_digest_108 (by decide) ?_
      refine z_iload C dX7_digest_84 rfl ?_
      refine z_iconst C dX7_digest_86 ?_
      refine z_icmp_ge (tgt := 111) C dX7_digest_87 (by decide) (fun hno => absurd hno (by omega)) (fun _ => ?_)
      refine z_lload_n C dX7_digest_90 rfl ?_
      refine z_ldc2 C m_1288 dX7_digest_91 ?_
      refine z_lmul C dX7_digest_94 ?_
      refine z_aload_n C dX7_digest_95 rfl ?_
      refine z_iload_n C dX7_digest_96 rfl ?_
      refine z_iload C dX7_digest_97 rfl ?_
      refine z_ci C (z_rV C Rm qv_X7_boundNow m_1189 (m_boundNow hM3 h8) hM3.obj rfl dX7_digest_99 rfl rfl (Nat.le_of_ble_eq_true rfl) rfl ⟨Nat.le_of_ble_eq_true rfl, Nat.le_of_ble_eq_true rfl, by (try dsimp only); omega, by (try dsimp only); omega⟩) (fun z μ3 hq3 => ?_)
      obtain ⟨rfl, rfl⟩ := hq3
      refine z_i2l C dX7_digest_102 ?_
      refine z_ladd C dX7_digest_103 ?_
      refine z_lstore_n (L' := [_, _, _, _, _, _, _]) C dX7_digest_104 rfl ?_
      refine z_iinc (L' := [_, _, _, _, _, _, _]) C dX7_digest_105 rfl rfl ?_
      refine z_goto (tgt := 84) C dX7_digest_108 (by decide) ?_
      refine z_iload C dX7_digest_84 rfl ?_
      refine z_iconst C dX7_digest_86 ?_
      refine z_icmp_ge (tgt := 111) C dX7_digest_87 (by decide) (fun hno => absurd hno (by omega)) (fun _ => ?_)
      refine z_lload_n C dX7_digest_90 rfl ?_
      refine z_ldc2 C m_1288 dX7_digest_91 ?_
      refine z_lmul C dX7_digest_94 ?_
      refine z_aload_n C dX7_digest_95 rfl ?_
      refine z_iload_n C dX7_digest_96 rfl ?_
      refine z_iload C dX7_digest_97 rfl ?_
      refine z_ci C (z_rV C Rm qv_X7_boundNow m_1189 (m_boundNow hM3 h8) hM3.obj rfl dX7_digest_99 rfl rfl (Nat.le_of_ble_eq_true rfl) rfl ⟨Nat.le_of_ble_eq_true rfl, Nat.le_of_ble_eq_true rfl, by (try dsimp only); omega, by (try dsimp only); omega⟩) (fun z μ3 hq3 => ?_)
      obtain ⟨rfl, rfl⟩ := hq3
      refine z_i2l C dX7_digest_102 ?_
      refine z_ladd C dX7_digest_103 ?_
      refine z_lstore_n (L' := [_, _, _, _, _, _, _]) C dX7_digest_104 rfl ?_
      refine z_iinc (L' := [_, _, _, _, _, _, _]) C dX7_digest_105 rfl rfl ?_
      refine z_goto (tgt := 84) C dX7_digest_108 (by decide) ?_
      refine z_iload C dX7_digest_84 rfl ?_
      refine z_iconst C dX7_digest_86 ?_
      refine z_icmp_ge (tgt := 111) C dX7_digest_87 (by decide) (fun hno => absurd hno (by omega)) (fun _ => ?_)
      refine z_lload_n C dX7_digest_90 rfl ?_
      refine z_ldc2 C m_1288 dX7_digest_91 ?_
      refine z_lmul C dX7_digest_94 ?_
      refine z_aload_n C dX7_digest_95 rfl ?_
      refine z_iload_n C dX7_digest_96 rfl ?_
      refine z_iload C dX7_digest_97 rfl ?_
      refine z_ci C (z_rV C Rm qv_X7_boundNow m_1189 (m_boundNow hM3 h8) hM3.obj rfl dX7_digest_99 rfl rfl (Nat.le_of_ble_eq_true rfl) rfl ⟨Nat.le_of_ble_eq_true rfl, Nat.le_of_ble_eq_true rfl, by (try dsimp only); omega, by (try dsimp only); omega⟩) (fun z μ3 hq3 => ?_)
      obtain ⟨rfl, rfl⟩ := hq3
      refine z_i2l C dX7_digest_102 ?_
      refine z_ladd C dX7_digest_103 ?_
      refine z_lstore_n (L' := [_, _, _, _, _, _, _]) C dX7_digest_104 rfl ?_
      refine z_iinc (L' := [_, _, _, _, _, _, _]) C dX7_digest_105 rfl rfl ?_
      refine z_goto (tgt := 84) C dX7_digest_108 (by decide) ?_
      refine z_iload C dX7_digest_84 rfl ?_
      refine z_iconst C dX7_digest_86 ?_
      refine z_icmp_ge (tgt := 111) C dX7_digest_87 (by decide) (fun _ => ?_) (fun hno => absurd hno (by omega))
      refine z_aload_n C dX7_digest_111 rfl ?_
      refine z_iload_n C dX7_digest_112 rfl ?_
      refine z_cr C (z_rV C Rm qv_X7_contoursNow m_1197 (m_contoursNow2 hM3 h8) hM3.obj rfl dX7_digest_113 rfl rfl (Nat.le_of_ble_eq_true rfl) rfl ⟨Nat.le_of_ble_eq_true rfl, Nat.le_of_ble_eq_true rfl, by (try dsimp only); omega, by (try dsimp only); omega⟩) (fun q4 ν4 hq4 => ?_)
      refine z_astore (L' := [_, _, _, _, _, _, _]) C dX7_digest_116 rfl ?_
      refine z_lload_n C dX7_digest_118 rfl ?_
      refine z_ldc2 C m_1288 dX7_digest_119 ?_
      refine z_lmul C dX7_digest_122 ?_
      refine z_aload C dX7_digest_123 rfl ?_
      refine z_iconst C dX7_digest_125 ?_
      refine z_iald C hq4.1 (by decide) dX7_digest_126 ?_
      rw [show zIz (0 : Int).toNat = 0 from rfl]
      have hM4 := hq4.2.1.mo hM3
      refine z_i2l C dX7_digest_127 ?_
      refine z_ladd C dX7_digest_128 ?_
      refine z_lstore_n (L' := [_, _, _, _, _, _, _]) C dX7_digest_129 rfl ?_
      refine z_iconst C dX7_digest_130 ?_
      refine z_istore (L' := [_, _, _, _, _, _, _]) C dX7_digest_131 rfl ?_
      refine z_iload C dX7_digest_133 rfl ?_
      refine z_aload C dX7_digest_135 rfl ?_
      refine z_iconst C dX7_digest_137 ?_
      refine z_iald C hq4.1 (by decide) dX7_digest_138 ?_
      rw [show zIz (0 : Int).toNat = 0 from rfl]
      refine z_icmp_ge (tgt := 209) C dX7_digest_139 (by decide) (fun _ => ?_) (fun hno => absurd hno (by omega))
      refine z_aload_n C dX7_digest_209 rfl ?_
      refine z_iload_n C dX7_digest_210 rfl ?_
      refine z_cr C (z_rV C Rm qv_X7_stripsNow m_1245 (m_stripsNow hM4 h8) hM4.obj rfl dX7_digest_211 rfl rfl (Nat.le_of_ble_eq_true rfl) rfl ⟨Nat.le_of_ble_eq_true rfl, Nat.le_of_ble_eq_true rfl, by (try dsimp only); omega, by (try dsimp only); omega⟩) (fun q5 ν5 hq5 => ?_)
      refine z_astore (L' := [_, _, _, _, _, _, _]) C dX7_digest_214 rfl ?_
      refine z_iconst C dX7_digest_216 ?_
      refine z_istore (L' := [_, _, _, _, _, _, _]) C dX7_digest_217 rfl ?_
      refine z_iload C dX7_digest_219 rfl ?_
      refine z_iconst C dX7_digest_221 ?_
      refine z_aload C dX7_digest_222 rfl ?_
      refine z_iconst C dX7_digest_224 ?_
      refine z_iald C hq5.1 (by decide) dX7_digest_225 ?_
      rw [show zIz (0 : Int).toNat = 0 from rfl]
      have hM5 := hq5.2.mo hM4
      refine z_imul C dX7_digest_226 ?_
      refine z_icmp_gt (tgt := 249) C dX7_digest_227 (by decide) (fun hno => absurd hno (by omega)) (fun _ => ?_)
      refine z_lload_n C dX7_digest_230 rfl ?_
      refine z_ldc2 C m_1288 dX7_digest_231 ?_
      refine z_lmul C dX7_digest_234 ?_
      refine z_aload C dX7_digest_235 rfl ?_
      refine z_iload C dX7_digest_237 rfl ?_
      refine z_iald C hq5.1 (by decide) dX7_digest_239 ?_
      rw [show zIz (0 : Int).toNat = 0 from rfl]
      refine z_i2l C dX7_digest_240 ?_
      refine z_ladd C dX7_digest_241 ?_
      refine z_lstore_n (L' := [_, _, _, _, _, _, _]) C dX7_digest_242 rfl ?_
      refine z_iinc (L' := [_, _, _, _, _, _, _]) C dX7_digest_243 rfl rfl ?_
      refine z_goto (tgt := 219) C dX7_digest_246 (by decide) ?_
      refine z_iload C dX7_digest_219 rfl ?_
      refine z_iconst C dX7_digest_221 ?_
      refine z_aload C dX7_digest_222 rfl ?_
      refine z_iconst C dX7_digest_224 ?_
      refine z_iald C hq5.1 (by decide) dX7_digest_225 ?_
      rw [show zIz (0 : Int).toNat = 0 from rfl]
      refine z_imul C dX7_digest_226 ?_
      refine z_icmp_gt (tgt := 249) C dX7_digest_227 (by decide) (fun _ => ?_) (fun hno => absurd hno (by omega))
      refine z_iinc (L' := [_, _, _, _, _, _, _]) C dX7_digest_249 rfl rfl ?_
      refine z_goto (tgt := 17) C dX7_digest_252 (by decide) ?_
      refine z_up (kc' := 7 * (i + 1)) (kn' := 34452 * (i + 1)) (by (try dsimp only); omega) (by (try dsimp only); omega) (ih (i + 1) (k + 1) _ _ _ _ _ (by omega) (by omega) ?_ hM5 (hE.tr (((hq2.2.1.tr hE3).tr hq4.2.1).tr hq5.2)) ?_)
      · rw [hd]
        rfl
      · obtain ⟨ps, h1, h2⟩ := hW
        obtain ⟨c2, hc2, hw2⟩ := hq2.2.2.2
        obtain ⟨a4, hl4, hu4⟩ := hq4.2.2
        have n2 := h2.put2 hE hq2.2.1 hq2.2.2.1 hc2 (Or.inl ⟨_, hq2.1⟩) (Or.inl ⟨_, hw2⟩)
        have n3 := n2.put2 (hE.tr hq2.2.1) hE3 hl3 hc3 ka3 kc3
        have n4 := n3.put ((hE.tr hq2.2.1).tr hE3) hq4.2.1 hl4 (Or.inr ⟨_, hu4⟩)
        exact ⟨_, by simp only [zWt_cons, h1]; omega, n4.up hq5.2⟩
  exact loop 8 0 0 _ _ _ _ _ (by omega) rfl (by decide) hM zEx.rf ⟨[], rfl, zNw.nil⟩
  
