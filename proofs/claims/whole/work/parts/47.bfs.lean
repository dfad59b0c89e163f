/-! the parts of what is not in a region that has nothing: one, that is everything -/
theorem cntZ_out {g : Nat → Int} {k : Nat} {x : Int} : ∀ n : Nat, n ≤ k → cntZ (zw g k x) n = cntZ g n
  | 0, _ => rfl
  | n + 1, h => by
    show cntZ (zw g k x) n + (if zw g k x n = 0 then 0 else 1) = cntZ g n + (if g n = 0 then 0 else 1)
    rw [cntZ_out n (by omega), zw_n (show n ≠ k by omega)]
theorem cntZ_add {g : Nat → Int} {k : Nat} (h0 : g k = 0) : ∀ n : Nat, k < n → cntZ (zw g k 1) n = cntZ g n + 1
  | 0, h => by omega
  | n + 1, h => by
    show cntZ (zw g k 1) n + (if zw g k 1 n = 0 then 0 else 1) = cntZ g n + (if g n = 0 then 0 else 1) + 1
    by_cases e : k = n
    · subst e
      rw [cntZ_out k (Nat.le_refl _), zw_s, if_neg (by decide), if_pos h0]
      omega
    · rw [cntZ_add h0 n (by omega), zw_n (show n ≠ k by omega)]
      omega
theorem cntZ_lt {g : Nat → Int} {k n : Nat} (h0 : g k = 0) (h : k < n) : cntZ g n < n := by
  have h1 := cntZ_add h0 n h
  have h2 := cntZ_b (zw g k 1) n
  omega
def bfI (g w : Nat → Int) (e : Int) : Prop := (∀ j, j < 4356 → g j = 0 ∨ g j = 1) ∧ cntZ g 4356 = e ∧ (∀ i : Nat, (i : Int) < e → (0 ≤ w i ∧ w i < 4356) ∧ g (w i).toNat = 1) ∧ (∀ j, j < 4356 → g j = 1 → ∃ i : Nat, (i : Int) < e ∧ w i = (j : Int)) ∧ g 0 = 1
def bfN (c : Int) (j : Nat) (d : Int) : Prop := (j : Int) % 66 = c % 66 + (d % 3 - 1) ∧ (j : Int) / 66 = c / 66 + (d / 3 - 1)
def bfD (g w : Nat → Int) (f : Int) : Prop := ∀ i : Nat, (i : Int) < f → ∀ (d : Int) (j : Nat), 0 ≤ d ∧ d < 9 → j < 4356 → bfN (w i) j d → g j = 1
theorem bf_mo {g : Nat → Int} {k j : Nat} (h : g j = 1) : zw g k 1 j = 1 := by
  by_cases e : j = k
  · subst e; exact zw_s
  · rw [zw_n e]; exact h
theorem bf_add {g w : Nat → Int} {e : Int} {k : Nat} (h : bfI g w e) (hk : k < 4356) (h0 : g k = 0) : bfI (zw g k 1) (zw w e.toNat k) (e + 1) ∧ 0 ≤ e ∧ e < 4356 := by
  obtain ⟨a, b, c, d, z⟩ := h
  have hb := cntZ_b g 4356
  have hlt := cntZ_lt h0 hk
  refine ⟨⟨fun j hj => ?_, by rw [cntZ_add h0 4356 hk, b], fun i hi => ?_, fun j hj h1 => ?_, bf_mo z⟩, by omega, by omega⟩
  · by_cases q : j = k
    · subst q; exact Or.inr zw_s
    · rw [zw_n q]; exact a j hj
  · by_cases q : i = e.toNat
    · subst q
      rw [zw_s]
      exact ⟨by omega, by rw [show ((k : Int)).toNat = k by omega]; exact zw_s⟩
    · rw [zw_n q]
      obtain ⟨c1, c2⟩ := c i (by omega)
      exact ⟨c1, bf_mo c2⟩
  · by_cases q : j = k
    · subst q
      exact ⟨e.toNat, by omega, zw_s⟩
    · rw [zw_n q] at h1
      obtain ⟨i, i1, i2⟩ := d j hj h1
      exact ⟨i, by omega, by rw [zw_n (show i ≠ e.toNat by omega)]; exact i2⟩
theorem bf_keep {g w : Nat → Int} {e f : Int} {k : Nat} (h : bfD g w f) (hf : f ≤ e) : bfD (zw g k 1) (zw w e.toNat k) f := fun i hi d j hd hj hn => by
  rw [zw_n (show i ≠ e.toNat by omega)] at hn
  exact bf_mo (h i hi d j hd hj hn)
theorem bf_fin {g w : Nat → Int} {e : Int} (h : bfI g w e) (hD : bfD g w e) : ∀ j : Nat, j < 4356 → g j = 1 := by
  obtain ⟨a, b, c, d, z⟩ := h
  intro j
  induction j using Nat.strongRecOn with
  | _ j ih =>
    intro hj
    by_cases h0 : j = 0
    · subst h0; exact z
    by_cases h1 : j % 66 = 0
    · obtain ⟨i, i1, i2⟩ := d (j - 66) (by omega) (ih (j - 66) (by omega) (by omega))
      exact hD i i1 7 j (by omega) hj ⟨by rw [i2]; omega, by rw [i2]; omega⟩
    · obtain ⟨i, i1, i2⟩ := d (j - 1) (by omega) (ih (j - 1) (by omega) (by omega))
      exact hD i i1 5 j (by omega) hj ⟨by rw [i2]; omega, by rw [i2]; omega⟩
set_option maxRecDepth 100000 in
set_option maxHeartbeats 4000000 in
theorem m_parts0 {l : Launch} {D : va_G} {N0 : Nat} {a : Nat} {μ : zM} (hA : μ a = some (zAZ D 4096 zIz)) : zMet l yX7_parts cX7_parts 17 (some (.array .int)) ({ frames := 4, cells := 2, slots := 8712, locals := 160 } : Room) D N0 [.ref a, zi 0] μ (zQR D N0 (fun q u => (∃ g : Nat → Int, u q = some (zAI D 4356 g) ∧ ∀ j, j < 4356 → g j = 1) ∧ (∀ (b : Nat) (e : va_E), μ b = some e → b < q) ∧ zEx μ u)) := by
  refine zMet_of rfl (Nat.le_of_ble_eq_true rfl) (fun X C Rm hin E => ?_)
  refine z_bipush C dX7_parts_0 ?_
  refine z_istore_n (L' := [_, _, _, _, _, _, _, _, _, _, _, _, _, _, _, _, _]) C dX7_parts_2 rfl ?_
  refine z_iload_n C dX7_parts_3 rfl ?_
  refine z_iload_n C dX7_parts_4 rfl ?_
  refine z_imul C dX7_parts_5 ?_
  refine z_newI C Rm (by decide) m_105 dX7_parts_6 (by decide) (fun q1 hNq1 hqq1 => ?_)
  refine z_astore_n (L' := [_, _, _, _, _, _, _, _, _, _, _, _, _, _, _, _, _]) C dX7_parts_8 rfl ?_
  refine z_iload_n C dX7_parts_9 rfl ?_
  refine z_iload_n C dX7_parts_10 rfl ?_
  refine z_imul C dX7_parts_11 ?_
  refine z_newI C Rm (by decide) m_105 dX7_parts_12 (by decide) (fun q2 hNq2 hqq2 => ?_)
  obtain ⟨ν0, hν⟩ : ∃ ν0, ν0 = zu (zu μ q1 (zAI D 4356 zIz)) q2 (zAI D 4356 zIz) := ⟨_, rfl⟩
  have hlt2 : ∀ (b : Nat) (e : va_E), μ b = some e → b < q2 := fun b e hb => hqq2 b e (zu_k hb (by have := hqq1 b e hb; omega))
  have hE0 : zEx μ ν0 := by rw [hν]; exact (zEx.rf.own hqq1).own hlt2
  have h12 : q1 < q2 := hqq2 q1 _ zu_s
  have h1 : ν0 q1 = some (zAI D 4356 zIz) := by rw [hν]; exact zu_k zu_s (by omega)
  have h2 : ν0 q2 = some (zAI D 4356 zIz) := by rw [hν]; exact zu_s
  refine (show Z X ν0 2 8712 (8 + 1 + 1 + 1 + 1 + 2) [some (.ref a), some (zi 0), some (zi 66), some (.ref q1), none, none, none, none, none, none, none, none, none, none, none, none, none] [.ref q2] → _ from fun h => by rw [hν] at h; exact h) ?_
  have rest : ∀ (g : Nat → Int) (ν : zM) (L8 L9 L10 L11 L12 L13 L14 L15 L16 : Option Value), (∀ j, j < 4356 → g j = 1) → ν q1 = some (zAI D 4356 g) → zEx μ ν → ∀ (n : Nat) (k : Int), k + n = 4356 → 0 ≤ k → Z X ν 2 8712 22 [some (.ref a), some (zi 0), some (zi 66), some (.ref q1), some (.ref q2), some (zi 1), some (zi k), some (zi 1), L8, L9, L10, L11, L12, L13, L14, L15, L16] [] := by
    intro g ν L8 L9 L10 L11 L12 L13 L14 L15 L16 hg hg1 hE n
    induction n with
    | zero =>
      intro k hn h0
      refine z_iload C dX7_parts_22 rfl ?_
      refine z_aload_n C dX7_parts_24 rfl ?_
      refine z_alen C hg1 0 rfl dX7_parts_25 ?_
      refine z_icmp_ge (tgt := 279) C dX7_parts_26 (by decide) (fun _ => ?_) (fun hno => absurd hno (by omega))
      refine z_aload_n C dX7_parts_279 rfl ?_
      exact z_aret C E (Or.inr ⟨_, rfl⟩) dX7_parts_280 (Nat.le_of_ble_eq_true rfl) (Nat.le_of_ble_eq_true rfl) ⟨⟨g, hg1, hg⟩, hqq1, hE⟩
    | succ n ih =>
      intro k hn h0
      have hgk := hg k.toNat (by omega)
      refine z_iload C dX7_parts_22 rfl ?_
      refine z_aload_n C dX7_parts_24 rfl ?_
      refine z_alen C hg1 0 rfl dX7_parts_25 ?_
      refine z_icmp_ge (tgt := 279) C dX7_parts_26 (by decide) (fun hno => absurd hno (by omega)) (fun _ => ?_)
      refine z_aload_n C dX7_parts_29 rfl ?_
      refine z_iload C dX7_parts_30 rfl ?_
      refine z_iload_n C dX7_parts_32 rfl ?_
      refine z_iremP C dX7_parts_33 ?_
      refine z_bipush C dX7_parts_34 ?_
      refine z_iadd C dX7_parts_36 ?_
      refine z_iconst C dX7_parts_37 ?_
      refine z_isub C dX7_parts_38 ?_
      refine z_iload C dX7_parts_39 rfl ?_
      refine z_iload_n C dX7_parts_41 rfl ?_
      refine z_idivP C dX7_parts_42 ?_
      refine z_bipush C dX7_parts_43 ?_
      refine z_iadd C dX7_parts_45 ?_
      refine z_iconst C dX7_parts_46 ?_
      refine z_isub C dX7_parts_47 ?_
      refine z_ci C (z_rS C Rm qs_X7_has m_1129 (m_has0 (hE _ _ hA) (x := k % 66 + -32 - 1) (y := k / 66 + -32 - 1) (by omega) (by omega)) dX7_parts_48 rfl rfl (Nat.le_of_ble_eq_true rfl) rfl ⟨Nat.le_of_ble_eq_true rfl, Nat.le_of_ble_eq_true rfl, Nat.le_of_ble_eq_true rfl, Nat.le_of_ble_eq_true rfl⟩) (fun z μ5 hq5 => ?_)
      obtain ⟨rfl, rfl⟩ := hq5
      refine z_iload_n C dX7_parts_51 rfl ?_
      refine z_icmp_ne (tgt := 59) C dX7_parts_52 (by decide) (fun hno => absurd hno (fun h => h rfl)) (fun _ => ?_)
      refine z_iconst C dX7_parts_55 ?_
      refine z_goto (tgt := 60) C dX7_parts_56 (by decide) ?_
      refine z_istore (L' := [_, _, _, _, _, _, _, _, _, _, _, _, _, _, _, _, _]) C dX7_parts_60 rfl ?_
      refine z_iload C dX7_parts_62 rfl ?_
      refine z_if_eq (tgt := 273) C dX7_parts_64 (by decide) (fun hno => absurd hno (by decide)) (fun _ => ?_)
      refine z_aload_n C dX7_parts_67 rfl ?_
      refine z_iload C dX7_parts_68 rfl ?_
      refine z_iald C hg1 (by decide) dX7_parts_70 ?_
      rw [hgk]
      refine z_if_eq (tgt := 77) C dX7_parts_71 (by decide) (fun hno => absurd hno (by decide)) (fun _ => ?_)
      refine z_goto (tgt := 273) C dX7_parts_74 (by decide) ?_
      refine z_iinc (L' := [_, _, _, _, _, _, _, _, _, _, _, _, _, _, _, _, _]) C dX7_parts_273 rfl rfl ?_
      refine z_goto (tgt := 22) C dX7_parts_276 (by decide) ?_
      exact ih (k + 1) (by omega) (by omega)
  have bfs : ∀ (n : Nat) (f e : Int) (g w : Nat → Int) (ν : zM) (L10 L11 L12 L13 L14 L15 L16 : Option Value), f + n = 4356 → 0 ≤ f → f ≤ e → bfI g w e → bfD g w f → ν q1 = some (zAI D 4356 g) → ν q2 = some (zAI D 4356 w) → zEx μ ν → Z X ν 2 8712 102 [some (.ref a), some (zi 0), some (zi 66), some (.ref q1), some (.ref q2), some (zi 1), some (zi 0), some (zi 1), some (zi f), some (zi e), L10, L11, L12, L13, L14, L15, L16] [] := by
    intro n
    induction n with
    | zero =>
      intro f e g w ν L10 L11 L12 L13 L14 L15 L16 hn h0 hfe hI hD hg hw hE
      have hb := cntZ_b g 4356
      have hb2 := hI.2.1
      have hef : f = e := by omega
      subst hef
      refine z_iload C dX7_parts_102 rfl ?_
      refine z_iload C dX7_parts_104 rfl ?_
      refine z_icmp_ge (tgt := 273) C dX7_parts_106 (by decide) (fun _ => ?_) (fun hno => absurd hno (by omega))
      refine z_iinc (L' := [_, _, _, _, _, _, _, _, _, _, _, _, _, _, _, _, _]) C dX7_parts_273 rfl rfl ?_
      refine z_goto (tgt := 22) C dX7_parts_276 (by decide) ?_
      exact rest g ν _ _ _ _ _ _ _ _ _ (bf_fin hI hD) hg hE 4355 (0 + 1) (by omega) (by omega)
    | succ n ih =>
      intro f e g w ν L10 L11 L12 L13 L14 L15 L16 hn h0 hfe hI hD hg hw hE
      have hb := cntZ_b g 4356
      have hb2 := hI.2.1
      refine z_iload C dX7_parts_102 rfl ?_
      refine z_iload C dX7_parts_104 rfl ?_
      refine z_icmp_ge (tgt := 273) C dX7_parts_106 (by decide) (fun hx => ?_) (fun hx => ?_)
      · have hef : f = e := by omega
        subst hef
        refine z_iinc (L' := [_, _, _, _, _, _, _, _, _, _, _, _, _, _, _, _, _]) C dX7_parts_273 rfl rfl ?_
        refine z_goto (tgt := 22) C dX7_parts_276 (by decide) ?_
        exact rest g ν _ _ _ _ _ _ _ _ _ (bf_fin hI hD) hg hE 4355 (0 + 1) (by omega) (by omega)
      have hwf := (hI.2.2.1 f.toNat (by omega)).1
      obtain ⟨c, hc⟩ : ∃ c, c = w f.toNat := ⟨_, rfl⟩
      rw [← hc] at hwf
      refine z_aload C dX7_parts_109 rfl ?_
      refine z_iload C dX7_parts_111 rfl ?_
      refine z_iinc (L' := [_, _, _, _, _, _, _, _, _, _, _, _, _, _, _, _, _]) C dX7_parts_113 rfl rfl ?_
      refine z_iald C hw (by decide) dX7_parts_116 ?_
      rw [← hc]
      refine z_istore (L' := [_, _, _, _, _, _, _, _, _, _, _, _, _, _, _, _, _]) C dX7_parts_117 rfl ?_
      refine z_iconst C dX7_parts_119 ?_
      refine z_istore (L' := [_, _, _, _, _, _, _, _, _, _, _, _, _, _, _, _, _]) C dX7_parts_120 rfl ?_
      have dirs : ∀ (m : Nat) (d e : Int) (g w : Nat → Int) (ν : zM) (L12 L13 L14 L15 L16 : Option Value), d + m = 9 → 0 ≤ d → f + 1 ≤ e → bfI g w e → bfD g w f → w f.toNat = c → (∀ (d2 : Int) (j : Nat), 0 ≤ d2 ∧ d2 < d → j < 4356 → bfN c j d2 → g j = 1) → ν q1 = some (zAI D 4356 g) → ν q2 = some (zAI D 4356 w) → zEx μ ν → Z X ν 2 8712 122 [some (.ref a), some (zi 0), some (zi 66), some (.ref q1), some (.ref q2), some (zi 1), some (zi 0), some (zi 1), some (zi (f + 1)), some (zi e), some (zi c), some (zi d), L12, L13, L14, L15, L16] [] := by
        intro m
        induction m with
        | zero =>
          intro d e g w ν L12 L13 L14 L15 L16 hm hd he hI hD hwc hdn hg hw hE
          refine z_iload C dX7_parts_122 rfl ?_
          refine z_bipush C dX7_parts_124 ?_
          refine z_icmp_ge (tgt := 270) C dX7_parts_126 (by decide) (fun _ => ?_) (fun hno => absurd hno (by omega))
          refine z_goto (tgt := 102) C dX7_parts_270 (by decide) ?_
          refine ih (f + 1) e g w ν _ _ _ _ _ _ _ (by omega) (by omega) he hI ?_ hg hw hE
          intro i hi d2 j hd2 hj hnb
          by_cases hif : (i : Int) < f
          · exact hD i hif d2 j hd2 hj hnb
          · have : i = f.toNat := by omega
            subst this
            rw [hwc] at hnb
            exact hdn d2 j (by omega) hj hnb
        | succ m ihm =>
          intro d e g w ν L12 L13 L14 L15 L16 hm hd he hI hD hwc hdn hg hw hE
          have hb := cntZ_b g 4356
          have hb2 := hI.2.1
          refine z_iload C dX7_parts_122 rfl ?_
          refine z_bipush C dX7_parts_124 ?_
          refine z_icmp_ge (tgt := 270) C dX7_parts_126 (by decide) (fun hno => absurd hno (by omega)) (fun _ => ?_)
          refine z_iload C dX7_parts_129 rfl ?_
          refine z_iconst C dX7_parts_131 ?_
          refine z_iremP C dX7_parts_132 ?_
          refine z_iconst C dX7_parts_133 ?_
          refine z_isub C dX7_parts_134 ?_
          refine z_istore (L' := [_, _, _, _, _, _, _, _, _, _, _, _, _, _, _, _, _]) C dX7_parts_135 rfl ?_
          refine z_iload C dX7_parts_137 rfl ?_
          refine z_iconst C dX7_parts_139 ?_
          refine z_idivP C dX7_parts_140 ?_
          refine z_iconst C dX7_parts_141 ?_
          refine z_isub C dX7_parts_142 ?_
          refine z_istore (L' := [_, _, _, _, _, _, _, _, _, _, _, _, _, _, _, _, _]) C dX7_parts_143 rfl ?_
          refine z_iload_n C dX7_parts_145 rfl ?_
          refine z_if_eq (tgt := 162) C dX7_parts_146 (by decide) (fun _ => ?_) (fun hno => absurd hno (fun h => h rfl))
          obtain ⟨x, hxx⟩ : ∃ x, x = c % 66 + (d % 3 - 1) := ⟨_, rfl⟩
          obtain ⟨y, hyy⟩ : ∃ y, y = c / 66 + (d / 3 - 1) := ⟨_, rfl⟩
          refine z_iload C dX7_parts_162 rfl ?_
          refine z_iload_n C dX7_parts_164 rfl ?_
          refine z_iremP C dX7_parts_165 ?_
          refine z_iload C dX7_parts_166 rfl ?_
          refine z_iadd C dX7_parts_168 ?_
          rw [← hxx]
          refine z_istore (L' := [_, _, _, _, _, _, _, _, _, _, _, _, _, _, _, _, _]) C dX7_parts_169 rfl ?_
          refine z_iload C dX7_parts_171 rfl ?_
          refine z_iload_n C dX7_parts_173 rfl ?_
          refine z_idivP C dX7_parts_174 ?_
          refine z_iload C dX7_parts_175 rfl ?_
          refine z_iadd C dX7_parts_177 ?_
          rw [← hyy]
          refine z_istore (L' := [_, _, _, _, _, _, _, _, _, _, _, _, _, _, _, _, _]) C dX7_parts_178 rfl ?_
          have skip : ∀ (L16 : Option Value), (∀ j : Nat, j < 4356 → bfN c j d → g j = 1) → Z X ν 2 8712 264 [some (.ref a), some (zi 0), some (zi 66), some (.ref q1), some (.ref q2), some (zi 1), some (zi 0), some (zi 1), some (zi (f + 1)), some (zi e), some (zi c), some (zi d), some (zi (d % 3 - 1)), some (zi (d / 3 - 1)), some (zi x), some (zi y), L16] [] := by
            intro L16 hs
            refine z_iinc (L' := [_, _, _, _, _, _, _, _, _, _, _, _, _, _, _, _, _]) C dX7_parts_264 rfl rfl ?_
            refine z_goto (tgt := 122) C dX7_parts_267 (by decide) ?_
            refine ihm (d + 1) e g w ν _ _ _ _ _ (by omega) (by omega) he hI hD hwc (fun d2 j hd2 hj hnb => ?_) hg hw hE
            by_cases hdd : d2 = d
            · subst hdd; exact hs j hj hnb
            · exact hdn d2 j (by omega) hj hnb
          refine z_iload C dX7_parts_180 rfl ?_
          refine z_iconst C dX7_parts_182 ?_
          refine z_iload_n C dX7_parts_183 rfl ?_
          refine z_iconst C dX7_parts_184 ?_
          refine z_isub C dX7_parts_185 ?_
          refine z_ci C (z_rS C Rm qs_X7_isIn m_1044 (m_isIn (x := x) (by omega) (by decide) (by decide)) dX7_parts_186 rfl rfl (Nat.le_of_ble_eq_true rfl) rfl ⟨Nat.le_of_ble_eq_true rfl, Nat.le_of_ble_eq_true rfl, Nat.le_of_ble_eq_true rfl, Nat.le_of_ble_eq_true rfl⟩) (fun z1 μ5 hq5 => ?_)
          obtain ⟨hz1, rfl⟩ := hq5
          refine z_if_eq (tgt := 264) C dX7_parts_189 (by decide) (fun h3 => ?_) (fun h3 => ?_)
          · exact skip _ (fun j hj hnb => by unfold bfN at hnb; omega)
          refine z_iload C dX7_parts_192 rfl ?_
          refine z_iconst C dX7_parts_194 ?_
          refine z_iload_n C dX7_parts_195 rfl ?_
          refine z_iconst C dX7_parts_196 ?_
          refine z_isub C dX7_parts_197 ?_
          refine z_ci C (z_rS C Rm qs_X7_isIn m_1044 (m_isIn (x := y) (by omega) (by decide) (by decide)) dX7_parts_198 rfl rfl (Nat.le_of_ble_eq_true rfl) rfl ⟨Nat.le_of_ble_eq_true rfl, Nat.le_of_ble_eq_true rfl, Nat.le_of_ble_eq_true rfl, Nat.le_of_ble_eq_true rfl⟩) (fun z2 μ5 hq5 => ?_)
          obtain ⟨hz2, rfl⟩ := hq5
          refine z_if_ne (tgt := 207) C dX7_parts_201 (by decide) (fun h4 => ?_) (fun h4 => ?_)
          rotate_left
          · refine z_goto (tgt := 264) C dX7_parts_204 (by decide) ?_
            exact skip _ (fun j hj hnb => by unfold bfN at hnb; omega)
          have hx6 : 0 ≤ x ∧ x ≤ 65 := by omega
          have hy6 : 0 ≤ y ∧ y ≤ 65 := by omega
          obtain ⟨k, hk⟩ : ∃ k : Nat, (k : Int) = y * 66 + x := ⟨(y * 66 + x).toNat, by omega⟩
          have hk6 : k < 4356 := by omega
          refine z_iload C dX7_parts_207 rfl ?_
          refine z_iload_n C dX7_parts_209 rfl ?_
          refine z_imul C dX7_parts_210 ?_
          refine z_iload C dX7_parts_211 rfl ?_
          refine z_iadd C dX7_parts_213 ?_
          rw [← hk]
          refine z_istore (L' := [_, _, _, _, _, _, _, _, _, _, _, _, _, _, _, _, _]) C dX7_parts_214 rfl ?_
          refine z_aload_n C dX7_parts_216 rfl ?_
          refine z_iload C dX7_parts_217 rfl ?_
          refine z_iald C hg (by decide) dX7_parts_219 ?_
          rw [show ((k : Int)).toNat = k by omega]
          have hgk := hI.1 k hk6
          refine z_if_ne (tgt := 264) C dX7_parts_220 (by decide) (fun h5 => ?_) (fun h5 => ?_)
          · exact skip _ (fun j hj hnb => by
              have : j = k := by unfold bfN at hnb; omega
              subst this
              omega)
          have hgk0 : g k = 0 := by omega
          refine z_aload_n C dX7_parts_223 rfl ?_
          refine z_iload C dX7_parts_224 rfl ?_
          refine z_bipush C dX7_parts_226 ?_
          refine z_iadd C dX7_parts_228 ?_
          refine z_iconst C dX7_parts_229 ?_
          refine z_isub C dX7_parts_230 ?_
          refine z_iload C dX7_parts_231 rfl ?_
          refine z_bipush C dX7_parts_233 ?_
          refine z_iadd C dX7_parts_235 ?_
          refine z_iconst C dX7_parts_236 ?_
          refine z_isub C dX7_parts_237 ?_
          refine z_ci C (z_rS C Rm qs_X7_has m_1129 (m_has0 (hE _ _ hA) (x := x + -32 - 1) (y := y + -32 - 1) (by omega) (by omega)) dX7_parts_238 rfl rfl (Nat.le_of_ble_eq_true rfl) rfl ⟨Nat.le_of_ble_eq_true rfl, Nat.le_of_ble_eq_true rfl, Nat.le_of_ble_eq_true rfl, Nat.le_of_ble_eq_true rfl⟩) (fun z3 μ5 hq5 => ?_)
          obtain ⟨rfl, rfl⟩ := hq5
          refine z_iload_n C dX7_parts_241 rfl ?_
          refine z_icmp_eq (tgt := 248) C dX7_parts_242 (by decide) (fun _ => ?_) (fun hno => absurd hno (fun h => h rfl))
          obtain ⟨i1, i2⟩ := bf_add hI hk6 hgk0
          refine z_aload_n C dX7_parts_248 rfl ?_
          refine z_iload C dX7_parts_249 rfl ?_
          refine z_iload C dX7_parts_251 rfl ?_
          refine z_iast C hg (by decide) dX7_parts_253 ?_
          refine z_aload C dX7_parts_254 rfl ?_
          refine z_iload C dX7_parts_256 rfl ?_
          refine z_iinc (L' := [_, _, _, _, _, _, _, _, _, _, _, _, _, _, _, _, _]) C dX7_parts_258 rfl rfl ?_
          refine z_iload C dX7_parts_261 rfl ?_
          refine z_iast C (zu_k hw (by omega)) (by decide) dX7_parts_263 ?_
          rw [show ((k : Int)).toNat = k by omega]
          refine z_iinc (L' := [_, _, _, _, _, _, _, _, _, _, _, _, _, _, _, _, _]) C dX7_parts_264 rfl rfl ?_
          refine z_goto (tgt := 122) C dX7_parts_267 (by decide) ?_
          refine ihm (d + 1) (e + 1) (zw g k 1) (zw w e.toNat (k : Int)) _ _ _ _ _ _ (by omega) (by omega) (by omega) i1 (bf_keep hD (by omega)) (by rw [zw_n (show f.toNat ≠ e.toNat by omega)]; exact hwc) (fun d2 j hd2 hj hnb => ?_) (zu_k zu_s (by omega)) zu_s ((hE.own hqq1).own hlt2)
          by_cases hdd : d2 = d
          · subst hdd
            have : j = k := by unfold bfN at hnb; omega
            subst this
            exact zw_s
          · exact bf_mo (hdn d2 j (by omega) hj hnb)
      exact dirs 9 0 e g w ν _ _ _ _ _ (by omega) (by omega) (by omega) hI hD hc.symm (fun d2 j hd2 => by omega) hg hw hE
  refine z_astore (L' := [_, _, _, _, _, _, _, _, _, _, _, _, _, _, _, _, _]) C dX7_parts_14 rfl ?_
  refine z_iconst C dX7_parts_16 ?_
  refine z_istore (L' := [_, _, _, _, _, _, _, _, _, _, _, _, _, _, _, _, _]) C dX7_parts_17 rfl ?_
  refine z_iconst C dX7_parts_19 ?_
  refine z_istore (L' := [_, _, _, _, _, _, _, _, _, _, _, _, _, _, _, _, _]) C dX7_parts_20 rfl ?_
  refine z_iload C dX7_parts_22 rfl ?_
  refine z_aload_n C dX7_parts_24 rfl ?_
  refine z_alen C h1 0 rfl dX7_parts_25 ?_
  refine z_icmp_ge (tgt := 279) C dX7_parts_26 (by decide) (fun hno => absurd hno (by omega)) (fun _ => ?_)
  refine z_aload_n C dX7_parts_29 rfl ?_
  refine z_iload C dX7_parts_30 rfl ?_
  refine z_iload_n C dX7_parts_32 rfl ?_
  refine z_iremP C dX7_parts_33 ?_
  refine z_bipush C dX7_parts_34 ?_
  refine z_iadd C dX7_parts_36 ?_
  refine z_iconst C dX7_parts_37 ?_
  refine z_isub C dX7_parts_38 ?_
  refine z_iload C dX7_parts_39 rfl ?_
  refine z_iload_n C dX7_parts_41 rfl ?_
  refine z_idivP C dX7_parts_42 ?_
  refine z_bipush C dX7_parts_43 ?_
  refine z_iadd C dX7_parts_45 ?_
  refine z_iconst C dX7_parts_46 ?_
  refine z_isub C dX7_parts_47 ?_
  refine z_ci C (z_rS C Rm qs_X7_has m_1129 (m_has0 (hE0 _ _ hA) (x := 0 % 66 + -32 - 1) (y := 0 / 66 + -32 - 1) (by decide) (by decide)) dX7_parts_48 rfl rfl (Nat.le_of_ble_eq_true rfl) rfl ⟨Nat.le_of_ble_eq_true rfl, Nat.le_of_ble_eq_true rfl, Nat.le_of_ble_eq_true rfl, Nat.le_of_ble_eq_true rfl⟩) (fun z μ5 hq5 => ?_)
  obtain ⟨rfl, rfl⟩ := hq5
  refine z_iload_n C dX7_parts_51 rfl ?_
  refine z_icmp_ne (tgt := 59) C dX7_parts_52 (by decide) (fun hno => absurd hno (fun h => h rfl)) (fun _ => ?_)
  refine z_iconst C dX7_parts_55 ?_
  refine z_goto (tgt := 60) C dX7_parts_56 (by decide) ?_
  refine z_istore (L' := [_, _, _, _, _, _, _, _, _, _, _, _, _, _, _, _, _]) C dX7_parts_60 rfl ?_
  refine z_iload C dX7_parts_62 rfl ?_
  refine z_if_eq (tgt := 273) C dX7_parts_64 (by decide) (fun hno => absurd hno (by decide)) (fun _ => ?_)
  refine z_aload_n C dX7_parts_67 rfl ?_
  refine z_iload C dX7_parts_68 rfl ?_
  refine z_iald C h1 (by decide) dX7_parts_70 ?_
  rw [show zIz (0 : Int).toNat = 0 from rfl]
  refine z_if_eq (tgt := 77) C dX7_parts_71 (by decide) (fun _ => ?_) (fun hno => absurd hno (fun h => h rfl))
  refine z_aload_n C dX7_parts_77 rfl ?_
  refine z_iload C dX7_parts_78 rfl ?_
  refine z_iinc (L' := [_, _, _, _, _, _, _, _, _, _, _, _, _, _, _, _, _]) C dX7_parts_80 rfl rfl ?_
  refine z_iload C dX7_parts_83 rfl ?_
  refine z_iast C h1 (by decide) dX7_parts_85 ?_
  refine z_iconst C dX7_parts_86 ?_
  refine z_istore (L' := [_, _, _, _, _, _, _, _, _, _, _, _, _, _, _, _, _]) C dX7_parts_87 rfl ?_
  refine z_iconst C dX7_parts_89 ?_
  refine z_istore (L' := [_, _, _, _, _, _, _, _, _, _, _, _, _, _, _, _, _]) C dX7_parts_90 rfl ?_
  refine z_aload C dX7_parts_92 rfl ?_
  refine z_iload C dX7_parts_94 rfl ?_
  refine z_iinc (L' := [_, _, _, _, _, _, _, _, _, _, _, _, _, _, _, _, _]) C dX7_parts_96 rfl rfl ?_
  refine z_iload C dX7_parts_99 rfl ?_
  refine z_iast C (zu_k h2 (by omega)) (by decide) dX7_parts_101 ?_
  refine bfs 4356 0 1 (zw zIz 0 1) (zw zIz 0 0) _ _ _ _ _ _ _ _ (by omega) (by omega) (by omega) ⟨fun j hj => ?_, ?_, fun i hi => ?_, fun j hj h9 => ?_, zw_s⟩ (fun i hi => by omega) (zu_k zu_s (by omega)) zu_s ((hE0.own hqq1).own hlt2)
  · by_cases q : j = 0
    · subst q; exact Or.inr zw_s
    · rw [zw_n q]; exact Or.inl rfl
  · rw [cntZ_add (g := zIz) rfl 4356 (by decide), cntZ_z]; rfl
  · have : i = 0 := by omega
    subst this
    rw [zw_s]
    exact ⟨by decide, zw_s⟩
  · by_cases q : j = 0
    · subst q; exact ⟨0, by decide, zw_s⟩
    · rw [zw_n q] at h9
      exact absurd (show (0 : Int) = 1 from h9) (by decide)
