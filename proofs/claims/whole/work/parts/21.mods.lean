/-! Pen, History, Flood, Outline, StripWalk, as they are on a new object -/
def zO (P : Nat → Prop) (μ u : zM) : Prop := ∀ q, ¬ P q → u q = μ q
def zb (a n : Nat) : Nat → Prop := fun q => a ≤ q ∧ q < a + n
theorem zO.rf {P : Nat → Prop} {μ : zM} : zO P μ μ := fun _ _ => rfl
theorem zO.tr {P : Nat → Prop} {μ ν u : zM} (h : zO P μ ν) (h2 : zO P ν u) : zO P μ u := fun q hq => (h2 q hq).trans (h q hq)
theorem zO.mo {P Q : Nat → Prop} {μ u : zM} (h : zO P μ u) (hPQ : ∀ q, P q → Q q) : zO Q μ u := fun q hq => h q (fun hp => hq (hPQ q hp))
theorem zO.zu {P : Nat → Prop} {μ u : zM} {a : Nat} {e : va_E} (h : zO P μ u) (ha : P a) : zO P μ (zu u a e) := fun q hq => (zu_n (fun hqa => hq (by rw [hqa]; exact ha))).trans (h q hq)
theorem zO.at {P : Nat → Prop} {μ u : zM} {a : Nat} {x : Option va_E} (h : zO P μ u) (ha : ¬ P a) (hx : μ a = x) : u a = x := (h a ha).trans hx
theorem isF.o {D : va_G} {P : Nat → Prop} {μ u : zM} {o : Nat} {f : Nat → Int64} (h : isF D μ o f) (hO : zO P μ u) (h1 : ¬ P o) (h2 : ¬ P (o + 1)) : isF D u o f := ⟨hO.at h1 h.1, hO.at h2 h.2⟩
theorem z_canL {X : zX} {l : Launch} {D : va_G} {N0 : Nat} {cc : ByteArray} {nL : Nat} {own : String} {Ts : List Cond} {μ : zM} {kc kn pc : Nat} {L : List (Option Value)} {st : List Value} (C : zC X l D N0 cc nL own Ts) {a n : Nat} {f g : Nat → Int64} (hm : μ a = some (zAL D n f)) (h : ∀ j, j < n → f j = g j) (k : Z X (zu μ a (zAL D n g)) kc kn pc L st) : Z X μ kc kn pc L st := by
  have h1 := z_eqL C (μ := μ) h k
  rwa [zu_i hm] at h1
def zIz : Nat → Int := fun _ => 0
-- ---- the pen
def isPen (D : va_G) (μ : zM) (a : Nat) (n fx fy ax ay : Int) (gx gy gc : Nat → Int) : Prop := μ a = some (.inr (4, [.ref (a + 1), .ref (a + 2), zi n, zi fx, zi fy, zi ax, zi ay, .ref (a + 3)])) ∧ μ (a + 1) = some (zAI D 60 gx) ∧ μ (a + 2) = some (zAI D 60 gy) ∧ μ (a + 3) = some (zAI D 64 gc)
theorem isPen.o {D : va_G} {P : Nat → Prop} {μ u : zM} {a : Nat} {n fx fy ax ay : Int} {gx gy gc : Nat → Int} (h : isPen D μ a n fx fy ax ay gx gy gc) (hO : zO P μ u) (hP : ∀ q, a ≤ q → q < a + 4 → ¬ P q) : isPen D u a n fx fy ax ay gx gy gc := ⟨hO.at (hP _ (by omega) (by omega)) h.1, hO.at (hP _ (by omega) (by omega)) h.2.1, hO.at (hP _ (by omega) (by omega)) h.2.2.1, hO.at (hP _ (by omega) (by omega)) h.2.2.2⟩
set_option maxRecDepth 100000 in
set_option maxHeartbeats 4000000 in
theorem c_plen {l : Launch} {D : va_G} {N0 : Nat} {a : Nat} {n fx fy ax ay : Int} {gx gy gc : Nat → Int} {μ : zM} (hP : isPen D μ a n fx fy ax ay gx gy gc) : zMet l yX4_length cX4_length 1 (some .int) ({ frames := 0, cells := 0, slots := 0, locals := 0 } : Room) D N0 [.ref a] μ (zQI D N0 (fun z u => z = n ∧ u = μ)) := by
  refine zMet_of rfl (Nat.le_of_ble_eq_true rfl) (fun X C Rm hin E => ?_)
  refine z_aload_n C dX4_length_0 rfl ?_
  refine z_get C hP.1 rfl 2 (by decide) m_82 inz4 rfl rfl dX4_length_1 ?_
  exact z_iret C E dX4_length_4 (Nat.le_of_ble_eq_true rfl) (Nat.le_of_ble_eq_true rfl) ⟨rfl, rfl⟩
set_option maxRecDepth 100000 in
set_option maxHeartbeats 4000000 in
theorem c_pax {l : Launch} {D : va_G} {N0 : Nat} {a : Nat} {n fx fy ax ay : Int} {gx gy gc : Nat → Int} {μ : zM} (hP : isPen D μ a n fx fy ax ay gx gy gc) : zMet l yX4_atX cX4_atX 1 (some .int) ({ frames := 0, cells := 0, slots := 0, locals := 0 } : Room) D N0 [.ref a] μ (zQI D N0 (fun z u => z = ax ∧ u = μ)) := by
  refine zMet_of rfl (Nat.le_of_ble_eq_true rfl) (fun X C Rm hin E => ?_)
  refine z_aload_n C dX4_atX_0 rfl ?_
  refine z_get C hP.1 rfl 5 (by decide) m_85 inz4 rfl rfl dX4_atX_1 ?_
  exact z_iret C E dX4_atX_4 (Nat.le_of_ble_eq_true rfl) (Nat.le_of_ble_eq_true rfl) ⟨rfl, rfl⟩
set_option maxRecDepth 100000 in
set_option maxHeartbeats 4000000 in
theorem c_pay {l : Launch} {D : va_G} {N0 : Nat} {a : Nat} {n fx fy ax ay : Int} {gx gy gc : Nat → Int} {μ : zM} (hP : isPen D μ a n fx fy ax ay gx gy gc) : zMet l yX4_atY cX4_atY 1 (some .int) ({ frames := 0, cells := 0, slots := 0, locals := 0 } : Room) D N0 [.ref a] μ (zQI D N0 (fun z u => z = ay ∧ u = μ)) := by
  refine zMet_of rfl (Nat.le_of_ble_eq_true rfl) (fun X C Rm hin E => ?_)
  refine z_aload_n C dX4_atY_0 rfl ?_
  refine z_get C hP.1 rfl 6 (by decide) m_86 inz4 rfl rfl dX4_atY_1 ?_
  exact z_iret C E dX4_atY_4 (Nat.le_of_ble_eq_true rfl) (Nat.le_of_ble_eq_true rfl) ⟨rfl, rfl⟩
set_option maxRecDepth 100000 in
set_option maxHeartbeats 4000000 in
theorem c_pfull {l : Launch} {D : va_G} {N0 : Nat} {a : Nat} {n fx fy ax ay : Int} {gx gy gc : Nat → Int} {μ : zM} (hP : isPen D μ a n fx fy ax ay gx gy gc) (hn : 0 ≤ n ∧ n < 60) : zMet l yX4_isFull cX4_isFull 1 (some .boolean) ({ frames := 0, cells := 0, slots := 0, locals := 0 } : Room) D N0 [.ref a] μ (zQI D N0 (fun z u => z = 0 ∧ u = μ)) := by
  refine zMet_of rfl (Nat.le_of_ble_eq_true rfl) (fun X C Rm hin E => ?_)
  refine z_aload_n C dX4_isFull_0 rfl ?_
  refine z_get C hP.1 rfl 2 (by decide) m_82 inz4 rfl rfl dX4_isFull_1 ?_
  refine z_bipush C dX4_isFull_4 ?_
  refine z_icmp_lt (tgt := 13) C dX4_isFull_6 (by decide) (fun _ => ?_) (fun hno => absurd hno (by omega))
  refine z_iconst C dX4_isFull_13 ?_
  exact z_zret C E (Or.inl rfl) dX4_isFull_14 (Nat.le_of_ble_eq_true rfl) (Nat.le_of_ble_eq_true rfl) ⟨rfl, rfl⟩
set_option maxRecDepth 100000 in
set_option maxHeartbeats 4000000 in
theorem c_padd {l : Launch} {D : va_G} {N0 : Nat} {a : Nat} {n fx fy ax ay x y : Int} {gx gy gc : Nat → Int} {μ : zM} (hP : isPen D μ a n fx fy ax ay gx gy gc) (hn : 0 ≤ n ∧ n < 60) : zMet l yX4_add cX4_add 3 none ({ frames := 0, cells := 0, slots := 0, locals := 0 } : Room) D N0 [.ref a, zi x, zi y] μ (zQV D N0 (fun u => isPen D u a (n + 1) fx fy x y (zw gx n.toNat x) (zw gy n.toNat y) gc ∧ zO (zb a 4) μ u)) := by
  refine zMet_of rfl (Nat.le_of_ble_eq_true rfl) (fun X C Rm hin E => ?_)
  have n1 : a ≠ a + 1 := by omega
  have n2 : a ≠ a + 2 := by omega
  refine z_aload_n C dX4_add_0 rfl ?_
  refine z_get C hP.1 rfl 2 (by decide) m_82 inz4 rfl rfl dX4_add_1 ?_
  refine z_aload_n C dX4_add_4 rfl ?_
  refine z_get C hP.1 rfl 0 (by decide) m_80 inz4 rfl rfl dX4_add_5 ?_
  refine z_alen C hP.2.1 0 rfl dX4_add_8 ?_
  refine z_icmp_ge (tgt := 64) C dX4_add_9 (by decide) (fun hno => absurd hno (by omega)) (fun _ => ?_)
  refine z_aload_n C dX4_add_12 rfl ?_
  refine z_get C hP.1 rfl 2 (by decide) m_82 inz4 rfl rfl dX4_add_13 ?_
  refine z_aload_n C dX4_add_16 rfl ?_
  refine z_get C hP.1 rfl 1 (by decide) m_81 inz4 rfl rfl dX4_add_17 ?_
  refine z_alen C hP.2.2.1 0 rfl dX4_add_20 ?_
  refine z_icmp_ge (tgt := 64) C dX4_add_21 (by decide) (fun hno => absurd hno (by omega)) (fun _ => ?_)
  refine z_aload_n C dX4_add_24 rfl ?_
  refine z_get C hP.1 rfl 0 (by decide) m_80 inz4 rfl rfl dX4_add_25 ?_
  refine z_aload_n C dX4_add_28 rfl ?_
  refine z_get C hP.1 rfl 2 (by decide) m_82 inz4 rfl rfl dX4_add_29 ?_
  refine z_iload_n C dX4_add_32 rfl ?_
  refine z_iast C hP.2.1 (by decide) dX4_add_33 ?_
  refine z_aload_n C dX4_add_34 rfl ?_
  refine z_get C (zu_k hP.1 n1) rfl 1 (by decide) m_81 inz4 rfl rfl dX4_add_35 ?_
  refine z_aload_n C dX4_add_38 rfl ?_
  refine z_get C (zu_k hP.1 n1) rfl 2 (by decide) m_82 inz4 rfl rfl dX4_add_39 ?_
  refine z_iload_n C dX4_add_42 rfl ?_
  refine z_iast C (zu_k hP.2.2.1 (by omega)) (by decide) dX4_add_43 ?_
  refine z_aload_n C dX4_add_44 rfl ?_
  refine z_dup C dX4_add_45 rfl ?_
  refine z_get C (zu_k (zu_k hP.1 n1) n2) rfl 2 (by decide) m_82 inz4 rfl rfl dX4_add_46 ?_
  refine z_iconst C dX4_add_49 ?_
  refine z_iadd C dX4_add_50 ?_
  refine z_put C (zu_k (zu_k hP.1 n1) n2) rfl tyX4 tyX4_ok nmX4 2 (by decide) m_82 inz4 rfl rfl (by rfl) (by rfl) (Nat.le_of_ble_eq_true rfl) dX4_add_51 ?_
  refine z_aload_n C dX4_add_54 rfl ?_
  refine z_iload_n C dX4_add_55 rfl ?_
  refine z_put C zu_s rfl tyX4 tyX4_ok nmX4 5 (by decide) m_85 inz4 rfl rfl (by rfl) (by rfl) (Nat.le_of_ble_eq_true rfl) dX4_add_56 ?_
  refine z_aload_n C dX4_add_59 rfl ?_
  refine z_iload_n C dX4_add_60 rfl ?_
  refine z_put C zu_s rfl tyX4 tyX4_ok nmX4 6 (by decide) m_86 inz4 rfl rfl (by rfl) (by rfl) (Nat.le_of_ble_eq_true rfl) dX4_add_61 ?_
  exact z_vret C E dX4_add_64 (Nat.le_of_ble_eq_true rfl) (Nat.le_of_ble_eq_true rfl) ⟨⟨zu_s, zu_k (zu_k (zu_k (zu_k zu_s (by omega)) (by omega)) (by omega)) (by omega), zu_k (zu_k (zu_k zu_s (by omega)) (by omega)) (by omega), zu_k (zu_k (zu_k (zu_k (zu_k hP.2.2.2 (by omega)) (by omega)) (by omega)) (by omega)) (by omega)⟩, zO.zu (zO.zu (zO.zu (zO.zu (zO.zu zO.rf (by unfold zb; omega)) (by unfold zb; omega)) (by unfold zb; omega)) (by unfold zb; omega)) (by unfold zb; omega)⟩
set_option maxRecDepth 100000 in
set_option maxHeartbeats 4000000 in
theorem c_pbegin {l : Launch} {D : va_G} {N0 : Nat} {a : Nat} {n fx fy ax ay x y : Int} {gx gy gc : Nat → Int} {μ : zM} (hP : isPen D μ a n fx fy ax ay gx gy gc) : zMet l yX4_begin cX4_begin 3 none ({ frames := 1, cells := 0, slots := 0, locals := 40 } : Room) D N0 [.ref a, zi x, zi y] μ (zQV D N0 (fun u => isPen D u a 1 x y x y (zw gx 0 x) (zw gy 0 y) gc ∧ zO (zb a 4) μ u)) := by
  refine zMet_of rfl (Nat.le_of_ble_eq_true rfl) (fun X C Rm hin E => ?_)
  refine z_aload_n C dX4_begin_0 rfl ?_
  refine z_iconst C dX4_begin_1 ?_
  refine z_put C hP.1 rfl tyX4 tyX4_ok nmX4 2 (by decide) m_82 inz4 rfl rfl (by rfl) (by rfl) (Nat.le_of_ble_eq_true rfl) dX4_begin_2 ?_
  refine z_aload_n C dX4_begin_5 rfl ?_
  refine z_iload_n C dX4_begin_6 rfl ?_
  refine z_put C zu_s rfl tyX4 tyX4_ok nmX4 3 (by decide) m_83 inz4 rfl rfl (by rfl) (by rfl) (Nat.le_of_ble_eq_true rfl) dX4_begin_7 ?_
  refine z_aload_n C dX4_begin_10 rfl ?_
  refine z_iload_n C dX4_begin_11 rfl ?_
  refine z_put C zu_s rfl tyX4 tyX4_ok nmX4 4 (by decide) m_84 inz4 rfl rfl (by rfl) (by rfl) (Nat.le_of_ble_eq_true rfl) dX4_begin_12 ?_
  have hO : zO (zb a 4) μ (zu (zu (zu μ a (.inr (4, [.ref (a + 1), .ref (a + 2), zi 0, zi fx, zi fy, zi ax, zi ay, .ref (a + 3)]))) a (.inr (4, [.ref (a + 1), .ref (a + 2), zi 0, zi x, zi fy, zi ax, zi ay, .ref (a + 3)]))) a (.inr (4, [.ref (a + 1), .ref (a + 2), zi 0, zi x, zi y, zi ax, zi ay, .ref (a + 3)]))) := zO.zu (zO.zu (zO.zu zO.rf (by unfold zb; omega)) (by unfold zb; omega)) (by unfold zb; omega)
  have hP2 : isPen D (zu (zu (zu μ a (.inr (4, [.ref (a + 1), .ref (a + 2), zi 0, zi fx, zi fy, zi ax, zi ay, .ref (a + 3)]))) a (.inr (4, [.ref (a + 1), .ref (a + 2), zi 0, zi x, zi fy, zi ax, zi ay, .ref (a + 3)]))) a (.inr (4, [.ref (a + 1), .ref (a + 2), zi 0, zi x, zi y, zi ax, zi ay, .ref (a + 3)]))) a 0 x y ax ay gx gy gc := ⟨zu_s, zu_k (zu_k (zu_k hP.2.1 (by omega)) (by omega)) (by omega), zu_k (zu_k (zu_k hP.2.2.1 (by omega)) (by omega)) (by omega), zu_k (zu_k (zu_k hP.2.2.2 (by omega)) (by omega)) (by omega)⟩
  refine z_aload_n C dX4_begin_15 rfl ?_
  refine z_iload_n C dX4_begin_16 rfl ?_
  refine z_iload_n C dX4_begin_17 rfl ?_
  refine z_cv C (z_rV C Rm qv_X4_add m_585 (c_padd hP2 (x := x) (y := y) (by omega)) hP2.1 rfl dX4_begin_18 rfl rfl (Nat.le_of_ble_eq_true rfl) rfl ⟨Nat.le_of_ble_eq_true rfl, Nat.le_of_ble_eq_true rfl, Nat.le_of_ble_eq_true rfl, Nat.le_of_ble_eq_true rfl⟩) (fun μ1 hp => ?_)
  exact z_vret C E dX4_begin_21 (Nat.le_of_ble_eq_true rfl) (Nat.le_of_ble_eq_true rfl) ⟨hp.1, hO.tr hp.2⟩
set_option maxRecDepth 100000 in
set_option maxHeartbeats 4000000 in
theorem c_pagain {l : Launch} {D : va_G} {N0 : Nat} {a : Nat} {n fx fy ax ay : Int} {gx gy gc : Nat → Int} {μ : zM} (hP : isPen D μ a n fx fy ax ay gx gy gc) : zMet l yX4_beginAnew cX4_beginAnew 1 none ({ frames := 2, cells := 0, slots := 0, locals := 80 } : Room) D N0 [.ref a] μ (zQV D N0 (fun u => isPen D u a 1 fx fy fx fy (zw gx 0 fx) (zw gy 0 fy) gc ∧ zO (zb a 4) μ u)) := by
  refine zMet_of rfl (Nat.le_of_ble_eq_true rfl) (fun X C Rm hin E => ?_)
  refine z_aload_n C dX4_beginAnew_0 rfl ?_
  refine z_aload_n C dX4_beginAnew_1 rfl ?_
  refine z_get C hP.1 rfl 3 (by decide) m_83 inz4 rfl rfl dX4_beginAnew_2 ?_
  refine z_aload_n C dX4_beginAnew_5 rfl ?_
  refine z_get C hP.1 rfl 4 (by decide) m_84 inz4 rfl rfl dX4_beginAnew_6 ?_
  refine z_cv C (z_rV C Rm qv_X4_begin m_699 (c_pbegin hP (x := fx) (y := fy)) hP.1 rfl dX4_beginAnew_9 rfl rfl (Nat.le_of_ble_eq_true rfl) rfl ⟨Nat.le_of_ble_eq_true rfl, Nat.le_of_ble_eq_true rfl, Nat.le_of_ble_eq_true rfl, Nat.le_of_ble_eq_true rfl⟩) (fun μ1 hp => ?_)
  exact z_vret C E dX4_beginAnew_12 (Nat.le_of_ble_eq_true rfl) (Nat.le_of_ble_eq_true rfl) hp
set_option maxRecDepth 100000 in
set_option maxHeartbeats 4000000 in
theorem c_fillI {l : Launch} {D : va_G} {N0 : Nat} {a n : Nat} {f : Nat → Int} {v : Int} {μ : zM} (hA : μ a = some (zAI D n f)) (hn : n < 100000) : zMet l yJ7_fill_53178 cJ7_fill_53178 4 none ({ frames := 0, cells := 0, slots := 0, locals := 0 } : Room) D N0 [.ref a, zi v] μ (zQV D N0 (fun u => u = zu μ a (zAI D n (fun _ => v)))) := by
  refine zMet_of rfl (Nat.le_of_ble_eq_true rfl) (fun X C Rm hin E => ?_)
  have loop : ∀ (m i : Nat) (y : Int) (ν : zM), i + m = n → y = (i : Int) → ν = zu μ a (zAI D n (zmx f (fun _ => v) i)) → Z X ν 0 0 5 [some (.ref a), some (zi v), some (zi y), some (zi (n : Int))] [] := by
    intro m
    induction m with
    | zero =>
      intro i y ν hi hy hν
      subst hν
      refine z_eqI C (f := zmx f (fun _ => v) i) (g := fun _ => v) (fun j hj => zmx_e (by omega)) ?_
      refine z_iload_n C dJ7_fill_53178_5 rfl ?_
      refine z_iload_n C dJ7_fill_53178_6 rfl ?_
      refine z_icmp_ge (tgt := 20) C dJ7_fill_53178_7 (by decide) (fun _ => ?_) (fun hno => absurd hno (by omega))
      exact z_vret C E dJ7_fill_53178_20 (Nat.le_of_ble_eq_true rfl) (Nat.le_of_ble_eq_true rfl) rfl
    | succ m ih =>
      intro i y ν hi hy hν
      have hA1 : ν a = some (zAI D n (zmx f (fun _ => v) i)) := by rw [hν]; exact zu_s
      refine z_iload_n C dJ7_fill_53178_5 rfl ?_
      refine z_iload_n C dJ7_fill_53178_6 rfl ?_
      refine z_icmp_ge (tgt := 20) C dJ7_fill_53178_7 (by decide) (fun hno => absurd hno (by omega)) (fun _ => ?_)
      refine z_aload_n C dJ7_fill_53178_10 rfl ?_
      refine z_iload_n C dJ7_fill_53178_11 rfl ?_
      refine z_iload_n C dJ7_fill_53178_12 rfl ?_
      refine z_iast C hA1 (by omega) dJ7_fill_53178_13 ?_
      refine z_iinc (L' := [_, _, _, _]) C dJ7_fill_53178_14 rfl rfl ?_
      refine z_goto (tgt := 5) C dJ7_fill_53178_17 (by decide) ?_
      exact ih (i + 1) _ _ (by omega) (by omega) (by rw [hν, zu_u, show y.toNat = i by omega, ← zmx_s f (fun _ => v) i])
  refine z_iconst C dJ7_fill_53178_0 ?_
  refine z_istore_n (L' := [_, _, _, _]) C dJ7_fill_53178_1 rfl ?_
  refine z_aload_n C dJ7_fill_53178_2 rfl ?_
  refine z_alen C hA 0 rfl dJ7_fill_53178_3 ?_
  refine z_istore_n (L' := [_, _, _, _]) C dJ7_fill_53178_4 rfl ?_
  exact loop n 0 0 μ (by omega) rfl (by rw [zmx_0, zu_i hA])
set_option maxRecDepth 100000 in
set_option maxHeartbeats 4000000 in
theorem c_across {l : Launch} {D : va_G} {N0 : Nat} {a : Nat} {n fx fy ax ay y x t : Int} {gx gy gc : Nat → Int} {μ : zM} (hP : isPen D μ a n fx fy ax ay gx gy gc) (hy : -1000 ≤ y ∧ y ≤ 1000) (hx : -32 ≤ x ∧ x ≤ 31) (ht : -1000 ≤ t ∧ t ≤ 1000) : zMet l yX4_addCrossing cX4_addCrossing 6 none ({ frames := 0, cells := 0, slots := 0, locals := 0 } : Room) D N0 [.ref a, zi y, zi x, zi t, zi t] μ (zQV D N0 (fun u => u = μ)) := by
  refine zMet_of rfl (Nat.le_of_ble_eq_true rfl) (fun X C Rm hin E => ?_)
  refine z_iload_n C dX4_addCrossing_0 rfl ?_
  refine z_bipush C dX4_addCrossing_1 ?_
  refine z_isub C dX4_addCrossing_3 ?_
  refine z_istore (L' := [_, _, _, _, _, _]) C dX4_addCrossing_4 rfl ?_
  refine z_iload C dX4_addCrossing_6 rfl ?_
  refine z_if_lt (tgt := 21) C dX4_addCrossing_8 (by decide) (fun hno => absurd hno (by omega)) (fun _ => ?_)
  refine z_iload C dX4_addCrossing_11 rfl ?_
  refine z_aload_n C dX4_addCrossing_13 rfl ?_
  refine z_get C hP.1 rfl 7 (by decide) m_87 inz4 rfl rfl dX4_addCrossing_14 ?_
  refine z_alen C hP.2.2.2 0 rfl dX4_addCrossing_17 ?_
  refine z_icmp_lt (tgt := 22) C dX4_addCrossing_18 (by decide) (fun _ => ?_) (fun hno => absurd hno (by omega))
  refine z_iload_n C dX4_addCrossing_22 rfl ?_
  refine z_iload_n C dX4_addCrossing_23 rfl ?_
  refine z_icmp_gt (tgt := 44) C dX4_addCrossing_24 (by decide) (fun h1 => ?_) (fun h1 => ?_)
  · refine z_iload C dX4_addCrossing_44 rfl ?_
    refine z_iload_n C dX4_addCrossing_46 rfl ?_
    refine z_icmp_gt (tgt := 66) C dX4_addCrossing_47 (by decide) (fun _ => ?_) (fun hno => absurd hno (by omega))
    exact z_vret C E dX4_addCrossing_66 (Nat.le_of_ble_eq_true rfl) (Nat.le_of_ble_eq_true rfl) rfl
  · refine z_iload_n C dX4_addCrossing_27 rfl ?_
    refine z_iload C dX4_addCrossing_28 rfl ?_
    refine z_icmp_ge (tgt := 44) C dX4_addCrossing_30 (by decide) (fun _ => ?_) (fun hno => absurd hno (by omega))
    refine z_iload C dX4_addCrossing_44 rfl ?_
    refine z_iload_n C dX4_addCrossing_46 rfl ?_
    refine z_icmp_gt (tgt := 66) C dX4_addCrossing_47 (by decide) (fun h2 => ?_) (fun h2 => ?_)
    · exact z_vret C E dX4_addCrossing_66 (Nat.le_of_ble_eq_true rfl) (Nat.le_of_ble_eq_true rfl) rfl
    · refine z_iload_n C dX4_addCrossing_50 rfl ?_
      refine z_iload_n C dX4_addCrossing_51 rfl ?_
      refine z_icmp_ge (tgt := 66) C dX4_addCrossing_52 (by decide) (fun _ => ?_) (fun hno => absurd hno (by omega))
      exact z_vret C E dX4_addCrossing_66 (Nat.le_of_ble_eq_true rfl) (Nat.le_of_ble_eq_true rfl) rfl
set_option maxRecDepth 100000 in
set_option maxHeartbeats 4000000 in
theorem c_pcross {l : Launch} {D : va_G} {N0 : Nat} {a : Nat} {ax y : Int} {gx gy : Nat → Int} {μ : zM} (hP : isPen D μ a 1 0 0 ax 0 gx gy zIz) (hy : -1000 ≤ y ∧ y ≤ 1000) : zMet l yX4_countCrossings cX4_countCrossings 3 none ({ frames := 1, cells := 0, slots := 0, locals := 40 } : Room) D N0 [.ref a, zi y] μ (zQV D N0 (fun u => u = μ)) := by
  refine zMet_of rfl (Nat.le_of_ble_eq_true rfl) (fun X C Rm hin E => ?_)
  refine z_aload_n C dX4_countCrossings_0 rfl ?_
  refine z_get C hP.1 rfl 7 (by decide) m_87 inz4 rfl rfl dX4_countCrossings_1 ?_
  refine z_iconst C dX4_countCrossings_4 ?_
  refine z_cv C (z_rS C Rm qs_J7_fill_53178 m_683 (c_fillI hP.2.2.2 (by decide)) dX4_countCrossings_5 rfl rfl (Nat.le_of_ble_eq_true rfl) rfl ⟨Nat.le_of_ble_eq_true rfl, Nat.le_of_ble_eq_true rfl, Nat.le_of_ble_eq_true rfl, Nat.le_of_ble_eq_true rfl⟩) (fun μ1 hp => ?_)
  rw [show zu μ (a + 3) (zAI D 64 (fun _ => 0)) = μ from zu_i hP.2.2.2] at hp
  subst hp
  refine z_iconst C dX4_countCrossings_8 ?_
  refine z_istore_n (L' := [_, _, _]) C dX4_countCrossings_9 rfl ?_
  refine z_iload_n C dX4_countCrossings_10 rfl ?_
  refine z_aload_n C dX4_countCrossings_11 rfl ?_
  refine z_get C hP.1 rfl 2 (by decide) m_82 inz4 rfl rfl dX4_countCrossings_12 ?_
  refine z_icmp_ge (tgt := 67) C dX4_countCrossings_15 (by decide) (fun _ => ?_) (fun hno => absurd hno (by omega))
  refine z_aload_n C dX4_countCrossings_67 rfl ?_
  refine z_iload_n C dX4_countCrossings_68 rfl ?_
  refine z_aload_n C dX4_countCrossings_69 rfl ?_
  refine z_get C hP.1 rfl 3 (by decide) m_83 inz4 rfl rfl dX4_countCrossings_70 ?_
  refine z_aload_n C dX4_countCrossings_73 rfl ?_
  refine z_get C hP.1 rfl 6 (by decide) m_86 inz4 rfl rfl dX4_countCrossings_74 ?_
  refine z_aload_n C dX4_countCrossings_77 rfl ?_
  refine z_get C hP.1 rfl 4 (by decide) m_84 inz4 rfl rfl dX4_countCrossings_78 ?_
  refine z_cv C (z_rV C Rm qv_X4_addCrossing m_686 (c_across hP (y := y) (x := 0) (t := 0) (by omega) (by omega) (by omega)) hP.1 rfl dX4_countCrossings_81 rfl rfl (Nat.le_of_ble_eq_true rfl) rfl ⟨Nat.le_of_ble_eq_true rfl, Nat.le_of_ble_eq_true rfl, Nat.le_of_ble_eq_true rfl, Nat.le_of_ble_eq_true rfl⟩) (fun μ2 hp => ?_)
  subst hp
  exact z_vret C E dX4_countCrossings_84 (Nat.le_of_ble_eq_true rfl) (Nat.le_of_ble_eq_true rfl) rfl
set_option maxRecDepth 100000 in
set_option maxHeartbeats 4000000 in
theorem c_pinside {l : Launch} {D : va_G} {N0 : Nat} {a : Nat} {n fx fy ax ay r : Int} {gx gy : Nat → Int} {μ : zM} (hP : isPen D μ a n fx fy ax ay gx gy zIz) (hr : r = 0 ∨ r = 1) : zMet l yX4_inside cX4_inside 6 (some .long) ({ frames := 0, cells := 0, slots := 0, locals := 0 } : Room) D N0 [.ref a, zi r] μ (zQL D N0 (fun z u => z = 0 ∧ u = μ)) := by
  refine zMet_of rfl (Nat.le_of_ble_eq_true rfl) (fun X C Rm hin E => ?_)
  have loop : ∀ (m : Nat) (b : Int), m ≤ 63 → b = (m : Int) → Z X μ 0 0 14 [some (.ref a), some (zi r), some (.long 0), none, some (zi 0), some (zi b)] [] := by
    intro m
    induction m with
    | zero =>
      intro b hm hb
      refine z_iload C dX4_inside_14 rfl ?_
      refine z_if_le (tgt := 65) C dX4_inside_16 (by decide) (fun _ => ?_) (fun hno => absurd hno (by omega))
      refine z_lload_n C dX4_inside_65 rfl ?_
      exact z_lret C E dX4_inside_66 (Nat.le_of_ble_eq_true rfl) (Nat.le_of_ble_eq_true rfl) ⟨rfl, rfl⟩
    | succ m ih =>
      intro b hm hb
      refine z_iload C dX4_inside_14 rfl ?_
      refine z_if_le (tgt := 65) C dX4_inside_16 (by decide) (fun hno => absurd hno (by omega)) (fun _ => ?_)
      refine z_iload C dX4_inside_19 rfl ?_
      refine z_aload_n C dX4_inside_21 rfl ?_
      refine z_get C hP.1 rfl 7 (by decide) m_87 inz4 rfl rfl dX4_inside_22 ?_
      refine z_iload C dX4_inside_25 rfl ?_
      refine z_iald C hP.2.2.2 (by decide) dX4_inside_27 ?_
      refine z_iadd C dX4_inside_28 ?_
      refine z_istore (L' := [_, _, _, _, _, _]) C dX4_inside_29 rfl ?_
      refine z_iload_n C dX4_inside_31 rfl ?_
      rw [show (0 : Int) + zIz b.toNat = 0 from rfl]
      refine z_if_ne (tgt := 45) C dX4_inside_32 (by decide) (fun h1 => ?_) (fun h1 => ?_)
      · refine z_iload C dX4_inside_45 rfl ?_
        refine z_if_eq (tgt := 59) C dX4_inside_47 (by decide) (fun _ => ?_) (fun hno => absurd hno (by omega))
        refine z_iinc (L' := [_, _, _, _, _, _]) C dX4_inside_59 rfl rfl ?_
        refine z_goto (tgt := 14) C dX4_inside_62 (by decide) ?_
        exact ih _ (by omega) (by omega)
      · refine z_iload C dX4_inside_35 rfl ?_
        refine z_iconst C dX4_inside_37 ?_
        refine z_iand C dX4_inside_38 (show Int32.ofInt 0 &&& Int32.ofInt 1 = Int32.ofInt 0 from rfl) ?_
        refine z_if_eq (tgt := 59) C dX4_inside_39 (by decide) (fun _ => ?_) (fun hno => absurd hno (by omega))
        refine z_iinc (L' := [_, _, _, _, _, _]) C dX4_inside_59 rfl rfl ?_
        refine z_goto (tgt := 14) C dX4_inside_62 (by decide) ?_
        exact ih _ (by omega) (by omega)
  refine z_lconst_0 C dX4_inside_0 ?_
  refine z_lstore_n (L' := [_, _, _, _, _, _]) C dX4_inside_1 rfl ?_
  refine z_iconst C dX4_inside_2 ?_
  refine z_istore (L' := [_, _, _, _, _, _]) C dX4_inside_3 rfl ?_
  refine z_aload_n C dX4_inside_5 rfl ?_
  refine z_get C hP.1 rfl 7 (by decide) m_87 inz4 rfl rfl dX4_inside_6 ?_
  refine z_alen C hP.2.2.2 0 rfl dX4_inside_9 ?_
  refine z_iconst C dX4_inside_10 ?_
  refine z_isub C dX4_inside_11 ?_
  refine z_istore (L' := [_, _, _, _, _, _]) C dX4_inside_12 rfl ?_
  exact loop 63 _ (by omega) rfl
set_option maxRecDepth 100000 in
set_option maxHeartbeats 4000000 in
theorem c_pput {l : Launch} {D : va_G} {N0 : Nat} {a o : Nat} {ax r : Int} {gx gy : Nat → Int} {μ : zM} (hP : isPen D μ a 1 0 0 ax 0 gx gy zIz) (hF : isF D μ o zF) (hr : r = 0 ∨ r = 1) : zMet l yX4_putInside cX4_putInside 4 none ({ frames := 2, cells := 0, slots := 0, locals := 80 } : Room) D N0 [.ref a, .ref o, zi r] μ (zQV D N0 (fun u => u = μ)) := by
  refine zMet_of rfl (Nat.le_of_ble_eq_true rfl) (fun X C Rm hin E => ?_)
  have loop : ∀ (n i : Nat) (y : Int), i + n = 64 → y = -32 + (i : Int) → Z X μ 0 0 3 [some (.ref a), some (.ref o), some (zi r), some (zi y)] [] := by
    intro n
    induction n with
    | zero =>
      intro i y hi hy
      refine z_iload_n C dX4_putInside_3 rfl ?_
      refine z_bipush C dX4_putInside_4 ?_
      refine z_icmp_gt (tgt := 30) C dX4_putInside_6 (by decide) (fun _ => ?_) (fun hno => absurd hno (by omega))
      exact z_vret C E dX4_putInside_30 (Nat.le_of_ble_eq_true rfl) (Nat.le_of_ble_eq_true rfl) rfl
    | succ n ih =>
      intro i y hi hy
      refine z_iload_n C dX4_putInside_3 rfl ?_
      refine z_bipush C dX4_putInside_4 ?_
      refine z_icmp_gt (tgt := 30) C dX4_putInside_6 (by decide) (fun hno => absurd hno (by omega)) (fun _ => ?_)
      refine z_aload_n C dX4_putInside_9 rfl ?_
      refine z_iload_n C dX4_putInside_10 rfl ?_
      refine z_cv C (z_rV C Rm qv_X4_countCrossings m_679 (c_pcross hP (y := y) (by omega)) hP.1 rfl dX4_putInside_11 rfl rfl (Nat.le_of_ble_eq_true rfl) rfl ⟨Nat.le_of_ble_eq_true rfl, Nat.le_of_ble_eq_true rfl, Nat.le_of_ble_eq_true rfl, Nat.le_of_ble_eq_true rfl⟩) (fun μ1 hp => ?_)
      subst hp
      refine z_aload_n C dX4_putInside_14 rfl ?_
      refine z_iload_n C dX4_putInside_15 rfl ?_
      refine z_aload_n C dX4_putInside_16 rfl ?_
      refine z_iload_n C dX4_putInside_17 rfl ?_
      refine z_cl C (z_rV C Rm qv_X4_inside m_690 (c_pinside hP hr) hP.1 rfl dX4_putInside_18 rfl rfl (Nat.le_of_ble_eq_true rfl) rfl ⟨Nat.le_of_ble_eq_true rfl, Nat.le_of_ble_eq_true rfl, Nat.le_of_ble_eq_true rfl, Nat.le_of_ble_eq_true rfl⟩) (fun z μ1 hp => ?_)
      obtain ⟨rfl, rfl⟩ := hp
      refine z_cv C (z_rV C Rm qv_X0_putRow m_694 (c_putRow hF (y := y) (by omega) (v := 0)) hF.1 rfl dX4_putInside_21 rfl rfl (Nat.le_of_ble_eq_true rfl) rfl ⟨Nat.le_of_ble_eq_true rfl, Nat.le_of_ble_eq_true rfl, Nat.le_of_ble_eq_true rfl, Nat.le_of_ble_eq_true rfl⟩) (fun μ2 hp => ?_)
      rw [setF_z hF] at hp
      subst hp
      refine z_iinc (L' := [_, _, _, _]) C dX4_putInside_24 rfl rfl ?_
      refine z_goto (tgt := 3) C dX4_putInside_27 (by decide) ?_
      exact ih (i + 1) _ (by omega) (by omega)
  refine z_bipush C dX4_putInside_0 ?_
  refine z_istore_n (L' := [_, _, _, _]) C dX4_putInside_2 rfl ?_
  exact loop 64 0 _ rfl rfl
-- ---- the history
def isHi (D : va_G) (μ : zM) (a : Nat) (lt ct : Int) (kr : Nat → Int) : Prop := μ a = some (.inr (2, [.ref (a + 1), .ref (a + 2), zi lt, zi ct])) ∧ μ (a + 1) = some (zAF D 12 (fun k => some (a + 3 + 2 * k))) ∧ μ (a + 2) = some (zAI D 12 kr)
set_option maxRecDepth 100000 in
set_option maxHeartbeats 4000000 in
theorem c_hcount {l : Launch} {D : va_G} {N0 : Nat} {a : Nat} {lt ct : Int} {kr : Nat → Int} {μ : zM} (hH : isHi D μ a lt ct kr) : zMet l yX2_count cX2_count 1 (some .int) ({ frames := 0, cells := 0, slots := 0, locals := 0 } : Room) D N0 [.ref a] μ (zQI D N0 (fun z u => z = ct ∧ u = μ)) := by
  refine zMet_of rfl (Nat.le_of_ble_eq_true rfl) (fun X C Rm hin E => ?_)
  refine z_aload_n C dX2_count_0 rfl ?_
  refine z_get C hH.1 rfl 3 (by decide) m_117 inz2 rfl rfl dX2_count_1 ?_
  exact z_iret C E dX2_count_4 (Nat.le_of_ble_eq_true rfl) (Nat.le_of_ble_eq_true rfl) ⟨rfl, rfl⟩
set_option maxRecDepth 100000 in
set_option maxHeartbeats 4000000 in
theorem c_isAt {l : Launch} {D : va_G} {N0 : Nat} {a : Nat} {lt ct x : Int} {kr : Nat → Int} {μ : zM} (hH : isHi D μ a lt ct kr) (hx : 0 ≤ x ∧ x < 12) : zMet l yX2_isAt cX2_isAt 2 (some .boolean) ({ frames := 0, cells := 0, slots := 0, locals := 0 } : Room) D N0 [.ref a, zi x] μ (zQI D N0 (fun z u => z = 1 ∧ u = μ)) := by
  refine zMet_of rfl (Nat.le_of_ble_eq_true rfl) (fun X C Rm hin E => ?_)
  refine z_iload_n C dX2_isAt_0 rfl ?_
  refine z_if_lt (tgt := 26) C dX2_isAt_1 (by decide) (fun hno => absurd hno (by omega)) (fun _ => ?_)
  refine z_iload_n C dX2_isAt_4 rfl ?_
  refine z_aload_n C dX2_isAt_5 rfl ?_
  refine z_get C hH.1 rfl 0 (by decide) m_114 inz2 rfl rfl dX2_isAt_6 ?_
  refine z_alen C hH.2.1 4 rfl dX2_isAt_9 ?_
  refine z_icmp_ge (tgt := 26) C dX2_isAt_10 (by decide) (fun hno => absurd hno (by omega)) (fun _ => ?_)
  refine z_iload_n C dX2_isAt_13 rfl ?_
  refine z_aload_n C dX2_isAt_14 rfl ?_
  refine z_get C hH.1 rfl 1 (by decide) m_115 inz2 rfl rfl dX2_isAt_15 ?_
  refine z_alen C hH.2.2 0 rfl dX2_isAt_18 ?_
  refine z_icmp_ge (tgt := 26) C dX2_isAt_19 (by decide) (fun hno => absurd hno (by omega)) (fun _ => ?_)
  refine z_iconst C dX2_isAt_22 ?_
  refine z_goto (tgt := 27) C dX2_isAt_23 (by decide) ?_
  exact z_zret C E (Or.inr rfl) dX2_isAt_27 (Nat.le_of_ble_eq_true rfl) (Nat.le_of_ble_eq_true rfl) ⟨rfl, rfl⟩
set_option maxRecDepth 100000 in
set_option maxHeartbeats 4000000 in
theorem c_keep {l : Launch} {D : va_G} {N0 : Nat} {a o : Nat} {r : Int} {kr : Nat → Int} {μ : zM} (hH : isHi D μ a 0 0 kr) (hK : isF D μ (a + 5) zF) (hF : isF D μ o zF) (hne : o ≠ a + 5) (ho : o ≠ a ∧ o + 1 ≠ a) : zMet l yX2_keep cX2_keep 3 none ({ frames := 2, cells := 0, slots := 0, locals := 80 } : Room) D N0 [.ref a, zi r, .ref o] μ (zQV D N0 (fun u => zO (fun q => q = a ∨ q = a + 2) μ u)) := by
  refine zMet_of rfl (Nat.le_of_ble_eq_true rfl) (fun X C Rm hin E => ?_)
  refine z_aload_n C dX2_keep_0 rfl ?_
  refine z_aload_n C dX2_keep_1 rfl ?_
  refine z_get C hH.1 rfl 2 (by decide) m_116 inz2 rfl rfl dX2_keep_2 ?_
  refine z_iconst C dX2_keep_5 ?_
  refine z_iadd C dX2_keep_6 ?_
  refine z_bipush C dX2_keep_7 ?_
  refine z_icmp_ge (tgt := 21) C dX2_keep_9 (by decide) (fun hno => absurd hno (by omega)) (fun _ => ?_)
  refine z_aload_n C dX2_keep_12 rfl ?_
  refine z_get C hH.1 rfl 2 (by decide) m_116 inz2 rfl rfl dX2_keep_13 ?_
  refine z_iconst C dX2_keep_16 ?_
  refine z_iadd C dX2_keep_17 ?_
  refine z_goto (tgt := 22) C dX2_keep_18 (by decide) ?_
  refine z_put C hH.1 rfl tyX2 tyX2_ok nmX2 2 (by decide) m_116 inz2 rfl rfl (by rfl) (by rfl) (Nat.le_of_ble_eq_true rfl) dX2_keep_22 ?_
  have e1 : zu μ a (.inr (2, List.set [.ref (a + 1), .ref (a + 2), zi 0, zi 0] 2 (zi (0 + 1)))) a = some (.inr (2, [.ref (a + 1), .ref (a + 2), zi 1, zi 0])) := zu_s
  refine z_aload_n C dX2_keep_25 rfl ?_
  refine z_aload_n C dX2_keep_26 rfl ?_
  refine z_get C e1 rfl 3 (by decide) m_117 inz2 rfl rfl dX2_keep_27 ?_
  refine z_iconst C dX2_keep_30 ?_
  refine z_iadd C dX2_keep_31 ?_
  refine z_bipush C dX2_keep_32 ?_
  refine z_mmin C Rm m_674 m_347 m_50 m_348 dX2_keep_34 rfl ⟨Nat.le_of_ble_eq_true rfl, Nat.le_of_ble_eq_true rfl, Nat.le_of_ble_eq_true rfl, Nat.le_of_ble_eq_true rfl⟩ ?_
  refine z_put C e1 rfl tyX2 tyX2_ok nmX2 3 (by decide) m_117 inz2 rfl rfl (by rfl) (by rfl) (Nat.le_of_ble_eq_true rfl) dX2_keep_37 ?_
  have hH2 : isHi D (zu (zu μ a (.inr (2, List.set [.ref (a + 1), .ref (a + 2), zi 0, zi 0] 2 (zi (0 + 1))))) a (.inr (2, List.set [.ref (a + 1), .ref (a + 2), zi 1, zi 0] 3 (zi (min (0 + 1) 12))))) a 1 1 kr := ⟨zu_s, zu_k (zu_k hH.2.1 (by omega)) (by omega), zu_k (zu_k hH.2.2 (by omega)) (by omega)⟩
  have hO : zO (fun q => q = a ∨ q = a + 2) μ (zu (zu μ a (.inr (2, List.set [.ref (a + 1), .ref (a + 2), zi 0, zi 0] 2 (zi (0 + 1))))) a (.inr (2, List.set [.ref (a + 1), .ref (a + 2), zi 1, zi 0] 3 (zi (min (0 + 1) 12))))) := zO.zu (zO.zu zO.rf (Or.inl rfl)) (Or.inl rfl)
  generalize zu (zu μ a (.inr (2, List.set [.ref (a + 1), .ref (a + 2), zi 0, zi 0] 2 (zi (0 + 1))))) a (.inr (2, List.set [.ref (a + 1), .ref (a + 2), zi 1, zi 0] 3 (zi (min (0 + 1) 12)))) = ν at hH2 hO ⊢
  have hO1 : zO (fun q => q = a) μ ν ∨ True := Or.inr trivial
  refine z_aload_n C dX2_keep_40 rfl ?_
  refine z_aload_n C dX2_keep_41 rfl ?_
  refine z_get C hH2.1 rfl 2 (by decide) m_116 inz2 rfl rfl dX2_keep_42 ?_
  refine z_ci C (z_rV C Rm qv_X2_isAt m_261 (c_isAt hH2 (x := 1) (by omega)) hH2.1 rfl dX2_keep_45 rfl rfl (Nat.le_of_ble_eq_true rfl) rfl ⟨Nat.le_of_ble_eq_true rfl, Nat.le_of_ble_eq_true rfl, Nat.le_of_ble_eq_true rfl, Nat.le_of_ble_eq_true rfl⟩) (fun z μ1 hp => ?_)
  obtain ⟨rfl, rfl⟩ := hp
  refine z_if_eq (tgt := 74) C dX2_keep_48 (by decide) (fun hno => absurd hno (by omega)) (fun _ => ?_)
  have n5 : isF D μ1 (a + 5) zF := hK.o hO (by omega) (by omega)
  have nF : isF D μ1 o zF := by
    refine hF.o hO ?_ ?_
    · have h9 := hF.1
      intro q
      rcases q with q | q
      · exact ho.1 q
      · rw [q, hH.2.2] at h9
        cases h9
    · have h9 := hF.2
      intro q
      rcases q with q | q
      · exact ho.2 q
      · rw [q, hH.2.2] at h9
        simp [zAL, zAI] at h9
  refine z_aload_n C dX2_keep_51 rfl ?_
  refine z_get C hH2.1 rfl 0 (by decide) m_114 inz2 rfl rfl dX2_keep_52 ?_
  refine z_aload_n C dX2_keep_55 rfl ?_
  refine z_get C hH2.1 rfl 2 (by decide) m_116 inz2 rfl rfl dX2_keep_56 ?_
  refine z_fald C hH2.2.1 (by decide) (show _ = some (a + 5) from rfl) dX2_keep_59 ?_
  refine z_aload_n C dX2_keep_60 rfl ?_
  refine z_cv C (z_rV C Rm qv_X0_copy m_269 (c_copy n5 nF hne) n5.1 rfl dX2_keep_61 rfl rfl (Nat.le_of_ble_eq_true rfl) rfl ⟨Nat.le_of_ble_eq_true rfl, Nat.le_of_ble_eq_true rfl, Nat.le_of_ble_eq_true rfl, Nat.le_of_ble_eq_true rfl⟩) (fun μ2 hp => ?_)
  rw [setF_i n5] at hp
  subst hp
  refine z_aload_n C dX2_keep_64 rfl ?_
  refine z_get C hH2.1 rfl 1 (by decide) m_115 inz2 rfl rfl dX2_keep_65 ?_
  refine z_aload_n C dX2_keep_68 rfl ?_
  refine z_get C hH2.1 rfl 2 (by decide) m_116 inz2 rfl rfl dX2_keep_69 ?_
  refine z_iload_n C dX2_keep_72 rfl ?_
  refine z_iast C hH2.2.2 (by decide) dX2_keep_73 ?_
  exact z_vret C E dX2_keep_74 (Nat.le_of_ble_eq_true rfl) (Nat.le_of_ble_eq_true rfl) (hO.zu (Or.inr rfl))
set_option maxRecDepth 100000 in
set_option maxHeartbeats 4000000 in
theorem c_latest {l : Launch} {D : va_G} {N0 : Nat} {a : Nat} {lt : Int} {kr : Nat → Int} {μ : zM} (hH : isHi D μ a lt 0 kr) : zMet l yX2_latestRegion cX2_latestRegion 1 (some .int) ({ frames := 0, cells := 0, slots := 0, locals := 0 } : Room) D N0 [.ref a] μ (zQI D N0 (fun z u => z = -1 ∧ u = μ)) := by
  refine zMet_of rfl (Nat.le_of_ble_eq_true rfl) (fun X C Rm hin E => ?_)
  refine z_aload_n C dX2_latestRegion_0 rfl ?_
  refine z_get C hH.1 rfl 3 (by decide) m_117 inz2 rfl rfl dX2_latestRegion_1 ?_
  refine z_if_le (tgt := 30) C dX2_latestRegion_4 (by decide) (fun _ => ?_) (fun hno => absurd hno (by omega))
  refine z_iconst C dX2_latestRegion_30 ?_
  exact z_iret C E dX2_latestRegion_31 (Nat.le_of_ble_eq_true rfl) (Nat.le_of_ble_eq_true rfl) ⟨rfl, rfl⟩
