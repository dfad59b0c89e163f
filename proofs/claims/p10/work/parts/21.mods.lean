/-! Pen, History, Flood, Outline, StripWalk, as they are on a new object -/
def zO (P : Nat → Prop) (μ u : zM) : Prop := ∀ q, ¬ P q → u q = μ q
def zb (a n : Nat) : Nat → Prop := fun q => a ≤ q ∧ q < a + n
theorem zO.rf {P : Nat → Prop} {μ : zM} : zO P μ μ := fun _ _ => rfl
theorem zO.tr {P : Nat → Prop} {μ ν u : zM} (h : zO P μ ν) (h2 : zO P ν u) : zO P μ u := fun q hq => (h2 q hq).trans (h q hq)
theorem zO.mo {P Q : Nat → Prop} {μ u : zM} (h : zO P μ u) (hPQ : ∀ q, P q → Q q) : zO Q μ u := fun q hq => h q (fun hp => hq (hPQ q hp))
theorem zO.zu {P : Nat → Prop} {μ u : zM} {a : Nat} {e : va_E} (h : zO P μ u) (ha : P a) : zO P μ (zu u a e) := fun q hq => (zu_n (fun hqa => hq (by rw [hqa]; exact ha))).trans (h q hq)
theorem zO.at {P : Nat → Prop} {μ u : zM} {a : Nat} {x : Option va_E} (h : zO P μ u) (ha : ¬ P a) (hx : μ a = x) : u a = x := (h a ha).trans hx
theorem isF.o {D : va_G} {P : Nat → Prop} {μ u : zM} {o : Nat} {f : Nat → Int64} (h : isF D μ o f) (hO : zO P μ u) (h1 : ¬ P o) (h2 : ¬ P (o + 1)) : isF D u o f := ⟨hO.at h1 h.1, hO.at h2 h.2⟩
theorem z_canL {X : zX} {l : Launch} {D : va_G} {N0 : Nat} {cc : ByteArray} {nL : Nat} {own : String} {Ts : List Cond} {μ : zM} {kc kn pc : Nat} {L : List (Option Value)} {st : List Value} (C : zC X l D N0 cc nL own Ts) {a n : Nat} {f g : Nat → Int64} (hm : μ a = some (zAL D n f)) (h : ∀ j, j < n → f j = g j) (k : Z X (zu μ a (zAL D n g)) kc kn pc L st) : Z X μ kc kn pc L st := by
  have h1 := z_eqL C (μ := μ) h k
  rwa [zu_i hm] at h1
def zIz : Nat → Int := fun _ => 0
-- ---- the pen
def isPen (D : va_G) (μ : zM) (a : Nat) (n fx fy ax ay : Int) (gx gy gc : Nat → Int) : Prop := μ a = some (.inr (4, [.ref (a + 1), .ref (a + 2), zi n, zi fx, zi fy, zi ax, zi ay, .ref (a + 3)])) ∧ μ (a + 1) = some (zAI D 60 gx) ∧ μ (a + 2) = some (zAI D 60 gy) ∧ μ (a + 3) = some (zAI D 64 gc)
theorem isPen.o {D : va_G} {P : Nat → Prop} {μ u : zM} {a : Nat} {n fx fy ax ay : Int} {gx gy gc : Nat → Int} (h : isPen D μ a n fx fy ax ay gx gy gc) (hO : zO P μ u) (hP : ∀ q, a ≤ q → q < a + 4 → ¬ P q) : isPen D u a n fx fy ax ay gx gy gc := ⟨hO.at (hP _ (by omega) (by omega)) h.1, hO.at (hP _ (by omega) (by omega)) h.2.1, hO.at (hP _ (by omega) (by omega)) h.2.2.1, hO.at (hP _ (by omega) (by omega)) h.2.2.2⟩
set_option maxRecDepth 100000 in
set_option maxHeartbeats 4000000 in
theorem c_plen {l : Launch} {D : va_G} {N0 : Nat} {a : Nat} {n fx fy ax ay : Int} {gx gy gc : Nat → Int} {μ : zM} (hP : isPen D μ a n fx fy ax ay gx gy gc) : zMet l yX4_length cX4_length 1 (some .int) ({ frames := 0, cells := 0, slots := 0, locals := 0 } : Room) D N0 [.ref a] μ (zQI D N0 (fun z u => z = n ∧ u = μ)) := by
  refine zMet_of rfl (Nat.le_of_ble_eq_true rfl) (fun X C Rm hin E => ?_)
  refine z_aload_n C dX4_length_0 rfl ?_
  refine z_get C hP.1 rfl 2 (by decide) m_82 inz4 rfl rfl dX4_length_1 ?_
  exact z_iret C E dX4_length_4 (Nat.le_of_ble_eq_true rfl) (Nat.le_of_ble_eq_true rfl) ⟨rfl, rfl⟩
-- ---- the history
def isHi (D : va_G) (μ : zM) (a : Nat) (lt ct : Int) (kr : Nat → Int) : Prop := μ a = some (.inr (2, [.ref (a + 1), .ref (a + 2), zi lt, zi ct])) ∧ μ (a + 1) = some (zAF D 12 (fun k => some (a + 3 + 2 * k))) ∧ μ (a + 2) = some (zAI D 12 kr)
set_option maxRecDepth 100000 in
set_option maxHeartbeats 4000000 in
theorem c_hcount {l : Launch} {D : va_G} {N0 : Nat} {a : Nat} {lt ct : Int} {kr : Nat → Int} {μ : zM} (hH : isHi D μ a lt ct kr) : zMet l yX2_count cX2_count 1 (some .int) ({ frames := 0, cells := 0, slots := 0, locals := 0 } : Room) D N0 [.ref a] μ (zQI D N0 (fun z u => z = ct ∧ u = μ)) := by
  refine zMet_of rfl (Nat.le_of_ble_eq_true rfl) (fun X C Rm hin E => ?_)
  refine z_aload_n C dX2_count_0 rfl ?_
  refine z_get C hH.1 rfl 3 (by decide) m_117 inz2 rfl rfl dX2_count_1 ?_
  exact z_iret C E dX2_count_4 (Nat.le_of_ble_eq_true rfl) (Nat.le_of_ble_eq_true rfl) ⟨rfl, rfl⟩
