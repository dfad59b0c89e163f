/-! the parts of what is not in a region that has nothing: one, that is everything -/
theorem cntZ_out {g : Nat → Int} {k : Nat} {x : Int} : ∀ n : Nat, n ≤ k → cntZ (zw g k x) n = cntZ g n
  | 0, _ => rfl
  | n + 1, h => by
    show cntZ (zw g k x) n + (if zw g k x n = 0 then 0 else 1) = cntZ g n + (if g n = 0 then 0 else 1)
    rw [cntZ_out n (by omega), zw_n (show n ≠ k by omega)]
theorem cntZ_add {g : Nat → Int} {k : Nat} (h0 : g k = 0) : ∀ n : Nat, k < n → cntZ (zw g k 1) n = cntZ g n + 1
  | 0, h => by omega
  | n + 1, h => by
    show cntZ (zw g k 1) n + (if zw g k 1 n = 0 then 0 else 1) = cntZ g n + (if g n = 0 then 0 else 1) + 1
    by_cases e : k = n
    · subst e
      rw [cntZ_out k (Nat.le_refl _), zw_s, if_neg (by decide), if_pos h0]
      omega
    · rw [cntZ_add h0 n (by omega), zw_n (show n ≠ k by omega)]
      omega
theorem cntZ_lt {g : Nat → Int} {k n : Nat} (h0 : g k = 0) (h : k < n) : cntZ g n < n := by
  have h1 := cntZ_add h0 n h
  have h2 := cntZ_b (zw g k 1) n
  omega
def bfI (g w : Nat → Int) (e : Int) : Prop := (∀ j, j < 4356 → g j = 0 ∨ g j = 1) ∧ cntZ g 4356 = e ∧ (∀ i : Nat, (i : Int) < e → (0 ≤ w i ∧ w i < 4356) ∧ g (w i).toNat = 1) ∧ (∀ j, j < 4356 → g j = 1 → ∃ i : Nat, (i : Int) < e ∧ w i = (j : Int)) ∧ g 0 = 1
def bfN (c : Int) (j : Nat) (d : Int) : Prop := (j : Int) % 66 = c % 66 + (d % 3 - 1) ∧ (j : Int) / 66 = c / 66 + (d / 3 - 1)
def bfD (g w : Nat → Int) (f : Int) : Prop := ∀ i : Nat, (i : Int) < f → ∀ (d : Int) (j : Nat), 0 ≤ d ∧ d < 9 → j < 4356 → bfN (w i) j d → g j = 1
theorem bf_mo {g : Nat → Int} {k j : Nat} (h : g j = 1) : zw g k 1 j = 1 := by
  by_cases e : j = k
  · subst e; exact zw_s
  · rw [zw_n e]; exact h
theorem bf_add {g w : Nat → Int} {e : Int} {k : Nat} (h : bfI g w e) (hk : k < 4356) (h0 : g k = 0) : bfI (zw g k 1) (zw w e.toNat k) (e + 1) ∧ 0 ≤ e ∧ e < 4356 := by
  obtain ⟨a, b, c, d, z⟩ := h
  have hb := cntZ_b g 4356
  have hlt := cntZ_lt h0 hk
  refine ⟨⟨fun j hj => ?_, by rw [cntZ_add h0 4356 hk, b], fun i hi => ?_, fun j hj h1 => ?_, bf_mo z⟩, by omega, by omega⟩
  · by_cases q : j = k
    · subst q; exact Or.inr zw_s
    · rw [zw_n q]; exact a j hj
  · by_cases q : i = e.toNat
    · subst q
      rw [zw_s]
      exact ⟨by omega, by rw [show ((k : Int)).toNat = k by omega]; exact zw_s⟩
    · rw [zw_n q]
      obtain ⟨c1, c2⟩ := c i (by omega)
      exact ⟨c1, bf_mo c2⟩
  · by_cases q : j = k
    · subst q
      exact ⟨e.toNat, by omega, zw_s⟩
    · rw [zw_n q] at h1
      obtain ⟨i, i1, i2⟩ := d j hj h1
      exact ⟨i, by omega, by rw [zw_n (show i ≠ e.toNat by omega)]; exact i2⟩
theorem bf_keep {g w : Nat → Int} {e f : Int} {k : Nat} (h : bfD g w f) (hf : f ≤ e) : bfD (zw g k 1) (zw w e.toNat k) f := fun i hi d j hd hj hn => by
  rw [zw_n (show i ≠ e.toNat by omega)] at hn
  exact bf_mo (h i hi d j hd hj hn)
theorem bf_fin {g w : Nat → Int} {e : Int} (h : bfI g w e) (hD : bfD g w e) : ∀ j : Nat, j < 4356 → g j = 1 := by
  obtain ⟨a, b, c, d, z⟩ := h
  intro j
  induction j using Nat.strongRecOn with
  | _ j ih =>
    intro hj
    by_cases h0 : j = 0
    · subst h0; exact z
    by_cases h1 : j % 66 = 0
    · obtain ⟨i, i1, i2⟩ := d (j - 66) (by omega) (ih (j - 66) (by omega) (by omega))
      exact hD i i1 7 j (by omega) hj ⟨by rw [i2]; omega, by rw [i2]; omega⟩
    · obtain ⟨i, i1, i2⟩ := d (j - 1) (by omega) (ih (j - 1) (by omega) (by omega))
      exact hD i i1 5 j (by omega) hj ⟨by rw [i2]; omega, by rw [i2]; omega⟩
