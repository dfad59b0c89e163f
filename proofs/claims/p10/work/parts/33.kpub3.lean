-- ---- changes
/-- on a region that is empty all the same -/
abbrev zXR (K : Nat) (μ : zM) (r : Int) (P : Prop) (En : String) (u : zM) : Prop := (En = eIOB ∧ ¬ (0 ≤ r ∧ r < 8) ∨ En = eIAE ∧ (0 ≤ r ∧ r < 8) ∧ ¬ P) ∧ zKO K μ u
