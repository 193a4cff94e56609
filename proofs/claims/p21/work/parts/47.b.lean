/-! the reference in general states: by program (wip/tools/gen5.py, gen6.py, gen7.py) -/
def EvP (m begins_ lasts_ : Nat) (gs : List Value) (h0 h : xw_A) : Prop := ∃ (cl : Int32) (fb fl : Nat → Int32) (fs : List Value), fs.length = 62 ∧ h m = some (.inr (11, fs)) ∧ fs[(55 : Nat)]? = some (.int cl) ∧ (∀ i : Nat, i ∉ [55] → fs[i]? = gs[i]?) ∧ h begins_ = some (.inl (0, 24, .inl fb)) ∧ h lasts_ = some (.inl (0, 24, .inl fl)) ∧ FrO [m, begins_, lasts_] h0 h
theorem nI_m1 (n : Nat) : nI (n + 1) + (-1) = nI n := by rw [← Int32.sub_eq_add_neg, nI_pred]
