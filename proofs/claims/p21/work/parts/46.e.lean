/-- the phrases' tokens -/
def PhO (c1 : Nat → Int32) (p t : Nat) : Prop := ∀ j, j < p → ∃ a b, c1 j = nI a ∧ c1 (j + 1) = nI b ∧ a ≤ b ∧ b ≤ t
theorem PhO.new {c1 c1' : Nat → Int32} {p t t' : Nat} (h : PhO c1 p t) (ht : t ≤ t') (h1 : c1' p = nI t) (h2 : c1' (p + 1) = nI t') (h3 : ∀ k, k < p → c1' k = c1 k) : PhO c1' (p + 1) t' := fun j hj => by
  by_cases q : j = p
  · subst q
    exact ⟨t, t', h1, h2, ht, Nat.le_refl _⟩
  · obtain ⟨a, b, e1, e2, e3, e4⟩ := h j (by omega)
    by_cases q2 : j + 1 = p
    · exact ⟨a, t, by rw [h3 j (by omega)]; exact e1, by rw [q2]; exact h1, by omega, ht⟩
    · exact ⟨a, b, by rw [h3 j (by omega)]; exact e1, by rw [h3 (j + 1) (by omega)]; exact e2, e3, by omega⟩
