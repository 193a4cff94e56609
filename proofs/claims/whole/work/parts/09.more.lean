/-! fewer locals, by combinators -/
theorem xw_le_e {u : List (Option Value)} : xw_le [] u := trivial
theorem xw_le_s {v : Value} {t u : List (Option Value)} (h : xw_le t u) : xw_le (some v :: t) (some v :: u) := ⟨rfl, h⟩
theorem xw_le_n {w : Option Value} {t u : List (Option Value)} (h : xw_le t u) : xw_le (none :: t) (w :: u) := h
