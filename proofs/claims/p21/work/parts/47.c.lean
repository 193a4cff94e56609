/-! nothing of this part is needed here -/
