/-! the reference in general states: by program (wip/tools/gen3.py, gen4.py, gen5.py) -/
/-! HOW MANY SEGMENTS CAN BE MADE: a potential on the numbers of segments of the levels 0 to 4 -/
def phiT : List Nat := [0, 0, 0, 0, 1, 1, 0, 1, 1, 0, 0, 0, 0, 3, 3, 1, 3, 3, 0, 1, 1, 0, 3, 3, 1, 3, 3, 0, 0, 0, 0, 1, 1, 0, 1, 1, 0, 1, 1, 2, 5, 5, 3, 5, 5, 1, 3, 3, 2, 5, 5, 3, 5, 5, 0, 1, 1, 0, 3, 3, 1, 3, 3, 0, 1, 1, 2, 5, 5, 3, 5, 5, 1, 3, 3, 2, 5, 5, 3, 5, 5, 0, 0, 0, 0, 1, 1, 0, 1, 1, 0, 0, 0, 0, 3, 3, 1, 3, 3, 0, 1, 1, 0, 3, 3, 1, 3, 3, 0, 0, 0, 0, 1, 1, 2, 2, 2, 0, 3, 3, 4, 7, 7, 5, 7, 7, 3, 5, 5, 4, 7, 7, 5, 7, 7, 1, 3, 3, 2, 5, 5, 3, 5, 5, 1, 3, 3, 4, 7, 7, 5, 7, 7, 3, 5, 5, 4, 7, 7, 5, 7, 7, 0, 1, 1, 0, 3, 3, 1, 3, 3, 0, 1, 1, 2, 5, 5, 3, 5, 5, 1, 3, 3, 2, 5, 5, 3, 5, 5, 0, 1, 1, 0, 3, 3, 2, 3, 3, 0, 3, 3, 4, 7, 7, 5, 7, 7, 3, 5, 5, 4, 7, 7, 5, 7, 7, 1, 3, 3, 2, 5, 5, 3, 5, 5, 1, 3, 3, 4, 7, 7, 5, 7, 7, 3, 5, 5, 4, 7, 7, 5, 7, 7]
def phi2 (a b c d e : Nat) : Nat := phiT.getD (a + 3 * b + 9 * c + 27 * d + 81 * e) 0
theorem phi2_le (a b c d e : Nat) : phi2 a b c d e ≤ 7 := by
  have h : ∀ i, i < 243 → phiT.getD i 0 ≤ 7 := by decide +kernel
  unfold phi2
  rcases Nat.lt_or_ge (a + 3 * b + 9 * c + 27 * d + 81 * e) 243 with q | q
  · exact h _ q
  · rw [List.getD_eq_getElem?_getD, List.getElem?_eq_none (by exact q)]
    exact Nat.zero_le _
def gm4 (a b c d e : Nat) : Nat := max (phi2 a b c d e) (if e = 2 then max (phi2 a b c d 0) (2 + phi2 a b c d 0) else 0)
def gm3 (a b c d e : Nat) : Nat := max (gm4 a b c d e) (if d = 2 then max (gm4 a b c 0 e) (2 + gm4 a b c 0 (min 2 (e + 1))) else 0)
def gm2 (a b c d e : Nat) : Nat := max (gm3 a b c d e) (if c = 2 then max (gm3 a b 0 d e) (2 + gm3 a b 0 (min 2 (d + 1)) e) else 0)
def gm1 (a b c d e : Nat) : Nat := max (gm2 a b c d e) (if b = 2 then max (gm2 a 0 c d e) (2 + gm2 a 0 (min 2 (c + 1)) d e) else 0)
def gm0 (a b c d e : Nat) : Nat := max (gm1 a b c d e) (if a = 2 then max (gm1 0 b c d e) (2 + gm1 0 (min 2 (b + 1)) c d e) else 0)
theorem gm_all : ∀ a, a < 3 → ∀ b, b < 3 → ∀ c, c < 3 → ∀ d, d < 3 → ∀ e, e < 3 → gm0 a b c d e ≤ 5 + phi2 a b c d e ∧ 2 + gm0 (min 2 (a + 1)) b c d e ≤ 5 + phi2 a b c d e := by decide +kernel
def gmC (l : Nat) (C : Nat → Nat) : Nat := match l with
  | 0 => gm0 (min 2 (C 0)) (min 2 (C 1)) (min 2 (C 2)) (min 2 (C 3)) (min 2 (C 4))
  | 1 => gm1 (min 2 (C 0)) (min 2 (C 1)) (min 2 (C 2)) (min 2 (C 3)) (min 2 (C 4))
  | 2 => gm2 (min 2 (C 0)) (min 2 (C 1)) (min 2 (C 2)) (min 2 (C 3)) (min 2 (C 4))
  | 3 => gm3 (min 2 (C 0)) (min 2 (C 1)) (min 2 (C 2)) (min 2 (C 3)) (min 2 (C 4))
  | 4 => gm4 (min 2 (C 0)) (min 2 (C 1)) (min 2 (C 2)) (min 2 (C 3)) (min 2 (C 4))
  | _ => phi2 (min 2 (C 0)) (min 2 (C 1)) (min 2 (C 2)) (min 2 (C 3)) (min 2 (C 4))
theorem gmC_skip {l : Nat} (C : Nat → Nat) (h : l < 5) : gmC (l + 1) C ≤ gmC l C := by
  rcases (show l = 0 ∨ l = 1 ∨ l = 2 ∨ l = 3 ∨ l = 4 by omega) with rfl | rfl | rfl | rfl | rfl <;> exact Nat.le_max_left _ _
theorem min2s (n : Nat) : min 2 (n + 1) = min 2 (min 2 n + 1) := by omega
theorem gmC_merge {l dl : Nat} {C C' : Nat → Nat} (h : l < 5) (h2 : 2 ≤ C l) (hd : dl ≤ 1) (hC : ∀ x, x < 5 → C' x = (if x = l then 0 else C x) + (if x = l + 1 then dl else 0)) : 2 * dl + gmC (l + 1) C' ≤ gmC l C := by
  have e0 := hC 0 (by decide)
  have e1 := hC 1 (by decide)
  have e2 := hC 2 (by decide)
  have e3 := hC 3 (by decide)
  have e4 := hC 4 (by decide)
  have e9 : min 2 (C l) = 2 := by omega
  rcases (show dl = 0 ∨ dl = 1 by omega) with rfl | rfl
  · rcases (show l = 0 ∨ l = 1 ∨ l = 2 ∨ l = 3 ∨ l = 4 by omega) with rfl | rfl | rfl | rfl | rfl
    · simp at e0 e1 e2 e3 e4
      have m0 : min 2 (C' 0) = 0 := by omega
      have m1 : min 2 (C' 1) = min 2 (C 1) := by omega
      have m2 : min 2 (C' 2) = min 2 (C 2) := by omega
      have m3 : min 2 (C' 3) = min 2 (C 3) := by omega
      have m4 : min 2 (C' 4) = min 2 (C 4) := by omega
      show 2 * 0 + gm1 (min 2 (C' 0)) (min 2 (C' 1)) (min 2 (C' 2)) (min 2 (C' 3)) (min 2 (C' 4)) ≤ gm0 (min 2 (C 0)) (min 2 (C 1)) (min 2 (C 2)) (min 2 (C 3)) (min 2 (C 4))
      rw [m0, m1, m2, m3, m4]
      unfold gm0
      rw [if_pos e9]
      rw [Nat.mul_zero, Nat.zero_add]
      exact Nat.le_trans (Nat.le_max_left _ _) (Nat.le_max_right _ _)
    · simp at e0 e1 e2 e3 e4
      have m0 : min 2 (C' 0) = min 2 (C 0) := by omega
      have m1 : min 2 (C' 1) = 0 := by omega
      have m2 : min 2 (C' 2) = min 2 (C 2) := by omega
      have m3 : min 2 (C' 3) = min 2 (C 3) := by omega
      have m4 : min 2 (C' 4) = min 2 (C 4) := by omega
      show 2 * 0 + gm2 (min 2 (C' 0)) (min 2 (C' 1)) (min 2 (C' 2)) (min 2 (C' 3)) (min 2 (C' 4)) ≤ gm1 (min 2 (C 0)) (min 2 (C 1)) (min 2 (C 2)) (min 2 (C 3)) (min 2 (C 4))
      rw [m0, m1, m2, m3, m4]
      unfold gm1
      rw [if_pos e9]
      rw [Nat.mul_zero, Nat.zero_add]
      exact Nat.le_trans (Nat.le_max_left _ _) (Nat.le_max_right _ _)
    · simp at e0 e1 e2 e3 e4
      have m0 : min 2 (C' 0) = min 2 (C 0) := by omega
      have m1 : min 2 (C' 1) = min 2 (C 1) := by omega
      have m2 : min 2 (C' 2) = 0 := by omega
      have m3 : min 2 (C' 3) = min 2 (C 3) := by omega
      have m4 : min 2 (C' 4) = min 2 (C 4) := by omega
      show 2 * 0 + gm3 (min 2 (C' 0)) (min 2 (C' 1)) (min 2 (C' 2)) (min 2 (C' 3)) (min 2 (C' 4)) ≤ gm2 (min 2 (C 0)) (min 2 (C 1)) (min 2 (C 2)) (min 2 (C 3)) (min 2 (C 4))
      rw [m0, m1, m2, m3, m4]
      unfold gm2
      rw [if_pos e9]
      rw [Nat.mul_zero, Nat.zero_add]
      exact Nat.le_trans (Nat.le_max_left _ _) (Nat.le_max_right _ _)
    · simp at e0 e1 e2 e3 e4
      have m0 : min 2 (C' 0) = min 2 (C 0) := by omega
      have m1 : min 2 (C' 1) = min 2 (C 1) := by omega
      have m2 : min 2 (C' 2) = min 2 (C 2) := by omega
      have m3 : min 2 (C' 3) = 0 := by omega
      have m4 : min 2 (C' 4) = min 2 (C 4) := by omega
      show 2 * 0 + gm4 (min 2 (C' 0)) (min 2 (C' 1)) (min 2 (C' 2)) (min 2 (C' 3)) (min 2 (C' 4)) ≤ gm3 (min 2 (C 0)) (min 2 (C 1)) (min 2 (C 2)) (min 2 (C 3)) (min 2 (C 4))
      rw [m0, m1, m2, m3, m4]
      unfold gm3
      rw [if_pos e9]
      rw [Nat.mul_zero, Nat.zero_add]
      exact Nat.le_trans (Nat.le_max_left _ _) (Nat.le_max_right _ _)
    · simp at e0 e1 e2 e3 e4
      have m0 : min 2 (C' 0) = min 2 (C 0) := by omega
      have m1 : min 2 (C' 1) = min 2 (C 1) := by omega
      have m2 : min 2 (C' 2) = min 2 (C 2) := by omega
      have m3 : min 2 (C' 3) = min 2 (C 3) := by omega
      have m4 : min 2 (C' 4) = 0 := by omega
      show 2 * 0 + phi2 (min 2 (C' 0)) (min 2 (C' 1)) (min 2 (C' 2)) (min 2 (C' 3)) (min 2 (C' 4)) ≤ gm4 (min 2 (C 0)) (min 2 (C 1)) (min 2 (C 2)) (min 2 (C 3)) (min 2 (C 4))
      rw [m0, m1, m2, m3, m4]
      unfold gm4
      rw [if_pos e9]
      rw [Nat.mul_zero, Nat.zero_add]
      exact Nat.le_trans (Nat.le_max_left _ _) (Nat.le_max_right _ _)
  · rcases (show l = 0 ∨ l = 1 ∨ l = 2 ∨ l = 3 ∨ l = 4 by omega) with rfl | rfl | rfl | rfl | rfl
    · simp at e0 e1 e2 e3 e4
      have m0 : min 2 (C' 0) = 0 := by omega
      have m1 : min 2 (C' 1) = min 2 (min 2 (C 1) + 1) := by omega
      have m2 : min 2 (C' 2) = min 2 (C 2) := by omega
      have m3 : min 2 (C' 3) = min 2 (C 3) := by omega
      have m4 : min 2 (C' 4) = min 2 (C 4) := by omega
      show 2 * 1 + gm1 (min 2 (C' 0)) (min 2 (C' 1)) (min 2 (C' 2)) (min 2 (C' 3)) (min 2 (C' 4)) ≤ gm0 (min 2 (C 0)) (min 2 (C 1)) (min 2 (C 2)) (min 2 (C 3)) (min 2 (C 4))
      rw [m0, m1, m2, m3, m4]
      unfold gm0
      rw [if_pos e9]
      exact Nat.le_trans (Nat.le_max_right _ _) (Nat.le_max_right _ _)
    · simp at e0 e1 e2 e3 e4
      have m0 : min 2 (C' 0) = min 2 (C 0) := by omega
      have m1 : min 2 (C' 1) = 0 := by omega
      have m2 : min 2 (C' 2) = min 2 (min 2 (C 2) + 1) := by omega
      have m3 : min 2 (C' 3) = min 2 (C 3) := by omega
      have m4 : min 2 (C' 4) = min 2 (C 4) := by omega
      show 2 * 1 + gm2 (min 2 (C' 0)) (min 2 (C' 1)) (min 2 (C' 2)) (min 2 (C' 3)) (min 2 (C' 4)) ≤ gm1 (min 2 (C 0)) (min 2 (C 1)) (min 2 (C 2)) (min 2 (C 3)) (min 2 (C 4))
      rw [m0, m1, m2, m3, m4]
      unfold gm1
      rw [if_pos e9]
      exact Nat.le_trans (Nat.le_max_right _ _) (Nat.le_max_right _ _)
    · simp at e0 e1 e2 e3 e4
      have m0 : min 2 (C' 0) = min 2 (C 0) := by omega
      have m1 : min 2 (C' 1) = min 2 (C 1) := by omega
      have m2 : min 2 (C' 2) = 0 := by omega
      have m3 : min 2 (C' 3) = min 2 (min 2 (C 3) + 1) := by omega
      have m4 : min 2 (C' 4) = min 2 (C 4) := by omega
      show 2 * 1 + gm3 (min 2 (C' 0)) (min 2 (C' 1)) (min 2 (C' 2)) (min 2 (C' 3)) (min 2 (C' 4)) ≤ gm2 (min 2 (C 0)) (min 2 (C 1)) (min 2 (C 2)) (min 2 (C 3)) (min 2 (C 4))
      rw [m0, m1, m2, m3, m4]
      unfold gm2
      rw [if_pos e9]
      exact Nat.le_trans (Nat.le_max_right _ _) (Nat.le_max_right _ _)
    · simp at e0 e1 e2 e3 e4
      have m0 : min 2 (C' 0) = min 2 (C 0) := by omega
      have m1 : min 2 (C' 1) = min 2 (C 1) := by omega
      have m2 : min 2 (C' 2) = min 2 (C 2) := by omega
      have m3 : min 2 (C' 3) = 0 := by omega
      have m4 : min 2 (C' 4) = min 2 (min 2 (C 4) + 1) := by omega
      show 2 * 1 + gm4 (min 2 (C' 0)) (min 2 (C' 1)) (min 2 (C' 2)) (min 2 (C' 3)) (min 2 (C' 4)) ≤ gm3 (min 2 (C 0)) (min 2 (C 1)) (min 2 (C 2)) (min 2 (C 3)) (min 2 (C 4))
      rw [m0, m1, m2, m3, m4]
      unfold gm3
      rw [if_pos e9]
      exact Nat.le_trans (Nat.le_max_right _ _) (Nat.le_max_right _ _)
    · simp at e0 e1 e2 e3 e4
      have m0 : min 2 (C' 0) = min 2 (C 0) := by omega
      have m1 : min 2 (C' 1) = min 2 (C 1) := by omega
      have m2 : min 2 (C' 2) = min 2 (C 2) := by omega
      have m3 : min 2 (C' 3) = min 2 (C 3) := by omega
      have m4 : min 2 (C' 4) = 0 := by omega
      show 2 * 1 + phi2 (min 2 (C' 0)) (min 2 (C' 1)) (min 2 (C' 2)) (min 2 (C' 3)) (min 2 (C' 4)) ≤ gm4 (min 2 (C 0)) (min 2 (C 1)) (min 2 (C 2)) (min 2 (C 3)) (min 2 (C 4))
      rw [m0, m1, m2, m3, m4]
      unfold gm4
      rw [if_pos e9]
      exact Nat.le_trans (Nat.le_max_right _ _) (Nat.le_max_right _ _)
/-- a flush: something pending becomes a segment, or nothing does -/
theorem gmC_pend {dl : Nat} {C C' : Nat → Nat} (hd : dl ≤ 1) (hC : ∀ x, x < 5 → C' x = C x + (if x = 0 then dl else 0)) : 2 * dl + gmC 0 C' ≤ 5 + gmC 5 C := by
  have e0 := hC 0 (by decide)
  have e1 := hC 1 (by decide)
  have e2 := hC 2 (by decide)
  have e3 := hC 3 (by decide)
  have e4 := hC 4 (by decide)
  simp at e0 e1 e2 e3 e4
  have g := gm_all (min 2 (C 0)) (by omega) (min 2 (C 1)) (by omega) (min 2 (C 2)) (by omega) (min 2 (C 3)) (by omega) (min 2 (C 4)) (by omega)
  rcases (show dl = 0 ∨ dl = 1 by omega) with rfl | rfl
  · simp only [gmC, e0, e1, e2, e3, e4, Nat.add_zero]
    have := g.1
    omega
  · simp only [gmC, e0, e1, e2, e3, e4]
    rw [min2s (C 0)]
    have := g.2
    omega
theorem gmC_5le (C : Nat → Nat) : gmC 5 C ≤ 7 := phi2_le _ _ _ _ _
/-- one segment alone, or none -/
theorem gmC_one {dl : Nat} {C' : Nat → Nat} (hd : dl ≤ 1) (hC : ∀ x y, x < 5 → y < 5 → C' x = 1 → C' y = 1 → x = y) (h1 : ∀ x, C' x ≤ dl) : 2 * dl + gmC 5 C' ≤ 5 := by
  have t : ∀ a, a < 2 → ∀ b, b < 2 → ∀ c, c < 2 → ∀ d, d < 2 → ∀ e, e < 2 → (1 < a + b + c + d + e ∨ phi2 a b c d e ≤ 3) := by decide +kernel
  have a0 := h1 0
  have a1 := h1 1
  have a2 := h1 2
  have a3 := h1 3
  have a4 := h1 4
  have b01 := hC 0 1 (by decide) (by decide)
  have b02 := hC 0 2 (by decide) (by decide)
  have b03 := hC 0 3 (by decide) (by decide)
  have b04 := hC 0 4 (by decide) (by decide)
  have b12 := hC 1 2 (by decide) (by decide)
  have b13 := hC 1 3 (by decide) (by decide)
  have b14 := hC 1 4 (by decide) (by decide)
  have b23 := hC 2 3 (by decide) (by decide)
  have b24 := hC 2 4 (by decide) (by decide)
  have b34 := hC 3 4 (by decide) (by decide)
  have g := t (min 2 (C' 0)) (by omega) (min 2 (C' 1)) (by omega) (min 2 (C' 2)) (by omega) (min 2 (C' 3)) (by omega) (min 2 (C' 4)) (by omega)
  have g := g.resolve_left (by omega)
  show 2 * dl + phi2 _ _ _ _ _ ≤ 5
  omega
