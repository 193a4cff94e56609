/-! the reference in general states: by program (wip/tools/gen3.py, gen4.py, gen5.py) -/
/-! THE REFERENCE: reading a question -/
def qv (f : Nat → Int32) (n k : Nat) : Int32 := if k < n then f k else 0
theorem nI_2 (x : Nat) : nI x + 2 = nI (x + 2) := by rw [show (2 : Int32) = nI 2 from rfl, nI_add]
theorem nI_3 (x : Nat) : nI x + 3 = nI (x + 3) := by rw [show (3 : Int32) = nI 3 from rfl, nI_add]
/-- a part from x to y -/
def PtO (fa : Nat → Int32) (asz x y : Nat) (kd : Int32) : Prop := x ≤ y ∧ y ≤ 97 ∧ (¬ kd = 0 → x < y) ∧ (kd = 1 → isW (qv fa asz y) = false) ∧ (kd = 2 → 1 ≤ y ∧ isW (qv fa asz (y - 1)) = false)
/-- how many tokens there may be at x -/
def JO (fa : Nat → Int32) (asz t x : Nat) : Prop := 2 * t ≤ x + 1 ∧ (isW (qv fa asz x) = true → 2 * t ≤ x)
theorem JO.mono {fa : Nat → Int32} {asz t x y : Nat} (h : JO fa asz t x) (hxy : x ≤ y) : JO fa asz t y := by
  rcases Nat.eq_or_lt_of_le hxy with q | q
  · rw [← q]; exact h
  · exact ⟨by have := h.1; omega, fun _ => by have := h.1; omega⟩
/-- within a part that begins at x: k is the place -/
def JI (fa : Nat → Int32) (asz t x k : Nat) : Prop := 2 * t ≤ k + 1 ∧ (isW (qv fa asz k) = true → (k = x ∨ isW (qv fa asz (k - 1)) = false) → 2 * t ≤ k)
/-- the tokens that were taken lie before x -/
def TkO (ca cs : Nat → Int32) (t x : Nat) : Prop := ∀ j, j < t → ∃ a s, ca j = nI a ∧ cs j = nI s ∧ a + s ≤ x ∧ a + s ≤ 96
theorem TkO.mono {ca cs : Nat → Int32} {t x y : Nat} (h : TkO ca cs t x) (hxy : x ≤ y) : TkO ca cs t y := fun j hj => by
  obtain ⟨a, s, h1, h2, h3, h4⟩ := h j hj
  exact ⟨a, s, h1, h2, by omega, h4⟩
theorem TkO.new {ca cs : Nat → Int32} {t x : Nat} (h : TkO ca cs t x) (hx : x < 96) : TkO (upd ca t (nI x)) (upd cs t 0) (t + 1) x := fun j hj => by
  by_cases q : j = t
  · subst q
    exact ⟨x, 0, pk_us, pk_us, by omega, by omega⟩
  · obtain ⟨a, s, h1, h2, h3, h4⟩ := h j (by omega)
    exact ⟨a, s, by rw [pk_un q]; exact h1, by rw [pk_un q]; exact h2, h3, h4⟩
set_option maxHeartbeats 400000 in
theorem f_q {G : xw_G} {F L : Nat} {h : xw_A} {x asz : Nat} {fa : Nat → Int32} {asked_ : Nat} {m : Nat} {fs : List Value} (l : fs.length = 62) (e : h m = some (.inr (11, fs))) (g_askedSize : fs[(11 : Nat)]? = some (.int (nI asz))) (g_asked : fs[(4 : Nat)]? = some (.ref asked_)) (e_asked : h asked_ = some (.inl (0, 96, .inl (fa)))) (hx : x < 1000) (hasz : asz ≤ 96) (hF : 1 ≤ F) (hL : 20 ≤ L) :
    xw_Met G m_Model_q F L 0 0 [.ref m, .int (nI x)] h (fun v h' => v = some (.int (qv fa asz x)) ∧ h = h') (fun _ _ => False) := by
  refine xw_Met.of rfl (by decide) (Nat.le_of_ble_eq_true rfl) ?_
  refine s_Model_q_0 l e g_askedSize (fun z_1 => ?_) (fun z_2 => ?_)
  · skip
    refine s_Model_q_17 ?_
    refine s_Model_q_18 ?_
    exact ⟨congrArg (fun z => some (Value.int z)) (by unfold qv; rw [if_neg (fun q => absurd z_1 (nI_ge (b := asz) q (by omega)))]), rfl⟩
  · skip
    refine s_Model_q_8 l e g_asked e_asked (by have q8 : x < asz := Nat.lt_of_not_le (fun q => z_2 (nI_le q (by omega))); exact vp_in_nI (by omega) (by decide)) ?_
    refine s_Model_q_18 ?_
    exact ⟨congrArg (fun z => some (Value.int z)) (by unfold qv; rw [if_pos (Nat.lt_of_not_le (fun q => z_2 (nI_le q (by omega)))), nI_clamp (by omega)]), rfl⟩
