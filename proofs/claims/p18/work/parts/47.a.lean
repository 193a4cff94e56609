/-! the reference in general states: by program (wip/tools/gen5.py, gen6.py, gen7.py) -/
set_option maxHeartbeats 400000 in
theorem f_length {G : xw_G} {F L : Nat} {h : xw_A} {m firstToken_ : Nat} {c1 : Nat → Int32} {fs : List Value} (l : fs.length = 62) (e : h m = some (.inr (11, fs)))  (g_firstToken : fs[(41 : Nat)]? = some (.ref firstToken_)) (e_firstToken : h firstToken_ = some (.inl (0, 13, .inl c1))) {p a n : Nat} (hp : p < 12) (h1 : c1 p = nI a) (h2 : c1 (p + 1) = nI (a + n)) (hF : 1 ≤ F) (hL : 20 ≤ L) :
    xw_Met G m_Model_length F L 0 0 [.ref m, .int (nI p)] h (fun v h' => v = some (.int (nI n)) ∧ h = h') (fun _ _ => False) := by
  refine xw_Met.of rfl (by decide) (Nat.le_of_ble_eq_true rfl) ?_
  refine s_Model_length_0 l e g_firstToken e_firstToken (by rw [nI_1]; exact vp_in_nI (by omega) (by decide)) (vp_in_nI (by omega) (by omega)) ?_
  exact ⟨congrArg (fun z => some (Value.int z)) (by rw [nI_1, nI_clamp (by omega), nI_clamp (by omega), h1, h2, pk_sub (by omega), Nat.add_sub_cancel_left]), rfl⟩
