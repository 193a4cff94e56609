/-! the class in general states: by program (wip/tools/gen2.py) -/
theorem ix576 {p r c : Nat} (hr : 1 ≤ r) : (nI p * 24 + nI r - 1) * 2 + nI c = nI ((p * 24 + r - 1) * 2 + c) := by
  rw [show (24 : Int32) = nI 24 from rfl, pk_mul, nI_add, show (1 : Int32) = nI 1 from rfl, pk_sub (by omega), show (2 : Int32) = nI 2 from rfl, pk_mul, nI_add]
set_option maxHeartbeats 400000 in
theorem g_index {G : xw_G} {F L : Nat} {h : xw_A} {a r cc : Nat} (hr1 : 1 ≤ r) (hF : 1 ≤ F) (hL : 20 ≤ L) :
    xw_Met G m_Standing_index F L 0 0 [.int (nI a), .int (nI r), .int (nI cc)] h (fun v h' => v = some (.int (nI ((a * 24 + r - 1) * 2 + cc))) ∧ h = h') (fun _ _ => False) := by
  refine xw_Met.of rfl (by decide) (Nat.le_of_ble_eq_true rfl) ?_
  refine s_Standing_index_0 ?_
  exact ⟨congrArg (fun z => some (Value.int z)) (ix576 hr1), rfl⟩
