/-! the class in general states: by program (wip/tools/gen2.py) -/
theorem ix576 {p r c : Nat} (hr : 1 ≤ r) : (nI p * 24 + nI r - 1) * 2 + nI c = nI ((p * 24 + r - 1) * 2 + c) := by
  rw [show (24 : Int32) = nI 24 from rfl, pk_mul, nI_add, show (1 : Int32) = nI 1 from rfl, pk_sub (by omega), show (2 : Int32) = nI 2 from rfl, pk_mul, nI_add]
set_option maxHeartbeats 400000 in
theorem g_index {G : xw_G} {F L : Nat} {h : xw_A} {a r cc : Nat} (hr1 : 1 ≤ r) (hF : 1 ≤ F) (hL : 20 ≤ L) :
    xw_Met G m_Standing_index F L 0 0 [.int (nI a), .int (nI r), .int (nI cc)] h (fun v h' => v = some (.int (nI ((a * 24 + r - 1) * 2 + cc))) ∧ h = h') (fun _ _ => False) := by
  refine xw_Met.of rfl (by decide) (Nat.le_of_ble_eq_true rfl) ?_
  refine s_Standing_index_0 ?_
  exact ⟨congrArg (fun z => some (Value.int z)) (ix576 hr1), rfl⟩
set_option maxHeartbeats 400000 in
theorem g_placesOf {G : xw_G} {F L : Nat} {h : xw_A} {qo : Nat} {so sp : Nat} {pf : Nat → Int32} (e_so : h so = some (.inr (7, [.ref sp, .ref qo]))) (e_sp : h sp = some (.inl (0, 576, .inl pf))) {a r cc : Nat} (ha : a < 12) (hr1 : 1 ≤ r) (hr2 : r ≤ 24) (hcc : cc < 2) (hF : 2 ≤ F) (hL : 42 ≤ L) :
    xw_Met G m_Standing_placesOf F L 0 0 [.ref so, .int (nI a), .int (nI r), .int (nI cc)] h (fun v h' => (∃ y : Int32, v = some (.int y)) ∧ h = h') (fun _ _ => False) := by
  refine xw_Met.of rfl (by decide) (Nat.le_of_ble_eq_true rfl) ?_
  refine s_Standing_placesOf_0 (places_a0 := some sp) (question_a0 := some qo) e_so ?_
  refine x_callS (As := [.int (nI a), .int (nI r), .int (nI cc)]) (rest := [.ref sp]) (F1 := 1) (L1 := 20) (mc := 0) (ms := 0) d_Standing_placesOf_7 cS_Standing_45 (g_index hr1 (by omega) (by omega)) ⟨by omega, by show 8 + (3 + 11) + 20 ≤ _; omega⟩ ⟨by omega, by omega⟩ (Nat.le_of_ble_eq_true rfl) (fun v_2 h_1 p_3 => ?_)
  obtain ⟨rfl, rfl⟩ := p_3
  refine x_le (xw_le_n (xw_le_n (xw_le_n (xw_le_n xw_le_e)))) ?_
  refine s_Standing_placesOf_10 e_sp (vp_in_nI (by omega) (by decide)) ?_
  exact ⟨⟨_, rfl⟩, rfl⟩
set_option maxHeartbeats 400000 in
theorem g_standsIn {G : xw_G} {F L : Nat} {h : xw_A} {qo : Nat} {so sp : Nat} {pf : Nat → Int32} (e_so : h so = some (.inr (7, [.ref sp, .ref qo]))) (e_sp : h sp = some (.inl (0, 576, .inl pf))) {a r : Nat} (ha : a < 12) (hr1 : 1 ≤ r) (hr2 : r ≤ 24) (hF : 3 ≤ F) (hL : 65 ≤ L) :
    xw_Met G m_Standing_standsIn F L 0 0 [.ref so, .int (nI a), .int (nI r)] h (fun v h' => (∃ y : Int32, v = some (.int y) ∧ (y = 0 ∨ y = 1)) ∧ h = h') (fun _ _ => False) := by
  refine xw_Met.of rfl (by decide) (Nat.le_of_ble_eq_true rfl) ?_
  refine s_Standing_standsIn_0 ?_
  refine x_callV (As := [.int (nI a), .int (nI r), .int (nI 0)]) (b := so) (rest := []) (F1 := 2) (L1 := 42) (mc := 0) (ms := 0) d_Standing_standsIn_4 cV_Standing_78 (g_placesOf e_so e_sp (by omega) (by omega) (by omega) (by omega) (by omega) (by omega)) e_so ⟨by decide, rfl⟩ ⟨by omega, by show 8 + (4 + 11) + 42 ≤ _; omega⟩ ⟨by omega, by omega⟩ (Nat.le_of_ble_eq_true rfl) (fun v_3 h_2 p_4 => ?_)
  obtain ⟨⟨y_1, rfl⟩, rfl⟩ := p_4
  refine s_Standing_standsIn_7 ?_
  refine x_callV (As := [.int (nI a), .int (nI r), .int (nI 1)]) (b := so) (rest := [.int y_1]) (F1 := 2) (L1 := 42) (mc := 0) (ms := 0) d_Standing_standsIn_11 cV_Standing_78 (g_placesOf e_so e_sp (by omega) (by omega) (by omega) (by omega) (by omega) (by omega)) e_so ⟨by decide, rfl⟩ ⟨by omega, by show 8 + (4 + 11) + 42 ≤ _; omega⟩ ⟨by omega, by omega⟩ (Nat.le_of_ble_eq_true rfl) (fun v_7 h_6 p_8 => ?_)
  obtain ⟨⟨y_5, rfl⟩, rfl⟩ := p_8
  refine x_le (xw_le_n (xw_le_n (xw_le_n xw_le_e))) ?_
  refine s_Standing_standsIn_14 (fun z_9 => ?_) (fun z_10 => ?_)
  · skip
    refine s_Standing_standsIn_22 ?_
    refine s_Standing_standsIn_23 rfl ?_
    exact ⟨⟨_, rfl, by simp⟩, rfl⟩
  · skip
    refine s_Standing_standsIn_18 ?_
    refine s_Standing_standsIn_23 rfl ?_
    exact ⟨⟨_, rfl, by simp⟩, rfl⟩
set_option maxHeartbeats 1000000 in
theorem lp_rowsWith {G : xw_G} {F L bc bs : Nat} {pr : Option Value → xw_A → Prop} {px : String → xw_A → Prop} {h : xw_A} {qo : Nat} {so sp : Nat} {pf : Nat → Int32} (e_so : h so = some (.inr (7, [.ref sp, .ref qo]))) (e_sp : h sp = some (.inl (0, 576, .inl pf))) {a : Nat} (ha : a < 12) (hF : 4 ≤ F) (hL : 87 ≤ L) (kk : ∀ c : Nat, c ≤ 24 → pr (some (.int (nI c))) h) :
    ∀ (dd i : Nat) (c : Nat), i + dd = 25 → c < i → xw G m_Standing_rowsWith F L bc bs pr px 4 [some (.ref so), some (.int (nI a)), some (.int (nI c)), some (.int (nI i))] [] h := by
  intro dd
  induction dd with
  | zero =>
    intro i c hi hp
    obtain rfl : i = 25 := by omega
    refine s_Standing_rowsWith_4 (fun z_1 => ?_) (fun z => absurd (by decide) z)
    refine s_Standing_rowsWith_28 ?_
    exact kk _ (by omega)
  | succ dd ih =>
    intro i c hi hp
    refine s_Standing_rowsWith_4 (fun z => absurd z (nI_nlt (a := 24) (show i ≤ 24 by omega) (by decide))) (fun z_1 => ?_)
    refine s_Standing_rowsWith_10 ?_
    refine x_callV (As := [.int (nI a), .int (nI i)]) (b := so) (rest := []) (F1 := 3) (L1 := 65) (mc := 0) (ms := 0) d_Standing_rowsWith_13 cV_Standing_81 (g_standsIn e_so e_sp ha (by omega) (by omega) (by omega) (by omega)) e_so ⟨by decide, rfl⟩ ⟨by omega, by show 8 + (3 + 11) + 65 ≤ _; omega⟩ ⟨by omega, by omega⟩ (Nat.le_of_ble_eq_true rfl) (fun v_5 h_4 p_6 => ?_)
    obtain ⟨⟨y_2, rfl, hy_3⟩, rfl⟩ := p_6
    refine s_Standing_rowsWith_16 (fun z_7 => ?_) (fun z_8 => ?_)
    · skip
      refine s_Standing_rowsWith_22 ?_
      simp only [nI_1]
      exact ih (i + 1) _ (by omega) (by omega)
    · skip
      refine s_Standing_rowsWith_19 ?_
      refine s_Standing_rowsWith_22 ?_
      simp only [nI_1]
      exact ih (i + 1) _ (by omega) (by omega)
set_option maxHeartbeats 400000 in
theorem g_rowsWith {G : xw_G} {F L : Nat} {h : xw_A} {qo : Nat} {so sp : Nat} {pf : Nat → Int32} (e_so : h so = some (.inr (7, [.ref sp, .ref qo]))) (e_sp : h sp = some (.inl (0, 576, .inl pf))) {a : Nat} (ha : a < 12) (hF : 4 ≤ F) (hL : 87 ≤ L) :
    xw_Met G m_Standing_rowsWith F L 0 0 [.ref so, .int (nI a)] h (fun v h' => (∃ c : Nat, v = some (.int (nI c)) ∧ c ≤ 24) ∧ h = h') (fun _ _ => False) := by
  refine xw_Met.of rfl (by decide) (Nat.le_of_ble_eq_true rfl) ?_
  refine s_Standing_rowsWith_0 ?_
  exact lp_rowsWith e_so e_sp ha (by omega) (by omega) (fun c hc => ⟨⟨c, rfl, hc⟩, rfl⟩) 24 1 0 rfl (by decide)
