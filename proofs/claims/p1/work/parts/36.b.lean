/-! ONE CALL ON A FRESH OBJECT: THE REFERENCE: by program (wip/tools/p1l.py) -/
set_option maxHeartbeats 1000000 in
theorem fm_weight_no2 {G : xw_G} {F L : Nat} {h : xw_A} {x y : Int32} {m : Nat} {fs : List Value} (l : fs.length = 62) (e : h m = some (.inr (11, fs))) (g_err : fs[(0 : Nat)]? = some (.int 0))  (h1 : ¬ x < 0) (h2 : ¬ 1 < x) (hn : y < 0 ∨ 9 < y) (hF : 2 ≤ F) (hL : 42 ≤ L) :
    xw_Met G m_Model_weight F L 0 0 [.ref m, .int x, .int y] h (fun v h' => v = some (.int 0) ∧ MP [m] m 1 h h') (fun _ _ => False) := by
  refine xw_Met.of rfl (by decide) (Nat.le_of_ble_eq_true rfl) ?_
  have r0 : FrO [m] h h := FrO.rf
  refine s_Model_weight_0 l e ?_
  refine x_u1 (fun h_1 e_2 f_3 => ?_)
  have r_4 := r0.up (by simp) f_3
  obtain ⟨fs_5, z_6⟩ : ∃ z, z = fs.set 0 (.int 0) := ⟨_, rfl⟩
  rw [← z_6] at e_2
  have l_7 : fs_5.length = 62 := by rw [z_6]; simp only [List.length_set]; exact l
  have g_8 : fs_5[(0 : Nat)]? = some (.int 0) := by rw [z_6]; exact (xw_gs (by simp [l]))
  clear z_6
  refine x_callS (As := [.int x, .int 0, .int 1]) (rest := [.ref m]) (F1 := 1) (L1 := 20) (mc := 0) (ms := 0) d_Model_weight_9 cS_Model_133 (f_in_yes h1 h2 (by omega) (by omega)) ⟨by omega, by show 8 + (3 + 11) + 20 ≤ _; omega⟩ ⟨by omega, by omega⟩ (Nat.le_of_ble_eq_true rfl) (fun v_10 h_9 p_11 => ?_)
  obtain ⟨rfl, rfl⟩ := p_11
  refine s_Model_weight_12 (fun z => absurd z (by decide)) (fun z_12 => ?_)
  refine s_Model_weight_15 ?_
  refine x_callS (As := [.int y, .int 0, .int 9]) (rest := [.ref m]) (F1 := 1) (L1 := 20) (mc := 0) (ms := 0) d_Model_weight_19 cS_Model_133 (f_in_no hn (by omega) (by omega)) ⟨by omega, by show 8 + (3 + 11) + 20 ≤ _; omega⟩ ⟨by omega, by omega⟩ (Nat.le_of_ble_eq_true rfl) (fun v_14 h_13 p_15 => ?_)
  obtain ⟨rfl, rfl⟩ := p_15
  refine s_Model_weight_22 (fun z => absurd z (by decide)) (fun z_16 => ?_)
  refine s_Model_weight_25 ?_
  refine s_Model_weight_30 ?_
  refine x_callV (As := [.int 1, .int 1]) (b := m) (rest := []) (F1 := 1) (L1 := 20) (mc := 0) (ms := 0) d_Model_weight_31 cV_Model_139 (f_fails_yes (c := 1) (by decide) l_7 e_2 g_8 (by omega) (by omega)) e_2 ⟨by decide, rfl⟩ ⟨by omega, by show 8 + (3 + 11) + 20 ≤ _; omega⟩ ⟨by omega, by omega⟩ (Nat.le_of_ble_eq_true rfl) (fun v_18 h_17 p_19 => ?_)
  obtain ⟨rfl, rfl⟩ := p_19
  refine x_u1 (fun h_20 e_21 f_22 => ?_)
  have r_23 := r_4.up (by simp) f_22
  obtain ⟨fs_24, z_25⟩ : ∃ z, z = fs_5.set 0 (.int 1) := ⟨_, rfl⟩
  rw [← z_25] at e_21
  have l_26 : fs_24.length = 62 := by rw [z_25]; simp only [List.length_set]; exact l_7
  have g_27 : fs_24[(0 : Nat)]? = some (.int 1) := by rw [z_25]; exact (xw_gs (by simp [l_7]))
  clear z_25
  refine s_Model_weight_34 (fun z => absurd z (by decide)) (fun z_28 => ?_)
  refine s_Model_weight_37 ?_
  exact ⟨rfl, ⟨fs_24, l_26, e_21, g_27⟩, r_23⟩
set_option maxHeartbeats 1000000 in
theorem fm_weight_0 {G : xw_G} {F L : Nat} {h : xw_A} {y : Int32} {wg : Nat → Int32} {weights_ : Nat} {m : Nat} {fs : List Value} (l : fs.length = 62) (e : h m = some (.inr (11, fs))) (g_err : fs[(0 : Nat)]? = some (.int 0)) (g_weights : fs[(9 : Nat)]? = some (.ref weights_)) (e_weights : h weights_ = some (.inl (0, 2, .inl (wg))))  (h3 : ¬ y < 0) (h4 : ¬ 9 < y) (hF : 2 ≤ F) (hL : 42 ≤ L) :
    xw_Met G m_Model_weight F L 0 0 [.ref m, .int 0, .int y] h (fun v h' => v = some (.int (wg 0)) ∧ MP [m, weights_] m 0 h h') (fun _ _ => False) := by
  refine xw_Met.of rfl (by decide) (Nat.le_of_ble_eq_true rfl) ?_
  have r0 : FrO [m, weights_] h h := FrO.rf
  refine s_Model_weight_0 l e ?_
  refine x_u1 (fun h_1 e_2 f_3 => ?_)
  have e_4 := (f_3 weights_ (xw_neC e_weights e (by simp))).trans e_weights
  have r_5 := r0.up (by simp) f_3
  obtain ⟨fs_6, z_7⟩ : ∃ z, z = fs.set 0 (.int 0) := ⟨_, rfl⟩
  rw [← z_7] at e_2
  have l_8 : fs_6.length = 62 := by rw [z_7]; simp only [List.length_set]; exact l
  have g_9 : fs_6[(0 : Nat)]? = some (.int 0) := by rw [z_7]; exact (xw_gs (by simp [l]))
  have g_10 : fs_6[(9 : Nat)]? = some (.ref weights_) := by rw [z_7]; exact (xw_gn (by decide) g_weights)
  clear z_7
  refine x_callS (As := [.int 0, .int 0, .int 1]) (rest := [.ref m]) (F1 := 1) (L1 := 20) (mc := 0) (ms := 0) d_Model_weight_9 cS_Model_133 (f_in_yes (by decide) (by decide) (by omega) (by omega)) ⟨by omega, by show 8 + (3 + 11) + 20 ≤ _; omega⟩ ⟨by omega, by omega⟩ (Nat.le_of_ble_eq_true rfl) (fun v_12 h_11 p_13 => ?_)
  obtain ⟨rfl, rfl⟩ := p_13
  refine s_Model_weight_12 (fun z => absurd z (by decide)) (fun z_14 => ?_)
  refine s_Model_weight_15 ?_
  refine x_callS (As := [.int y, .int 0, .int 9]) (rest := [.ref m]) (F1 := 1) (L1 := 20) (mc := 0) (ms := 0) d_Model_weight_19 cS_Model_133 (f_in_yes h3 h4 (by omega) (by omega)) ⟨by omega, by show 8 + (3 + 11) + 20 ≤ _; omega⟩ ⟨by omega, by omega⟩ (Nat.le_of_ble_eq_true rfl) (fun v_16 h_15 p_17 => ?_)
  obtain ⟨rfl, rfl⟩ := p_17
  refine s_Model_weight_22 (fun z_18 => ?_) (fun z => absurd z (by decide))
  refine s_Model_weight_29 ?_
  refine s_Model_weight_30 ?_
  refine x_callV (As := [.int 0, .int 1]) (b := m) (rest := []) (F1 := 1) (L1 := 20) (mc := 0) (ms := 0) d_Model_weight_31 cV_Model_139 (f_fails_no l_8 e_2 g_9 (by omega) (by omega)) e_2 ⟨by decide, rfl⟩ ⟨by omega, by show 8 + (3 + 11) + 20 ≤ _; omega⟩ ⟨by omega, by omega⟩ (Nat.le_of_ble_eq_true rfl) (fun v_20 h_19 p_21 => ?_)
  obtain ⟨rfl, rfl⟩ := p_21
  refine s_Model_weight_34 (fun z_22 => ?_) (fun z => absurd z (by decide))
  refine s_Model_weight_39 l_8 e_2 g_10 e_4 (by unfold vp_in; decide) (by unfold vp_in; decide) ?_
  obtain ⟨h_23, z_26⟩ : ∃ z, z = xw_up h_1 weights_ (.inl (0, 2, .inl (upd wg (0 : Int32).toNatClampNeg y))) := ⟨_, rfl⟩
  rw [← z_26]
  have e_24 : h_23 weights_ = some (.inl (0, 2, .inl (upd wg (0 : Int32).toNatClampNeg y))) := by rw [z_26]; exact xw_up_s _ _ _
  have f_25 : ∀ q, q ≠ weights_ → h_23 q = h_1 q := fun q hq => by rw [z_26]; exact xw_up_n _ _ hq
  clear z_26
  have e_27 := (f_25 m (xw_neC e_2 e_4 (by simp))).trans e_2
  have r_28 := r_5.up (by simp) f_25
  exact ⟨rfl, ⟨fs_6, l_8, e_27, g_9⟩, r_28⟩
set_option maxHeartbeats 1000000 in
theorem fm_weight_1 {G : xw_G} {F L : Nat} {h : xw_A} {y : Int32} {wg : Nat → Int32} {weights_ : Nat} {m : Nat} {fs : List Value} (l : fs.length = 62) (e : h m = some (.inr (11, fs))) (g_err : fs[(0 : Nat)]? = some (.int 0)) (g_weights : fs[(9 : Nat)]? = some (.ref weights_)) (e_weights : h weights_ = some (.inl (0, 2, .inl (wg))))  (h3 : ¬ y < 0) (h4 : ¬ 9 < y) (hF : 2 ≤ F) (hL : 42 ≤ L) :
    xw_Met G m_Model_weight F L 0 0 [.ref m, .int 1, .int y] h (fun v h' => v = some (.int (wg 1)) ∧ MP [m, weights_] m 0 h h') (fun _ _ => False) := by
  refine xw_Met.of rfl (by decide) (Nat.le_of_ble_eq_true rfl) ?_
  have r0 : FrO [m, weights_] h h := FrO.rf
  refine s_Model_weight_0 l e ?_
  refine x_u1 (fun h_1 e_2 f_3 => ?_)
  have e_4 := (f_3 weights_ (xw_neC e_weights e (by simp))).trans e_weights
  have r_5 := r0.up (by simp) f_3
  obtain ⟨fs_6, z_7⟩ : ∃ z, z = fs.set 0 (.int 0) := ⟨_, rfl⟩
  rw [← z_7] at e_2
  have l_8 : fs_6.length = 62 := by rw [z_7]; simp only [List.length_set]; exact l
  have g_9 : fs_6[(0 : Nat)]? = some (.int 0) := by rw [z_7]; exact (xw_gs (by simp [l]))
  have g_10 : fs_6[(9 : Nat)]? = some (.ref weights_) := by rw [z_7]; exact (xw_gn (by decide) g_weights)
  clear z_7
  refine x_callS (As := [.int 1, .int 0, .int 1]) (rest := [.ref m]) (F1 := 1) (L1 := 20) (mc := 0) (ms := 0) d_Model_weight_9 cS_Model_133 (f_in_yes (by decide) (by decide) (by omega) (by omega)) ⟨by omega, by show 8 + (3 + 11) + 20 ≤ _; omega⟩ ⟨by omega, by omega⟩ (Nat.le_of_ble_eq_true rfl) (fun v_12 h_11 p_13 => ?_)
  obtain ⟨rfl, rfl⟩ := p_13
  refine s_Model_weight_12 (fun z => absurd z (by decide)) (fun z_14 => ?_)
  refine s_Model_weight_15 ?_
  refine x_callS (As := [.int y, .int 0, .int 9]) (rest := [.ref m]) (F1 := 1) (L1 := 20) (mc := 0) (ms := 0) d_Model_weight_19 cS_Model_133 (f_in_yes h3 h4 (by omega) (by omega)) ⟨by omega, by show 8 + (3 + 11) + 20 ≤ _; omega⟩ ⟨by omega, by omega⟩ (Nat.le_of_ble_eq_true rfl) (fun v_16 h_15 p_17 => ?_)
  obtain ⟨rfl, rfl⟩ := p_17
  refine s_Model_weight_22 (fun z_18 => ?_) (fun z => absurd z (by decide))
  refine s_Model_weight_29 ?_
  refine s_Model_weight_30 ?_
  refine x_callV (As := [.int 0, .int 1]) (b := m) (rest := []) (F1 := 1) (L1 := 20) (mc := 0) (ms := 0) d_Model_weight_31 cV_Model_139 (f_fails_no l_8 e_2 g_9 (by omega) (by omega)) e_2 ⟨by decide, rfl⟩ ⟨by omega, by show 8 + (3 + 11) + 20 ≤ _; omega⟩ ⟨by omega, by omega⟩ (Nat.le_of_ble_eq_true rfl) (fun v_20 h_19 p_21 => ?_)
  obtain ⟨rfl, rfl⟩ := p_21
  refine s_Model_weight_34 (fun z_22 => ?_) (fun z => absurd z (by decide))
  refine s_Model_weight_39 l_8 e_2 g_10 e_4 (by unfold vp_in; decide) (by unfold vp_in; decide) ?_
  obtain ⟨h_23, z_26⟩ : ∃ z, z = xw_up h_1 weights_ (.inl (0, 2, .inl (upd wg (1 : Int32).toNatClampNeg y))) := ⟨_, rfl⟩
  rw [← z_26]
  have e_24 : h_23 weights_ = some (.inl (0, 2, .inl (upd wg (1 : Int32).toNatClampNeg y))) := by rw [z_26]; exact xw_up_s _ _ _
  have f_25 : ∀ q, q ≠ weights_ → h_23 q = h_1 q := fun q hq => by rw [z_26]; exact xw_up_n _ _ hq
  clear z_26
  have e_27 := (f_25 m (xw_neC e_2 e_4 (by simp))).trans e_2
  have r_28 := r_5.up (by simp) f_25
  exact ⟨rfl, ⟨fs_6, l_8, e_27, g_9⟩, r_28⟩
theorem empty_in (x : Int32) : x < 0 ∨ (0 - 1 : Int32) < x := by
  by_cases h : x < 0
  · exact Or.inl h
  · refine Or.inr ?_
    rw [Int32.lt_iff_toInt_lt] at *
    have h0 : (0 : Int32).toInt = 0 := rfl
    have h1 : (0 - 1 : Int32).toInt = -1 := by decide
    omega
set_option maxHeartbeats 1000000 in
theorem fm_answer {G : xw_G} {F L : Nat} {h : xw_A} {x y : Int32} {m : Nat} {fs : List Value} (l : fs.length = 62) (e : h m = some (.inr (11, fs))) (g_err : fs[(0 : Nat)]? = some (.int 0)) (g_found : fs[(56 : Nat)]? = some (.int 0)) (hF : 2 ≤ F) (hL : 42 ≤ L) :
    xw_Met G m_Model_answer F L 0 0 [.ref m, .int x, .int y] h (fun v h' => v = some (.int 0) ∧ MP [m] m 1 h h') (fun _ _ => False) := by
  refine xw_Met.of rfl (by decide) (Nat.le_of_ble_eq_true rfl) ?_
  have r0 : FrO [m] h h := FrO.rf
  refine s_Model_answer_0 l e g_found ?_
  refine x_u1 (fun h_1 e_2 f_3 => ?_)
  have r_4 := r0.up (by simp) f_3
  obtain ⟨fs_5, z_6⟩ : ∃ z, z = fs.set 0 (.int 0) := ⟨_, rfl⟩
  rw [← z_6] at e_2
  have l_7 : fs_5.length = 62 := by rw [z_6]; simp only [List.length_set]; exact l
  have g_8 : fs_5[(0 : Nat)]? = some (.int 0) := by rw [z_6]; exact (xw_gs (by simp [l]))
  have g_9 : fs_5[(56 : Nat)]? = some (.int 0) := by rw [z_6]; exact (xw_gn (by decide) g_found)
  clear z_6
  refine x_callS (As := [.int x, .int 0, .int (0 - 1)]) (rest := [.ref m]) (F1 := 1) (L1 := 20) (mc := 0) (ms := 0) d_Model_answer_14 cS_Model_133 (f_in_no (empty_in x) (by omega) (by omega)) ⟨by omega, by show 8 + (3 + 11) + 20 ≤ _; omega⟩ ⟨by omega, by omega⟩ (Nat.le_of_ble_eq_true rfl) (fun v_11 h_10 p_12 => ?_)
  obtain ⟨rfl, rfl⟩ := p_12
  refine s_Model_answer_17 (fun z => absurd z (by decide)) (fun z_13 => ?_)
  refine s_Model_answer_20 ?_
  refine s_Model_answer_25 ?_
  refine x_callV (As := [.int 1, .int 1]) (b := m) (rest := []) (F1 := 1) (L1 := 20) (mc := 0) (ms := 0) d_Model_answer_26 cV_Model_139 (f_fails_yes (c := 1) (by decide) l_7 e_2 g_8 (by omega) (by omega)) e_2 ⟨by decide, rfl⟩ ⟨by omega, by show 8 + (3 + 11) + 20 ≤ _; omega⟩ ⟨by omega, by omega⟩ (Nat.le_of_ble_eq_true rfl) (fun v_15 h_14 p_16 => ?_)
  obtain ⟨rfl, rfl⟩ := p_16
  refine x_u1 (fun h_17 e_18 f_19 => ?_)
  have r_20 := r_4.up (by simp) f_19
  obtain ⟨fs_21, z_22⟩ : ∃ z, z = fs_5.set 0 (.int 1) := ⟨_, rfl⟩
  rw [← z_22] at e_18
  have l_23 : fs_21.length = 62 := by rw [z_22]; simp only [List.length_set]; exact l_7
  have g_24 : fs_21[(0 : Nat)]? = some (.int 1) := by rw [z_22]; exact (xw_gs (by simp [l_7]))
  have g_25 : fs_21[(56 : Nat)]? = some (.int 0) := by rw [z_22]; exact (xw_gn (by decide) g_9)
  clear z_22
  refine s_Model_answer_29 (fun z => absurd z (by decide)) (fun z_26 => ?_)
  refine s_Model_answer_32 ?_
  exact ⟨rfl, ⟨fs_21, l_23, e_18, g_24⟩, r_20⟩
set_option maxHeartbeats 1000000 in
theorem fm_score {G : xw_G} {F L : Nat} {h : xw_A} {x y : Int32} {m : Nat} {fs : List Value} (l : fs.length = 62) (e : h m = some (.inr (11, fs))) (g_err : fs[(0 : Nat)]? = some (.int 0)) (g_found : fs[(56 : Nat)]? = some (.int 0)) (hF : 2 ≤ F) (hL : 42 ≤ L) :
    xw_Met G m_Model_score F L 0 0 [.ref m, .int x, .int y] h (fun v h' => v = some (.double FP.dconst0) ∧ MP [m] m 1 h h') (fun _ _ => False) := by
  refine xw_Met.of rfl (by decide) (Nat.le_of_ble_eq_true rfl) ?_
  have r0 : FrO [m] h h := FrO.rf
  refine s_Model_score_0 l e g_found ?_
  refine x_u1 (fun h_1 e_2 f_3 => ?_)
  have r_4 := r0.up (by simp) f_3
  obtain ⟨fs_5, z_6⟩ : ∃ z, z = fs.set 0 (.int 0) := ⟨_, rfl⟩
  rw [← z_6] at e_2
  have l_7 : fs_5.length = 62 := by rw [z_6]; simp only [List.length_set]; exact l
  have g_8 : fs_5[(0 : Nat)]? = some (.int 0) := by rw [z_6]; exact (xw_gs (by simp [l]))
  have g_9 : fs_5[(56 : Nat)]? = some (.int 0) := by rw [z_6]; exact (xw_gn (by decide) g_found)
  clear z_6
  refine x_callS (As := [.int x, .int 0, .int (0 - 1)]) (rest := [.ref m]) (F1 := 1) (L1 := 20) (mc := 0) (ms := 0) d_Model_score_14 cS_Model_133 (f_in_no (empty_in x) (by omega) (by omega)) ⟨by omega, by show 8 + (3 + 11) + 20 ≤ _; omega⟩ ⟨by omega, by omega⟩ (Nat.le_of_ble_eq_true rfl) (fun v_11 h_10 p_12 => ?_)
  obtain ⟨rfl, rfl⟩ := p_12
  refine s_Model_score_17 (fun z => absurd z (by decide)) (fun z_13 => ?_)
  refine s_Model_score_20 ?_
  refine s_Model_score_25 ?_
  refine x_callV (As := [.int 1, .int 1]) (b := m) (rest := []) (F1 := 1) (L1 := 20) (mc := 0) (ms := 0) d_Model_score_26 cV_Model_139 (f_fails_yes (c := 1) (by decide) l_7 e_2 g_8 (by omega) (by omega)) e_2 ⟨by decide, rfl⟩ ⟨by omega, by show 8 + (3 + 11) + 20 ≤ _; omega⟩ ⟨by omega, by omega⟩ (Nat.le_of_ble_eq_true rfl) (fun v_15 h_14 p_16 => ?_)
  obtain ⟨rfl, rfl⟩ := p_16
  refine x_u1 (fun h_17 e_18 f_19 => ?_)
  have r_20 := r_4.up (by simp) f_19
  obtain ⟨fs_21, z_22⟩ : ∃ z, z = fs_5.set 0 (.int 1) := ⟨_, rfl⟩
  rw [← z_22] at e_18
  have l_23 : fs_21.length = 62 := by rw [z_22]; simp only [List.length_set]; exact l_7
  have g_24 : fs_21[(0 : Nat)]? = some (.int 1) := by rw [z_22]; exact (xw_gs (by simp [l_7]))
  have g_25 : fs_21[(56 : Nat)]? = some (.int 0) := by rw [z_22]; exact (xw_gn (by decide) g_9)
  clear z_22
  refine s_Model_score_29 (fun z => absurd z (by decide)) (fun z_26 => ?_)
  refine s_Model_score_32 ?_
  exact ⟨rfl, ⟨fs_21, l_23, e_18, g_24⟩, r_20⟩
set_option maxHeartbeats 1000000 in
theorem fm_segment {G : xw_G} {F L : Nat} {h : xw_A} {x y : Int32} {m : Nat} {fs : List Value} (l : fs.length = 62) (e : h m = some (.inr (11, fs))) (g_err : fs[(0 : Nat)]? = some (.int 0)) (g_segments : fs[(19 : Nat)]? = some (.int 0)) (hF : 2 ≤ F) (hL : 42 ≤ L) :
    xw_Met G m_Model_segment F L 0 0 [.ref m, .int x, .int y] h (fun v h' => v = some (.int 0) ∧ MP [m] m 1 h h') (fun _ _ => False) := by
  refine xw_Met.of rfl (by decide) (Nat.le_of_ble_eq_true rfl) ?_
  have r0 : FrO [m] h h := FrO.rf
  refine s_Model_segment_0 l e g_segments ?_
  refine x_u1 (fun h_1 e_2 f_3 => ?_)
  have r_4 := r0.up (by simp) f_3
  obtain ⟨fs_5, z_6⟩ : ∃ z, z = fs.set 0 (.int 0) := ⟨_, rfl⟩
  rw [← z_6] at e_2
  have l_7 : fs_5.length = 62 := by rw [z_6]; simp only [List.length_set]; exact l
  have g_8 : fs_5[(0 : Nat)]? = some (.int 0) := by rw [z_6]; exact (xw_gs (by simp [l]))
  have g_9 : fs_5[(19 : Nat)]? = some (.int 0) := by rw [z_6]; exact (xw_gn (by decide) g_segments)
  clear z_6
  refine x_callS (As := [.int x, .int 0, .int (0 - 1)]) (rest := [.ref m]) (F1 := 1) (L1 := 20) (mc := 0) (ms := 0) d_Model_segment_14 cS_Model_133 (f_in_no (empty_in x) (by omega) (by omega)) ⟨by omega, by show 8 + (3 + 11) + 20 ≤ _; omega⟩ ⟨by omega, by omega⟩ (Nat.le_of_ble_eq_true rfl) (fun v_11 h_10 p_12 => ?_)
  obtain ⟨rfl, rfl⟩ := p_12
  refine s_Model_segment_17 (fun z => absurd z (by decide)) (fun z_13 => ?_)
  refine s_Model_segment_20 ?_
  refine s_Model_segment_25 ?_
  refine x_callV (As := [.int 1, .int 1]) (b := m) (rest := []) (F1 := 1) (L1 := 20) (mc := 0) (ms := 0) d_Model_segment_26 cV_Model_139 (f_fails_yes (c := 1) (by decide) l_7 e_2 g_8 (by omega) (by omega)) e_2 ⟨by decide, rfl⟩ ⟨by omega, by show 8 + (3 + 11) + 20 ≤ _; omega⟩ ⟨by omega, by omega⟩ (Nat.le_of_ble_eq_true rfl) (fun v_15 h_14 p_16 => ?_)
  obtain ⟨rfl, rfl⟩ := p_16
  refine x_u1 (fun h_17 e_18 f_19 => ?_)
  have r_20 := r_4.up (by simp) f_19
  obtain ⟨fs_21, z_22⟩ : ∃ z, z = fs_5.set 0 (.int 1) := ⟨_, rfl⟩
  rw [← z_22] at e_18
  have l_23 : fs_21.length = 62 := by rw [z_22]; simp only [List.length_set]; exact l_7
  have g_24 : fs_21[(0 : Nat)]? = some (.int 1) := by rw [z_22]; exact (xw_gs (by simp [l_7]))
  have g_25 : fs_21[(19 : Nat)]? = some (.int 0) := by rw [z_22]; exact (xw_gn (by decide) g_9)
  clear z_22
  refine s_Model_segment_29 (fun z_26 => ?_) (fun z => absurd z (by decide))
  refine s_Model_segment_54 ?_
  exact ⟨rfl, ⟨fs_21, l_23, e_18, g_24⟩, r_20⟩
set_option maxHeartbeats 1000000 in
theorem lp_rows {G : xw_G} {F L bc bs : Nat} {pr : Option Value → xw_A → Prop} {px : String → xw_A → Prop} {h0 : xw_A} {lf : Nat → Int32} {live_ : Nat} {m : Nat} {fs : List Value} (l : fs.length = 62) (g_live : fs[(14 : Nat)]? = some (.ref live_)) (hl : ∀ j, j < 24 → lf j = -1) 
    (k : ∀ (h : xw_A), h m = some (.inr (11, fs)) → h live_ = some (.inl (0, 24, .inl (lf))) → FrO [] h0 h → xw G m_Model_rows F L bc bs pr px 28 [none, some (.int 0), none] [] h) :
    ∀ (d i : Nat) (h : xw_A), i + d = 24 → h m = some (.inr (11, fs)) → h live_ = some (.inl (0, 24, .inl (lf))) → FrO [] h0 h → xw G m_Model_rows F L bc bs pr px 4 [some (.ref m), some (.int 0), some (.int (nI i))] [] h := by
  intro d
  induction d with
  | zero =>
    intro i h  hi e e_live r0
    obtain rfl : i = 24 := by omega
    refine s_Model_rows_4 (fun z_1 => ?_) (fun z => absurd z (by decide))
    exact k _ e e_live r0
  | succ d ih =>
    intro i h  hi e e_live r0
    refine s_Model_rows_4 (fun z => absurd z (nI_ge (b := 24) (show i < 24 by omega) (by decide))) (fun z_1 => ?_)
    refine s_Model_rows_10 l e g_live e_live (vp_in_nI (by omega) (by decide)) (fun z_2 => ?_) (fun z => absurd (by rw [nI_clamp (by omega), hl i (by omega)]; decide) z)
    refine s_Model_rows_22 ?_
    rw [nI_1]
    exact ih (i + 1) _ (by omega) e e_live r0
set_option maxHeartbeats 400000 in
theorem fm_rows {G : xw_G} {F L : Nat} {h : xw_A} {lf : Nat → Int32} {live_ : Nat} {m : Nat} {fs : List Value} (l : fs.length = 62) (e : h m = some (.inr (11, fs))) (g_live : fs[(14 : Nat)]? = some (.ref live_)) (e_live : h live_ = some (.inl (0, 24, .inl (lf)))) (hl : ∀ j, j < 24 → lf j = -1) (hF : 1 ≤ F) (hL : 20 ≤ L) :
    xw_Met G m_Model_rows F L 0 0 [.ref m] h (fun v h' => v = some (.int 0) ∧ FrO [] h h') (fun _ _ => False) := by
  refine xw_Met.of rfl (by decide) (Nat.le_of_ble_eq_true rfl) ?_
  have r0 : FrO [] h h := FrO.rf
  refine s_Model_rows_0 ?_
  refine lp_rows l g_live hl (fun h_1 e_2 e_3 r_4 => ?_) 24 0 _ (by omega) e e_live FrO.rf
  have r_5 := r0.trans (r_4.mono (by simp))
  refine s_Model_rows_28 ?_
  exact ⟨rfl, r_5⟩
set_option maxHeartbeats 400000 in
theorem fm_pending0 {G : xw_G} {F L : Nat} {h : xw_A} {lies_ : Nat} {m : Nat} {fs : List Value} (l : fs.length = 62) (e : h m = some (.inr (11, fs))) (g_versions : fs[(15 : Nat)]? = some (.int 0)) (g_lies : fs[(13 : Nat)]? = some (.ref lies_)) (hF : 1 ≤ F) (hL : 20 ≤ L) :
    xw_Met G m_Model_pending F L 0 0 [.ref m] h (fun v h' => v = some (.int 0) ∧ h = h') (fun _ _ => False) := by
  refine xw_Met.of rfl (by decide) (Nat.le_of_ble_eq_true rfl) ?_
  refine s_Model_pending_0 ?_
  refine s_Model_pending_4 l e g_versions (fun z_1 => ?_) (fun z => absurd z (by decide))
  refine s_Model_pending_38 ?_
  exact ⟨rfl, rfl⟩
set_option maxHeartbeats 1000000 in
theorem fm_count_no {G : xw_G} {F L : Nat} {h : xw_A} {x : Int32} {m : Nat} {fs : List Value} (l : fs.length = 62) (e : h m = some (.inr (11, fs))) (g_err : fs[(0 : Nat)]? = some (.int 0))  (hn : x < 0 ∨ 8 < x) (hF : 2 ≤ F) (hL : 42 ≤ L) :
    xw_Met G m_Model_count F L 0 0 [.ref m, .int x] h (fun v h' => v = some (.int 0) ∧ MP [m] m 1 h h') (fun _ _ => False) := by
  refine xw_Met.of rfl (by decide) (Nat.le_of_ble_eq_true rfl) ?_
  have r0 : FrO [m] h h := FrO.rf
  refine s_Model_count_0 l e ?_
  refine x_u1 (fun h_1 e_2 f_3 => ?_)
  have r_4 := r0.up (by simp) f_3
  obtain ⟨fs_5, z_6⟩ : ∃ z, z = fs.set 0 (.int 0) := ⟨_, rfl⟩
  rw [← z_6] at e_2
  have l_7 : fs_5.length = 62 := by rw [z_6]; simp only [List.length_set]; exact l
  have g_8 : fs_5[(0 : Nat)]? = some (.int 0) := by rw [z_6]; exact (xw_gs (by simp [l]))
  clear z_6
  refine x_callS (As := [.int x, .int 0, .int 8]) (rest := [.ref m]) (F1 := 1) (L1 := 20) (mc := 0) (ms := 0) d_Model_count_10 cS_Model_133 (f_in_no hn (by omega) (by omega)) ⟨by omega, by show 8 + (3 + 11) + 20 ≤ _; omega⟩ ⟨by omega, by omega⟩ (Nat.le_of_ble_eq_true rfl) (fun v_10 h_9 p_11 => ?_)
  obtain ⟨rfl, rfl⟩ := p_11
  refine s_Model_count_13 (fun z => absurd z (by decide)) (fun z_12 => ?_)
  refine s_Model_count_16 ?_
  refine s_Model_count_21 ?_
  refine x_callV (As := [.int 1, .int 1]) (b := m) (rest := []) (F1 := 1) (L1 := 20) (mc := 0) (ms := 0) d_Model_count_22 cV_Model_139 (f_fails_yes (c := 1) (by decide) l_7 e_2 g_8 (by omega) (by omega)) e_2 ⟨by decide, rfl⟩ ⟨by omega, by show 8 + (3 + 11) + 20 ≤ _; omega⟩ ⟨by omega, by omega⟩ (Nat.le_of_ble_eq_true rfl) (fun v_14 h_13 p_15 => ?_)
  obtain ⟨rfl, rfl⟩ := p_15
  refine x_u1 (fun h_16 e_17 f_18 => ?_)
  have r_19 := r_4.up (by simp) f_18
  obtain ⟨fs_20, z_21⟩ : ∃ z, z = fs_5.set 0 (.int 1) := ⟨_, rfl⟩
  rw [← z_21] at e_17
  have l_22 : fs_20.length = 62 := by rw [z_21]; simp only [List.length_set]; exact l_7
  have g_23 : fs_20[(0 : Nat)]? = some (.int 1) := by rw [z_21]; exact (xw_gs (by simp [l_7]))
  clear z_21
  refine s_Model_count_25 (fun z => absurd z (by decide)) (fun z_24 => ?_)
  refine s_Model_count_28 ?_
  exact ⟨rfl, ⟨fs_20, l_22, e_17, g_23⟩, r_19⟩
set_option maxHeartbeats 1000000 in
theorem fm_count_0 {G : xw_G} {F L : Nat} {h : xw_A} {lf : Nat → Int32} {live_ : Nat} {m : Nat} {fs : List Value} (l : fs.length = 62) (e : h m = some (.inr (11, fs))) (g_err : fs[(0 : Nat)]? = some (.int 0)) (g_live : fs[(14 : Nat)]? = some (.ref live_)) (e_live : h live_ = some (.inl (0, 24, .inl (lf))))  (hl : ∀ j, j < 24 → lf j = -1) (hF : 2 ≤ F) (hL : 42 ≤ L) :
    xw_Met G m_Model_count F L 0 0 [.ref m, .int 0] h (fun v h' => v = some (.int 0) ∧ MP [m] m 0 h h') (fun _ _ => False) := by
  refine xw_Met.of rfl (by decide) (Nat.le_of_ble_eq_true rfl) ?_
  have r0 : FrO [m] h h := FrO.rf
  refine s_Model_count_0 l e ?_
  refine x_u1 (fun h_1 e_2 f_3 => ?_)
  have e_4 := (f_3 live_ (xw_neC e_live e (by simp))).trans e_live
  have r_5 := r0.up (by simp) f_3
  obtain ⟨fs_6, z_7⟩ : ∃ z, z = fs.set 0 (.int 0) := ⟨_, rfl⟩
  rw [← z_7] at e_2
  have l_8 : fs_6.length = 62 := by rw [z_7]; simp only [List.length_set]; exact l
  have g_9 : fs_6[(0 : Nat)]? = some (.int 0) := by rw [z_7]; exact (xw_gs (by simp [l]))
  have g_10 : fs_6[(14 : Nat)]? = some (.ref live_) := by rw [z_7]; exact (xw_gn (by decide) g_live)
  clear z_7
  refine x_callS (As := [.int 0, .int 0, .int 8]) (rest := [.ref m]) (F1 := 1) (L1 := 20) (mc := 0) (ms := 0) d_Model_count_10 cS_Model_133 (f_in_yes (by decide) (by decide) (by omega) (by omega)) ⟨by omega, by show 8 + (3 + 11) + 20 ≤ _; omega⟩ ⟨by omega, by omega⟩ (Nat.le_of_ble_eq_true rfl) (fun v_12 h_11 p_13 => ?_)
  obtain ⟨rfl, rfl⟩ := p_13
  refine s_Model_count_13 (fun z_14 => ?_) (fun z => absurd z (by decide))
  refine s_Model_count_20 ?_
  refine s_Model_count_21 ?_
  refine x_callV (As := [.int 0, .int 1]) (b := m) (rest := []) (F1 := 1) (L1 := 20) (mc := 0) (ms := 0) d_Model_count_22 cV_Model_139 (f_fails_no l_8 e_2 g_9 (by omega) (by omega)) e_2 ⟨by decide, rfl⟩ ⟨by omega, by show 8 + (3 + 11) + 20 ≤ _; omega⟩ ⟨by omega, by omega⟩ (Nat.le_of_ble_eq_true rfl) (fun v_16 h_15 p_17 => ?_)
  obtain ⟨rfl, rfl⟩ := p_17
  refine s_Model_count_25 (fun z_18 => ?_) (fun z => absurd z (by decide))
  refine s_Model_count_30 ?_
  refine x_tableAt (tgt := 76) d_Model_count_31 (by decide) (by decide) (show _ = some 45 by decide) (by decide) ⟨124, by decide⟩ ?_
  refine x_le (xw_le_s (xw_le_n xw_le_e)) ?_
  refine s_Model_count_76 ?_
  refine x_callV (As := []) (b := m) (rest := []) (F1 := 1) (L1 := 20) (mc := 0) (ms := 0) d_Model_count_77 cV_Model_209 (fm_rows l_8 e_2 g_10 e_4 hl (by omega) (by omega)) e_2 ⟨by decide, rfl⟩ ⟨by omega, by show 8 + (3 + 11) + 20 ≤ _; omega⟩ ⟨by omega, by omega⟩ (Nat.le_of_ble_eq_true rfl) (fun v_20 h_19 p_21 => ?_)
  obtain ⟨rfl, fr_9⟩ := p_21
  have e_22 := fr_9 live_ _ (by simp) e_4
  have e_23 := fr_9 m _ (by simp) e_2
  have r_24 := r_5.trans (fr_9.mono (by simp))
  refine x_le (xw_le_n (xw_le_n xw_le_e)) ?_
  refine s_Model_count_80 ?_
  exact ⟨rfl, ⟨fs_6, l_8, e_23, g_9⟩, r_24⟩
set_option maxHeartbeats 1000000 in
theorem fm_count_1 {G : xw_G} {F L : Nat} {h : xw_A} {m : Nat} {fs : List Value} (l : fs.length = 62) (e : h m = some (.inr (11, fs))) (g_err : fs[(0 : Nat)]? = some (.int 0)) (g_segments : fs[(19 : Nat)]? = some (.int 0)) (hF : 2 ≤ F) (hL : 42 ≤ L) :
    xw_Met G m_Model_count F L 0 0 [.ref m, .int 1] h (fun v h' => v = some (.int 0) ∧ MP [m] m 0 h h') (fun _ _ => False) := by
  refine xw_Met.of rfl (by decide) (Nat.le_of_ble_eq_true rfl) ?_
  have r0 : FrO [m] h h := FrO.rf
  refine s_Model_count_0 l e ?_
  refine x_u1 (fun h_1 e_2 f_3 => ?_)
  have r_4 := r0.up (by simp) f_3
  obtain ⟨fs_5, z_6⟩ : ∃ z, z = fs.set 0 (.int 0) := ⟨_, rfl⟩
  rw [← z_6] at e_2
  have l_7 : fs_5.length = 62 := by rw [z_6]; simp only [List.length_set]; exact l
  have g_8 : fs_5[(0 : Nat)]? = some (.int 0) := by rw [z_6]; exact (xw_gs (by simp [l]))
  have g_9 : fs_5[(19 : Nat)]? = some (.int 0) := by rw [z_6]; exact (xw_gn (by decide) g_segments)
  clear z_6
  refine x_callS (As := [.int 1, .int 0, .int 8]) (rest := [.ref m]) (F1 := 1) (L1 := 20) (mc := 0) (ms := 0) d_Model_count_10 cS_Model_133 (f_in_yes (by decide) (by decide) (by omega) (by omega)) ⟨by omega, by show 8 + (3 + 11) + 20 ≤ _; omega⟩ ⟨by omega, by omega⟩ (Nat.le_of_ble_eq_true rfl) (fun v_11 h_10 p_12 => ?_)
  obtain ⟨rfl, rfl⟩ := p_12
  refine s_Model_count_13 (fun z_13 => ?_) (fun z => absurd z (by decide))
  refine s_Model_count_20 ?_
  refine s_Model_count_21 ?_
  refine x_callV (As := [.int 0, .int 1]) (b := m) (rest := []) (F1 := 1) (L1 := 20) (mc := 0) (ms := 0) d_Model_count_22 cV_Model_139 (f_fails_no l_7 e_2 g_8 (by omega) (by omega)) e_2 ⟨by decide, rfl⟩ ⟨by omega, by show 8 + (3 + 11) + 20 ≤ _; omega⟩ ⟨by omega, by omega⟩ (Nat.le_of_ble_eq_true rfl) (fun v_15 h_14 p_16 => ?_)
  obtain ⟨rfl, rfl⟩ := p_16
  refine s_Model_count_25 (fun z_17 => ?_) (fun z => absurd z (by decide))
  refine s_Model_count_30 ?_
  refine x_tableAt (tgt := 81) d_Model_count_31 (by decide) (by decide) (show _ = some 50 by decide) (by decide) ⟨124, by decide⟩ ?_
  refine x_le (xw_le_s (xw_le_n xw_le_e)) ?_
  refine s_Model_count_81 l_7 e_2 g_9 ?_
  exact ⟨rfl, ⟨fs_5, l_7, e_2, g_8⟩, r_4⟩
set_option maxHeartbeats 1000000 in
theorem fm_count_2 {G : xw_G} {F L : Nat} {h : xw_A} {lies_ : Nat} {m : Nat} {fs : List Value} (l : fs.length = 62) (e : h m = some (.inr (11, fs))) (g_err : fs[(0 : Nat)]? = some (.int 0)) (g_versions : fs[(15 : Nat)]? = some (.int 0)) (g_lies : fs[(13 : Nat)]? = some (.ref lies_)) (hF : 2 ≤ F) (hL : 42 ≤ L) :
    xw_Met G m_Model_count F L 0 0 [.ref m, .int 2] h (fun v h' => v = some (.int 0) ∧ MP [m] m 0 h h') (fun _ _ => False) := by
  refine xw_Met.of rfl (by decide) (Nat.le_of_ble_eq_true rfl) ?_
  have r0 : FrO [m] h h := FrO.rf
  refine s_Model_count_0 l e ?_
  refine x_u1 (fun h_1 e_2 f_3 => ?_)
  have r_4 := r0.up (by simp) f_3
  obtain ⟨fs_5, z_6⟩ : ∃ z, z = fs.set 0 (.int 0) := ⟨_, rfl⟩
  rw [← z_6] at e_2
  have l_7 : fs_5.length = 62 := by rw [z_6]; simp only [List.length_set]; exact l
  have g_8 : fs_5[(0 : Nat)]? = some (.int 0) := by rw [z_6]; exact (xw_gs (by simp [l]))
  have g_9 : fs_5[(13 : Nat)]? = some (.ref lies_) := by rw [z_6]; exact (xw_gn (by decide) g_lies)
  have g_10 : fs_5[(15 : Nat)]? = some (.int 0) := by rw [z_6]; exact (xw_gn (by decide) g_versions)
  clear z_6
  refine x_callS (As := [.int 2, .int 0, .int 8]) (rest := [.ref m]) (F1 := 1) (L1 := 20) (mc := 0) (ms := 0) d_Model_count_10 cS_Model_133 (f_in_yes (by decide) (by decide) (by omega) (by omega)) ⟨by omega, by show 8 + (3 + 11) + 20 ≤ _; omega⟩ ⟨by omega, by omega⟩ (Nat.le_of_ble_eq_true rfl) (fun v_12 h_11 p_13 => ?_)
  obtain ⟨rfl, rfl⟩ := p_13
  refine s_Model_count_13 (fun z_14 => ?_) (fun z => absurd z (by decide))
  refine s_Model_count_20 ?_
  refine s_Model_count_21 ?_
  refine x_callV (As := [.int 0, .int 1]) (b := m) (rest := []) (F1 := 1) (L1 := 20) (mc := 0) (ms := 0) d_Model_count_22 cV_Model_139 (f_fails_no l_7 e_2 g_8 (by omega) (by omega)) e_2 ⟨by decide, rfl⟩ ⟨by omega, by show 8 + (3 + 11) + 20 ≤ _; omega⟩ ⟨by omega, by omega⟩ (Nat.le_of_ble_eq_true rfl) (fun v_16 h_15 p_17 => ?_)
  obtain ⟨rfl, rfl⟩ := p_17
  refine s_Model_count_25 (fun z_18 => ?_) (fun z => absurd z (by decide))
  refine s_Model_count_30 ?_
  refine x_tableAt (tgt := 86) d_Model_count_31 (by decide) (by decide) (show _ = some 55 by decide) (by decide) ⟨124, by decide⟩ ?_
  refine x_le (xw_le_s (xw_le_n xw_le_e)) ?_
  refine s_Model_count_86 ?_
  refine x_callV (As := []) (b := m) (rest := []) (F1 := 1) (L1 := 20) (mc := 0) (ms := 0) d_Model_count_87 cV_Model_171 (fm_pending0 l_7 e_2 g_10 g_9 (by omega) (by omega)) e_2 ⟨by decide, rfl⟩ ⟨by omega, by show 8 + (3 + 11) + 20 ≤ _; omega⟩ ⟨by omega, by omega⟩ (Nat.le_of_ble_eq_true rfl) (fun v_20 h_19 p_21 => ?_)
  obtain ⟨rfl, rfl⟩ := p_21
  refine x_le (xw_le_n (xw_le_n xw_le_e)) ?_
  refine s_Model_count_90 ?_
  exact ⟨rfl, ⟨fs_5, l_7, e_2, g_8⟩, r_4⟩
set_option maxHeartbeats 1000000 in
theorem fm_count_3 {G : xw_G} {F L : Nat} {h : xw_A} {m : Nat} {fs : List Value} (l : fs.length = 62) (e : h m = some (.inr (11, fs))) (g_err : fs[(0 : Nat)]? = some (.int 0)) (g_versions : fs[(15 : Nat)]? = some (.int 0)) (hF : 2 ≤ F) (hL : 42 ≤ L) :
    xw_Met G m_Model_count F L 0 0 [.ref m, .int 3] h (fun v h' => v = some (.int 0) ∧ MP [m] m 0 h h') (fun _ _ => False) := by
  refine xw_Met.of rfl (by decide) (Nat.le_of_ble_eq_true rfl) ?_
  have r0 : FrO [m] h h := FrO.rf
  refine s_Model_count_0 l e ?_
  refine x_u1 (fun h_1 e_2 f_3 => ?_)
  have r_4 := r0.up (by simp) f_3
  obtain ⟨fs_5, z_6⟩ : ∃ z, z = fs.set 0 (.int 0) := ⟨_, rfl⟩
  rw [← z_6] at e_2
  have l_7 : fs_5.length = 62 := by rw [z_6]; simp only [List.length_set]; exact l
  have g_8 : fs_5[(0 : Nat)]? = some (.int 0) := by rw [z_6]; exact (xw_gs (by simp [l]))
  have g_9 : fs_5[(15 : Nat)]? = some (.int 0) := by rw [z_6]; exact (xw_gn (by decide) g_versions)
  clear z_6
  refine x_callS (As := [.int 3, .int 0, .int 8]) (rest := [.ref m]) (F1 := 1) (L1 := 20) (mc := 0) (ms := 0) d_Model_count_10 cS_Model_133 (f_in_yes (by decide) (by decide) (by omega) (by omega)) ⟨by omega, by show 8 + (3 + 11) + 20 ≤ _; omega⟩ ⟨by omega, by omega⟩ (Nat.le_of_ble_eq_true rfl) (fun v_11 h_10 p_12 => ?_)
  obtain ⟨rfl, rfl⟩ := p_12
  refine s_Model_count_13 (fun z_13 => ?_) (fun z => absurd z (by decide))
  refine s_Model_count_20 ?_
  refine s_Model_count_21 ?_
  refine x_callV (As := [.int 0, .int 1]) (b := m) (rest := []) (F1 := 1) (L1 := 20) (mc := 0) (ms := 0) d_Model_count_22 cV_Model_139 (f_fails_no l_7 e_2 g_8 (by omega) (by omega)) e_2 ⟨by decide, rfl⟩ ⟨by omega, by show 8 + (3 + 11) + 20 ≤ _; omega⟩ ⟨by omega, by omega⟩ (Nat.le_of_ble_eq_true rfl) (fun v_15 h_14 p_16 => ?_)
  obtain ⟨rfl, rfl⟩ := p_16
  refine s_Model_count_25 (fun z_17 => ?_) (fun z => absurd z (by decide))
  refine s_Model_count_30 ?_
  refine x_tableAt (tgt := 91) d_Model_count_31 (by decide) (by decide) (show _ = some 60 by decide) (by decide) ⟨124, by decide⟩ ?_
  refine x_le (xw_le_s (xw_le_n xw_le_e)) ?_
  refine s_Model_count_91 l_7 e_2 g_9 ?_
  exact ⟨rfl, ⟨fs_5, l_7, e_2, g_8⟩, r_4⟩
set_option maxHeartbeats 1000000 in
theorem fm_count_4 {G : xw_G} {F L : Nat} {h : xw_A} {m : Nat} {fs : List Value} (l : fs.length = 62) (e : h m = some (.inr (11, fs))) (g_err : fs[(0 : Nat)]? = some (.int 0)) (g_made : fs[(16 : Nat)]? = some (.int 0)) (hF : 2 ≤ F) (hL : 42 ≤ L) :
    xw_Met G m_Model_count F L 0 0 [.ref m, .int 4] h (fun v h' => v = some (.int 0) ∧ MP [m] m 0 h h') (fun _ _ => False) := by
  refine xw_Met.of rfl (by decide) (Nat.le_of_ble_eq_true rfl) ?_
  have r0 : FrO [m] h h := FrO.rf
  refine s_Model_count_0 l e ?_
  refine x_u1 (fun h_1 e_2 f_3 => ?_)
  have r_4 := r0.up (by simp) f_3
  obtain ⟨fs_5, z_6⟩ : ∃ z, z = fs.set 0 (.int 0) := ⟨_, rfl⟩
  rw [← z_6] at e_2
  have l_7 : fs_5.length = 62 := by rw [z_6]; simp only [List.length_set]; exact l
  have g_8 : fs_5[(0 : Nat)]? = some (.int 0) := by rw [z_6]; exact (xw_gs (by simp [l]))
  have g_9 : fs_5[(16 : Nat)]? = some (.int 0) := by rw [z_6]; exact (xw_gn (by decide) g_made)
  clear z_6
  refine x_callS (As := [.int 4, .int 0, .int 8]) (rest := [.ref m]) (F1 := 1) (L1 := 20) (mc := 0) (ms := 0) d_Model_count_10 cS_Model_133 (f_in_yes (by decide) (by decide) (by omega) (by omega)) ⟨by omega, by show 8 + (3 + 11) + 20 ≤ _; omega⟩ ⟨by omega, by omega⟩ (Nat.le_of_ble_eq_true rfl) (fun v_11 h_10 p_12 => ?_)
  obtain ⟨rfl, rfl⟩ := p_12
  refine s_Model_count_13 (fun z_13 => ?_) (fun z => absurd z (by decide))
  refine s_Model_count_20 ?_
  refine s_Model_count_21 ?_
  refine x_callV (As := [.int 0, .int 1]) (b := m) (rest := []) (F1 := 1) (L1 := 20) (mc := 0) (ms := 0) d_Model_count_22 cV_Model_139 (f_fails_no l_7 e_2 g_8 (by omega) (by omega)) e_2 ⟨by decide, rfl⟩ ⟨by omega, by show 8 + (3 + 11) + 20 ≤ _; omega⟩ ⟨by omega, by omega⟩ (Nat.le_of_ble_eq_true rfl) (fun v_15 h_14 p_16 => ?_)
  obtain ⟨rfl, rfl⟩ := p_16
  refine s_Model_count_25 (fun z_17 => ?_) (fun z => absurd z (by decide))
  refine s_Model_count_30 ?_
  refine x_tableAt (tgt := 96) d_Model_count_31 (by decide) (by decide) (show _ = some 65 by decide) (by decide) ⟨124, by decide⟩ ?_
  refine x_le (xw_le_s (xw_le_n xw_le_e)) ?_
  refine s_Model_count_96 l_7 e_2 g_9 ?_
  exact ⟨rfl, ⟨fs_5, l_7, e_2, g_8⟩, r_4⟩
set_option maxHeartbeats 1000000 in
theorem fm_count_5 {G : xw_G} {F L : Nat} {h : xw_A} {m : Nat} {fs : List Value} (l : fs.length = 62) (e : h m = some (.inr (11, fs))) (g_err : fs[(0 : Nat)]? = some (.int 0)) (g_found : fs[(56 : Nat)]? = some (.int 0)) (hF : 2 ≤ F) (hL : 42 ≤ L) :
    xw_Met G m_Model_count F L 0 0 [.ref m, .int 5] h (fun v h' => v = some (.int 0) ∧ MP [m] m 0 h h') (fun _ _ => False) := by
  refine xw_Met.of rfl (by decide) (Nat.le_of_ble_eq_true rfl) ?_
  have r0 : FrO [m] h h := FrO.rf
  refine s_Model_count_0 l e ?_
  refine x_u1 (fun h_1 e_2 f_3 => ?_)
  have r_4 := r0.up (by simp) f_3
  obtain ⟨fs_5, z_6⟩ : ∃ z, z = fs.set 0 (.int 0) := ⟨_, rfl⟩
  rw [← z_6] at e_2
  have l_7 : fs_5.length = 62 := by rw [z_6]; simp only [List.length_set]; exact l
  have g_8 : fs_5[(0 : Nat)]? = some (.int 0) := by rw [z_6]; exact (xw_gs (by simp [l]))
  have g_9 : fs_5[(56 : Nat)]? = some (.int 0) := by rw [z_6]; exact (xw_gn (by decide) g_found)
  clear z_6
  refine x_callS (As := [.int 5, .int 0, .int 8]) (rest := [.ref m]) (F1 := 1) (L1 := 20) (mc := 0) (ms := 0) d_Model_count_10 cS_Model_133 (f_in_yes (by decide) (by decide) (by omega) (by omega)) ⟨by omega, by show 8 + (3 + 11) + 20 ≤ _; omega⟩ ⟨by omega, by omega⟩ (Nat.le_of_ble_eq_true rfl) (fun v_11 h_10 p_12 => ?_)
  obtain ⟨rfl, rfl⟩ := p_12
  refine s_Model_count_13 (fun z_13 => ?_) (fun z => absurd z (by decide))
  refine s_Model_count_20 ?_
  refine s_Model_count_21 ?_
  refine x_callV (As := [.int 0, .int 1]) (b := m) (rest := []) (F1 := 1) (L1 := 20) (mc := 0) (ms := 0) d_Model_count_22 cV_Model_139 (f_fails_no l_7 e_2 g_8 (by omega) (by omega)) e_2 ⟨by decide, rfl⟩ ⟨by omega, by show 8 + (3 + 11) + 20 ≤ _; omega⟩ ⟨by omega, by omega⟩ (Nat.le_of_ble_eq_true rfl) (fun v_15 h_14 p_16 => ?_)
  obtain ⟨rfl, rfl⟩ := p_16
  refine s_Model_count_25 (fun z_17 => ?_) (fun z => absurd z (by decide))
  refine s_Model_count_30 ?_
  refine x_tableAt (tgt := 101) d_Model_count_31 (by decide) (by decide) (show _ = some 70 by decide) (by decide) ⟨124, by decide⟩ ?_
  refine x_le (xw_le_s (xw_le_n xw_le_e)) ?_
  refine s_Model_count_101 l_7 e_2 g_9 ?_
  exact ⟨rfl, ⟨fs_5, l_7, e_2, g_8⟩, r_4⟩
set_option maxHeartbeats 1000000 in
theorem fm_count_6 {G : xw_G} {F L : Nat} {h : xw_A} {m : Nat} {fs : List Value} (l : fs.length = 62) (e : h m = some (.inr (11, fs))) (g_err : fs[(0 : Nat)]? = some (.int 0)) (g_good : fs[(40 : Nat)]? = some (.int 0)) (hF : 2 ≤ F) (hL : 42 ≤ L) :
    xw_Met G m_Model_count F L 0 0 [.ref m, .int 6] h (fun v h' => v = some (.int 0) ∧ MP [m] m 0 h h') (fun _ _ => False) := by
  refine xw_Met.of rfl (by decide) (Nat.le_of_ble_eq_true rfl) ?_
  have r0 : FrO [m] h h := FrO.rf
  refine s_Model_count_0 l e ?_
  refine x_u1 (fun h_1 e_2 f_3 => ?_)
  have r_4 := r0.up (by simp) f_3
  obtain ⟨fs_5, z_6⟩ : ∃ z, z = fs.set 0 (.int 0) := ⟨_, rfl⟩
  rw [← z_6] at e_2
  have l_7 : fs_5.length = 62 := by rw [z_6]; simp only [List.length_set]; exact l
  have g_8 : fs_5[(0 : Nat)]? = some (.int 0) := by rw [z_6]; exact (xw_gs (by simp [l]))
  have g_9 : fs_5[(40 : Nat)]? = some (.int 0) := by rw [z_6]; exact (xw_gn (by decide) g_good)
  clear z_6
  refine x_callS (As := [.int 6, .int 0, .int 8]) (rest := [.ref m]) (F1 := 1) (L1 := 20) (mc := 0) (ms := 0) d_Model_count_10 cS_Model_133 (f_in_yes (by decide) (by decide) (by omega) (by omega)) ⟨by omega, by show 8 + (3 + 11) + 20 ≤ _; omega⟩ ⟨by omega, by omega⟩ (Nat.le_of_ble_eq_true rfl) (fun v_11 h_10 p_12 => ?_)
  obtain ⟨rfl, rfl⟩ := p_12
  refine s_Model_count_13 (fun z_13 => ?_) (fun z => absurd z (by decide))
  refine s_Model_count_20 ?_
  refine s_Model_count_21 ?_
  refine x_callV (As := [.int 0, .int 1]) (b := m) (rest := []) (F1 := 1) (L1 := 20) (mc := 0) (ms := 0) d_Model_count_22 cV_Model_139 (f_fails_no l_7 e_2 g_8 (by omega) (by omega)) e_2 ⟨by decide, rfl⟩ ⟨by omega, by show 8 + (3 + 11) + 20 ≤ _; omega⟩ ⟨by omega, by omega⟩ (Nat.le_of_ble_eq_true rfl) (fun v_15 h_14 p_16 => ?_)
  obtain ⟨rfl, rfl⟩ := p_16
  refine s_Model_count_25 (fun z_17 => ?_) (fun z => absurd z (by decide))
  refine s_Model_count_30 ?_
  refine x_tableAt (tgt := 106) d_Model_count_31 (by decide) (by decide) (show _ = some 75 by decide) (by decide) ⟨124, by decide⟩ ?_
  refine x_le (xw_le_s (xw_le_n xw_le_e)) ?_
  refine s_Model_count_106 l_7 e_2 g_9 ?_
  exact ⟨rfl, ⟨fs_5, l_7, e_2, g_8⟩, r_4⟩
set_option maxHeartbeats 1000000 in
theorem fm_count_7 {G : xw_G} {F L : Nat} {h : xw_A} {m : Nat} {fs : List Value} (l : fs.length = 62) (e : h m = some (.inr (11, fs))) (g_err : fs[(0 : Nat)]? = some (.int 0)) (g_open : fs[(20 : Nat)]? = some (.int 0)) (hF : 2 ≤ F) (hL : 42 ≤ L) :
    xw_Met G m_Model_count F L 0 0 [.ref m, .int 7] h (fun v h' => v = some (.int 0) ∧ MP [m] m 0 h h') (fun _ _ => False) := by
  refine xw_Met.of rfl (by decide) (Nat.le_of_ble_eq_true rfl) ?_
  have r0 : FrO [m] h h := FrO.rf
  refine s_Model_count_0 l e ?_
  refine x_u1 (fun h_1 e_2 f_3 => ?_)
  have r_4 := r0.up (by simp) f_3
  obtain ⟨fs_5, z_6⟩ : ∃ z, z = fs.set 0 (.int 0) := ⟨_, rfl⟩
  rw [← z_6] at e_2
  have l_7 : fs_5.length = 62 := by rw [z_6]; simp only [List.length_set]; exact l
  have g_8 : fs_5[(0 : Nat)]? = some (.int 0) := by rw [z_6]; exact (xw_gs (by simp [l]))
  have g_9 : fs_5[(20 : Nat)]? = some (.int 0) := by rw [z_6]; exact (xw_gn (by decide) g_open)
  clear z_6
  refine x_callS (As := [.int 7, .int 0, .int 8]) (rest := [.ref m]) (F1 := 1) (L1 := 20) (mc := 0) (ms := 0) d_Model_count_10 cS_Model_133 (f_in_yes (by decide) (by decide) (by omega) (by omega)) ⟨by omega, by show 8 + (3 + 11) + 20 ≤ _; omega⟩ ⟨by omega, by omega⟩ (Nat.le_of_ble_eq_true rfl) (fun v_11 h_10 p_12 => ?_)
  obtain ⟨rfl, rfl⟩ := p_12
  refine s_Model_count_13 (fun z_13 => ?_) (fun z => absurd z (by decide))
  refine s_Model_count_20 ?_
  refine s_Model_count_21 ?_
  refine x_callV (As := [.int 0, .int 1]) (b := m) (rest := []) (F1 := 1) (L1 := 20) (mc := 0) (ms := 0) d_Model_count_22 cV_Model_139 (f_fails_no l_7 e_2 g_8 (by omega) (by omega)) e_2 ⟨by decide, rfl⟩ ⟨by omega, by show 8 + (3 + 11) + 20 ≤ _; omega⟩ ⟨by omega, by omega⟩ (Nat.le_of_ble_eq_true rfl) (fun v_15 h_14 p_16 => ?_)
  obtain ⟨rfl, rfl⟩ := p_16
  refine s_Model_count_25 (fun z_17 => ?_) (fun z => absurd z (by decide))
  refine s_Model_count_30 ?_
  refine x_tableAt (tgt := 111) d_Model_count_31 (by decide) (by decide) (show _ = some 80 by decide) (by decide) ⟨124, by decide⟩ ?_
  refine x_le (xw_le_s (xw_le_n xw_le_e)) ?_
  refine s_Model_count_111 l_7 e_2 g_9 (fun z_18 => ?_) (fun z => absurd z (by decide))
  refine s_Model_count_122 ?_
  refine s_Model_count_123 ?_
  exact ⟨rfl, ⟨fs_5, l_7, e_2, g_8⟩, r_4⟩
set_option maxHeartbeats 1000000 in
theorem fm_count_8 {G : xw_G} {F L : Nat} {h : xw_A} {m : Nat} {fs : List Value} (l : fs.length = 62) (e : h m = some (.inr (11, fs))) (g_err : fs[(0 : Nat)]? = some (.int 0)) (g_drafted : fs[(10 : Nat)]? = some (.int 0)) (hF : 2 ≤ F) (hL : 42 ≤ L) :
    xw_Met G m_Model_count F L 0 0 [.ref m, .int 8] h (fun v h' => v = some (.int 0) ∧ MP [m] m 0 h h') (fun _ _ => False) := by
  refine xw_Met.of rfl (by decide) (Nat.le_of_ble_eq_true rfl) ?_
  have r0 : FrO [m] h h := FrO.rf
  refine s_Model_count_0 l e ?_
  refine x_u1 (fun h_1 e_2 f_3 => ?_)
  have r_4 := r0.up (by simp) f_3
  obtain ⟨fs_5, z_6⟩ : ∃ z, z = fs.set 0 (.int 0) := ⟨_, rfl⟩
  rw [← z_6] at e_2
  have l_7 : fs_5.length = 62 := by rw [z_6]; simp only [List.length_set]; exact l
  have g_8 : fs_5[(0 : Nat)]? = some (.int 0) := by rw [z_6]; exact (xw_gs (by simp [l]))
  have g_9 : fs_5[(10 : Nat)]? = some (.int 0) := by rw [z_6]; exact (xw_gn (by decide) g_drafted)
  clear z_6
  refine x_callS (As := [.int 8, .int 0, .int 8]) (rest := [.ref m]) (F1 := 1) (L1 := 20) (mc := 0) (ms := 0) d_Model_count_10 cS_Model_133 (f_in_yes (by decide) (by decide) (by omega) (by omega)) ⟨by omega, by show 8 + (3 + 11) + 20 ≤ _; omega⟩ ⟨by omega, by omega⟩ (Nat.le_of_ble_eq_true rfl) (fun v_11 h_10 p_12 => ?_)
  obtain ⟨rfl, rfl⟩ := p_12
  refine s_Model_count_13 (fun z_13 => ?_) (fun z => absurd z (by decide))
  refine s_Model_count_20 ?_
  refine s_Model_count_21 ?_
  refine x_callV (As := [.int 0, .int 1]) (b := m) (rest := []) (F1 := 1) (L1 := 20) (mc := 0) (ms := 0) d_Model_count_22 cV_Model_139 (f_fails_no l_7 e_2 g_8 (by omega) (by omega)) e_2 ⟨by decide, rfl⟩ ⟨by omega, by show 8 + (3 + 11) + 20 ≤ _; omega⟩ ⟨by omega, by omega⟩ (Nat.le_of_ble_eq_true rfl) (fun v_15 h_14 p_16 => ?_)
  obtain ⟨rfl, rfl⟩ := p_16
  refine s_Model_count_25 (fun z_17 => ?_) (fun z => absurd z (by decide))
  refine s_Model_count_30 ?_
  refine x_tableOut (dt := 124) d_Model_count_31 (by decide) (by decide) ?_
  refine x_le (xw_le_s (xw_le_n xw_le_e)) ?_
  refine s_Model_count_124 l_7 e_2 g_9 ?_
  exact ⟨rfl, ⟨fs_5, l_7, e_2, g_8⟩, r_4⟩
set_option maxHeartbeats 1000000 in
theorem lp_beg1 {G : xw_G} {F L bc bs : Nat} {pr : Option Value → xw_A → Prop} {px : String → xw_A → Prop} {h0 : xw_A} {ft : Nat → Int32} {texts_ oldTexts_ : Nat} {m : Nat} {fs : List Value} (l : fs.length = 62) (g_texts : fs[(7 : Nat)]? = some (.ref texts_)) (g_oldTexts : fs[(21 : Nat)]? = some (.ref oldTexts_)) (n_texts_oldTexts : texts_ ≠ oldTexts_)  
    (k : ∀ (h : xw_A) (f_oldTexts : Nat → Int32), h m = some (.inr (11, fs)) → h texts_ = some (.inl (0, 2304, .inl (ft))) → h oldTexts_ = some (.inl (0, 2304, .inl (f_oldTexts))) → FrO [oldTexts_] h0 h → xw G m_Model_begin F L bc bs pr px 50 [some (.ref m), none] [] h) :
    ∀ (d i : Nat) (h : xw_A) (f_oldTexts : Nat → Int32), i + d = 2304 → h m = some (.inr (11, fs)) → h texts_ = some (.inl (0, 2304, .inl (ft))) → h oldTexts_ = some (.inl (0, 2304, .inl (f_oldTexts))) → FrO [oldTexts_] h0 h → xw G m_Model_begin F L bc bs pr px 25 [some (.ref m), some (.int (nI i))] [] h := by
  intro d
  induction d with
  | zero =>
    intro i h f_oldTexts hi e e_texts e_oldTexts r0
    obtain rfl : i = 2304 := by omega
    refine s_Model_begin_25 (fun z_1 => ?_) (fun z => absurd z (by decide))
    exact k _ _ e e_texts e_oldTexts r0
  | succ d ih =>
    intro i h f_oldTexts hi e e_texts e_oldTexts r0
    refine s_Model_begin_25 (fun z => absurd z (nI_ge (b := 2304) (show i < 2304 by omega) (by decide))) (fun z_1 => ?_)
    refine s_Model_begin_32 l e g_oldTexts g_texts e_texts (vp_in_nI (by omega) (by decide)) e_oldTexts (vp_in_nI (by omega) (by decide)) ?_
    refine x_u1 (fun h_2 e_3 f_4 => ?_)
    have e_5 := (f_4 texts_ n_texts_oldTexts).trans e_texts
    have e_6 := (f_4 m (xw_neC e e_oldTexts (by simp))).trans e
    have r_7 := r0.up (by simp) f_4
    rw [nI_1]
    exact ih (i + 1) _ _ (by omega) e_6 e_5 e_3 r_7
set_option maxHeartbeats 1000000 in
theorem lp_beg2 {G : xw_G} {F L bc bs : Nat} {pr : Option Value → xw_A → Prop} {px : String → xw_A → Prop} {h0 : xw_A} {fz : Nat → Int32} {sizes_ oldSizes_ : Nat} {m : Nat} {fs : List Value} (l : fs.length = 62) (g_sizes : fs[(8 : Nat)]? = some (.ref sizes_)) (g_oldSizes : fs[(22 : Nat)]? = some (.ref oldSizes_)) (n_sizes_oldSizes : sizes_ ≠ oldSizes_)  
    (k : ∀ (h : xw_A) (f_oldSizes : Nat → Int32), h m = some (.inr (11, fs)) → h sizes_ = some (.inl (0, 48, .inl (fz))) → h oldSizes_ = some (.inl (0, 48, .inl (f_oldSizes))) → FrO [oldSizes_] h0 h → xw G m_Model_begin F L bc bs pr px 76 [some (.ref m), none] [] h) :
    ∀ (d i : Nat) (h : xw_A) (f_oldSizes : Nat → Int32), i + d = 48 → h m = some (.inr (11, fs)) → h sizes_ = some (.inl (0, 48, .inl (fz))) → h oldSizes_ = some (.inl (0, 48, .inl (f_oldSizes))) → FrO [oldSizes_] h0 h → xw G m_Model_begin F L bc bs pr px 52 [some (.ref m), some (.int (nI i))] [] h := by
  intro d
  induction d with
  | zero =>
    intro i h f_oldSizes hi e e_sizes e_oldSizes r0
    obtain rfl : i = 48 := by omega
    refine s_Model_begin_52 (fun z_1 => ?_) (fun z => absurd z (by decide))
    exact k _ _ e e_sizes e_oldSizes r0
  | succ d ih =>
    intro i h f_oldSizes hi e e_sizes e_oldSizes r0
    refine s_Model_begin_52 (fun z => absurd z (nI_ge (b := 48) (show i < 48 by omega) (by decide))) (fun z_1 => ?_)
    refine s_Model_begin_58 l e g_oldSizes g_sizes e_sizes (vp_in_nI (by omega) (by decide)) e_oldSizes (vp_in_nI (by omega) (by decide)) ?_
    refine x_u1 (fun h_2 e_3 f_4 => ?_)
    have e_5 := (f_4 sizes_ n_sizes_oldSizes).trans e_sizes
    have e_6 := (f_4 m (xw_neC e e_oldSizes (by simp))).trans e
    have r_7 := r0.up (by simp) f_4
    rw [nI_1]
    exact ih (i + 1) _ _ (by omega) e_6 e_5 e_3 r_7
set_option maxHeartbeats 1000000 in
theorem lp_beg3 {G : xw_G} {F L bc bs : Nat} {pr : Option Value → xw_A → Prop} {px : String → xw_A → Prop} {h0 : xw_A} {lf : Nat → Int32} {live_ oldLive_ : Nat} {m : Nat} {fs : List Value} (l : fs.length = 62) (g_live : fs[(14 : Nat)]? = some (.ref live_)) (g_oldLive : fs[(24 : Nat)]? = some (.ref oldLive_)) (n_live_oldLive : live_ ≠ oldLive_)  
    (k : ∀ (h : xw_A) (f_oldLive : Nat → Int32), h m = some (.inr (11, fs)) → h live_ = some (.inl (0, 24, .inl (lf))) → h oldLive_ = some (.inl (0, 24, .inl (f_oldLive))) → FrO [oldLive_] h0 h → xw G m_Model_begin F L bc bs pr px 102 [some (.ref m), none] [] h) :
    ∀ (d i : Nat) (h : xw_A) (f_oldLive : Nat → Int32), i + d = 24 → h m = some (.inr (11, fs)) → h live_ = some (.inl (0, 24, .inl (lf))) → h oldLive_ = some (.inl (0, 24, .inl (f_oldLive))) → FrO [oldLive_] h0 h → xw G m_Model_begin F L bc bs pr px 78 [some (.ref m), some (.int (nI i))] [] h := by
  intro d
  induction d with
  | zero =>
    intro i h f_oldLive hi e e_live e_oldLive r0
    obtain rfl : i = 24 := by omega
    refine s_Model_begin_78 (fun z_1 => ?_) (fun z => absurd z (by decide))
    exact k _ _ e e_live e_oldLive r0
  | succ d ih =>
    intro i h f_oldLive hi e e_live e_oldLive r0
    refine s_Model_begin_78 (fun z => absurd z (nI_ge (b := 24) (show i < 24 by omega) (by decide))) (fun z_1 => ?_)
    refine s_Model_begin_84 l e g_oldLive g_live e_live (vp_in_nI (by omega) (by decide)) e_oldLive (vp_in_nI (by omega) (by decide)) ?_
    refine x_u1 (fun h_2 e_3 f_4 => ?_)
    have e_5 := (f_4 live_ n_live_oldLive).trans e_live
    have e_6 := (f_4 m (xw_neC e e_oldLive (by simp))).trans e
    have r_7 := r0.up (by simp) f_4
    rw [nI_1]
    exact ih (i + 1) _ _ (by omega) e_6 e_5 e_3 r_7
set_option maxHeartbeats 1000000 in
theorem lp_beg4 {G : xw_G} {F L bc bs : Nat} {pr : Option Value → xw_A → Prop} {px : String → xw_A → Prop} {h0 : xw_A} {fl fw : Nat → Int32} {lies_ oldLies_ row_ oldRow_ : Nat} {m : Nat} {fs : List Value} (l : fs.length = 62) (g_lies : fs[(13 : Nat)]? = some (.ref lies_)) (g_oldLies : fs[(23 : Nat)]? = some (.ref oldLies_)) (g_row : fs[(17 : Nat)]? = some (.ref row_)) (g_oldRow : fs[(25 : Nat)]? = some (.ref oldRow_)) (n_lies_oldLies : lies_ ≠ oldLies_) (n_lies_row : lies_ ≠ row_) (n_lies_oldRow : lies_ ≠ oldRow_) (n_oldLies_row : oldLies_ ≠ row_) (n_oldLies_oldRow : oldLies_ ≠ oldRow_) (n_row_oldRow : row_ ≠ oldRow_)  
    (k : ∀ (h : xw_A) (f_oldLies f_oldRow : Nat → Int32), h m = some (.inr (11, fs)) → h lies_ = some (.inl (0, 600, .inl (fl))) → h oldLies_ = some (.inl (0, 600, .inl (f_oldLies))) → h row_ = some (.inl (0, 600, .inl (fw))) → h oldRow_ = some (.inl (0, 600, .inl (f_oldRow))) → FrO [oldLies_, oldRow_] h0 h → xw G m_Model_begin F L bc bs pr px 141 [some (.ref m), none] [] h) :
    ∀ (d i : Nat) (h : xw_A) (f_oldLies f_oldRow : Nat → Int32), i + d = 600 → h m = some (.inr (11, fs)) → h lies_ = some (.inl (0, 600, .inl (fl))) → h oldLies_ = some (.inl (0, 600, .inl (f_oldLies))) → h row_ = some (.inl (0, 600, .inl (fw))) → h oldRow_ = some (.inl (0, 600, .inl (f_oldRow))) → FrO [oldLies_, oldRow_] h0 h → xw G m_Model_begin F L bc bs pr px 104 [some (.ref m), some (.int (nI i))] [] h := by
  intro d
  induction d with
  | zero =>
    intro i h f_oldLies f_oldRow hi e e_lies e_oldLies e_row e_oldRow r0
    obtain rfl : i = 600 := by omega
    refine s_Model_begin_104 (fun z_1 => ?_) (fun z => absurd z (by decide))
    exact k _ _ _ e e_lies e_oldLies e_row e_oldRow r0
  | succ d ih =>
    intro i h f_oldLies f_oldRow hi e e_lies e_oldLies e_row e_oldRow r0
    refine s_Model_begin_104 (fun z => absurd z (nI_ge (b := 600) (show i < 600 by omega) (by decide))) (fun z_1 => ?_)
    refine s_Model_begin_111 l e g_oldLies g_lies e_lies (vp_in_nI (by omega) (by decide)) e_oldLies (vp_in_nI (by omega) (by decide)) g_oldRow g_row e_row (vp_in_nI (by omega) (by decide)) (Ne.symm n_oldLies_row) e_oldRow (vp_in_nI (by omega) (by decide)) (Ne.symm n_oldLies_oldRow) ?_
    refine x_u2 (fun h_2 e_3 f_4 h_5 e_6 f_7 => ?_)
    have e_8 := (f_4 lies_ n_lies_oldLies).trans e_lies
    have e_9 := (f_4 row_ (Ne.symm n_oldLies_row)).trans e_row
    have e_10 := (f_4 oldRow_ (Ne.symm n_oldLies_oldRow)).trans e_oldRow
    have e_11 := (f_4 m (xw_neC e e_oldLies (by simp))).trans e
    have r_12 := r0.up (by simp) f_4
    have e_13 := (f_7 lies_ n_lies_oldRow).trans e_8
    have e_14 := (f_7 oldLies_ n_oldLies_oldRow).trans e_3
    have e_15 := (f_7 row_ n_row_oldRow).trans e_9
    have e_16 := (f_7 m (xw_neC e_11 e_10 (by simp))).trans e_11
    have r_17 := r_12.up (by simp) f_7
    rw [nI_1]
    exact ih (i + 1) _ _ _ (by omega) e_16 e_13 e_14 e_15 e_6 r_17
set_option maxHeartbeats 1000000 in
theorem fm_begin {G : xw_G} {F L : Nat} {h : xw_A} {ft fz lf fl fw : Nat → Int32} {texts_ oldTexts_ sizes_ oldSizes_ live_ oldLive_ lies_ oldLies_ row_ oldRow_ : Nat} {m : Nat} {fs : List Value} (l : fs.length = 62) (e : h m = some (.inr (11, fs))) (g_err : fs[(0 : Nat)]? = some (.int 0)) (g_open : fs[(20 : Nat)]? = some (.int 0)) (g_versions : fs[(15 : Nat)]? = some (.int 0)) (g_segments : fs[(19 : Nat)]? = some (.int 0)) (g_texts : fs[(7 : Nat)]? = some (.ref texts_)) (e_texts : h texts_ = some (.inl (0, 2304, .inl (ft)))) (g_oldTexts : fs[(21 : Nat)]? = some (.ref oldTexts_)) (e_oldTexts : h oldTexts_ = some (.inl (0, 2304, .inl (fun _ => 0)))) (g_sizes : fs[(8 : Nat)]? = some (.ref sizes_)) (e_sizes : h sizes_ = some (.inl (0, 48, .inl (fz)))) (g_oldSizes : fs[(22 : Nat)]? = some (.ref oldSizes_)) (e_oldSizes : h oldSizes_ = some (.inl (0, 48, .inl (fun _ => 0)))) (g_live : fs[(14 : Nat)]? = some (.ref live_)) (e_live : h live_ = some (.inl (0, 24, .inl (lf)))) (g_oldLive : fs[(24 : Nat)]? = some (.ref oldLive_)) (e_oldLive : h oldLive_ = some (.inl (0, 24, .inl (fun _ => 0)))) (g_lies : fs[(13 : Nat)]? = some (.ref lies_)) (e_lies : h lies_ = some (.inl (0, 600, .inl (fl)))) (g_oldLies : fs[(23 : Nat)]? = some (.ref oldLies_)) (e_oldLies : h oldLies_ = some (.inl (0, 600, .inl (fun _ => 0)))) (g_row : fs[(17 : Nat)]? = some (.ref row_)) (e_row : h row_ = some (.inl (0, 600, .inl (fw)))) (g_oldRow : fs[(25 : Nat)]? = some (.ref oldRow_)) (e_oldRow : h oldRow_ = some (.inl (0, 600, .inl (fun _ => 0)))) (n_texts_oldTexts : texts_ ≠ oldTexts_) (n_sizes_oldSizes : sizes_ ≠ oldSizes_) (n_live_oldLive : live_ ≠ oldLive_) (n_lies_oldLies : lies_ ≠ oldLies_) (n_lies_row : lies_ ≠ row_) (n_lies_oldRow : lies_ ≠ oldRow_) (n_oldLies_row : oldLies_ ≠ row_) (n_oldLies_oldRow : oldLies_ ≠ oldRow_) (n_row_oldRow : row_ ≠ oldRow_) (hF : 2 ≤ F) (hL : 42 ≤ L) :
    xw_Met G m_Model_begin F L 0 0 [.ref m] h (fun v h' => v = none ∧ MP [m, oldTexts_, oldSizes_, oldLive_, oldLies_, oldRow_] m 0 h h') (fun _ _ => False) := by
  refine xw_Met.of rfl (by decide) (Nat.le_of_ble_eq_true rfl) ?_
  have r0 : FrO [m, oldTexts_, oldSizes_, oldLive_, oldLies_, oldRow_] h h := FrO.rf
  refine s_Model_begin_0 l e g_open ?_
  refine x_u1 (fun h_1 e_2 f_3 => ?_)
  have e_4 := (f_3 texts_ (xw_neC e_texts e (by simp))).trans e_texts
  have e_5 := (f_3 oldTexts_ (xw_neC e_oldTexts e (by simp))).trans e_oldTexts
  have e_6 := (f_3 sizes_ (xw_neC e_sizes e (by simp))).trans e_sizes
  have e_7 := (f_3 oldSizes_ (xw_neC e_oldSizes e (by simp))).trans e_oldSizes
  have e_8 := (f_3 live_ (xw_neC e_live e (by simp))).trans e_live
  have e_9 := (f_3 oldLive_ (xw_neC e_oldLive e (by simp))).trans e_oldLive
  have e_10 := (f_3 lies_ (xw_neC e_lies e (by simp))).trans e_lies
  have e_11 := (f_3 oldLies_ (xw_neC e_oldLies e (by simp))).trans e_oldLies
  have e_12 := (f_3 row_ (xw_neC e_row e (by simp))).trans e_row
  have e_13 := (f_3 oldRow_ (xw_neC e_oldRow e (by simp))).trans e_oldRow
  have r_14 := r0.up (by simp) f_3
  obtain ⟨fs_15, z_16⟩ : ∃ z, z = fs.set 0 (.int 0) := ⟨_, rfl⟩
  rw [← z_16] at e_2
  have l_17 : fs_15.length = 62 := by rw [z_16]; simp only [List.length_set]; exact l
  have g_18 : fs_15[(0 : Nat)]? = some (.int 0) := by rw [z_16]; exact (xw_gs (by simp [l]))
  have g_19 : fs_15[(7 : Nat)]? = some (.ref texts_) := by rw [z_16]; exact (xw_gn (by decide) g_texts)
  have g_20 : fs_15[(8 : Nat)]? = some (.ref sizes_) := by rw [z_16]; exact (xw_gn (by decide) g_sizes)
  have g_21 : fs_15[(13 : Nat)]? = some (.ref lies_) := by rw [z_16]; exact (xw_gn (by decide) g_lies)
  have g_22 : fs_15[(14 : Nat)]? = some (.ref live_) := by rw [z_16]; exact (xw_gn (by decide) g_live)
  have g_23 : fs_15[(15 : Nat)]? = some (.int 0) := by rw [z_16]; exact (xw_gn (by decide) g_versions)
  have g_24 : fs_15[(17 : Nat)]? = some (.ref row_) := by rw [z_16]; exact (xw_gn (by decide) g_row)
  have g_25 : fs_15[(19 : Nat)]? = some (.int 0) := by rw [z_16]; exact (xw_gn (by decide) g_segments)
  have g_26 : fs_15[(20 : Nat)]? = some (.int 0) := by rw [z_16]; exact (xw_gn (by decide) g_open)
  have g_27 : fs_15[(21 : Nat)]? = some (.ref oldTexts_) := by rw [z_16]; exact (xw_gn (by decide) g_oldTexts)
  have g_28 : fs_15[(22 : Nat)]? = some (.ref oldSizes_) := by rw [z_16]; exact (xw_gn (by decide) g_oldSizes)
  have g_29 : fs_15[(23 : Nat)]? = some (.ref oldLies_) := by rw [z_16]; exact (xw_gn (by decide) g_oldLies)
  have g_30 : fs_15[(24 : Nat)]? = some (.ref oldLive_) := by rw [z_16]; exact (xw_gn (by decide) g_oldLive)
  have g_31 : fs_15[(25 : Nat)]? = some (.ref oldRow_) := by rw [z_16]; exact (xw_gn (by decide) g_oldRow)
  clear z_16
  refine x_callV (As := [.int 0, .int 1]) (b := m) (rest := []) (F1 := 1) (L1 := 20) (mc := 0) (ms := 0) d_Model_begin_11 cV_Model_139 (f_fails_no l_17 e_2 g_18 (by omega) (by omega)) e_2 ⟨by decide, rfl⟩ ⟨by omega, by show 8 + (3 + 11) + 20 ≤ _; omega⟩ ⟨by omega, by omega⟩ (Nat.le_of_ble_eq_true rfl) (fun v_33 h_32 p_34 => ?_)
  obtain ⟨rfl, rfl⟩ := p_34
  refine s_Model_begin_14 (fun z_35 => ?_) (fun z => absurd z (by decide))
  refine s_Model_begin_18 l_17 e_2 ?_
  refine x_u1 (fun h_36 e_37 f_38 => ?_)
  have e_39 := (f_38 texts_ (xw_neC e_4 e_2 (by simp))).trans e_4
  have e_40 := (f_38 oldTexts_ (xw_neC e_5 e_2 (by simp))).trans e_5
  have e_41 := (f_38 sizes_ (xw_neC e_6 e_2 (by simp))).trans e_6
  have e_42 := (f_38 oldSizes_ (xw_neC e_7 e_2 (by simp))).trans e_7
  have e_43 := (f_38 live_ (xw_neC e_8 e_2 (by simp))).trans e_8
  have e_44 := (f_38 oldLive_ (xw_neC e_9 e_2 (by simp))).trans e_9
  have e_45 := (f_38 lies_ (xw_neC e_10 e_2 (by simp))).trans e_10
  have e_46 := (f_38 oldLies_ (xw_neC e_11 e_2 (by simp))).trans e_11
  have e_47 := (f_38 row_ (xw_neC e_12 e_2 (by simp))).trans e_12
  have e_48 := (f_38 oldRow_ (xw_neC e_13 e_2 (by simp))).trans e_13
  have r_49 := r_14.up (by simp) f_38
  obtain ⟨fs_50, z_51⟩ : ∃ z, z = fs_15.set 20 (.int 1) := ⟨_, rfl⟩
  rw [← z_51] at e_37
  have l_52 : fs_50.length = 62 := by rw [z_51]; simp only [List.length_set]; exact l_17
  have g_53 : fs_50[(0 : Nat)]? = some (.int 0) := by rw [z_51]; exact (xw_gn (by decide) g_18)
  have g_54 : fs_50[(7 : Nat)]? = some (.ref texts_) := by rw [z_51]; exact (xw_gn (by decide) g_19)
  have g_55 : fs_50[(8 : Nat)]? = some (.ref sizes_) := by rw [z_51]; exact (xw_gn (by decide) g_20)
  have g_56 : fs_50[(13 : Nat)]? = some (.ref lies_) := by rw [z_51]; exact (xw_gn (by decide) g_21)
  have g_57 : fs_50[(14 : Nat)]? = some (.ref live_) := by rw [z_51]; exact (xw_gn (by decide) g_22)
  have g_58 : fs_50[(15 : Nat)]? = some (.int 0) := by rw [z_51]; exact (xw_gn (by decide) g_23)
  have g_59 : fs_50[(17 : Nat)]? = some (.ref row_) := by rw [z_51]; exact (xw_gn (by decide) g_24)
  have g_60 : fs_50[(19 : Nat)]? = some (.int 0) := by rw [z_51]; exact (xw_gn (by decide) g_25)
  have g_61 : fs_50[(20 : Nat)]? = some (.int 1) := by rw [z_51]; exact (xw_gs (by simp [l_17]))
  have g_62 : fs_50[(21 : Nat)]? = some (.ref oldTexts_) := by rw [z_51]; exact (xw_gn (by decide) g_27)
  have g_63 : fs_50[(22 : Nat)]? = some (.ref oldSizes_) := by rw [z_51]; exact (xw_gn (by decide) g_28)
  have g_64 : fs_50[(23 : Nat)]? = some (.ref oldLies_) := by rw [z_51]; exact (xw_gn (by decide) g_29)
  have g_65 : fs_50[(24 : Nat)]? = some (.ref oldLive_) := by rw [z_51]; exact (xw_gn (by decide) g_30)
  have g_66 : fs_50[(25 : Nat)]? = some (.ref oldRow_) := by rw [z_51]; exact (xw_gn (by decide) g_31)
  clear z_51
  refine lp_beg1 l_52 g_54 g_62 n_texts_oldTexts  (fun h_67 f_68 e_69 e_70 e_71 r_72 => ?_) 2304 0 _ _ (by omega) e_37 e_39 e_40 FrO.rf
  have e_73 := r_72 sizes_ _ (by simp only [List.mem_cons, List.not_mem_nil, or_false, not_or]; exact (xw_neC e_41 e_40 (by simp))) e_41
  have e_74 := r_72 oldSizes_ _ (by simp only [List.mem_cons, List.not_mem_nil, or_false, not_or]; exact (xw_neC e_42 e_40 (by simp))) e_42
  have e_75 := r_72 live_ _ (by simp only [List.mem_cons, List.not_mem_nil, or_false, not_or]; exact (xw_neC e_43 e_40 (by simp))) e_43
  have e_76 := r_72 oldLive_ _ (by simp only [List.mem_cons, List.not_mem_nil, or_false, not_or]; exact (xw_neC e_44 e_40 (by simp))) e_44
  have e_77 := r_72 lies_ _ (by simp only [List.mem_cons, List.not_mem_nil, or_false, not_or]; exact (xw_neC e_45 e_40 (by simp))) e_45
  have e_78 := r_72 oldLies_ _ (by simp only [List.mem_cons, List.not_mem_nil, or_false, not_or]; exact (xw_neC e_46 e_40 (by simp))) e_46
  have e_79 := r_72 row_ _ (by simp only [List.mem_cons, List.not_mem_nil, or_false, not_or]; exact (xw_neC e_47 e_40 (by simp))) e_47
  have e_80 := r_72 oldRow_ _ (by simp only [List.mem_cons, List.not_mem_nil, or_false, not_or]; exact (xw_neC e_48 e_40 (by simp))) e_48
  have r_81 := r_49.trans (r_72.mono (by simp))
  refine s_Model_begin_50 ?_
  refine lp_beg2 l_52 g_55 g_63 n_sizes_oldSizes  (fun h_82 f_83 e_84 e_85 e_86 r_87 => ?_) 48 0 _ _ (by omega) e_69 e_73 e_74 FrO.rf
  have e_88 := r_87 texts_ _ (by simp only [List.mem_cons, List.not_mem_nil, or_false, not_or]; exact (xw_neC e_70 e_74 (by simp))) e_70
  have e_89 := r_87 oldTexts_ _ (by simp only [List.mem_cons, List.not_mem_nil, or_false, not_or]; exact (xw_neC e_71 e_74 (by simp))) e_71
  have e_90 := r_87 live_ _ (by simp only [List.mem_cons, List.not_mem_nil, or_false, not_or]; exact (xw_neC e_75 e_74 (by simp))) e_75
  have e_91 := r_87 oldLive_ _ (by simp only [List.mem_cons, List.not_mem_nil, or_false, not_or]; exact (xw_neC e_76 e_74 (by simp))) e_76
  have e_92 := r_87 lies_ _ (by simp only [List.mem_cons, List.not_mem_nil, or_false, not_or]; exact (xw_neC e_77 e_74 (by simp))) e_77
  have e_93 := r_87 oldLies_ _ (by simp only [List.mem_cons, List.not_mem_nil, or_false, not_or]; exact (xw_neC e_78 e_74 (by simp))) e_78
  have e_94 := r_87 row_ _ (by simp only [List.mem_cons, List.not_mem_nil, or_false, not_or]; exact (xw_neC e_79 e_74 (by simp))) e_79
  have e_95 := r_87 oldRow_ _ (by simp only [List.mem_cons, List.not_mem_nil, or_false, not_or]; exact (xw_neC e_80 e_74 (by simp))) e_80
  have r_96 := r_81.trans (r_87.mono (by simp))
  refine s_Model_begin_76 ?_
  refine lp_beg3 l_52 g_57 g_65 n_live_oldLive  (fun h_97 f_98 e_99 e_100 e_101 r_102 => ?_) 24 0 _ _ (by omega) e_84 e_90 e_91 FrO.rf
  have e_103 := r_102 sizes_ _ (by simp only [List.mem_cons, List.not_mem_nil, or_false, not_or]; exact (xw_neC e_85 e_91 (by simp))) e_85
  have e_104 := r_102 oldSizes_ _ (by simp only [List.mem_cons, List.not_mem_nil, or_false, not_or]; exact (xw_neC e_86 e_91 (by simp))) e_86
  have e_105 := r_102 texts_ _ (by simp only [List.mem_cons, List.not_mem_nil, or_false, not_or]; exact (xw_neC e_88 e_91 (by simp))) e_88
  have e_106 := r_102 oldTexts_ _ (by simp only [List.mem_cons, List.not_mem_nil, or_false, not_or]; exact (xw_neC e_89 e_91 (by simp))) e_89
  have e_107 := r_102 lies_ _ (by simp only [List.mem_cons, List.not_mem_nil, or_false, not_or]; exact (xw_neC e_92 e_91 (by simp))) e_92
  have e_108 := r_102 oldLies_ _ (by simp only [List.mem_cons, List.not_mem_nil, or_false, not_or]; exact (xw_neC e_93 e_91 (by simp))) e_93
  have e_109 := r_102 row_ _ (by simp only [List.mem_cons, List.not_mem_nil, or_false, not_or]; exact (xw_neC e_94 e_91 (by simp))) e_94
  have e_110 := r_102 oldRow_ _ (by simp only [List.mem_cons, List.not_mem_nil, or_false, not_or]; exact (xw_neC e_95 e_91 (by simp))) e_95
  have r_111 := r_96.trans (r_102.mono (by simp))
  refine s_Model_begin_102 ?_
  refine lp_beg4 l_52 g_56 g_64 g_59 g_66 n_lies_oldLies n_lies_row n_lies_oldRow n_oldLies_row n_oldLies_oldRow n_row_oldRow  (fun h_112 f_113 f_114 e_115 e_116 e_117 e_118 e_119 r_120 => ?_) 600 0 _ _ _ (by omega) e_99 e_107 e_108 e_109 e_110 FrO.rf
  have e_121 := r_120 live_ _ (by simp only [List.mem_cons, List.not_mem_nil, or_false, not_or]; exact ⟨(xw_neC e_100 e_108 (by simp)), (xw_neC e_100 e_110 (by simp))⟩) e_100
  have e_122 := r_120 oldLive_ _ (by simp only [List.mem_cons, List.not_mem_nil, or_false, not_or]; exact ⟨(xw_neC e_101 e_108 (by simp)), (xw_neC e_101 e_110 (by simp))⟩) e_101
  have e_123 := r_120 sizes_ _ (by simp only [List.mem_cons, List.not_mem_nil, or_false, not_or]; exact ⟨(xw_neC e_103 e_108 (by simp)), (xw_neC e_103 e_110 (by simp))⟩) e_103
  have e_124 := r_120 oldSizes_ _ (by simp only [List.mem_cons, List.not_mem_nil, or_false, not_or]; exact ⟨(xw_neC e_104 e_108 (by simp)), (xw_neC e_104 e_110 (by simp))⟩) e_104
  have e_125 := r_120 texts_ _ (by simp only [List.mem_cons, List.not_mem_nil, or_false, not_or]; exact ⟨(xw_neC e_105 e_108 (by simp)), (xw_neC e_105 e_110 (by simp))⟩) e_105
  have e_126 := r_120 oldTexts_ _ (by simp only [List.mem_cons, List.not_mem_nil, or_false, not_or]; exact ⟨(xw_neC e_106 e_108 (by simp)), (xw_neC e_106 e_110 (by simp))⟩) e_106
  have r_127 := r_111.trans (r_120.mono (by simp))
  refine s_Model_begin_141 l_52 e_115 g_58 g_60 ?_
  rw [xw_up_up]
  obtain ⟨h_128, z_134⟩ : ∃ z, z = xw_up h_112 m (.inr (11, ((fs_50.set 26 (.int 0)).set 27 (.int 0)))) := ⟨_, rfl⟩
  rw [← z_134]
  have e_129 : h_128 m = some (.inr (11, ((fs_50.set 26 (.int 0)).set 27 (.int 0)))) := by rw [z_134]; exact xw_up_s _ _ _
  have f_130 : ∀ q, q ≠ m → h_128 q = h_112 q := fun q hq => by rw [z_134]; exact xw_up_n _ _ hq
  clear z_134
  have e_135 := (f_130 lies_ (xw_neC e_116 e_115 (by simp))).trans e_116
  have e_136 := (f_130 oldLies_ (xw_neC e_117 e_115 (by simp))).trans e_117
  have e_137 := (f_130 row_ (xw_neC e_118 e_115 (by simp))).trans e_118
  have e_138 := (f_130 oldRow_ (xw_neC e_119 e_115 (by simp))).trans e_119
  have e_139 := (f_130 live_ (xw_neC e_121 e_115 (by simp))).trans e_121
  have e_140 := (f_130 oldLive_ (xw_neC e_122 e_115 (by simp))).trans e_122
  have e_141 := (f_130 sizes_ (xw_neC e_123 e_115 (by simp))).trans e_123
  have e_142 := (f_130 oldSizes_ (xw_neC e_124 e_115 (by simp))).trans e_124
  have e_143 := (f_130 texts_ (xw_neC e_125 e_115 (by simp))).trans e_125
  have e_144 := (f_130 oldTexts_ (xw_neC e_126 e_115 (by simp))).trans e_126
  have r_145 := r_127.up (by simp) f_130
  obtain ⟨fs_146, z_147⟩ : ∃ z, z = (fs_50.set 26 (.int 0)).set 27 (.int 0) := ⟨_, rfl⟩
  rw [← z_147] at e_129
  have l_148 : fs_146.length = 62 := by rw [z_147]; simp only [List.length_set]; exact l_52
  have g_149 : fs_146[(0 : Nat)]? = some (.int 0) := by rw [z_147]; exact (xw_gn (by decide) (xw_gn (by decide) g_53))
  have g_150 : fs_146[(7 : Nat)]? = some (.ref texts_) := by rw [z_147]; exact (xw_gn (by decide) (xw_gn (by decide) g_54))
  have g_151 : fs_146[(8 : Nat)]? = some (.ref sizes_) := by rw [z_147]; exact (xw_gn (by decide) (xw_gn (by decide) g_55))
  have g_152 : fs_146[(13 : Nat)]? = some (.ref lies_) := by rw [z_147]; exact (xw_gn (by decide) (xw_gn (by decide) g_56))
  have g_153 : fs_146[(14 : Nat)]? = some (.ref live_) := by rw [z_147]; exact (xw_gn (by decide) (xw_gn (by decide) g_57))
  have g_154 : fs_146[(15 : Nat)]? = some (.int 0) := by rw [z_147]; exact (xw_gn (by decide) (xw_gn (by decide) g_58))
  have g_155 : fs_146[(17 : Nat)]? = some (.ref row_) := by rw [z_147]; exact (xw_gn (by decide) (xw_gn (by decide) g_59))
  have g_156 : fs_146[(19 : Nat)]? = some (.int 0) := by rw [z_147]; exact (xw_gn (by decide) (xw_gn (by decide) g_60))
  have g_157 : fs_146[(20 : Nat)]? = some (.int 1) := by rw [z_147]; exact (xw_gn (by decide) (xw_gn (by decide) g_61))
  have g_158 : fs_146[(21 : Nat)]? = some (.ref oldTexts_) := by rw [z_147]; exact (xw_gn (by decide) (xw_gn (by decide) g_62))
  have g_159 : fs_146[(22 : Nat)]? = some (.ref oldSizes_) := by rw [z_147]; exact (xw_gn (by decide) (xw_gn (by decide) g_63))
  have g_160 : fs_146[(23 : Nat)]? = some (.ref oldLies_) := by rw [z_147]; exact (xw_gn (by decide) (xw_gn (by decide) g_64))
  have g_161 : fs_146[(24 : Nat)]? = some (.ref oldLive_) := by rw [z_147]; exact (xw_gn (by decide) (xw_gn (by decide) g_65))
  have g_162 : fs_146[(25 : Nat)]? = some (.ref oldRow_) := by rw [z_147]; exact (xw_gn (by decide) (xw_gn (by decide) g_66))
  have g_163 : fs_146[(26 : Nat)]? = some (.int 0) := by rw [z_147]; exact (xw_gn (by decide) (xw_gs (by simp [l_52])))
  have g_164 : fs_146[(27 : Nat)]? = some (.int 0) := by rw [z_147]; exact (xw_gs (by simp [l_52]))
  clear z_147
  exact ⟨rfl, ⟨fs_146, l_148, e_129, g_149⟩, r_145⟩
