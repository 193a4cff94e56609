/-! ONE CALL ON A FRESH OBJECT: THE REFERENCE: by program (wip/tools/p1l.py) -/
set_option maxHeartbeats 400000 in
theorem f_in_yes {G : xw_G} {F L : Nat} {h : xw_A} {x lo hi : Int32} (h1 : ¬ x < lo) (h2 : ¬ hi < x) (hF : 1 ≤ F) (hL : 20 ≤ L) :
    xw_Met G m_Model_in F L 0 0 [.int x, .int lo, .int hi] h (fun v h' => v = some (.int 1) ∧ h = h') (fun _ _ => False) := by
  refine xw_Met.of rfl (by decide) (Nat.le_of_ble_eq_true rfl) ?_
  refine s_Model_in_0 (fun z => absurd z h1) (fun z_1 => ?_)
  refine s_Model_in_5 (fun z => absurd z h2) (fun z_2 => ?_)
  refine s_Model_in_10 ?_
  refine s_Model_in_15 rfl ?_
  exact ⟨rfl, rfl⟩
set_option maxHeartbeats 400000 in
theorem f_in_no {G : xw_G} {F L : Nat} {h : xw_A} {x lo hi : Int32} (hn : x < lo ∨ hi < x) (hF : 1 ≤ F) (hL : 20 ≤ L) :
    xw_Met G m_Model_in F L 0 0 [.int x, .int lo, .int hi] h (fun v h' => v = some (.int 0) ∧ h = h') (fun _ _ => False) := by
  refine xw_Met.of rfl (by decide) (Nat.le_of_ble_eq_true rfl) ?_
  refine s_Model_in_0 (fun z_1 => ?_) (fun z_2 => ?_)
  · skip
    refine s_Model_in_14 ?_
    refine s_Model_in_15 rfl ?_
    exact ⟨rfl, rfl⟩
  · skip
    refine s_Model_in_5 (fun z_3 => ?_) (fun z => by rcases hn with q | q <;> contradiction)
    refine s_Model_in_14 ?_
    refine s_Model_in_15 rfl ?_
    exact ⟨rfl, rfl⟩
set_option maxHeartbeats 400000 in
theorem f_fails_no {G : xw_G} {F L : Nat} {h : xw_A} {c : Int32} {m : Nat} {fs : List Value} (l : fs.length = 62) (e : h m = some (.inr (11, fs))) (g_err : fs[(0 : Nat)]? = some (.int 0)) (hF : 1 ≤ F) (hL : 20 ≤ L) :
    xw_Met G m_Model_fails F L 0 0 [.ref m, .int 0, .int c] h (fun v h' => v = some (.int 0) ∧ h = h') (fun _ _ => False) := by
  refine xw_Met.of rfl (by decide) (Nat.le_of_ble_eq_true rfl) ?_
  refine s_Model_fails_0 (fun z_1 => ?_) (fun z => absurd z (by decide))
  refine s_Model_fails_16 l e g_err (fun z_2 => ?_) (fun z => absurd z (by decide))
  refine s_Model_fails_27 ?_
  refine s_Model_fails_28 rfl ?_
  exact ⟨rfl, rfl⟩
set_option maxHeartbeats 400000 in
theorem f_fails_yes {G : xw_G} {F L : Nat} {h : xw_A} {c : Int32} (hc : ¬ c = 0) {m : Nat} {fs : List Value} (l : fs.length = 62) (e : h m = some (.inr (11, fs))) (g_err : fs[(0 : Nat)]? = some (.int 0)) (hF : 1 ≤ F) (hL : 20 ≤ L) :
    xw_Met G m_Model_fails F L 0 0 [.ref m, .int 1, .int c] h (fun v h' => v = some (.int 1) ∧ h' = xw_up h m (.inr (11, fs.set 0 (.int c)))) (fun _ _ => False) := by
  refine xw_Met.of rfl (by decide) (Nat.le_of_ble_eq_true rfl) ?_
  refine s_Model_fails_0 (fun z => absurd z (by decide)) (fun _ => ?_)
  refine s_Model_fails_4 l e g_err (fun z => absurd rfl z) (fun _ => ?_)
  refine s_Model_fails_11 l e ?_
  refine s_Model_fails_16 (err_a0 := c) (by rw [List.length_set]; exact l) (xw_up_s _ _ _) (xw_gs (by rw [l]; decide)) (fun z => absurd z hc) (fun _ => ?_)
  refine s_Model_fails_23 ?_
  exact s_Model_fails_28 rfl ⟨rfl, rfl⟩
set_option maxHeartbeats 400000 in
theorem f_thrown {G : xw_G} {F L : Nat} {h : xw_A} {r : Int32} {m : Nat} {fs : List Value} (l : fs.length = 62) (e : h m = some (.inr (11, fs))) (g_err : fs[(0 : Nat)]? = some (.int r)) (hF : 1 ≤ F) (hL : 20 ≤ L) :
    xw_Met G m_Model_thrown F L 0 0 [.ref m] h (fun v h' => v = some (.int r) ∧ h = h') (fun _ _ => False) := by
  refine xw_Met.of rfl (by decide) (Nat.le_of_ble_eq_true rfl) ?_
  refine s_Model_thrown_0 l e g_err ?_
  exact ⟨rfl, rfl⟩
theorem i32_neg {x : Int32} {a : Nat} (ha : a < 2 ^ 31) (h : x < 0) : x < nI a := by
  rw [Int32.lt_iff_toInt_lt] at *
  rw [nI_toInt ha]
  have h0 : (0 : Int32).toInt = 0 := rfl
  omega
theorem ix_of {x : Int32} {a b : Nat} (ha : a < 2 ^ 31) (hb : b < 2 ^ 31) (h1 : ¬ x < nI a) (h2 : ¬ nI b < x) : ∃ j, a ≤ j ∧ j ≤ b ∧ x = nI j := by
  obtain ⟨j, hj, rfl⟩ := nI_of (fun z => h1 (i32_neg ha z))
  rw [nI_ltI hj ha] at h1
  rw [nI_ltI hb hj] at h2
  exact ⟨j, by omega, by omega, rfl⟩
set_option maxHeartbeats 1000000 in
theorem fm_drop {G : xw_G} {F L : Nat} {h : xw_A} {m : Nat} {fs : List Value} (l : fs.length = 62) (e : h m = some (.inr (11, fs))) (g_err : fs[(0 : Nat)]? = some (.int 0)) (g_drafted : fs[(10 : Nat)]? = some (.int 0)) (hF : 1 ≤ F) (hL : 20 ≤ L) :
    xw_Met G m_Model_drop F L 0 0 [.ref m] h (fun v h' => v = some (.int 0) ∧ MP [m] m 0 h h') (fun _ _ => False) := by
  refine xw_Met.of rfl (by decide) (Nat.le_of_ble_eq_true rfl) ?_
  have r0 : FrO [m] h h := FrO.rf
  refine s_Model_drop_0 l e g_drafted ?_
  rw [xw_up_up]
  obtain ⟨h_1, z_7⟩ : ∃ z, z = xw_up h m (.inr (11, ((fs.set 0 (.int 0)).set 10 (.int 0)))) := ⟨_, rfl⟩
  rw [← z_7]
  have e_2 : h_1 m = some (.inr (11, ((fs.set 0 (.int 0)).set 10 (.int 0)))) := by rw [z_7]; exact xw_up_s _ _ _
  have f_3 : ∀ q, q ≠ m → h_1 q = h q := fun q hq => by rw [z_7]; exact xw_up_n _ _ hq
  clear z_7
  have r_8 := r0.up (by simp) f_3
  obtain ⟨fs_9, z_10⟩ : ∃ z, z = (fs.set 0 (.int 0)).set 10 (.int 0) := ⟨_, rfl⟩
  rw [← z_10] at e_2
  have l_11 : fs_9.length = 62 := by rw [z_10]; simp only [List.length_set]; exact l
  have g_12 : fs_9[(0 : Nat)]? = some (.int 0) := by rw [z_10]; exact (xw_gn (by decide) (xw_gs (by simp [l])))
  have g_13 : fs_9[(10 : Nat)]? = some (.int 0) := by rw [z_10]; exact (xw_gs (by simp [l]))
  clear z_10
  exact ⟨rfl, ⟨fs_9, l_11, e_2, g_12⟩, r_8⟩
set_option maxHeartbeats 1000000 in
theorem fm_set_no {G : xw_G} {F L : Nat} {h : xw_A} {x : Int32} {m : Nat} {fs : List Value} (l : fs.length = 62) (e : h m = some (.inr (11, fs))) (g_err : fs[(0 : Nat)]? = some (.int 0)) (g_drafted : fs[(10 : Nat)]? = some (.int 0))  (hn : x < 0 ∨ 1 < x) (hF : 2 ≤ F) (hL : 42 ≤ L) :
    xw_Met G m_Model_set F L 0 0 [.ref m, .int x] h (fun v h' => v = some (.int 0) ∧ MP [m] m 1 h h') (fun _ _ => False) := by
  refine xw_Met.of rfl (by decide) (Nat.le_of_ble_eq_true rfl) ?_
  have r0 : FrO [m] h h := FrO.rf
  refine s_Model_set_0 l e ?_
  refine x_u1 (fun h_1 e_2 f_3 => ?_)
  have r_4 := r0.up (by simp) f_3
  obtain ⟨fs_5, z_6⟩ : ∃ z, z = fs.set 0 (.int 0) := ⟨_, rfl⟩
  rw [← z_6] at e_2
  have l_7 : fs_5.length = 62 := by rw [z_6]; simp only [List.length_set]; exact l
  have g_8 : fs_5[(0 : Nat)]? = some (.int 0) := by rw [z_6]; exact (xw_gs (by simp [l]))
  have g_9 : fs_5[(10 : Nat)]? = some (.int 0) := by rw [z_6]; exact (xw_gn (by decide) g_drafted)
  clear z_6
  refine x_callS (As := [.int x, .int 0, .int 1]) (rest := [.ref m]) (F1 := 1) (L1 := 20) (mc := 0) (ms := 0) d_Model_set_9 cS_Model_133 (f_in_no hn (by omega) (by omega)) ⟨by omega, by show 8 + (3 + 11) + 20 ≤ _; omega⟩ ⟨by omega, by omega⟩ (Nat.le_of_ble_eq_true rfl) (fun v_11 h_10 p_12 => ?_)
  obtain ⟨rfl, rfl⟩ := p_12
  refine s_Model_set_12 (fun z => absurd z (by decide)) (fun z_13 => ?_)
  refine s_Model_set_15 ?_
  refine s_Model_set_20 ?_
  refine x_callV (As := [.int 1, .int 1]) (b := m) (rest := []) (F1 := 1) (L1 := 20) (mc := 0) (ms := 0) d_Model_set_21 cV_Model_139 (f_fails_yes (c := 1) (by decide) l_7 e_2 g_8 (by omega) (by omega)) e_2 ⟨by decide, rfl⟩ ⟨by omega, by show 8 + (3 + 11) + 20 ≤ _; omega⟩ ⟨by omega, by omega⟩ (Nat.le_of_ble_eq_true rfl) (fun v_15 h_14 p_16 => ?_)
  obtain ⟨rfl, rfl⟩ := p_16
  refine x_u1 (fun h_17 e_18 f_19 => ?_)
  have r_20 := r_4.up (by simp) f_19
  obtain ⟨fs_21, z_22⟩ : ∃ z, z = fs_5.set 0 (.int 1) := ⟨_, rfl⟩
  rw [← z_22] at e_18
  have l_23 : fs_21.length = 62 := by rw [z_22]; simp only [List.length_set]; exact l_7
  have g_24 : fs_21[(0 : Nat)]? = some (.int 1) := by rw [z_22]; exact (xw_gs (by simp [l_7]))
  have g_25 : fs_21[(10 : Nat)]? = some (.int 0) := by rw [z_22]; exact (xw_gn (by decide) g_9)
  clear z_22
  refine s_Model_set_24 (fun z_26 => ?_) (fun z => absurd z (by decide))
  refine s_Model_set_49 ?_
  exact ⟨rfl, ⟨fs_21, l_23, e_18, g_24⟩, r_20⟩
set_option maxHeartbeats 1000000 in
theorem fm_set_0 {G : xw_G} {F L : Nat} {h : xw_A} {preparedSize_ : Nat} {m : Nat} {fs : List Value} (l : fs.length = 62) (e : h m = some (.inr (11, fs))) (g_err : fs[(0 : Nat)]? = some (.int 0)) (g_drafted : fs[(10 : Nat)]? = some (.int 0)) (g_preparedSize : fs[(6 : Nat)]? = some (.ref preparedSize_)) (e_preparedSize : h preparedSize_ = some (.inl (0, 2, .inl (fun _ => 0)))) (hF : 2 ≤ F) (hL : 42 ≤ L) :
    xw_Met G m_Model_set F L 0 0 [.ref m, .int 0] h (fun v h' => v = some (.int 0) ∧ MP [m, preparedSize_] m 0 h h') (fun _ _ => False) := by
  refine xw_Met.of rfl (by decide) (Nat.le_of_ble_eq_true rfl) ?_
  have r0 : FrO [m, preparedSize_] h h := FrO.rf
  refine s_Model_set_0 l e ?_
  refine x_u1 (fun h_1 e_2 f_3 => ?_)
  have e_4 := (f_3 preparedSize_ (xw_neC e_preparedSize e (by simp))).trans e_preparedSize
  have r_5 := r0.up (by simp) f_3
  obtain ⟨fs_6, z_7⟩ : ∃ z, z = fs.set 0 (.int 0) := ⟨_, rfl⟩
  rw [← z_7] at e_2
  have l_8 : fs_6.length = 62 := by rw [z_7]; simp only [List.length_set]; exact l
  have g_9 : fs_6[(0 : Nat)]? = some (.int 0) := by rw [z_7]; exact (xw_gs (by simp [l]))
  have g_10 : fs_6[(6 : Nat)]? = some (.ref preparedSize_) := by rw [z_7]; exact (xw_gn (by decide) g_preparedSize)
  have g_11 : fs_6[(10 : Nat)]? = some (.int 0) := by rw [z_7]; exact (xw_gn (by decide) g_drafted)
  clear z_7
  refine x_callS (As := [.int 0, .int 0, .int 1]) (rest := [.ref m]) (F1 := 1) (L1 := 20) (mc := 0) (ms := 0) d_Model_set_9 cS_Model_133 (f_in_yes (by decide) (by decide) (by omega) (by omega)) ⟨by omega, by show 8 + (3 + 11) + 20 ≤ _; omega⟩ ⟨by omega, by omega⟩ (Nat.le_of_ble_eq_true rfl) (fun v_13 h_12 p_14 => ?_)
  obtain ⟨rfl, rfl⟩ := p_14
  refine s_Model_set_12 (fun z_15 => ?_) (fun z => absurd z (by decide))
  refine s_Model_set_19 ?_
  refine s_Model_set_20 ?_
  refine x_callV (As := [.int 0, .int 1]) (b := m) (rest := []) (F1 := 1) (L1 := 20) (mc := 0) (ms := 0) d_Model_set_21 cV_Model_139 (f_fails_no l_8 e_2 g_9 (by omega) (by omega)) e_2 ⟨by decide, rfl⟩ ⟨by omega, by show 8 + (3 + 11) + 20 ≤ _; omega⟩ ⟨by omega, by omega⟩ (Nat.le_of_ble_eq_true rfl) (fun v_17 h_16 p_18 => ?_)
  obtain ⟨rfl, rfl⟩ := p_18
  refine s_Model_set_24 (fun z => absurd z (by decide)) (fun z_19 => ?_)
  refine s_Model_set_27 l_8 e_2 g_11 (fun z_20 => ?_) (fun z => absurd z (by decide))
  refine s_Model_set_41 ?_
  refine s_Model_set_42 ?_
  refine x_callV (As := [.int 0, .int 2]) (b := m) (rest := []) (F1 := 1) (L1 := 20) (mc := 0) (ms := 0) d_Model_set_43 cV_Model_139 (f_fails_no l_8 e_2 g_9 (by omega) (by omega)) e_2 ⟨by decide, rfl⟩ ⟨by omega, by show 8 + (3 + 11) + 20 ≤ _; omega⟩ ⟨by omega, by omega⟩ (Nat.le_of_ble_eq_true rfl) (fun v_22 h_21 p_23 => ?_)
  obtain ⟨rfl, rfl⟩ := p_23
  refine s_Model_set_46 (fun z_24 => ?_) (fun z => absurd z (by decide))
  refine s_Model_set_51 ?_
  refine s_Model_set_53 l_8 e_2 g_11 (fun z_25 => ?_) (fun z => absurd z (by decide))
  refine s_Model_set_84 l_8 e_2 g_10 g_11 e_4 (by unfold vp_in; decide) ?_
  refine x_u1 (fun h_26 e_27 f_28 => ?_)
  have e_29 := (f_28 m (xw_neC e_2 e_4 (by simp))).trans e_2
  have r_30 := r_5.up (by simp) f_28
  refine s_Model_set_98 l_8 e_29 g_11 (fun z_31 => ?_) (fun z => absurd z (by decide))
  refine s_Model_set_145 l_8 e_29 ?_
  obtain ⟨h_32, z_35⟩ : ∃ z, z = xw_up h_26 m (.inr (11, (fs_6.set 10 (.int 0)))) := ⟨_, rfl⟩
  rw [← z_35]
  have e_33 : h_32 m = some (.inr (11, (fs_6.set 10 (.int 0)))) := by rw [z_35]; exact xw_up_s _ _ _
  have f_34 : ∀ q, q ≠ m → h_32 q = h_26 q := fun q hq => by rw [z_35]; exact xw_up_n _ _ hq
  clear z_35
  have e_36 := (f_34 preparedSize_ (xw_neC e_27 e_29 (by simp))).trans e_27
  have r_37 := r_30.up (by simp) f_34
  obtain ⟨fs_38, z_39⟩ : ∃ z, z = fs_6.set 10 (.int 0) := ⟨_, rfl⟩
  rw [← z_39] at e_33
  have l_40 : fs_38.length = 62 := by rw [z_39]; simp only [List.length_set]; exact l_8
  have g_41 : fs_38[(0 : Nat)]? = some (.int 0) := by rw [z_39]; exact (xw_gn (by decide) g_9)
  have g_42 : fs_38[(6 : Nat)]? = some (.ref preparedSize_) := by rw [z_39]; exact (xw_gn (by decide) g_10)
  have g_43 : fs_38[(10 : Nat)]? = some (.int 0) := by rw [z_39]; exact (xw_gs (by simp [l_8]))
  clear z_39
  exact ⟨rfl, ⟨fs_38, l_40, e_33, g_41⟩, r_37⟩
set_option maxHeartbeats 1000000 in
theorem fm_set_1 {G : xw_G} {F L : Nat} {h : xw_A} {preparedSize_ : Nat} {m : Nat} {fs : List Value} (l : fs.length = 62) (e : h m = some (.inr (11, fs))) (g_err : fs[(0 : Nat)]? = some (.int 0)) (g_drafted : fs[(10 : Nat)]? = some (.int 0)) (g_preparedSize : fs[(6 : Nat)]? = some (.ref preparedSize_)) (e_preparedSize : h preparedSize_ = some (.inl (0, 2, .inl (fun _ => 0)))) (hF : 2 ≤ F) (hL : 42 ≤ L) :
    xw_Met G m_Model_set F L 0 0 [.ref m, .int 1] h (fun v h' => v = some (.int 0) ∧ MP [m, preparedSize_] m 0 h h') (fun _ _ => False) := by
  refine xw_Met.of rfl (by decide) (Nat.le_of_ble_eq_true rfl) ?_
  have r0 : FrO [m, preparedSize_] h h := FrO.rf
  refine s_Model_set_0 l e ?_
  refine x_u1 (fun h_1 e_2 f_3 => ?_)
  have e_4 := (f_3 preparedSize_ (xw_neC e_preparedSize e (by simp))).trans e_preparedSize
  have r_5 := r0.up (by simp) f_3
  obtain ⟨fs_6, z_7⟩ : ∃ z, z = fs.set 0 (.int 0) := ⟨_, rfl⟩
  rw [← z_7] at e_2
  have l_8 : fs_6.length = 62 := by rw [z_7]; simp only [List.length_set]; exact l
  have g_9 : fs_6[(0 : Nat)]? = some (.int 0) := by rw [z_7]; exact (xw_gs (by simp [l]))
  have g_10 : fs_6[(6 : Nat)]? = some (.ref preparedSize_) := by rw [z_7]; exact (xw_gn (by decide) g_preparedSize)
  have g_11 : fs_6[(10 : Nat)]? = some (.int 0) := by rw [z_7]; exact (xw_gn (by decide) g_drafted)
  clear z_7
  refine x_callS (As := [.int 1, .int 0, .int 1]) (rest := [.ref m]) (F1 := 1) (L1 := 20) (mc := 0) (ms := 0) d_Model_set_9 cS_Model_133 (f_in_yes (by decide) (by decide) (by omega) (by omega)) ⟨by omega, by show 8 + (3 + 11) + 20 ≤ _; omega⟩ ⟨by omega, by omega⟩ (Nat.le_of_ble_eq_true rfl) (fun v_13 h_12 p_14 => ?_)
  obtain ⟨rfl, rfl⟩ := p_14
  refine s_Model_set_12 (fun z_15 => ?_) (fun z => absurd z (by decide))
  refine s_Model_set_19 ?_
  refine s_Model_set_20 ?_
  refine x_callV (As := [.int 0, .int 1]) (b := m) (rest := []) (F1 := 1) (L1 := 20) (mc := 0) (ms := 0) d_Model_set_21 cV_Model_139 (f_fails_no l_8 e_2 g_9 (by omega) (by omega)) e_2 ⟨by decide, rfl⟩ ⟨by omega, by show 8 + (3 + 11) + 20 ≤ _; omega⟩ ⟨by omega, by omega⟩ (Nat.le_of_ble_eq_true rfl) (fun v_17 h_16 p_18 => ?_)
  obtain ⟨rfl, rfl⟩ := p_18
  refine s_Model_set_24 (fun z => absurd z (by decide)) (fun z_19 => ?_)
  refine s_Model_set_27 l_8 e_2 g_11 (fun z_20 => ?_) (fun z => absurd z (by decide))
  refine s_Model_set_41 ?_
  refine s_Model_set_42 ?_
  refine x_callV (As := [.int 0, .int 2]) (b := m) (rest := []) (F1 := 1) (L1 := 20) (mc := 0) (ms := 0) d_Model_set_43 cV_Model_139 (f_fails_no l_8 e_2 g_9 (by omega) (by omega)) e_2 ⟨by decide, rfl⟩ ⟨by omega, by show 8 + (3 + 11) + 20 ≤ _; omega⟩ ⟨by omega, by omega⟩ (Nat.le_of_ble_eq_true rfl) (fun v_22 h_21 p_23 => ?_)
  obtain ⟨rfl, rfl⟩ := p_23
  refine s_Model_set_46 (fun z_24 => ?_) (fun z => absurd z (by decide))
  refine s_Model_set_51 ?_
  refine s_Model_set_53 l_8 e_2 g_11 (fun z_25 => ?_) (fun z => absurd z (by decide))
  refine s_Model_set_84 l_8 e_2 g_10 g_11 e_4 (by unfold vp_in; decide) ?_
  refine x_u1 (fun h_26 e_27 f_28 => ?_)
  have e_29 := (f_28 m (xw_neC e_2 e_4 (by simp))).trans e_2
  have r_30 := r_5.up (by simp) f_28
  refine s_Model_set_98 l_8 e_29 g_11 (fun z_31 => ?_) (fun z => absurd z (by decide))
  refine s_Model_set_145 l_8 e_29 ?_
  obtain ⟨h_32, z_35⟩ : ∃ z, z = xw_up h_26 m (.inr (11, (fs_6.set 10 (.int 0)))) := ⟨_, rfl⟩
  rw [← z_35]
  have e_33 : h_32 m = some (.inr (11, (fs_6.set 10 (.int 0)))) := by rw [z_35]; exact xw_up_s _ _ _
  have f_34 : ∀ q, q ≠ m → h_32 q = h_26 q := fun q hq => by rw [z_35]; exact xw_up_n _ _ hq
  clear z_35
  have e_36 := (f_34 preparedSize_ (xw_neC e_27 e_29 (by simp))).trans e_27
  have r_37 := r_30.up (by simp) f_34
  obtain ⟨fs_38, z_39⟩ : ∃ z, z = fs_6.set 10 (.int 0) := ⟨_, rfl⟩
  rw [← z_39] at e_33
  have l_40 : fs_38.length = 62 := by rw [z_39]; simp only [List.length_set]; exact l_8
  have g_41 : fs_38[(0 : Nat)]? = some (.int 0) := by rw [z_39]; exact (xw_gn (by decide) g_9)
  have g_42 : fs_38[(6 : Nat)]? = some (.ref preparedSize_) := by rw [z_39]; exact (xw_gn (by decide) g_10)
  have g_43 : fs_38[(10 : Nat)]? = some (.int 0) := by rw [z_39]; exact (xw_gs (by simp [l_8]))
  clear z_39
  exact ⟨rfl, ⟨fs_38, l_40, e_33, g_41⟩, r_37⟩
set_option maxHeartbeats 400000 in
theorem fm_has_out {G : xw_G} {F L : Nat} {h : xw_A} {x : Int32} {live_ : Nat} {lf : Nat → Int32} {m : Nat} {fs : List Value} (l : fs.length = 62) (e : h m = some (.inr (11, fs))) (g_live : fs[(14 : Nat)]? = some (.ref live_)) (e_live : h live_ = some (.inl (0, 24, .inl (lf)))) (hn : x < 1 ∨ 24 < x) (hF : 2 ≤ F) (hL : 42 ≤ L) :
    xw_Met G m_Model_has F L 0 0 [.ref m, .int x] h (fun v h' => v = some (.int 0) ∧ h = h') (fun _ _ => False) := by
  refine xw_Met.of rfl (by decide) (Nat.le_of_ble_eq_true rfl) ?_
  refine s_Model_has_0 ?_
  refine x_callS (As := [.int x, .int 1, .int 24]) (rest := []) (F1 := 1) (L1 := 20) (mc := 0) (ms := 0) d_Model_has_4 cS_Model_133 (f_in_no hn (by omega) (by omega)) ⟨by omega, by show 8 + (3 + 11) + 20 ≤ _; omega⟩ ⟨by omega, by omega⟩ (Nat.le_of_ble_eq_true rfl) (fun v_2 h_1 p_3 => ?_)
  obtain ⟨rfl, rfl⟩ := p_3
  refine s_Model_has_7 (fun z_4 => ?_) (fun z => absurd z (by decide))
  refine s_Model_has_25 ?_
  refine s_Model_has_26 rfl ?_
  exact ⟨rfl, rfl⟩
set_option maxHeartbeats 400000 in
theorem fm_has_in {G : xw_G} {F L : Nat} {h : xw_A} {live_ j : Nat} {lf : Nat → Int32} {m : Nat} {fs : List Value} (l : fs.length = 62) (e : h m = some (.inr (11, fs))) (g_live : fs[(14 : Nat)]? = some (.ref live_)) (e_live : h live_ = some (.inl (0, 24, .inl (lf)))) (hl : ∀ j, j < 24 → lf j = -1) (hj : j < 24) (hF : 2 ≤ F) (hL : 42 ≤ L) :
    xw_Met G m_Model_has F L 0 0 [.ref m, .int (nI (j + 1))] h (fun v h' => v = some (.int 0) ∧ h = h') (fun _ _ => False) := by
  refine xw_Met.of rfl (by decide) (Nat.le_of_ble_eq_true rfl) ?_
  refine s_Model_has_0 ?_
  refine x_callS (As := [.int (nI (j + 1)), .int 1, .int 24]) (rest := []) (F1 := 1) (L1 := 20) (mc := 0) (ms := 0) d_Model_has_4 cS_Model_133 (f_in_yes (nI_nlt (b := 1) (by omega) (by omega)) (nI_nlt (a := 24) (by omega) (by omega)) (by omega) (by omega)) ⟨by omega, by show 8 + (3 + 11) + 20 ≤ _; omega⟩ ⟨by omega, by omega⟩ (Nat.le_of_ble_eq_true rfl) (fun v_2 h_1 p_3 => ?_)
  obtain ⟨rfl, rfl⟩ := p_3
  refine s_Model_has_7 (fun z => absurd z (by decide)) (fun z_4 => ?_)
  refine s_Model_has_10 l e g_live e_live (by rw [nI_pred]; exact vp_in_nI hj (by decide)) (fun z_5 => ?_) (fun z => absurd (by rw [nI_pred, nI_clamp (by omega), hl j hj]; decide) z)
  refine s_Model_has_25 ?_
  refine s_Model_has_26 rfl ?_
  exact ⟨rfl, rfl⟩
theorem fm_has {G : xw_G} {F L : Nat} {h : xw_A} {x : Int32} {live_ : Nat} {lf : Nat → Int32} {m : Nat} {fs : List Value} (l : fs.length = 62) (e : h m = some (.inr (11, fs))) (g_live : fs[(14 : Nat)]? = some (.ref live_)) (e_live : h live_ = some (.inl (0, 24, .inl (lf)))) (hl : ∀ j, j < 24 → lf j = -1) (hF : 2 ≤ F) (hL : 42 ≤ L) :
    xw_Met G m_Model_has F L 0 0 [.ref m, .int x] h (fun v h' => v = some (.int 0) ∧ h = h') (fun _ _ => False) := by
  by_cases hn : x < 1 ∨ 24 < x
  · exact fm_has_out l e g_live e_live hn hF hL
  · rw [not_or] at hn
    obtain ⟨j, h1, h2, rfl⟩ := ix_of (a := 1) (b := 24) (by decide) (by decide) hn.1 hn.2
    obtain ⟨i, rfl⟩ : ∃ i, j = i + 1 := ⟨j - 1, by omega⟩
    exact fm_has_in (j := i) l e g_live e_live hl (by omega) hF hL
set_option maxHeartbeats 1000000 in
theorem fm_replace {G : xw_G} {F L : Nat} {h : xw_A} {x : Int32} {lf : Nat → Int32} {live_ : Nat} {m : Nat} {fs : List Value} (l : fs.length = 62) (e : h m = some (.inr (11, fs))) (g_err : fs[(0 : Nat)]? = some (.int 0)) (g_live : fs[(14 : Nat)]? = some (.ref live_)) (e_live : h live_ = some (.inl (0, 24, .inl (lf))))  (hl : ∀ j, j < 24 → lf j = -1) (hF : 3 ≤ F) (hL : 63 ≤ L) :
    xw_Met G m_Model_replace F L 0 0 [.ref m, .int x] h (fun v h' => v = some (.int 0) ∧ MP [m] m 1 h h') (fun _ _ => False) := by
  refine xw_Met.of rfl (by decide) (Nat.le_of_ble_eq_true rfl) ?_
  have r0 : FrO [m] h h := FrO.rf
  refine s_Model_replace_0 l e ?_
  refine x_u1 (fun h_1 e_2 f_3 => ?_)
  have e_4 := (f_3 live_ (xw_neC e_live e (by simp))).trans e_live
  have r_5 := r0.up (by simp) f_3
  obtain ⟨fs_6, z_7⟩ : ∃ z, z = fs.set 0 (.int 0) := ⟨_, rfl⟩
  rw [← z_7] at e_2
  have l_8 : fs_6.length = 62 := by rw [z_7]; simp only [List.length_set]; exact l
  have g_9 : fs_6[(0 : Nat)]? = some (.int 0) := by rw [z_7]; exact (xw_gs (by simp [l]))
  have g_10 : fs_6[(14 : Nat)]? = some (.ref live_) := by rw [z_7]; exact (xw_gn (by decide) g_live)
  clear z_7
  refine x_callV (As := [.int x]) (b := m) (rest := [.ref m]) (F1 := 2) (L1 := 42) (mc := 0) (ms := 0) d_Model_replace_8 cV_Model_181 (fm_has l_8 e_2 g_10 e_4 hl (by omega) (by omega)) e_2 ⟨by decide, rfl⟩ ⟨by omega, by show 8 + (2 + 11) + 42 ≤ _; omega⟩ ⟨by omega, by omega⟩ (Nat.le_of_ble_eq_true rfl) (fun v_12 h_11 p_13 => ?_)
  obtain ⟨rfl, rfl⟩ := p_13
  refine s_Model_replace_11 (fun z => absurd z (by decide)) (fun z_14 => ?_)
  refine s_Model_replace_14 ?_
  refine s_Model_replace_19 ?_
  refine x_callV (As := [.int 1, .int 1]) (b := m) (rest := []) (F1 := 1) (L1 := 20) (mc := 0) (ms := 0) d_Model_replace_20 cV_Model_139 (f_fails_yes (c := 1) (by decide) l_8 e_2 g_9 (by omega) (by omega)) e_2 ⟨by decide, rfl⟩ ⟨by omega, by show 8 + (3 + 11) + 20 ≤ _; omega⟩ ⟨by omega, by omega⟩ (Nat.le_of_ble_eq_true rfl) (fun v_16 h_15 p_17 => ?_)
  obtain ⟨rfl, rfl⟩ := p_17
  refine x_u1 (fun h_18 e_19 f_20 => ?_)
  have e_21 := (f_20 live_ (xw_neC e_4 e_2 (by simp))).trans e_4
  have r_22 := r_5.up (by simp) f_20
  obtain ⟨fs_23, z_24⟩ : ∃ z, z = fs_6.set 0 (.int 1) := ⟨_, rfl⟩
  rw [← z_24] at e_19
  have l_25 : fs_23.length = 62 := by rw [z_24]; simp only [List.length_set]; exact l_8
  have g_26 : fs_23[(0 : Nat)]? = some (.int 1) := by rw [z_24]; exact (xw_gs (by simp [l_8]))
  have g_27 : fs_23[(14 : Nat)]? = some (.ref live_) := by rw [z_24]; exact (xw_gn (by decide) g_10)
  clear z_24
  refine s_Model_replace_23 (fun z => absurd z (by decide)) (fun z_28 => ?_)
  refine s_Model_replace_26 ?_
  refine s_Model_replace_37 ?_
  exact ⟨rfl, ⟨fs_23, l_25, e_19, g_26⟩, r_22⟩
set_option maxHeartbeats 1000000 in
theorem fm_delete {G : xw_G} {F L : Nat} {h : xw_A} {x : Int32} {lf : Nat → Int32} {live_ : Nat} {m : Nat} {fs : List Value} (l : fs.length = 62) (e : h m = some (.inr (11, fs))) (g_err : fs[(0 : Nat)]? = some (.int 0)) (g_live : fs[(14 : Nat)]? = some (.ref live_)) (e_live : h live_ = some (.inl (0, 24, .inl (lf))))  (hl : ∀ j, j < 24 → lf j = -1) (hF : 3 ≤ F) (hL : 63 ≤ L) :
    xw_Met G m_Model_delete F L 0 0 [.ref m, .int x] h (fun v h' => v = some (.int 0) ∧ MP [m] m 1 h h') (fun _ _ => False) := by
  refine xw_Met.of rfl (by decide) (Nat.le_of_ble_eq_true rfl) ?_
  have r0 : FrO [m] h h := FrO.rf
  refine s_Model_delete_0 l e ?_
  refine x_u1 (fun h_1 e_2 f_3 => ?_)
  have e_4 := (f_3 live_ (xw_neC e_live e (by simp))).trans e_live
  have r_5 := r0.up (by simp) f_3
  obtain ⟨fs_6, z_7⟩ : ∃ z, z = fs.set 0 (.int 0) := ⟨_, rfl⟩
  rw [← z_7] at e_2
  have l_8 : fs_6.length = 62 := by rw [z_7]; simp only [List.length_set]; exact l
  have g_9 : fs_6[(0 : Nat)]? = some (.int 0) := by rw [z_7]; exact (xw_gs (by simp [l]))
  have g_10 : fs_6[(14 : Nat)]? = some (.ref live_) := by rw [z_7]; exact (xw_gn (by decide) g_live)
  clear z_7
  refine x_callV (As := [.int x]) (b := m) (rest := [.ref m]) (F1 := 2) (L1 := 42) (mc := 0) (ms := 0) d_Model_delete_8 cV_Model_181 (fm_has l_8 e_2 g_10 e_4 hl (by omega) (by omega)) e_2 ⟨by decide, rfl⟩ ⟨by omega, by show 8 + (2 + 11) + 42 ≤ _; omega⟩ ⟨by omega, by omega⟩ (Nat.le_of_ble_eq_true rfl) (fun v_12 h_11 p_13 => ?_)
  obtain ⟨rfl, rfl⟩ := p_13
  refine s_Model_delete_11 (fun z => absurd z (by decide)) (fun z_14 => ?_)
  refine s_Model_delete_14 ?_
  refine s_Model_delete_19 ?_
  refine x_callV (As := [.int 1, .int 1]) (b := m) (rest := []) (F1 := 1) (L1 := 20) (mc := 0) (ms := 0) d_Model_delete_20 cV_Model_139 (f_fails_yes (c := 1) (by decide) l_8 e_2 g_9 (by omega) (by omega)) e_2 ⟨by decide, rfl⟩ ⟨by omega, by show 8 + (3 + 11) + 20 ≤ _; omega⟩ ⟨by omega, by omega⟩ (Nat.le_of_ble_eq_true rfl) (fun v_16 h_15 p_17 => ?_)
  obtain ⟨rfl, rfl⟩ := p_17
  refine x_u1 (fun h_18 e_19 f_20 => ?_)
  have e_21 := (f_20 live_ (xw_neC e_4 e_2 (by simp))).trans e_4
  have r_22 := r_5.up (by simp) f_20
  obtain ⟨fs_23, z_24⟩ : ∃ z, z = fs_6.set 0 (.int 1) := ⟨_, rfl⟩
  rw [← z_24] at e_19
  have l_25 : fs_23.length = 62 := by rw [z_24]; simp only [List.length_set]; exact l_8
  have g_26 : fs_23[(0 : Nat)]? = some (.int 1) := by rw [z_24]; exact (xw_gs (by simp [l_8]))
  have g_27 : fs_23[(14 : Nat)]? = some (.ref live_) := by rw [z_24]; exact (xw_gn (by decide) g_10)
  clear z_24
  refine s_Model_delete_23 (fun z => absurd z (by decide)) (fun z_28 => ?_)
  refine s_Model_delete_26 ?_
  exact ⟨rfl, ⟨fs_23, l_25, e_19, g_26⟩, r_22⟩
set_option maxHeartbeats 1000000 in
theorem fm_look {G : xw_G} {F L : Nat} {h : xw_A} {x y : Int32} {lf : Nat → Int32} {live_ : Nat} {m : Nat} {fs : List Value} (l : fs.length = 62) (e : h m = some (.inr (11, fs))) (g_err : fs[(0 : Nat)]? = some (.int 0)) (g_live : fs[(14 : Nat)]? = some (.ref live_)) (e_live : h live_ = some (.inl (0, 24, .inl (lf))))  (hl : ∀ j, j < 24 → lf j = -1) (hF : 3 ≤ F) (hL : 63 ≤ L) :
    xw_Met G m_Model_look F L 0 0 [.ref m, .int x, .int y] h (fun v h' => v = some (.int 0) ∧ MP [m] m 1 h h') (fun _ _ => False) := by
  refine xw_Met.of rfl (by decide) (Nat.le_of_ble_eq_true rfl) ?_
  have r0 : FrO [m] h h := FrO.rf
  refine s_Model_look_0 l e ?_
  refine x_u1 (fun h_1 e_2 f_3 => ?_)
  have e_4 := (f_3 live_ (xw_neC e_live e (by simp))).trans e_live
  have r_5 := r0.up (by simp) f_3
  obtain ⟨fs_6, z_7⟩ : ∃ z, z = fs.set 0 (.int 0) := ⟨_, rfl⟩
  rw [← z_7] at e_2
  have l_8 : fs_6.length = 62 := by rw [z_7]; simp only [List.length_set]; exact l
  have g_9 : fs_6[(0 : Nat)]? = some (.int 0) := by rw [z_7]; exact (xw_gs (by simp [l]))
  have g_10 : fs_6[(14 : Nat)]? = some (.ref live_) := by rw [z_7]; exact (xw_gn (by decide) g_live)
  clear z_7
  refine x_callV (As := [.int x]) (b := m) (rest := [.ref m]) (F1 := 2) (L1 := 42) (mc := 0) (ms := 0) d_Model_look_8 cV_Model_181 (fm_has l_8 e_2 g_10 e_4 hl (by omega) (by omega)) e_2 ⟨by decide, rfl⟩ ⟨by omega, by show 8 + (2 + 11) + 42 ≤ _; omega⟩ ⟨by omega, by omega⟩ (Nat.le_of_ble_eq_true rfl) (fun v_12 h_11 p_13 => ?_)
  obtain ⟨rfl, rfl⟩ := p_13
  refine s_Model_look_11 (fun z => absurd z (by decide)) (fun z_14 => ?_)
  refine s_Model_look_14 ?_
  refine s_Model_look_19 ?_
  refine x_callV (As := [.int 1, .int 1]) (b := m) (rest := []) (F1 := 1) (L1 := 20) (mc := 0) (ms := 0) d_Model_look_20 cV_Model_139 (f_fails_yes (c := 1) (by decide) l_8 e_2 g_9 (by omega) (by omega)) e_2 ⟨by decide, rfl⟩ ⟨by omega, by show 8 + (3 + 11) + 20 ≤ _; omega⟩ ⟨by omega, by omega⟩ (Nat.le_of_ble_eq_true rfl) (fun v_16 h_15 p_17 => ?_)
  obtain ⟨rfl, rfl⟩ := p_17
  refine x_u1 (fun h_18 e_19 f_20 => ?_)
  have e_21 := (f_20 live_ (xw_neC e_4 e_2 (by simp))).trans e_4
  have r_22 := r_5.up (by simp) f_20
  obtain ⟨fs_23, z_24⟩ : ∃ z, z = fs_6.set 0 (.int 1) := ⟨_, rfl⟩
  rw [← z_24] at e_19
  have l_25 : fs_23.length = 62 := by rw [z_24]; simp only [List.length_set]; exact l_8
  have g_26 : fs_23[(0 : Nat)]? = some (.int 1) := by rw [z_24]; exact (xw_gs (by simp [l_8]))
  have g_27 : fs_23[(14 : Nat)]? = some (.ref live_) := by rw [z_24]; exact (xw_gn (by decide) g_10)
  clear z_24
  refine s_Model_look_23 (fun z_28 => ?_) (fun z => absurd z (by decide))
  refine s_Model_look_48 ?_
  exact ⟨rfl, ⟨fs_23, l_25, e_19, g_26⟩, r_22⟩
set_option maxHeartbeats 1000000 in
theorem fm_commit {G : xw_G} {F L : Nat} {h : xw_A} {m : Nat} {fs : List Value} (l : fs.length = 62) (e : h m = some (.inr (11, fs))) (g_err : fs[(0 : Nat)]? = some (.int 0)) (g_open : fs[(20 : Nat)]? = some (.int 0)) (hF : 2 ≤ F) (hL : 42 ≤ L) :
    xw_Met G m_Model_commit F L 0 0 [.ref m] h (fun v h' => v = some (.int 0) ∧ MP [m] m 1 h h') (fun _ _ => False) := by
  refine xw_Met.of rfl (by decide) (Nat.le_of_ble_eq_true rfl) ?_
  have r0 : FrO [m] h h := FrO.rf
  refine s_Model_commit_0 l e g_open (fun z => absurd z (by decide)) (fun z_1 => ?_)
  refine x_u1 (fun h_2 e_3 f_4 => ?_)
  have r_5 := r0.up (by simp) f_4
  obtain ⟨fs_6, z_7⟩ : ∃ z, z = fs.set 0 (.int 0) := ⟨_, rfl⟩
  rw [← z_7] at e_3
  have l_8 : fs_6.length = 62 := by rw [z_7]; simp only [List.length_set]; exact l
  have g_9 : fs_6[(0 : Nat)]? = some (.int 0) := by rw [z_7]; exact (xw_gs (by simp [l]))
  have g_10 : fs_6[(20 : Nat)]? = some (.int 0) := by rw [z_7]; exact (xw_gn (by decide) g_open)
  clear z_7
  refine s_Model_commit_13 ?_
  refine s_Model_commit_18 ?_
  refine x_callV (As := [.int 1, .int 1]) (b := m) (rest := []) (F1 := 1) (L1 := 20) (mc := 0) (ms := 0) d_Model_commit_19 cV_Model_139 (f_fails_yes (c := 1) (by decide) l_8 e_3 g_9 (by omega) (by omega)) e_3 ⟨by decide, rfl⟩ ⟨by omega, by show 8 + (3 + 11) + 20 ≤ _; omega⟩ ⟨by omega, by omega⟩ (Nat.le_of_ble_eq_true rfl) (fun v_12 h_11 p_13 => ?_)
  obtain ⟨rfl, rfl⟩ := p_13
  refine x_u1 (fun h_14 e_15 f_16 => ?_)
  have r_17 := r_5.up (by simp) f_16
  obtain ⟨fs_18, z_19⟩ : ∃ z, z = fs_6.set 0 (.int 1) := ⟨_, rfl⟩
  rw [← z_19] at e_15
  have l_20 : fs_18.length = 62 := by rw [z_19]; simp only [List.length_set]; exact l_8
  have g_21 : fs_18[(0 : Nat)]? = some (.int 1) := by rw [z_19]; exact (xw_gs (by simp [l_8]))
  have g_22 : fs_18[(20 : Nat)]? = some (.int 0) := by rw [z_19]; exact (xw_gn (by decide) g_10)
  clear z_19
  refine s_Model_commit_22 (fun z => absurd z (by decide)) (fun z_23 => ?_)
  refine s_Model_commit_25 ?_
  exact ⟨rfl, ⟨fs_18, l_20, e_15, g_21⟩, r_17⟩
set_option maxHeartbeats 1000000 in
theorem fm_rollback {G : xw_G} {F L : Nat} {h : xw_A} {m : Nat} {fs : List Value} (l : fs.length = 62) (e : h m = some (.inr (11, fs))) (g_err : fs[(0 : Nat)]? = some (.int 0)) (g_open : fs[(20 : Nat)]? = some (.int 0)) (hF : 2 ≤ F) (hL : 42 ≤ L) :
    xw_Met G m_Model_rollback F L 0 0 [.ref m] h (fun v h' => v = some (.int 0) ∧ MP [m] m 1 h h') (fun _ _ => False) := by
  refine xw_Met.of rfl (by decide) (Nat.le_of_ble_eq_true rfl) ?_
  have r0 : FrO [m] h h := FrO.rf
  refine s_Model_rollback_0 l e g_open (fun z => absurd z (by decide)) (fun z_1 => ?_)
  refine x_u1 (fun h_2 e_3 f_4 => ?_)
  have r_5 := r0.up (by simp) f_4
  obtain ⟨fs_6, z_7⟩ : ∃ z, z = fs.set 0 (.int 0) := ⟨_, rfl⟩
  rw [← z_7] at e_3
  have l_8 : fs_6.length = 62 := by rw [z_7]; simp only [List.length_set]; exact l
  have g_9 : fs_6[(0 : Nat)]? = some (.int 0) := by rw [z_7]; exact (xw_gs (by simp [l]))
  have g_10 : fs_6[(20 : Nat)]? = some (.int 0) := by rw [z_7]; exact (xw_gn (by decide) g_open)
  clear z_7
  refine s_Model_rollback_13 ?_
  refine s_Model_rollback_18 ?_
  refine x_callV (As := [.int 1, .int 1]) (b := m) (rest := []) (F1 := 1) (L1 := 20) (mc := 0) (ms := 0) d_Model_rollback_19 cV_Model_139 (f_fails_yes (c := 1) (by decide) l_8 e_3 g_9 (by omega) (by omega)) e_3 ⟨by decide, rfl⟩ ⟨by omega, by show 8 + (3 + 11) + 20 ≤ _; omega⟩ ⟨by omega, by omega⟩ (Nat.le_of_ble_eq_true rfl) (fun v_12 h_11 p_13 => ?_)
  obtain ⟨rfl, rfl⟩ := p_13
  refine x_u1 (fun h_14 e_15 f_16 => ?_)
  have r_17 := r_5.up (by simp) f_16
  obtain ⟨fs_18, z_19⟩ : ∃ z, z = fs_6.set 0 (.int 1) := ⟨_, rfl⟩
  rw [← z_19] at e_15
  have l_20 : fs_18.length = 62 := by rw [z_19]; simp only [List.length_set]; exact l_8
  have g_21 : fs_18[(0 : Nat)]? = some (.int 1) := by rw [z_19]; exact (xw_gs (by simp [l_8]))
  have g_22 : fs_18[(20 : Nat)]? = some (.int 0) := by rw [z_19]; exact (xw_gn (by decide) g_10)
  clear z_19
  refine s_Model_rollback_22 (fun z => absurd z (by decide)) (fun z_23 => ?_)
  refine s_Model_rollback_25 ?_
  exact ⟨rfl, ⟨fs_18, l_20, e_15, g_21⟩, r_17⟩
set_option maxHeartbeats 1000000 in
theorem fm_optimize {G : xw_G} {F L : Nat} {h : xw_A} {m : Nat} {fs : List Value} (l : fs.length = 62) (e : h m = some (.inr (11, fs))) (g_err : fs[(0 : Nat)]? = some (.int 0)) (g_segments : fs[(19 : Nat)]? = some (.int 0)) (hF : 1 ≤ F) (hL : 20 ≤ L) :
    xw_Met G m_Model_optimize F L 0 0 [.ref m] h (fun v h' => v = some (.int 0) ∧ MP [m] m 0 h h') (fun _ _ => False) := by
  refine xw_Met.of rfl (by decide) (Nat.le_of_ble_eq_true rfl) ?_
  have r0 : FrO [m] h h := FrO.rf
  refine s_Model_optimize_0 l e g_segments ?_
  refine x_u1 (fun h_1 e_2 f_3 => ?_)
  have r_4 := r0.up (by simp) f_3
  obtain ⟨fs_5, z_6⟩ : ∃ z, z = fs.set 0 (.int 0) := ⟨_, rfl⟩
  rw [← z_6] at e_2
  have l_7 : fs_5.length = 62 := by rw [z_6]; simp only [List.length_set]; exact l
  have g_8 : fs_5[(0 : Nat)]? = some (.int 0) := by rw [z_6]; exact (xw_gs (by simp [l]))
  have g_9 : fs_5[(19 : Nat)]? = some (.int 0) := by rw [z_6]; exact (xw_gn (by decide) g_segments)
  clear z_6
  refine s_Model_optimize_14 l_7 e_2 g_9 (fun z_10 => ?_) (fun z => absurd z (by decide))
  refine s_Model_optimize_55 (fun z_11 => ?_) (fun z => absurd z (by decide))
  refine s_Model_optimize_65 ?_
  exact ⟨rfl, ⟨fs_5, l_7, e_2, g_8⟩, r_4⟩
set_option maxHeartbeats 400000 in
theorem fm_clean {G : xw_G} {F L : Nat} {h : xw_A} {x : Int32} {m : Nat} {fs : List Value} (l : fs.length = 62) (e : h m = some (.inr (11, fs))) (hF : 1 ≤ F) (hL : 20 ≤ L) :
    xw_Met G m_Model_clean F L 0 0 [.ref m, .int x] h (fun v h' => v = some (.int x) ∧ h' = xw_up h m (.inr (11, fs.set 0 (.int 0)))) (fun _ _ => False) := by
  refine xw_Met.of rfl (by decide) (Nat.le_of_ble_eq_true rfl) ?_
  refine s_Model_clean_0 l e ?_
  exact ⟨rfl, rfl⟩
set_option maxHeartbeats 1000000 in
theorem fm_wrong {G : xw_G} {F L : Nat} {h : xw_A} {m : Nat} {fs : List Value} (l : fs.length = 62) (e : h m = some (.inr (11, fs))) (g_err : fs[(0 : Nat)]? = some (.int 0)) (g_wrongAt : fs[(32 : Nat)]? = some (.int (-1))) (hF : 2 ≤ F) (hL : 41 ≤ L) :
    xw_Met G m_Model_wrong F L 0 0 [.ref m] h (fun v h' => v = some (.int (-1)) ∧ MP [m] m 0 h h') (fun _ _ => False) := by
  refine xw_Met.of rfl (by decide) (Nat.le_of_ble_eq_true rfl) ?_
  have r0 : FrO [m] h h := FrO.rf
  refine s_Model_wrong_0 l e g_wrongAt ?_
  refine x_callV (As := [.int (-1)]) (b := m) (rest := []) (F1 := 1) (L1 := 20) (mc := 0) (ms := 0) d_Model_wrong_5 cV_Model_370 (fm_clean l e (by omega) (by omega)) e ⟨by decide, rfl⟩ ⟨by omega, by show 8 + (2 + 11) + 20 ≤ _; omega⟩ ⟨by omega, by omega⟩ (Nat.le_of_ble_eq_true rfl) (fun v_2 h_1 p_3 => ?_)
  obtain ⟨rfl, rfl⟩ := p_3
  refine x_u1 (fun h_4 e_5 f_6 => ?_)
  have r_7 := r0.up (by simp) f_6
  obtain ⟨fs_8, z_9⟩ : ∃ z, z = fs.set 0 (.int 0) := ⟨_, rfl⟩
  rw [← z_9] at e_5
  have l_10 : fs_8.length = 62 := by rw [z_9]; simp only [List.length_set]; exact l
  have g_11 : fs_8[(0 : Nat)]? = some (.int 0) := by rw [z_9]; exact (xw_gs (by simp [l]))
  have g_12 : fs_8[(32 : Nat)]? = some (.int (-1)) := by rw [z_9]; exact (xw_gn (by decide) g_wrongAt)
  clear z_9
  refine x_le (xw_le_n xw_le_e) ?_
  refine s_Model_wrong_8 ?_
  exact ⟨rfl, ⟨fs_8, l_10, e_5, g_11⟩, r_7⟩
set_option maxHeartbeats 1000000 in
theorem fm_ways_no1 {G : xw_G} {F L : Nat} {h : xw_A} {x y : Int32} {m : Nat} {fs : List Value} (l : fs.length = 62) (e : h m = some (.inr (11, fs))) (g_err : fs[(0 : Nat)]? = some (.int 0)) (g_most : fs[(1 : Nat)]? = some (.int 3)) (g_limit : fs[(2 : Nat)]? = some (.int 20))  (hn : x < 1 ∨ 9 < x) (hF : 2 ≤ F) (hL : 42 ≤ L) :
    xw_Met G m_Model_ways F L 0 0 [.ref m, .int x, .int y] h (fun v h' => v = none ∧ MP [m] m 1 h h') (fun _ _ => False) := by
  refine xw_Met.of rfl (by decide) (Nat.le_of_ble_eq_true rfl) ?_
  have r0 : FrO [m] h h := FrO.rf
  refine s_Model_ways_0 l e ?_
  refine x_u1 (fun h_1 e_2 f_3 => ?_)
  have r_4 := r0.up (by simp) f_3
  obtain ⟨fs_5, z_6⟩ : ∃ z, z = fs.set 0 (.int 0) := ⟨_, rfl⟩
  rw [← z_6] at e_2
  have l_7 : fs_5.length = 62 := by rw [z_6]; simp only [List.length_set]; exact l
  have g_8 : fs_5[(0 : Nat)]? = some (.int 0) := by rw [z_6]; exact (xw_gs (by simp [l]))
  have g_9 : fs_5[(1 : Nat)]? = some (.int 3) := by rw [z_6]; exact (xw_gn (by decide) g_most)
  have g_10 : fs_5[(2 : Nat)]? = some (.int 20) := by rw [z_6]; exact (xw_gn (by decide) g_limit)
  clear z_6
  refine x_callS (As := [.int x, .int 1, .int 9]) (rest := [.ref m]) (F1 := 1) (L1 := 20) (mc := 0) (ms := 0) d_Model_ways_10 cS_Model_133 (f_in_no hn (by omega) (by omega)) ⟨by omega, by show 8 + (3 + 11) + 20 ≤ _; omega⟩ ⟨by omega, by omega⟩ (Nat.le_of_ble_eq_true rfl) (fun v_12 h_11 p_13 => ?_)
  obtain ⟨rfl, rfl⟩ := p_13
  refine s_Model_ways_13 (fun z_14 => ?_) (fun z => absurd z (by decide))
  refine s_Model_ways_27 ?_
  refine s_Model_ways_32 ?_
  refine x_callV (As := [.int 1, .int 1]) (b := m) (rest := []) (F1 := 1) (L1 := 20) (mc := 0) (ms := 0) d_Model_ways_33 cV_Model_139 (f_fails_yes (c := 1) (by decide) l_7 e_2 g_8 (by omega) (by omega)) e_2 ⟨by decide, rfl⟩ ⟨by omega, by show 8 + (3 + 11) + 20 ≤ _; omega⟩ ⟨by omega, by omega⟩ (Nat.le_of_ble_eq_true rfl) (fun v_16 h_15 p_17 => ?_)
  obtain ⟨rfl, rfl⟩ := p_17
  refine x_u1 (fun h_18 e_19 f_20 => ?_)
  have r_21 := r_4.up (by simp) f_20
  obtain ⟨fs_22, z_23⟩ : ∃ z, z = fs_5.set 0 (.int 1) := ⟨_, rfl⟩
  rw [← z_23] at e_19
  have l_24 : fs_22.length = 62 := by rw [z_23]; simp only [List.length_set]; exact l_7
  have g_25 : fs_22[(0 : Nat)]? = some (.int 1) := by rw [z_23]; exact (xw_gs (by simp [l_7]))
  have g_26 : fs_22[(1 : Nat)]? = some (.int 3) := by rw [z_23]; exact (xw_gn (by decide) g_9)
  have g_27 : fs_22[(2 : Nat)]? = some (.int 20) := by rw [z_23]; exact (xw_gn (by decide) g_10)
  clear z_23
  refine s_Model_ways_36 (fun z => absurd z (by decide)) (fun z_28 => ?_)
  refine s_Model_ways_39 ?_
  exact ⟨rfl, ⟨fs_22, l_24, e_19, g_25⟩, r_21⟩
set_option maxHeartbeats 1000000 in
theorem fm_ways_no2 {G : xw_G} {F L : Nat} {h : xw_A} {x y : Int32} {m : Nat} {fs : List Value} (l : fs.length = 62) (e : h m = some (.inr (11, fs))) (g_err : fs[(0 : Nat)]? = some (.int 0)) (g_most : fs[(1 : Nat)]? = some (.int 3)) (g_limit : fs[(2 : Nat)]? = some (.int 20))  (h1 : ¬ x < 1) (h2 : ¬ 9 < x) (hn : y < 0 ∨ 200 < y) (hF : 2 ≤ F) (hL : 42 ≤ L) :
    xw_Met G m_Model_ways F L 0 0 [.ref m, .int x, .int y] h (fun v h' => v = none ∧ MP [m] m 1 h h') (fun _ _ => False) := by
  refine xw_Met.of rfl (by decide) (Nat.le_of_ble_eq_true rfl) ?_
  have r0 : FrO [m] h h := FrO.rf
  refine s_Model_ways_0 l e ?_
  refine x_u1 (fun h_1 e_2 f_3 => ?_)
  have r_4 := r0.up (by simp) f_3
  obtain ⟨fs_5, z_6⟩ : ∃ z, z = fs.set 0 (.int 0) := ⟨_, rfl⟩
  rw [← z_6] at e_2
  have l_7 : fs_5.length = 62 := by rw [z_6]; simp only [List.length_set]; exact l
  have g_8 : fs_5[(0 : Nat)]? = some (.int 0) := by rw [z_6]; exact (xw_gs (by simp [l]))
  have g_9 : fs_5[(1 : Nat)]? = some (.int 3) := by rw [z_6]; exact (xw_gn (by decide) g_most)
  have g_10 : fs_5[(2 : Nat)]? = some (.int 20) := by rw [z_6]; exact (xw_gn (by decide) g_limit)
  clear z_6
  refine x_callS (As := [.int x, .int 1, .int 9]) (rest := [.ref m]) (F1 := 1) (L1 := 20) (mc := 0) (ms := 0) d_Model_ways_10 cS_Model_133 (f_in_yes h1 h2 (by omega) (by omega)) ⟨by omega, by show 8 + (3 + 11) + 20 ≤ _; omega⟩ ⟨by omega, by omega⟩ (Nat.le_of_ble_eq_true rfl) (fun v_12 h_11 p_13 => ?_)
  obtain ⟨rfl, rfl⟩ := p_13
  refine s_Model_ways_13 (fun z => absurd z (by decide)) (fun z_14 => ?_)
  refine s_Model_ways_16 ?_
  refine x_callS (As := [.int y, .int 0, .int 200]) (rest := [.ref m]) (F1 := 1) (L1 := 20) (mc := 0) (ms := 0) d_Model_ways_21 cS_Model_133 (f_in_no hn (by omega) (by omega)) ⟨by omega, by show 8 + (3 + 11) + 20 ≤ _; omega⟩ ⟨by omega, by omega⟩ (Nat.le_of_ble_eq_true rfl) (fun v_16 h_15 p_17 => ?_)
  obtain ⟨rfl, rfl⟩ := p_17
  refine s_Model_ways_24 (fun z => absurd z (by decide)) (fun z_18 => ?_)
  refine s_Model_ways_27 ?_
  refine s_Model_ways_32 ?_
  refine x_callV (As := [.int 1, .int 1]) (b := m) (rest := []) (F1 := 1) (L1 := 20) (mc := 0) (ms := 0) d_Model_ways_33 cV_Model_139 (f_fails_yes (c := 1) (by decide) l_7 e_2 g_8 (by omega) (by omega)) e_2 ⟨by decide, rfl⟩ ⟨by omega, by show 8 + (3 + 11) + 20 ≤ _; omega⟩ ⟨by omega, by omega⟩ (Nat.le_of_ble_eq_true rfl) (fun v_20 h_19 p_21 => ?_)
  obtain ⟨rfl, rfl⟩ := p_21
  refine x_u1 (fun h_22 e_23 f_24 => ?_)
  have r_25 := r_4.up (by simp) f_24
  obtain ⟨fs_26, z_27⟩ : ∃ z, z = fs_5.set 0 (.int 1) := ⟨_, rfl⟩
  rw [← z_27] at e_23
  have l_28 : fs_26.length = 62 := by rw [z_27]; simp only [List.length_set]; exact l_7
  have g_29 : fs_26[(0 : Nat)]? = some (.int 1) := by rw [z_27]; exact (xw_gs (by simp [l_7]))
  have g_30 : fs_26[(1 : Nat)]? = some (.int 3) := by rw [z_27]; exact (xw_gn (by decide) g_9)
  have g_31 : fs_26[(2 : Nat)]? = some (.int 20) := by rw [z_27]; exact (xw_gn (by decide) g_10)
  clear z_27
  refine s_Model_ways_36 (fun z => absurd z (by decide)) (fun z_32 => ?_)
  refine s_Model_ways_39 ?_
  exact ⟨rfl, ⟨fs_26, l_28, e_23, g_29⟩, r_25⟩
set_option maxHeartbeats 1000000 in
theorem fm_ways_yes {G : xw_G} {F L : Nat} {h : xw_A} {x y : Int32} {m : Nat} {fs : List Value} (l : fs.length = 62) (e : h m = some (.inr (11, fs))) (g_err : fs[(0 : Nat)]? = some (.int 0)) (g_most : fs[(1 : Nat)]? = some (.int 3)) (g_limit : fs[(2 : Nat)]? = some (.int 20))  (h1 : ¬ x < 1) (h2 : ¬ 9 < x) (h3 : ¬ y < 0) (h4 : ¬ 200 < y) (hF : 2 ≤ F) (hL : 42 ≤ L) :
    xw_Met G m_Model_ways F L 0 0 [.ref m, .int x, .int y] h (fun v h' => v = none ∧ MP [m] m 0 h h') (fun _ _ => False) := by
  refine xw_Met.of rfl (by decide) (Nat.le_of_ble_eq_true rfl) ?_
  have r0 : FrO [m] h h := FrO.rf
  refine s_Model_ways_0 l e ?_
  refine x_u1 (fun h_1 e_2 f_3 => ?_)
  have r_4 := r0.up (by simp) f_3
  obtain ⟨fs_5, z_6⟩ : ∃ z, z = fs.set 0 (.int 0) := ⟨_, rfl⟩
  rw [← z_6] at e_2
  have l_7 : fs_5.length = 62 := by rw [z_6]; simp only [List.length_set]; exact l
  have g_8 : fs_5[(0 : Nat)]? = some (.int 0) := by rw [z_6]; exact (xw_gs (by simp [l]))
  have g_9 : fs_5[(1 : Nat)]? = some (.int 3) := by rw [z_6]; exact (xw_gn (by decide) g_most)
  have g_10 : fs_5[(2 : Nat)]? = some (.int 20) := by rw [z_6]; exact (xw_gn (by decide) g_limit)
  clear z_6
  refine x_callS (As := [.int x, .int 1, .int 9]) (rest := [.ref m]) (F1 := 1) (L1 := 20) (mc := 0) (ms := 0) d_Model_ways_10 cS_Model_133 (f_in_yes h1 h2 (by omega) (by omega)) ⟨by omega, by show 8 + (3 + 11) + 20 ≤ _; omega⟩ ⟨by omega, by omega⟩ (Nat.le_of_ble_eq_true rfl) (fun v_12 h_11 p_13 => ?_)
  obtain ⟨rfl, rfl⟩ := p_13
  refine s_Model_ways_13 (fun z => absurd z (by decide)) (fun z_14 => ?_)
  refine s_Model_ways_16 ?_
  refine x_callS (As := [.int y, .int 0, .int 200]) (rest := [.ref m]) (F1 := 1) (L1 := 20) (mc := 0) (ms := 0) d_Model_ways_21 cS_Model_133 (f_in_yes h3 h4 (by omega) (by omega)) ⟨by omega, by show 8 + (3 + 11) + 20 ≤ _; omega⟩ ⟨by omega, by omega⟩ (Nat.le_of_ble_eq_true rfl) (fun v_16 h_15 p_17 => ?_)
  obtain ⟨rfl, rfl⟩ := p_17
  refine s_Model_ways_24 (fun z_18 => ?_) (fun z => absurd z (by decide))
  refine s_Model_ways_31 ?_
  refine s_Model_ways_32 ?_
  refine x_callV (As := [.int 0, .int 1]) (b := m) (rest := []) (F1 := 1) (L1 := 20) (mc := 0) (ms := 0) d_Model_ways_33 cV_Model_139 (f_fails_no l_7 e_2 g_8 (by omega) (by omega)) e_2 ⟨by decide, rfl⟩ ⟨by omega, by show 8 + (3 + 11) + 20 ≤ _; omega⟩ ⟨by omega, by omega⟩ (Nat.le_of_ble_eq_true rfl) (fun v_20 h_19 p_21 => ?_)
  obtain ⟨rfl, rfl⟩ := p_21
  refine s_Model_ways_36 (fun z_22 => ?_) (fun z => absurd z (by decide))
  refine s_Model_ways_40 l_7 e_2 ?_
  rw [xw_up_up]
  obtain ⟨h_23, z_29⟩ : ∃ z, z = xw_up h_1 m (.inr (11, ((fs_5.set 1 (.int x)).set 2 (.int y)))) := ⟨_, rfl⟩
  rw [← z_29]
  have e_24 : h_23 m = some (.inr (11, ((fs_5.set 1 (.int x)).set 2 (.int y)))) := by rw [z_29]; exact xw_up_s _ _ _
  have f_25 : ∀ q, q ≠ m → h_23 q = h_1 q := fun q hq => by rw [z_29]; exact xw_up_n _ _ hq
  clear z_29
  have r_30 := r_4.up (by simp) f_25
  obtain ⟨fs_31, z_32⟩ : ∃ z, z = (fs_5.set 1 (.int x)).set 2 (.int y) := ⟨_, rfl⟩
  rw [← z_32] at e_24
  have l_33 : fs_31.length = 62 := by rw [z_32]; simp only [List.length_set]; exact l_7
  have g_34 : fs_31[(0 : Nat)]? = some (.int 0) := by rw [z_32]; exact (xw_gn (by decide) (xw_gn (by decide) g_8))
  have g_35 : fs_31[(1 : Nat)]? = some (.int x) := by rw [z_32]; exact (xw_gn (by decide) (xw_gs (by simp [l_7])))
  have g_36 : fs_31[(2 : Nat)]? = some (.int y) := by rw [z_32]; exact (xw_gs (by simp [l_7]))
  clear z_32
  exact ⟨rfl, ⟨fs_31, l_33, e_24, g_34⟩, r_30⟩
set_option maxHeartbeats 1000000 in
theorem fm_weight_no1 {G : xw_G} {F L : Nat} {h : xw_A} {x y : Int32} {m : Nat} {fs : List Value} (l : fs.length = 62) (e : h m = some (.inr (11, fs))) (g_err : fs[(0 : Nat)]? = some (.int 0))  (hn : x < 0 ∨ 1 < x) (hF : 2 ≤ F) (hL : 42 ≤ L) :
    xw_Met G m_Model_weight F L 0 0 [.ref m, .int x, .int y] h (fun v h' => v = some (.int 0) ∧ MP [m] m 1 h h') (fun _ _ => False) := by
  refine xw_Met.of rfl (by decide) (Nat.le_of_ble_eq_true rfl) ?_
  have r0 : FrO [m] h h := FrO.rf
  refine s_Model_weight_0 l e ?_
  refine x_u1 (fun h_1 e_2 f_3 => ?_)
  have r_4 := r0.up (by simp) f_3
  obtain ⟨fs_5, z_6⟩ : ∃ z, z = fs.set 0 (.int 0) := ⟨_, rfl⟩
  rw [← z_6] at e_2
  have l_7 : fs_5.length = 62 := by rw [z_6]; simp only [List.length_set]; exact l
  have g_8 : fs_5[(0 : Nat)]? = some (.int 0) := by rw [z_6]; exact (xw_gs (by simp [l]))
  clear z_6
  refine x_callS (As := [.int x, .int 0, .int 1]) (rest := [.ref m]) (F1 := 1) (L1 := 20) (mc := 0) (ms := 0) d_Model_weight_9 cS_Model_133 (f_in_no hn (by omega) (by omega)) ⟨by omega, by show 8 + (3 + 11) + 20 ≤ _; omega⟩ ⟨by omega, by omega⟩ (Nat.le_of_ble_eq_true rfl) (fun v_10 h_9 p_11 => ?_)
  obtain ⟨rfl, rfl⟩ := p_11
  refine s_Model_weight_12 (fun z_12 => ?_) (fun z => absurd z (by decide))
  refine s_Model_weight_25 ?_
  refine s_Model_weight_30 ?_
  refine x_callV (As := [.int 1, .int 1]) (b := m) (rest := []) (F1 := 1) (L1 := 20) (mc := 0) (ms := 0) d_Model_weight_31 cV_Model_139 (f_fails_yes (c := 1) (by decide) l_7 e_2 g_8 (by omega) (by omega)) e_2 ⟨by decide, rfl⟩ ⟨by omega, by show 8 + (3 + 11) + 20 ≤ _; omega⟩ ⟨by omega, by omega⟩ (Nat.le_of_ble_eq_true rfl) (fun v_14 h_13 p_15 => ?_)
  obtain ⟨rfl, rfl⟩ := p_15
  refine x_u1 (fun h_16 e_17 f_18 => ?_)
  have r_19 := r_4.up (by simp) f_18
  obtain ⟨fs_20, z_21⟩ : ∃ z, z = fs_5.set 0 (.int 1) := ⟨_, rfl⟩
  rw [← z_21] at e_17
  have l_22 : fs_20.length = 62 := by rw [z_21]; simp only [List.length_set]; exact l_7
  have g_23 : fs_20[(0 : Nat)]? = some (.int 1) := by rw [z_21]; exact (xw_gs (by simp [l_7]))
  clear z_21
  refine s_Model_weight_34 (fun z => absurd z (by decide)) (fun z_24 => ?_)
  refine s_Model_weight_37 ?_
  exact ⟨rfl, ⟨fs_20, l_22, e_17, g_23⟩, r_19⟩
