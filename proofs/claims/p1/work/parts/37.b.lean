/-! ONE CALL ON A FRESH OBJECT: THE CLASS: by program (wip/tools/p1l.py) -/
set_option maxHeartbeats 1000000 in
theorem fc_wrong {G : xw_G} {F L : Nat} {h : xw_A} {x d tx w st sv qo so ao : Nat} (e_x : h x = some (.inr (0, [.ref d, .ref tx, .ref w, .ref st, .ref sv, .ref qo, .ref so, .ref ao, .int 0, .int 3, .int 20, .int 0, .int (-1), .int 0]))) (hF : 1 ≤ F) (hL : 20 ≤ L) :
    xw_Met G m_Shelf_wrong F L 0 0 [.ref x] h (fun v h' => v = some (.int (-1)) ∧ FrO [] h h') (fun _ _ => False) := by
  refine xw_Met.of rfl (by decide) (Nat.le_of_ble_eq_true rfl) ?_
  have r0 : FrO [] h h := FrO.rf
  refine s_Shelf_wrong_0 (draft_a0 := some d) (texts_a0 := some tx) (weights_a0 := some w) (store_a0 := some st) (saved_a0 := some sv) (question_a0 := some qo) (standing_a0 := some so) (answers_a0 := some ao) e_x ?_
  exact ⟨rfl, r0⟩
set_option maxHeartbeats 1000000 in
theorem fc_set_no {G : xw_G} {F L : Nat} {h : xw_A} {c : Int32} {x d tx w st sv qo so ao : Nat} (e_x : h x = some (.inr (0, [.ref d, .ref tx, .ref w, .ref st, .ref sv, .ref qo, .ref so, .ref ao, .int 0, .int 3, .int 20, .int 0, .int (-1), .int 0]))) (hn : c < 0 ∨ 1 < c) (hF : 6 ≤ F) (hL : 90 ≤ L) :
    xw_Met G m_Shelf_set F L 1 6 [.ref x, .int c] h (fun v h' => False) (fun E h' => E = "java/lang/IllegalArgumentException" ∧ FrO [x] h h') := by
  refine xw_Met.of rfl (by decide) (Nat.le_of_ble_eq_true rfl) ?_
  have r0 : FrO [x] h h := FrO.rf
  refine s_Shelf_set_0 ?_
  refine x_callS (As := [.int c]) (rest := []) (F1 := 1) (L1 := 20) (mc := 0) (ms := 0) d_Shelf_set_1 cS_Shelf_90 (fc_isCol_no  hn (by omega) (by omega)) ⟨by omega, by show 8 + (1 + 11) + 20 ≤ _; omega⟩ ⟨by omega, by omega⟩ (Nat.le_of_ble_eq_true rfl) (fun v_3 h_2 p_4 => ?_)
  obtain ⟨rfl, fr_1⟩ := p_4
  have e_5 := fr_1 x _ (by simp) e_x
  have r_6 := r0.trans (fr_1.mono (by simp))
  refine s_Shelf_set_4 (fun z => absurd z (by decide)) (fun z_7 => ?_)
  refine x_throw rfl th_Shelf_71_94_75 d_Shelf_set_7 d_Shelf_set_10 d_Shelf_set_11 d_Shelf_set_13 d_Shelf_set_16 ⟨by show 1 + 4 < _; omega, by show 0 + (13 * (1 + 2) + 43) ≤ _; omega⟩ ⟨by omega, by omega⟩ ?_
  exact ⟨rfl, r_6⟩
set_option maxHeartbeats 400000 in
theorem fc_tok0 {G : xw_G} {F L : Nat} {h : xw_A} {a : Nat} (e_a : h a = some (.inr (9, [.null, .null, .int 0]))) (hF : 1 ≤ F) (hL : 20 ≤ L) :
    xw_Met G m_Tokens_init F L 2 1 [.ref a, .int 0] h (fun v h' => v = none ∧ ∃ l z : Nat, h' a = some (.inr (9, [.ref l, .ref z, .int 0])) ∧ FrO [a] h h') (fun _ _ => False) := by
  refine xw_Met.of rfl (by decide) (Nat.le_of_ble_eq_true rfl) ?_
  have r0 : FrO [a] h h := FrO.rf
  refine s_Tokens_init_0 (letters_a0 := none) (starts_a0 := none) ⟨by omega, by omega⟩ (by decide) (by decide) (by decide) e_a (by decide) (by decide) (by decide) (fun q_1 z_2 q_3 z_4 => ?_)
  have n_5 : q_1 ≠ a := Ne.symm (xw_neN e_a z_2)
  obtain ⟨n_7, y_6⟩ := xw_upN z_4
  obtain ⟨n_9, y_8⟩ := xw_upN y_6
  have n_10 : q_3 ≠ a := Ne.symm (xw_neN e_a y_8)
  refine x_u4 (fun h_11 e_12 f_13 h_14 e_15 f_16 h_17 e_18 f_19 h_20 e_21 f_22 => ?_)
  have e_23 := (f_13 a (Ne.symm n_5)).trans e_a
  have r_24 := FrO.newB r0 z_2 (by simp only [List.mem_cons, List.not_mem_nil, or_false, not_or]; exact n_5) r0 f_13
  have e_25 := (f_16 q_1 n_5).trans e_12
  have r_26 := r_24.up (by simp) f_16
  have e_27 := (f_19 a (Ne.symm n_10)).trans e_15
  have e_28 := (f_19 q_1 (Ne.symm n_9)).trans e_25
  have r_29 := FrO.newB r0 y_8 (by simp only [List.mem_cons, List.not_mem_nil, or_false, not_or]; exact n_10) r_26 f_19
  have e_30 := (f_22 q_1 n_5).trans e_28
  have e_31 := (f_22 q_3 n_10).trans e_18
  have r_32 := r_29.up (by simp) f_22
  refine s_Tokens_init_24 ?_
  exact ⟨rfl, q_1, q_3, e_21, r_32⟩
set_option maxHeartbeats 400000 in
theorem fc_gather0 {G : xw_G} {F L : Nat} {h : xw_A} {t0 d : Nat} (hF : 1 ≤ F) (hL : 20 ≤ L) :
    xw_Met G m_Tokens_gather F L 0 0 [.ref t0, .ref d, .int 0, .int 0] h (fun v h' => v = none ∧ FrO [] h h') (fun _ _ => False) := by
  refine xw_Met.of rfl (by decide) (Nat.le_of_ble_eq_true rfl) ?_
  have r0 : FrO [] h h := FrO.rf
  refine s_Tokens_gather_0 ?_
  refine s_Tokens_gather_6 (fun z_1 => ?_) (fun z => absurd z (by decide))
  refine s_Tokens_gather_98 ?_
  exact ⟨rfl, r0⟩
set_option maxHeartbeats 1000000 in
theorem fc_set_0 {G : xw_G} {F L : Nat} {h : xw_A} {x d tx w st sv qo so ao : Nat} {fx : Nat → Option Nat} (e_x : h x = some (.inr (0, [.ref d, .ref tx, .ref w, .ref st, .ref sv, .ref qo, .ref so, .ref ao, .int 0, .int 3, .int 20, .int 0, .int (-1), .int 0]))) (e_tx : h tx = some (.inl (9 + 6, 2, .inr (.inr (.inr (.inr fx)))))) (hF : 2 ≤ F) (hL : 46 ≤ L) :
    xw_Met G m_Shelf_set F L 3 4 [.ref x, .int 0] h (fun v h' => v = some (.int 0) ∧ FrO [x, tx] h h') (fun _ _ => False) := by
  refine xw_Met.of rfl (by decide) (Nat.le_of_ble_eq_true rfl) ?_
  have r0 : FrO [x, tx] h h := FrO.rf
  refine s_Shelf_set_0 ?_
  refine x_callS (As := [.int 0]) (rest := []) (F1 := 1) (L1 := 20) (mc := 0) (ms := 0) d_Shelf_set_1 cS_Shelf_90 (fc_isCol_0   (by omega) (by omega)) ⟨by omega, by show 8 + (1 + 11) + 20 ≤ _; omega⟩ ⟨by omega, by omega⟩ (Nat.le_of_ble_eq_true rfl) (fun v_3 h_2 p_4 => ?_)
  obtain ⟨rfl, fr_1⟩ := p_4
  have e_5 := fr_1 x _ (by simp) e_x
  have e_6 := fr_1 tx _ (by simp) e_tx
  have r_7 := r0.trans (fr_1.mono (by simp))
  refine s_Shelf_set_4 (fun z_8 => ?_) (fun z => absurd z (by decide))
  refine s_Shelf_set_17 (draft_a0 := some d) (texts_a0 := some tx) (weights_a0 := some w) (store_a0 := some st) (saved_a0 := some sv) (question_a0 := some qo) (standing_a0 := some so) (answers_a0 := some ao) e_5 (fun z_9 => ?_) (fun z => absurd z (by decide))
  refine s_Shelf_set_36 (draft_a0 := some d) (texts_a0 := some tx) (weights_a0 := some w) (store_a0 := some st) (saved_a0 := some sv) (question_a0 := some qo) (standing_a0 := some so) (answers_a0 := some ao) (by decide) e_5 (fun q_10 z_11 => ?_)
  have n_12 : q_10 ≠ x := Ne.symm (xw_neN e_5 z_11)
  have n_13 : q_10 ≠ tx := Ne.symm (xw_neN e_6 z_11)
  refine x_u1 (fun h_14 e_15 f_16 => ?_)
  have e_17 := (f_16 x (Ne.symm n_12)).trans e_5
  have e_18 := (f_16 tx (Ne.symm n_13)).trans e_6
  have r_19 := FrO.newB r_7 z_11 (by simp only [List.mem_cons, List.not_mem_nil, or_false, not_or]; exact ⟨n_12, n_13⟩) r_7 f_16
  refine x_callI (As := [.int 0]) (b := q_10) (rest := [.ref q_10]) (F1 := 1) (L1 := 20) (mc := 2) (ms := 1) d_Shelf_set_44 cI_Shelf_54 (fc_tok0 e_15 (by omega) (by omega)) ⟨by omega, by show 8 + (2 + 11) + 20 ≤ _; omega⟩ ⟨by omega, by omega⟩ (Nat.le_of_ble_eq_true rfl) (fun v_25 h_24 p_26 => ?_)
  obtain ⟨rfl, l_20, z_21, e_22, fr_23⟩ := p_26
  have e_27 := fr_23 x _ (by simp only [List.mem_cons, List.not_mem_nil, or_false]; exact (Ne.symm n_12)) e_17
  have e_28 := fr_23 tx _ (by simp only [List.mem_cons, List.not_mem_nil, or_false]; exact (Ne.symm n_13)) e_18
  have r_29 := FrO.over r_7 z_11 (by simp only [List.mem_cons, List.not_mem_nil, or_false, not_or]; exact ⟨n_12, n_13⟩) r_19 fr_23
  refine s_Shelf_set_47 (draft_a0 := some d) (texts_a0 := some tx) (weights_a0 := some w) (store_a0 := some st) (saved_a0 := some sv) (question_a0 := some qo) (standing_a0 := some so) (answers_a0 := some ao) e_27 ?_
  refine x_callV (As := [.ref d, .int 0, .int 0]) (b := q_10) (rest := []) (F1 := 1) (L1 := 20) (mc := 0) (ms := 0) d_Shelf_set_58 cV_Shelf_98 (fc_gather0 (by omega) (by omega)) e_22 ⟨by decide, rfl⟩ ⟨by omega, by show 8 + (7 + 11) + 20 ≤ _; omega⟩ ⟨by omega, by omega⟩ (Nat.le_of_ble_eq_true rfl) (fun v_31 h_30 p_32 => ?_)
  obtain ⟨rfl, fr_9⟩ := p_32
  have e_33 := fr_9 x _ (by simp) e_27
  have e_34 := fr_9 tx _ (by simp) e_28
  have e_35 := fr_9 q_10 _ (by simp) e_22
  have r_36 := r_29.trans (fr_9.mono (by simp))
  refine s_Shelf_set_61 (draft_a0 := some d) (weights_a0 := some w) (store_a0 := some st) (saved_a0 := some sv) (question_a0 := some qo) (standing_a0 := some so) (answers_a0 := some ao) (letters_a2 := some l_20) (starts_a2 := some z_21) e_33 e_34 (by unfold vp_in; decide) e_35 ?_
  obtain ⟨h_37, z_43⟩ : ∃ z, z = xw_up h_30 tx (.inl (9 + 6, 2, .inr (.inr (.inr (.inr (va_up fx (0 : Int32).toNatClampNeg (some q_10))))))) := ⟨_, rfl⟩
  rw [← z_43]
  have e_38 : h_37 tx = some (.inl (9 + 6, 2, .inr (.inr (.inr (.inr (va_up fx (0 : Int32).toNatClampNeg (some q_10))))))) := by rw [z_43]; exact xw_up_s _ _ _
  have f_39 : ∀ q, q ≠ tx → h_37 q = h_30 q := fun q hq => by rw [z_43]; exact xw_up_n _ _ hq
  clear z_43
  have e_44 := (f_39 x (xw_neC e_33 e_34 (by simp))).trans e_33
  have e_45 := (f_39 q_10 n_13).trans e_35
  have r_46 := r_36.up (by simp) f_39
  obtain ⟨h_40, z_47⟩ : ∃ z, z = xw_up h_37 x (.inr (0, [va_rf (some d), .ref tx, va_rf (some w), va_rf (some st), va_rf (some sv), va_rf (some qo), va_rf (some so), va_rf (some ao), .int 0, .int 3, .int 20, .int 0, .int (-1), .int 0])) := ⟨_, rfl⟩
  rw [← z_47]
  have e_41 : h_40 x = some (.inr (0, [va_rf (some d), .ref tx, va_rf (some w), va_rf (some st), va_rf (some sv), va_rf (some qo), va_rf (some so), va_rf (some ao), .int 0, .int 3, .int 20, .int 0, .int (-1), .int 0])) := by rw [z_47]; exact xw_up_s _ _ _
  have f_42 : ∀ q, q ≠ x → h_40 q = h_37 q := fun q hq => by rw [z_47]; exact xw_up_n _ _ hq
  clear z_47
  have e_48 := (f_42 tx (xw_neC e_38 e_44 (by simp))).trans e_38
  have e_49 := (f_42 q_10 n_12).trans e_45
  have r_50 := r_46.up (by simp) f_42
  exact ⟨rfl, r_50⟩
set_option maxHeartbeats 1000000 in
theorem fc_set_1 {G : xw_G} {F L : Nat} {h : xw_A} {x d tx w st sv qo so ao : Nat} {fx : Nat → Option Nat} (e_x : h x = some (.inr (0, [.ref d, .ref tx, .ref w, .ref st, .ref sv, .ref qo, .ref so, .ref ao, .int 0, .int 3, .int 20, .int 0, .int (-1), .int 0]))) (e_tx : h tx = some (.inl (9 + 6, 2, .inr (.inr (.inr (.inr fx)))))) (hF : 2 ≤ F) (hL : 46 ≤ L) :
    xw_Met G m_Shelf_set F L 3 4 [.ref x, .int 1] h (fun v h' => v = some (.int 0) ∧ FrO [x, tx] h h') (fun _ _ => False) := by
  refine xw_Met.of rfl (by decide) (Nat.le_of_ble_eq_true rfl) ?_
  have r0 : FrO [x, tx] h h := FrO.rf
  refine s_Shelf_set_0 ?_
  refine x_callS (As := [.int 1]) (rest := []) (F1 := 1) (L1 := 20) (mc := 0) (ms := 0) d_Shelf_set_1 cS_Shelf_90 (fc_isCol_1   (by omega) (by omega)) ⟨by omega, by show 8 + (1 + 11) + 20 ≤ _; omega⟩ ⟨by omega, by omega⟩ (Nat.le_of_ble_eq_true rfl) (fun v_3 h_2 p_4 => ?_)
  obtain ⟨rfl, fr_1⟩ := p_4
  have e_5 := fr_1 x _ (by simp) e_x
  have e_6 := fr_1 tx _ (by simp) e_tx
  have r_7 := r0.trans (fr_1.mono (by simp))
  refine s_Shelf_set_4 (fun z_8 => ?_) (fun z => absurd z (by decide))
  refine s_Shelf_set_17 (draft_a0 := some d) (texts_a0 := some tx) (weights_a0 := some w) (store_a0 := some st) (saved_a0 := some sv) (question_a0 := some qo) (standing_a0 := some so) (answers_a0 := some ao) e_5 (fun z_9 => ?_) (fun z => absurd z (by decide))
  refine s_Shelf_set_36 (draft_a0 := some d) (texts_a0 := some tx) (weights_a0 := some w) (store_a0 := some st) (saved_a0 := some sv) (question_a0 := some qo) (standing_a0 := some so) (answers_a0 := some ao) (by decide) e_5 (fun q_10 z_11 => ?_)
  have n_12 : q_10 ≠ x := Ne.symm (xw_neN e_5 z_11)
  have n_13 : q_10 ≠ tx := Ne.symm (xw_neN e_6 z_11)
  refine x_u1 (fun h_14 e_15 f_16 => ?_)
  have e_17 := (f_16 x (Ne.symm n_12)).trans e_5
  have e_18 := (f_16 tx (Ne.symm n_13)).trans e_6
  have r_19 := FrO.newB r_7 z_11 (by simp only [List.mem_cons, List.not_mem_nil, or_false, not_or]; exact ⟨n_12, n_13⟩) r_7 f_16
  refine x_callI (As := [.int 0]) (b := q_10) (rest := [.ref q_10]) (F1 := 1) (L1 := 20) (mc := 2) (ms := 1) d_Shelf_set_44 cI_Shelf_54 (fc_tok0 e_15 (by omega) (by omega)) ⟨by omega, by show 8 + (2 + 11) + 20 ≤ _; omega⟩ ⟨by omega, by omega⟩ (Nat.le_of_ble_eq_true rfl) (fun v_25 h_24 p_26 => ?_)
  obtain ⟨rfl, l_20, z_21, e_22, fr_23⟩ := p_26
  have e_27 := fr_23 x _ (by simp only [List.mem_cons, List.not_mem_nil, or_false]; exact (Ne.symm n_12)) e_17
  have e_28 := fr_23 tx _ (by simp only [List.mem_cons, List.not_mem_nil, or_false]; exact (Ne.symm n_13)) e_18
  have r_29 := FrO.over r_7 z_11 (by simp only [List.mem_cons, List.not_mem_nil, or_false, not_or]; exact ⟨n_12, n_13⟩) r_19 fr_23
  refine s_Shelf_set_47 (draft_a0 := some d) (texts_a0 := some tx) (weights_a0 := some w) (store_a0 := some st) (saved_a0 := some sv) (question_a0 := some qo) (standing_a0 := some so) (answers_a0 := some ao) e_27 ?_
  refine x_callV (As := [.ref d, .int 0, .int 0]) (b := q_10) (rest := []) (F1 := 1) (L1 := 20) (mc := 0) (ms := 0) d_Shelf_set_58 cV_Shelf_98 (fc_gather0 (by omega) (by omega)) e_22 ⟨by decide, rfl⟩ ⟨by omega, by show 8 + (7 + 11) + 20 ≤ _; omega⟩ ⟨by omega, by omega⟩ (Nat.le_of_ble_eq_true rfl) (fun v_31 h_30 p_32 => ?_)
  obtain ⟨rfl, fr_9⟩ := p_32
  have e_33 := fr_9 x _ (by simp) e_27
  have e_34 := fr_9 tx _ (by simp) e_28
  have e_35 := fr_9 q_10 _ (by simp) e_22
  have r_36 := r_29.trans (fr_9.mono (by simp))
  refine s_Shelf_set_61 (draft_a0 := some d) (weights_a0 := some w) (store_a0 := some st) (saved_a0 := some sv) (question_a0 := some qo) (standing_a0 := some so) (answers_a0 := some ao) (letters_a2 := some l_20) (starts_a2 := some z_21) e_33 e_34 (by unfold vp_in; decide) e_35 ?_
  obtain ⟨h_37, z_43⟩ : ∃ z, z = xw_up h_30 tx (.inl (9 + 6, 2, .inr (.inr (.inr (.inr (va_up fx (1 : Int32).toNatClampNeg (some q_10))))))) := ⟨_, rfl⟩
  rw [← z_43]
  have e_38 : h_37 tx = some (.inl (9 + 6, 2, .inr (.inr (.inr (.inr (va_up fx (1 : Int32).toNatClampNeg (some q_10))))))) := by rw [z_43]; exact xw_up_s _ _ _
  have f_39 : ∀ q, q ≠ tx → h_37 q = h_30 q := fun q hq => by rw [z_43]; exact xw_up_n _ _ hq
  clear z_43
  have e_44 := (f_39 x (xw_neC e_33 e_34 (by simp))).trans e_33
  have e_45 := (f_39 q_10 n_13).trans e_35
  have r_46 := r_36.up (by simp) f_39
  obtain ⟨h_40, z_47⟩ : ∃ z, z = xw_up h_37 x (.inr (0, [va_rf (some d), .ref tx, va_rf (some w), va_rf (some st), va_rf (some sv), va_rf (some qo), va_rf (some so), va_rf (some ao), .int 0, .int 3, .int 20, .int 0, .int (-1), .int 0])) := ⟨_, rfl⟩
  rw [← z_47]
  have e_41 : h_40 x = some (.inr (0, [va_rf (some d), .ref tx, va_rf (some w), va_rf (some st), va_rf (some sv), va_rf (some qo), va_rf (some so), va_rf (some ao), .int 0, .int 3, .int 20, .int 0, .int (-1), .int 0])) := by rw [z_47]; exact xw_up_s _ _ _
  have f_42 : ∀ q, q ≠ x → h_40 q = h_37 q := fun q hq => by rw [z_47]; exact xw_up_n _ _ hq
  clear z_47
  have e_48 := (f_42 tx (xw_neC e_38 e_44 (by simp))).trans e_38
  have e_49 := (f_42 q_10 n_12).trans e_45
  have r_50 := r_46.up (by simp) f_42
  exact ⟨rfl, r_50⟩
set_option maxHeartbeats 1000000 in
theorem fc_verOf {G : xw_G} {F L : Nat} {h : xw_A} {r : Int32} {st s1 s2 s3 s4 : Nat} (e_st : h st = some (.inr (8, [.ref s1, .ref s2, .ref s3, .ref s4, .int 0, .int 0, .int 0, .int 0, .int 0, .int 0]))) (e_s1 : h s1 = some (.inl (10 + 6, 25, .inr (.inr (.inr (.inr (fun _ => none))))))) (hF : 1 ≤ F) (hL : 20 ≤ L) :
    xw_Met G m_Store_versionOf F L 0 0 [.ref st, .int r] h (fun v h' => v = some (.null) ∧ FrO [] h h') (fun _ _ => False) := by
  refine xw_Met.of rfl (by decide) (Nat.le_of_ble_eq_true rfl) ?_
  have r0 : FrO [] h h := FrO.rf
  refine s_Store_versionOf_0 (fun z_1 => ?_) (fun z_2 => ?_)
  · skip
    refine s_Store_versionOf_20 ?_
    refine s_Store_versionOf_21 (s0 := none) ?_
    exact ⟨rfl, r0⟩
  · skip
    refine s_Store_versionOf_5 (fun z_3 => ?_) (fun z_4 => ?_)
    · skip
      refine s_Store_versionOf_20 ?_
      refine s_Store_versionOf_21 (s0 := none) ?_
      exact ⟨rfl, r0⟩
    · skip
      refine s_Store_versionOf_11 (pending_a0 := some s2) (segments_a0 := some s3) (live_a0 := some s4) e_st e_s1 (row_in z_2 z_4) ?_
      refine s_Store_versionOf_21 (s0 := none) ?_
      exact ⟨rfl, r0⟩
set_option maxHeartbeats 1000000 in
theorem fc_replace {G : xw_G} {F L : Nat} {h : xw_A} {r : Int32} {x d tx w st sv qo so ao s1 s2 s3 s4 : Nat} (e_x : h x = some (.inr (0, [.ref d, .ref tx, .ref w, .ref st, .ref sv, .ref qo, .ref so, .ref ao, .int 0, .int 3, .int 20, .int 0, .int (-1), .int 0]))) (e_st : h st = some (.inr (8, [.ref s1, .ref s2, .ref s3, .ref s4, .int 0, .int 0, .int 0, .int 0, .int 0, .int 0]))) (e_s1 : h s1 = some (.inl (10 + 6, 25, .inr (.inr (.inr (.inr (fun _ => none))))))) (hF : 6 ≤ F) (hL : 90 ≤ L) :
    xw_Met G m_Shelf_replace F L 1 6 [.ref x, .int r] h (fun v h' => False) (fun E h' => E = "java/util/NoSuchElementException" ∧ FrO [x] h h') := by
  refine xw_Met.of rfl (by decide) (Nat.le_of_ble_eq_true rfl) ?_
  have r0 : FrO [x] h h := FrO.rf
  refine s_Shelf_replace_0 (draft_a0 := some d) (texts_a0 := some tx) (weights_a0 := some w) (store_a0 := some st) (saved_a0 := some sv) (question_a0 := some qo) (standing_a0 := some so) (answers_a0 := some ao) e_x ?_
  refine x_callV (As := [.int r]) (b := st) (rest := []) (F1 := 1) (L1 := 20) (mc := 0) (ms := 0) d_Shelf_replace_5 cV_Shelf_115 (fc_verOf  e_st e_s1 (by omega) (by omega)) e_st ⟨by decide, rfl⟩ ⟨by omega, by show 8 + (2 + 11) + 20 ≤ _; omega⟩ ⟨by omega, by omega⟩ (Nat.le_of_ble_eq_true rfl) (fun v_3 h_2 p_4 => ?_)
  obtain ⟨rfl, fr_1⟩ := p_4
  have e_5 := fr_1 x _ (by simp) e_x
  have e_6 := fr_1 st _ (by simp) e_st
  have e_7 := fr_1 s1 _ (by simp) e_s1
  have r_8 := r0.trans (fr_1.mono (by simp))
  refine s_Shelf_replace_8 (s0 := none) (fun z_9 => ?_) (fun _ z => absurd z (by simp))
  refine x_throw rfl th_Shelf_119_121_123 d_Shelf_replace_11 d_Shelf_replace_14 d_Shelf_replace_15 d_Shelf_replace_17 d_Shelf_replace_20 ⟨by show 1 + 4 < _; omega, by show 0 + (13 * (1 + 2) + 43) ≤ _; omega⟩ ⟨by omega, by omega⟩ ?_
  exact ⟨rfl, r_8⟩
set_option maxHeartbeats 1000000 in
theorem fc_delete {G : xw_G} {F L : Nat} {h : xw_A} {r : Int32} {x d tx w st sv qo so ao s1 s2 s3 s4 : Nat} (e_x : h x = some (.inr (0, [.ref d, .ref tx, .ref w, .ref st, .ref sv, .ref qo, .ref so, .ref ao, .int 0, .int 3, .int 20, .int 0, .int (-1), .int 0]))) (e_st : h st = some (.inr (8, [.ref s1, .ref s2, .ref s3, .ref s4, .int 0, .int 0, .int 0, .int 0, .int 0, .int 0]))) (e_s1 : h s1 = some (.inl (10 + 6, 25, .inr (.inr (.inr (.inr (fun _ => none))))))) (hF : 6 ≤ F) (hL : 90 ≤ L) :
    xw_Met G m_Shelf_delete F L 1 6 [.ref x, .int r] h (fun v h' => False) (fun E h' => E = "java/util/NoSuchElementException" ∧ FrO [x] h h') := by
  refine xw_Met.of rfl (by decide) (Nat.le_of_ble_eq_true rfl) ?_
  have r0 : FrO [x] h h := FrO.rf
  refine s_Shelf_delete_0 (draft_a0 := some d) (texts_a0 := some tx) (weights_a0 := some w) (store_a0 := some st) (saved_a0 := some sv) (question_a0 := some qo) (standing_a0 := some so) (answers_a0 := some ao) e_x ?_
  refine x_callV (As := [.int r]) (b := st) (rest := []) (F1 := 1) (L1 := 20) (mc := 0) (ms := 0) d_Shelf_delete_5 cV_Shelf_115 (fc_verOf  e_st e_s1 (by omega) (by omega)) e_st ⟨by decide, rfl⟩ ⟨by omega, by show 8 + (2 + 11) + 20 ≤ _; omega⟩ ⟨by omega, by omega⟩ (Nat.le_of_ble_eq_true rfl) (fun v_3 h_2 p_4 => ?_)
  obtain ⟨rfl, fr_1⟩ := p_4
  have e_5 := fr_1 x _ (by simp) e_x
  have e_6 := fr_1 st _ (by simp) e_st
  have e_7 := fr_1 s1 _ (by simp) e_s1
  have r_8 := r0.trans (fr_1.mono (by simp))
  refine s_Shelf_delete_8 (s0 := none) (fun z_9 => ?_) (fun _ z => absurd z (by simp))
  refine x_throw rfl th_Shelf_119_121_123 d_Shelf_delete_13 d_Shelf_delete_16 d_Shelf_delete_17 d_Shelf_delete_19 d_Shelf_delete_22 ⟨by show 1 + 4 < _; omega, by show 0 + (13 * (1 + 2) + 43) ≤ _; omega⟩ ⟨by omega, by omega⟩ ?_
  exact ⟨rfl, r_8⟩
set_option maxHeartbeats 1000000 in
theorem fc_look {G : xw_G} {F L : Nat} {h : xw_A} {r y : Int32} {x d tx w st sv qo so ao s1 s2 s3 s4 : Nat} (e_x : h x = some (.inr (0, [.ref d, .ref tx, .ref w, .ref st, .ref sv, .ref qo, .ref so, .ref ao, .int 0, .int 3, .int 20, .int 0, .int (-1), .int 0]))) (e_st : h st = some (.inr (8, [.ref s1, .ref s2, .ref s3, .ref s4, .int 0, .int 0, .int 0, .int 0, .int 0, .int 0]))) (e_s1 : h s1 = some (.inl (10 + 6, 25, .inr (.inr (.inr (.inr (fun _ => none))))))) (hF : 6 ≤ F) (hL : 90 ≤ L) :
    xw_Met G m_Shelf_look F L 1 6 [.ref x, .int r, .int y] h (fun v h' => False) (fun E h' => E = "java/util/NoSuchElementException" ∧ FrO [x] h h') := by
  refine xw_Met.of rfl (by decide) (Nat.le_of_ble_eq_true rfl) ?_
  have r0 : FrO [x] h h := FrO.rf
  refine s_Shelf_look_0 (draft_a0 := some d) (texts_a0 := some tx) (weights_a0 := some w) (store_a0 := some st) (saved_a0 := some sv) (question_a0 := some qo) (standing_a0 := some so) (answers_a0 := some ao) e_x ?_
  refine x_callV (As := [.int r]) (b := st) (rest := []) (F1 := 1) (L1 := 20) (mc := 0) (ms := 0) d_Shelf_look_5 cV_Shelf_115 (fc_verOf  e_st e_s1 (by omega) (by omega)) e_st ⟨by decide, rfl⟩ ⟨by omega, by show 8 + (2 + 11) + 20 ≤ _; omega⟩ ⟨by omega, by omega⟩ (Nat.le_of_ble_eq_true rfl) (fun v_3 h_2 p_4 => ?_)
  obtain ⟨rfl, fr_1⟩ := p_4
  have e_5 := fr_1 x _ (by simp) e_x
  have e_6 := fr_1 st _ (by simp) e_st
  have e_7 := fr_1 s1 _ (by simp) e_s1
  have r_8 := r0.trans (fr_1.mono (by simp))
  refine x_le (xw_le_n (xw_le_n (xw_le_s (xw_le_n xw_le_e)))) ?_
  refine s_Shelf_look_8 (s0 := none) (fun z_9 => ?_) (fun _ z => absurd z (by simp))
  refine x_throw rfl th_Shelf_119_121_123 d_Shelf_look_13 d_Shelf_look_16 d_Shelf_look_17 d_Shelf_look_19 d_Shelf_look_22 ⟨by show 1 + 4 < _; omega, by show 0 + (13 * (1 + 2) + 43) ≤ _; omega⟩ ⟨by omega, by omega⟩ ?_
  exact ⟨rfl, r_8⟩
set_option maxHeartbeats 1000000 in
theorem fc_commit {G : xw_G} {F L : Nat} {h : xw_A} {x d tx w st sv qo so ao : Nat} (e_x : h x = some (.inr (0, [.ref d, .ref tx, .ref w, .ref st, .ref sv, .ref qo, .ref so, .ref ao, .int 0, .int 3, .int 20, .int 0, .int (-1), .int 0]))) (hF : 6 ≤ F) (hL : 90 ≤ L) :
    xw_Met G m_Shelf_commit F L 1 6 [.ref x] h (fun v h' => False) (fun E h' => E = "java/lang/IllegalStateException" ∧ FrO [x] h h') := by
  refine xw_Met.of rfl (by decide) (Nat.le_of_ble_eq_true rfl) ?_
  have r0 : FrO [x] h h := FrO.rf
  refine s_Shelf_commit_0 (draft_a0 := some d) (texts_a0 := some tx) (weights_a0 := some w) (store_a0 := some st) (saved_a0 := some sv) (question_a0 := some qo) (standing_a0 := some so) (answers_a0 := some ao) e_x (fun z => absurd z (by decide)) (fun z_1 => ?_)
  refine x_throw rfl th_Shelf_136_145_140 d_Shelf_commit_7 d_Shelf_commit_10 d_Shelf_commit_11 d_Shelf_commit_13 d_Shelf_commit_16 ⟨by show 1 + 4 < _; omega, by show 0 + (13 * (1 + 2) + 43) ≤ _; omega⟩ ⟨by omega, by omega⟩ ?_
  exact ⟨rfl, r0⟩
set_option maxHeartbeats 1000000 in
theorem fc_rollback {G : xw_G} {F L : Nat} {h : xw_A} {x d tx w st sv qo so ao : Nat} (e_x : h x = some (.inr (0, [.ref d, .ref tx, .ref w, .ref st, .ref sv, .ref qo, .ref so, .ref ao, .int 0, .int 3, .int 20, .int 0, .int (-1), .int 0]))) (hF : 6 ≤ F) (hL : 90 ≤ L) :
    xw_Met G m_Shelf_rollback F L 1 6 [.ref x] h (fun v h' => False) (fun E h' => E = "java/lang/IllegalStateException" ∧ FrO [x] h h') := by
  refine xw_Met.of rfl (by decide) (Nat.le_of_ble_eq_true rfl) ?_
  have r0 : FrO [x] h h := FrO.rf
  refine s_Shelf_rollback_0 (draft_a0 := some d) (texts_a0 := some tx) (weights_a0 := some w) (store_a0 := some st) (saved_a0 := some sv) (question_a0 := some qo) (standing_a0 := some so) (answers_a0 := some ao) e_x (fun z => absurd z (by decide)) (fun z_1 => ?_)
  refine x_throw rfl th_Shelf_136_145_140 d_Shelf_rollback_7 d_Shelf_rollback_10 d_Shelf_rollback_11 d_Shelf_rollback_13 d_Shelf_rollback_16 ⟨by show 1 + 4 < _; omega, by show 0 + (13 * (1 + 2) + 43) ≤ _; omega⟩ ⟨by omega, by omega⟩ ?_
  exact ⟨rfl, r0⟩
set_option maxHeartbeats 1000000 in
theorem fc_freeRow {G : xw_G} {F L : Nat} {h : xw_A} {st s1 s2 s3 s4 : Nat} (e_st : h st = some (.inr (8, [.ref s1, .ref s2, .ref s3, .ref s4, .int 0, .int 0, .int 0, .int 0, .int 0, .int 0]))) (e_s1 : h s1 = some (.inl (10 + 6, 25, .inr (.inr (.inr (.inr (fun _ => none))))))) (hF : 1 ≤ F) (hL : 20 ≤ L) :
    xw_Met G m_Store_freeRow F L 0 0 [.ref st] h (fun v h' => v = some (.int 1) ∧ FrO [] h h') (fun _ _ => False) := by
  refine xw_Met.of rfl (by decide) (Nat.le_of_ble_eq_true rfl) ?_
  have r0 : FrO [] h h := FrO.rf
  refine s_Store_freeRow_0 ?_
  refine s_Store_freeRow_2 (fun z => absurd z (by decide)) (fun z_1 => ?_)
  refine s_Store_freeRow_8 (pending_a0 := some s2) (segments_a0 := some s3) (live_a0 := some s4) e_st e_s1 (by unfold vp_in; decide) (fun z_2 => ?_) (fun _ z => absurd z (by simp))
  refine s_Store_freeRow_17 ?_
  exact ⟨rfl, r0⟩
set_option maxHeartbeats 1000000 in
theorem fc_diff0 {G : xw_G} {F L : Nat} {h : xw_A} {x0 l0 z0 : Nat} (e_x0 : h x0 = some (.inr (9, [.ref l0, .ref z0, .int 0]))) (hF : 1 ≤ F) (hL : 20 ≤ L) :
    xw_Met G m_Tokens_different F L 0 0 [.ref x0] h (fun v h' => v = some (.int 0) ∧ FrO [] h h') (fun _ _ => False) := by
  refine xw_Met.of rfl (by decide) (Nat.le_of_ble_eq_true rfl) ?_
  have r0 : FrO [] h h := FrO.rf
  refine s_Tokens_different_0 ?_
  refine s_Tokens_different_4 (letters_a0 := some l0) (starts_a0 := some z0) e_x0 (fun z_1 => ?_) (fun z => absurd z (by decide))
  refine s_Tokens_different_29 ?_
  exact ⟨rfl, r0⟩
set_option maxHeartbeats 400000 in
theorem fc_ver {G : xw_G} {F L : Nat} {h : xw_A} {a p q : Nat} {n r y : Int32} (e_a : h a = some (.inr (10, [.int 0, .int 0, .null, .null, .int 0]))) (hF : 1 ≤ F) (hL : 20 ≤ L) :
    xw_Met G m_Version_init F L 0 0 [.ref a, .int n, .int r, .ref p, .ref q, .int y] h (fun v h' => v = none ∧ h' a = some (.inr (10, [.int n, .int r, .ref p, .ref q, .int y])) ∧ FrO [a] h h') (fun _ _ => False) := by
  refine xw_Met.of rfl (by decide) (Nat.le_of_ble_eq_true rfl) ?_
  have r0 : FrO [a] h h := FrO.rf
  refine s_Version_init_0 (first_a0 := none) (second_a0 := none) ⟨by omega, by omega⟩ e_a ?_
  rw [xw_up_up, xw_up_up, xw_up_up]
  refine x_u1 (fun h_1 e_2 f_3 => ?_)
  have r_4 := r0.up (by simp) f_3
  refine s_Version_init_25 (first_a0 := some p) (second_a0 := some q) e_2 ?_
  obtain ⟨h_5, z_8⟩ : ∃ z, z = xw_up h_1 a (.inr (10, [.int n, .int r, va_rf (some p), va_rf (some q), .int y])) := ⟨_, rfl⟩
  rw [← z_8]
  have e_6 : h_5 a = some (.inr (10, [.int n, .int r, va_rf (some p), va_rf (some q), .int y])) := by rw [z_8]; exact xw_up_s _ _ _
  have f_7 : ∀ q, q ≠ a → h_5 q = h_1 q := fun q hq => by rw [z_8]; exact xw_up_n _ _ hq
  clear z_8
  have r_9 := r_4.up (by simp) f_7
  exact ⟨rfl, e_6, r_9⟩
set_option maxHeartbeats 1000000 in
theorem fc_put {G : xw_G} {F L : Nat} {h : xw_A} {st s1 s2 s3 s4 x0 l0 z0 x1 l1 z1 : Nat} (e_st : h st = some (.inr (8, [.ref s1, .ref s2, .ref s3, .ref s4, .int 0, .int 0, .int 0, .int 0, .int 0, .int 0]))) (e_s1 : h s1 = some (.inl (10 + 6, 25, .inr (.inr (.inr (.inr (fun _ => none))))))) (e_x0 : h x0 = some (.inr (9, [.ref l0, .ref z0, .int 0]))) (e_x1 : h x1 = some (.inr (9, [.ref l1, .ref z1, .int 0]))) (n_x0_x1 : x0 ≠ x1) (hF : 2 ≤ F) (hL : 45 ≤ L) :
    xw_Met G m_Store_putVersion F L 1 5 [.ref st, .int 1, .ref x0, .ref x1] h (fun v h' => v = some (.int 0) ∧ h' st = some (.inr (8, [.ref s1, .ref s2, .ref s3, .ref s4, .int 0, .int 0, .int 0, .int (0 + 1), .int 0, .int 0])) ∧ FrO [st, s1] h h') (fun _ _ => False) := by
  refine xw_Met.of rfl (by decide) (Nat.le_of_ble_eq_true rfl) ?_
  have r0 : FrO [st, s1] h h := FrO.rf
  refine s_Store_putVersion_0 (rows_a0 := some s1) (pending_a0 := some s2) (segments_a0 := some s3) (live_a0 := some s4) e_st ?_
  refine x_u1 (fun h_1 e_2 f_3 => ?_)
  have e_4 := (f_3 s1 (xw_neC e_s1 e_st (by simp))).trans e_s1
  have e_5 := (f_3 x0 (xw_neC e_x0 e_st (by simp))).trans e_x0
  have e_6 := (f_3 x1 (xw_neC e_x1 e_st (by simp))).trans e_x1
  have r_7 := r0.up (by simp) f_3
  refine x_callV (As := []) (b := x0) (rest := []) (F1 := 1) (L1 := 20) (mc := 0) (ms := 0) d_Store_putVersion_11 cV_Store_37 (fc_diff0 e_5 (by omega) (by omega)) e_5 ⟨by decide, rfl⟩ ⟨by omega, by show 8 + (3 + 11) + 20 ≤ _; omega⟩ ⟨by omega, by omega⟩ (Nat.le_of_ble_eq_true rfl) (fun v_10 h_9 p_11 => ?_)
  obtain ⟨rfl, fr_8⟩ := p_11
  have e_12 := fr_8 st _ (by simp) e_2
  have e_13 := fr_8 s1 _ (by simp) e_4
  have e_14 := fr_8 x0 _ (by simp) e_5
  have e_15 := fr_8 x1 _ (by simp) e_6
  have r_16 := r_7.trans (fr_8.mono (by simp))
  refine s_Store_putVersion_14 ?_
  refine x_callV (As := []) (b := x1) (rest := [.int 0]) (F1 := 1) (L1 := 20) (mc := 0) (ms := 0) d_Store_putVersion_15 cV_Store_37 (fc_diff0 e_15 (by omega) (by omega)) e_15 ⟨by decide, rfl⟩ ⟨by omega, by show 8 + (3 + 11) + 20 ≤ _; omega⟩ ⟨by omega, by omega⟩ (Nat.le_of_ble_eq_true rfl) (fun v_19 h_18 p_20 => ?_)
  obtain ⟨rfl, fr_17⟩ := p_20
  have e_21 := fr_17 st _ (by simp) e_12
  have e_22 := fr_17 s1 _ (by simp) e_13
  have e_23 := fr_17 x0 _ (by simp) e_14
  have e_24 := fr_17 x1 _ (by simp) e_15
  have r_25 := r_16.trans (fr_17.mono (by simp))
  refine s_Store_putVersion_18 (rows_a0 := some s1) (pending_a0 := some s2) (segments_a0 := some s3) (live_a0 := some s4) (by decide) e_21 (fun q_26 z_27 => ?_)
  have n_28 : q_26 ≠ st := Ne.symm (xw_neN e_21 z_27)
  have n_29 : q_26 ≠ s1 := Ne.symm (xw_neN e_22 z_27)
  have n_30 : q_26 ≠ x0 := Ne.symm (xw_neN e_23 z_27)
  have n_31 : q_26 ≠ x1 := Ne.symm (xw_neN e_24 z_27)
  refine x_u1 (fun h_32 e_33 f_34 => ?_)
  have e_35 := (f_34 st (Ne.symm n_28)).trans e_21
  have e_36 := (f_34 s1 (Ne.symm n_29)).trans e_22
  have e_37 := (f_34 x0 (Ne.symm n_30)).trans e_23
  have e_38 := (f_34 x1 (Ne.symm n_31)).trans e_24
  have r_39 := FrO.newB r_25 z_27 (by simp only [List.mem_cons, List.not_mem_nil, or_false, not_or]; exact ⟨n_28, n_29⟩) r_25 f_34
  refine x_callI (As := [.int (0 + 1), .int 1, .ref x0, .ref x1, .int (0 + 0)]) (b := q_26) (rest := [.ref q_26]) (F1 := 1) (L1 := 20) (mc := 0) (ms := 0) d_Store_putVersion_34 cI_Store_42 (fc_ver e_33 (by omega) (by omega)) ⟨by omega, by show 8 + (6 + 11) + 20 ≤ _; omega⟩ ⟨by omega, by omega⟩ (Nat.le_of_ble_eq_true rfl) (fun v_43 h_42 p_44 => ?_)
  obtain ⟨rfl, e_40, fr_41⟩ := p_44
  have e_45 := fr_41 st _ (by simp only [List.mem_cons, List.not_mem_nil, or_false]; exact (Ne.symm n_28)) e_35
  have e_46 := fr_41 s1 _ (by simp only [List.mem_cons, List.not_mem_nil, or_false]; exact (Ne.symm n_29)) e_36
  have e_47 := fr_41 x0 _ (by simp only [List.mem_cons, List.not_mem_nil, or_false]; exact (Ne.symm n_30)) e_37
  have e_48 := fr_41 x1 _ (by simp only [List.mem_cons, List.not_mem_nil, or_false]; exact (Ne.symm n_31)) e_38
  have r_49 := FrO.over r_25 z_27 (by simp only [List.mem_cons, List.not_mem_nil, or_false, not_or]; exact ⟨n_28, n_29⟩) r_39 fr_41
  refine x_le (xw_le_s (xw_le_s (xw_le_n (xw_le_n (xw_le_s (xw_le_n xw_le_e)))))) ?_
  refine s_Store_putVersion_37 (pending_a0 := some s2) (segments_a0 := some s3) (live_a0 := some s4) (first_b0 := some x0) (second_b0 := some x1) e_45 e_46 (by unfold vp_in; decide) e_40 (fun z_50 => ?_) (fun z => absurd z (by decide))
  refine x_u1 (fun h_51 e_52 f_53 => ?_)
  have e_54 := (f_53 st (xw_neC e_45 e_46 (by simp))).trans e_45
  have e_55 := (f_53 x0 (xw_neC e_47 e_46 (by simp))).trans e_47
  have e_56 := (f_53 x1 (xw_neC e_48 e_46 (by simp))).trans e_48
  have e_57 := (f_53 q_26 n_29).trans e_40
  have r_58 := r_49.up (by simp) f_53
  refine s_Store_putVersion_96 ?_
  exact ⟨rfl, e_54, r_58⟩
set_option maxHeartbeats 1000000 in
theorem fc_give {G : xw_G} {F L : Nat} {h : xw_A} {x d tx w st sv qo so ao s1 s2 s3 s4 x0 l0 z0 x1 l1 z1 : Nat} {fx : Nat → Option Nat} (e_x : h x = some (.inr (0, [.ref d, .ref tx, .ref w, .ref st, .ref sv, .ref qo, .ref so, .ref ao, .int 0, .int 3, .int 20, .int 0, .int (-1), .int 0]))) (e_tx : h tx = some (.inl (9 + 6, 2, .inr (.inr (.inr (.inr fx)))))) (e_st : h st = some (.inr (8, [.ref s1, .ref s2, .ref s3, .ref s4, .int 0, .int 0, .int 0, .int 0, .int 0, .int 0]))) (e_s1 : h s1 = some (.inl (10 + 6, 25, .inr (.inr (.inr (.inr (fun _ => none))))))) (e_x0 : h x0 = some (.inr (9, [.ref l0, .ref z0, .int 0]))) (e_x1 : h x1 = some (.inr (9, [.ref l1, .ref z1, .int 0]))) (n_x0_x1 : x0 ≠ x1) (h0 : fx 0 = some x0) (h1 : fx 1 = some x1) (hF : 3 ≤ F) (hL : 70 ≤ L) :
    xw_Met G m_Shelf_giveTexts F L 1 5 [.ref x, .int 1] h (fun v h' => v = some (.int 0) ∧ FrO [st, s1] h h') (fun _ _ => False) := by
  refine xw_Met.of rfl (by decide) (Nat.le_of_ble_eq_true rfl) ?_
  have r0 : FrO [st, s1] h h := FrO.rf
  refine s_Shelf_giveTexts_0 (draft_a0 := some d) (weights_a0 := some w) (store_a0 := some st) (saved_a0 := some sv) (question_a0 := some qo) (standing_a0 := some so) (answers_a0 := some ao) e_x e_tx (by unfold vp_in; decide) (by unfold vp_in; decide) ?_
  rw [show fx (1 : Int32).toNatClampNeg = some x1 from h1, show fx (0 : Int32).toNatClampNeg = some x0 from h0]
  refine x_callV (As := [.int 1, .ref x0, .ref x1]) (b := st) (rest := []) (F1 := 2) (L1 := 45) (mc := 1) (ms := 5) d_Shelf_giveTexts_17 cV_Shelf_252 (fc_put e_st e_s1 e_x0 e_x1 n_x0_x1 (by omega) (by omega)) e_st ⟨by decide, rfl⟩ ⟨by omega, by show 8 + (6 + 11) + 45 ≤ _; omega⟩ ⟨by omega, by omega⟩ (Nat.le_of_ble_eq_true rfl) (fun v_4 h_3 p_5 => ?_)
  obtain ⟨rfl, e_1, fr_2⟩ := p_5
  have e_6 := fr_2 x _ (by simp only [List.mem_cons, List.not_mem_nil, or_false, not_or]; exact ⟨(xw_neC e_x e_st (by simp)), (xw_neC e_x e_s1 (by simp))⟩) e_x
  have e_7 := fr_2 tx _ (by simp only [List.mem_cons, List.not_mem_nil, or_false, not_or]; exact ⟨(xw_neC e_tx e_st (by simp)), (xw_neC e_tx e_s1 (by simp))⟩) e_tx
  have e_8 := fr_2 x0 _ (by simp only [List.mem_cons, List.not_mem_nil, or_false, not_or]; exact ⟨(xw_neC e_x0 e_st (by simp)), (xw_neC e_x0 e_s1 (by simp))⟩) e_x0
  have e_9 := fr_2 x1 _ (by simp only [List.mem_cons, List.not_mem_nil, or_false, not_or]; exact ⟨(xw_neC e_x1 e_st (by simp)), (xw_neC e_x1 e_s1 (by simp))⟩) e_x1
  have r_10 := r0.trans (fr_2.mono (by simp))
  refine x_le (xw_le_s (xw_le_n (xw_le_n xw_le_e))) ?_
  refine s_Shelf_giveTexts_20 (draft_a0 := some d) (texts_a0 := some tx) (weights_a0 := some w) (saved_a0 := some sv) (question_a0 := some qo) (standing_a0 := some so) (answers_a0 := some ao) (rows_store_a0 := some s1) (pending_store_a0 := some s2) (segments_store_a0 := some s3) (live_store_a0 := some s4) e_6 e_1 (fun z_11 => ?_) (fun z => absurd z (by decide))
  refine s_Shelf_giveTexts_46 ?_
  exact ⟨rfl, r_10⟩
set_option maxHeartbeats 1000000 in
theorem fc_insert {G : xw_G} {F L : Nat} {h : xw_A} {x d tx w st sv qo so ao s1 s2 s3 s4 x0 l0 z0 x1 l1 z1 : Nat} {fx : Nat → Option Nat} (e_x : h x = some (.inr (0, [.ref d, .ref tx, .ref w, .ref st, .ref sv, .ref qo, .ref so, .ref ao, .int 0, .int 3, .int 20, .int 0, .int (-1), .int 0]))) (e_tx : h tx = some (.inl (9 + 6, 2, .inr (.inr (.inr (.inr fx)))))) (e_st : h st = some (.inr (8, [.ref s1, .ref s2, .ref s3, .ref s4, .int 0, .int 0, .int 0, .int 0, .int 0, .int 0]))) (e_s1 : h s1 = some (.inl (10 + 6, 25, .inr (.inr (.inr (.inr (fun _ => none))))))) (e_x0 : h x0 = some (.inr (9, [.ref l0, .ref z0, .int 0]))) (e_x1 : h x1 = some (.inr (9, [.ref l1, .ref z1, .int 0]))) (n_x0_x1 : x0 ≠ x1) (h0 : fx 0 = some x0) (h1 : fx 1 = some x1) (hF : 4 ≤ F) (hL : 92 ≤ L) :
    xw_Met G m_Shelf_insert F L 1 5 [.ref x] h (fun v h' => v = some (.int 1) ∧ FrO [st, s1] h h') (fun _ _ => False) := by
  refine xw_Met.of rfl (by decide) (Nat.le_of_ble_eq_true rfl) ?_
  have r0 : FrO [st, s1] h h := FrO.rf
  refine s_Shelf_insert_0 (draft_a0 := some d) (texts_a0 := some tx) (weights_a0 := some w) (store_a0 := some st) (saved_a0 := some sv) (question_a0 := some qo) (standing_a0 := some so) (answers_a0 := some ao) e_x ?_
  refine x_callV (As := []) (b := st) (rest := []) (F1 := 1) (L1 := 20) (mc := 0) (ms := 0) d_Shelf_insert_4 cV_Shelf_105 (fc_freeRow  e_st e_s1 (by omega) (by omega)) e_st ⟨by decide, rfl⟩ ⟨by omega, by show 8 + (2 + 11) + 20 ≤ _; omega⟩ ⟨by omega, by omega⟩ (Nat.le_of_ble_eq_true rfl) (fun v_3 h_2 p_4 => ?_)
  obtain ⟨rfl, fr_1⟩ := p_4
  have e_5 := fr_1 x _ (by simp) e_x
  have e_6 := fr_1 tx _ (by simp) e_tx
  have e_7 := fr_1 st _ (by simp) e_st
  have e_8 := fr_1 s1 _ (by simp) e_s1
  have e_9 := fr_1 x0 _ (by simp) e_x0
  have e_10 := fr_1 x1 _ (by simp) e_x1
  have r_11 := r0.trans (fr_1.mono (by simp))
  refine s_Shelf_insert_7 (fun z_12 => ?_) (fun z => absurd z (by decide))
  refine s_Shelf_insert_22 ?_
  refine x_callV (As := [.int 1]) (b := x) (rest := []) (F1 := 3) (L1 := 70) (mc := 1) (ms := 5) d_Shelf_insert_24 cV_Shelf_111 (fc_give  e_5 e_6 e_7 e_8 e_9 e_10 n_x0_x1 h0 h1 (by omega) (by omega)) e_5 ⟨by decide, rfl⟩ ⟨by omega, by show 8 + (3 + 11) + 70 ≤ _; omega⟩ ⟨by omega, by omega⟩ (Nat.le_of_ble_eq_true rfl) (fun v_15 h_14 p_16 => ?_)
  obtain ⟨rfl, fr_13⟩ := p_16
  have e_17 := fr_13 x _ (by simp only [List.mem_cons, List.not_mem_nil, or_false, not_or]; exact ⟨(xw_neC e_5 e_7 (by simp)), (xw_neC e_5 e_8 (by simp))⟩) e_5
  have e_18 := fr_13 tx _ (by simp only [List.mem_cons, List.not_mem_nil, or_false, not_or]; exact ⟨(xw_neC e_6 e_7 (by simp)), (xw_neC e_6 e_8 (by simp))⟩) e_6
  have e_19 := fr_13 x0 _ (by simp only [List.mem_cons, List.not_mem_nil, or_false, not_or]; exact ⟨(xw_neC e_9 e_7 (by simp)), (xw_neC e_9 e_8 (by simp))⟩) e_9
  have e_20 := fr_13 x1 _ (by simp only [List.mem_cons, List.not_mem_nil, or_false, not_or]; exact ⟨(xw_neC e_10 e_7 (by simp)), (xw_neC e_10 e_8 (by simp))⟩) e_10
  have r_21 := r_11.trans (fr_13.mono (by simp))
  refine x_le (xw_le_n (xw_le_s xw_le_e)) ?_
  refine s_Shelf_insert_27 ?_
  exact ⟨rfl, r_21⟩
theorem i32_nle {x y : Int32} (h : y < x) : ¬ x ≤ y := Int32.not_le.mpr h
theorem i32_le {x y : Int32} (h : ¬ y < x) : x ≤ y := Int32.not_lt.mp h
set_option maxHeartbeats 1000000 in
theorem fc_ways_no {G : xw_G} {F L : Nat} {h : xw_A} {a b : Int32} {x d tx w st sv qo so ao : Nat} (e_x : h x = some (.inr (0, [.ref d, .ref tx, .ref w, .ref st, .ref sv, .ref qo, .ref so, .ref ao, .int 0, .int 3, .int 20, .int 0, .int (-1), .int 0]))) (hn : a < 1 ∨ 9 < a ∨ b < 0 ∨ 200 < b) (hF : 6 ≤ F) (hL : 90 ≤ L) :
    xw_Met G m_Shelf_ways F L 1 6 [.ref x, .int a, .int b] h (fun v h' => False) (fun E h' => E = "java/lang/IllegalArgumentException" ∧ FrO [x] h h') := by
  refine xw_Met.of rfl (by decide) (Nat.le_of_ble_eq_true rfl) ?_
  have r0 : FrO [x] h h := FrO.rf
  refine s_Shelf_ways_0 (fun z_1 => ?_) (fun z_2 => ?_)
  · skip
    refine x_throw rfl th_Shelf_71_159_75 d_Shelf_ways_22 d_Shelf_ways_25 d_Shelf_ways_26 d_Shelf_ways_28 d_Shelf_ways_31 ⟨by show 1 + 4 < _; omega, by show 0 + (13 * (1 + 2) + 43) ≤ _; omega⟩ ⟨by omega, by omega⟩ ?_
    exact ⟨rfl, r0⟩
  · skip
    refine s_Shelf_ways_5 (fun z_3 => ?_) (fun z_4 => ?_)
    · skip
      refine x_throw rfl th_Shelf_71_159_75 d_Shelf_ways_22 d_Shelf_ways_25 d_Shelf_ways_26 d_Shelf_ways_28 d_Shelf_ways_31 ⟨by show 1 + 4 < _; omega, by show 0 + (13 * (1 + 2) + 43) ≤ _; omega⟩ ⟨by omega, by omega⟩ ?_
      exact ⟨rfl, r0⟩
    · skip
      refine s_Shelf_ways_11 (fun z_5 => ?_) (fun z_6 => ?_)
      · skip
        refine x_throw rfl th_Shelf_71_159_75 d_Shelf_ways_22 d_Shelf_ways_25 d_Shelf_ways_26 d_Shelf_ways_28 d_Shelf_ways_31 ⟨by show 1 + 4 < _; omega, by show 0 + (13 * (1 + 2) + 43) ≤ _; omega⟩ ⟨by omega, by omega⟩ ?_
        exact ⟨rfl, r0⟩
      · skip
        refine s_Shelf_ways_15 (fun z => by rcases hn with q | q | q | q <;> first | contradiction | exact absurd z (i32_nle q)) (fun z_7 => ?_)
        refine x_throw rfl th_Shelf_71_159_75 d_Shelf_ways_22 d_Shelf_ways_25 d_Shelf_ways_26 d_Shelf_ways_28 d_Shelf_ways_31 ⟨by show 1 + 4 < _; omega, by show 0 + (13 * (1 + 2) + 43) ≤ _; omega⟩ ⟨by omega, by omega⟩ ?_
        exact ⟨rfl, r0⟩
set_option maxHeartbeats 1000000 in
theorem fc_ways_yes {G : xw_G} {F L : Nat} {h : xw_A} {a b : Int32} {x d tx w st sv qo so ao : Nat} (e_x : h x = some (.inr (0, [.ref d, .ref tx, .ref w, .ref st, .ref sv, .ref qo, .ref so, .ref ao, .int 0, .int 3, .int 20, .int 0, .int (-1), .int 0]))) (h1 : ¬ a < 1) (h2 : ¬ 9 < a) (h3 : ¬ b < 0) (h4 : ¬ 200 < b) (hF : 1 ≤ F) (hL : 20 ≤ L) :
    xw_Met G m_Shelf_ways F L 0 0 [.ref x, .int a, .int b] h (fun v h' => v = none ∧ FrO [x] h h') (fun _ _ => False) := by
  refine xw_Met.of rfl (by decide) (Nat.le_of_ble_eq_true rfl) ?_
  have r0 : FrO [x] h h := FrO.rf
  refine s_Shelf_ways_0 (fun z => absurd z h1) (fun z_1 => ?_)
  refine s_Shelf_ways_5 (fun z => absurd z h2) (fun z_2 => ?_)
  refine s_Shelf_ways_11 (fun z => absurd z h3) (fun z_3 => ?_)
  refine s_Shelf_ways_15 (fun z_4 => ?_) (fun z => absurd (i32_le h4) z)
  refine s_Shelf_ways_32 (draft_a0 := some d) (texts_a0 := some tx) (weights_a0 := some w) (store_a0 := some st) (saved_a0 := some sv) (question_a0 := some qo) (standing_a0 := some so) (answers_a0 := some ao) e_x ?_
  rw [xw_up_up]
  obtain ⟨h_5, z_11⟩ : ∃ z, z = xw_up h x (.inr (0, [va_rf (some d), va_rf (some tx), va_rf (some w), va_rf (some st), va_rf (some sv), va_rf (some qo), va_rf (some so), va_rf (some ao), .int 0, .int a, .int b, .int 0, .int (-1), .int 0])) := ⟨_, rfl⟩
  rw [← z_11]
  have e_6 : h_5 x = some (.inr (0, [va_rf (some d), va_rf (some tx), va_rf (some w), va_rf (some st), va_rf (some sv), va_rf (some qo), va_rf (some so), va_rf (some ao), .int 0, .int a, .int b, .int 0, .int (-1), .int 0])) := by rw [z_11]; exact xw_up_s _ _ _
  have f_7 : ∀ q, q ≠ x → h_5 q = h q := fun q hq => by rw [z_11]; exact xw_up_n _ _ hq
  clear z_11
  have r_12 := r0.up (by simp) f_7
  exact ⟨rfl, r_12⟩
set_option maxHeartbeats 1000000 in
theorem fc_weight_no1 {G : xw_G} {F L : Nat} {h : xw_A} {a b : Int32} {x d tx w st sv qo so ao : Nat} (e_x : h x = some (.inr (0, [.ref d, .ref tx, .ref w, .ref st, .ref sv, .ref qo, .ref so, .ref ao, .int 0, .int 3, .int 20, .int 0, .int (-1), .int 0]))) (hn : a < 0 ∨ 1 < a) (hF : 6 ≤ F) (hL : 90 ≤ L) :
    xw_Met G m_Shelf_weight F L 1 6 [.ref x, .int a, .int b] h (fun v h' => False) (fun E h' => E = "java/lang/IllegalArgumentException" ∧ FrO [x] h h') := by
  refine xw_Met.of rfl (by decide) (Nat.le_of_ble_eq_true rfl) ?_
  have r0 : FrO [x] h h := FrO.rf
  refine s_Shelf_weight_0 ?_
  refine x_callS (As := [.int a]) (rest := []) (F1 := 1) (L1 := 20) (mc := 0) (ms := 0) d_Shelf_weight_1 cS_Shelf_90 (fc_isCol_no  hn (by omega) (by omega)) ⟨by omega, by show 8 + (1 + 11) + 20 ≤ _; omega⟩ ⟨by omega, by omega⟩ (Nat.le_of_ble_eq_true rfl) (fun v_3 h_2 p_4 => ?_)
  obtain ⟨rfl, fr_1⟩ := p_4
  have e_5 := fr_1 x _ (by simp) e_x
  have r_6 := r0.trans (fr_1.mono (by simp))
  refine s_Shelf_weight_4 (fun z_7 => ?_) (fun z => absurd z (by decide))
  refine x_throw rfl th_Shelf_71_161_75 d_Shelf_weight_17 d_Shelf_weight_20 d_Shelf_weight_21 d_Shelf_weight_23 d_Shelf_weight_26 ⟨by show 1 + 4 < _; omega, by show 0 + (13 * (1 + 2) + 43) ≤ _; omega⟩ ⟨by omega, by omega⟩ ?_
  exact ⟨rfl, r_6⟩
set_option maxHeartbeats 1000000 in
theorem fc_weight_no2_0 {G : xw_G} {F L : Nat} {h : xw_A} {b : Int32} {x d tx w st sv qo so ao : Nat} (e_x : h x = some (.inr (0, [.ref d, .ref tx, .ref w, .ref st, .ref sv, .ref qo, .ref so, .ref ao, .int 0, .int 3, .int 20, .int 0, .int (-1), .int 0]))) (hn : b < 0 ∨ 9 < b) (hF : 6 ≤ F) (hL : 90 ≤ L) :
    xw_Met G m_Shelf_weight F L 1 6 [.ref x, .int 0, .int b] h (fun v h' => False) (fun E h' => E = "java/lang/IllegalArgumentException" ∧ FrO [x] h h') := by
  refine xw_Met.of rfl (by decide) (Nat.le_of_ble_eq_true rfl) ?_
  have r0 : FrO [x] h h := FrO.rf
  refine s_Shelf_weight_0 ?_
  refine x_callS (As := [.int 0]) (rest := []) (F1 := 1) (L1 := 20) (mc := 0) (ms := 0) d_Shelf_weight_1 cS_Shelf_90 (fc_isCol_0   (by omega) (by omega)) ⟨by omega, by show 8 + (1 + 11) + 20 ≤ _; omega⟩ ⟨by omega, by omega⟩ (Nat.le_of_ble_eq_true rfl) (fun v_3 h_2 p_4 => ?_)
  obtain ⟨rfl, fr_1⟩ := p_4
  have e_5 := fr_1 x _ (by simp) e_x
  have r_6 := r0.trans (fr_1.mono (by simp))
  refine s_Shelf_weight_4 (fun z => absurd z (by decide)) (fun z_7 => ?_)
  refine s_Shelf_weight_7 (fun z_8 => ?_) (fun z_9 => ?_)
  · skip
    refine x_throw rfl th_Shelf_71_161_75 d_Shelf_weight_17 d_Shelf_weight_20 d_Shelf_weight_21 d_Shelf_weight_23 d_Shelf_weight_26 ⟨by show 1 + 4 < _; omega, by show 0 + (13 * (1 + 2) + 43) ≤ _; omega⟩ ⟨by omega, by omega⟩ ?_
    exact ⟨rfl, r_6⟩
  · skip
    refine s_Shelf_weight_11 (fun z => by rcases hn with q | q <;> first | contradiction | exact absurd z (i32_nle q)) (fun z_10 => ?_)
    refine x_throw rfl th_Shelf_71_161_75 d_Shelf_weight_17 d_Shelf_weight_20 d_Shelf_weight_21 d_Shelf_weight_23 d_Shelf_weight_26 ⟨by show 1 + 4 < _; omega, by show 0 + (13 * (1 + 2) + 43) ≤ _; omega⟩ ⟨by omega, by omega⟩ ?_
    exact ⟨rfl, r_6⟩
set_option maxHeartbeats 1000000 in
theorem fc_weight_0 {G : xw_G} {F L : Nat} {h : xw_A} {b : Int32} {x d tx w st sv qo so ao : Nat} {wf : Nat → Int32} (e_x : h x = some (.inr (0, [.ref d, .ref tx, .ref w, .ref st, .ref sv, .ref qo, .ref so, .ref ao, .int 0, .int 3, .int 20, .int 0, .int (-1), .int 0]))) (e_w : h w = some (.inl (0, 2, .inl wf))) (h3 : ¬ b < 0) (h4 : ¬ 9 < b) (hF : 2 ≤ F) (hL : 40 ≤ L) :
    xw_Met G m_Shelf_weight F L 0 0 [.ref x, .int 0, .int b] h (fun v h' => v = some (.int (wf 0)) ∧ FrO [x, w] h h') (fun _ _ => False) := by
  refine xw_Met.of rfl (by decide) (Nat.le_of_ble_eq_true rfl) ?_
  have r0 : FrO [x, w] h h := FrO.rf
  refine s_Shelf_weight_0 ?_
  refine x_callS (As := [.int 0]) (rest := []) (F1 := 1) (L1 := 20) (mc := 0) (ms := 0) d_Shelf_weight_1 cS_Shelf_90 (fc_isCol_0   (by omega) (by omega)) ⟨by omega, by show 8 + (1 + 11) + 20 ≤ _; omega⟩ ⟨by omega, by omega⟩ (Nat.le_of_ble_eq_true rfl) (fun v_3 h_2 p_4 => ?_)
  obtain ⟨rfl, fr_1⟩ := p_4
  have e_5 := fr_1 x _ (by simp) e_x
  have e_6 := fr_1 w _ (by simp) e_w
  have r_7 := r0.trans (fr_1.mono (by simp))
  refine s_Shelf_weight_4 (fun z => absurd z (by decide)) (fun z_8 => ?_)
  refine s_Shelf_weight_7 (fun z => absurd z h3) (fun z_9 => ?_)
  refine s_Shelf_weight_11 (fun z_10 => ?_) (fun z => absurd (i32_le h4) z)
  refine s_Shelf_weight_27 (draft_a0 := some d) (texts_a0 := some tx) (store_a0 := some st) (saved_a0 := some sv) (question_a0 := some qo) (standing_a0 := some so) (answers_a0 := some ao) e_5 e_6 (by unfold vp_in; decide) (by unfold vp_in; decide) ?_
  obtain ⟨h_11, z_14⟩ : ∃ z, z = xw_up h_2 w (.inl (0, 2, .inl (upd wf (0 : Int32).toNatClampNeg b))) := ⟨_, rfl⟩
  rw [← z_14]
  have e_12 : h_11 w = some (.inl (0, 2, .inl (upd wf (0 : Int32).toNatClampNeg b))) := by rw [z_14]; exact xw_up_s _ _ _
  have f_13 : ∀ q, q ≠ w → h_11 q = h_2 q := fun q hq => by rw [z_14]; exact xw_up_n _ _ hq
  clear z_14
  have e_15 := (f_13 x (xw_neC e_5 e_6 (by simp))).trans e_5
  have r_16 := r_7.up (by simp) f_13
  exact ⟨rfl, r_16⟩
set_option maxHeartbeats 1000000 in
theorem fc_weight_no2_1 {G : xw_G} {F L : Nat} {h : xw_A} {b : Int32} {x d tx w st sv qo so ao : Nat} (e_x : h x = some (.inr (0, [.ref d, .ref tx, .ref w, .ref st, .ref sv, .ref qo, .ref so, .ref ao, .int 0, .int 3, .int 20, .int 0, .int (-1), .int 0]))) (hn : b < 0 ∨ 9 < b) (hF : 6 ≤ F) (hL : 90 ≤ L) :
    xw_Met G m_Shelf_weight F L 1 6 [.ref x, .int 1, .int b] h (fun v h' => False) (fun E h' => E = "java/lang/IllegalArgumentException" ∧ FrO [x] h h') := by
  refine xw_Met.of rfl (by decide) (Nat.le_of_ble_eq_true rfl) ?_
  have r0 : FrO [x] h h := FrO.rf
  refine s_Shelf_weight_0 ?_
  refine x_callS (As := [.int 1]) (rest := []) (F1 := 1) (L1 := 20) (mc := 0) (ms := 0) d_Shelf_weight_1 cS_Shelf_90 (fc_isCol_1   (by omega) (by omega)) ⟨by omega, by show 8 + (1 + 11) + 20 ≤ _; omega⟩ ⟨by omega, by omega⟩ (Nat.le_of_ble_eq_true rfl) (fun v_3 h_2 p_4 => ?_)
  obtain ⟨rfl, fr_1⟩ := p_4
  have e_5 := fr_1 x _ (by simp) e_x
  have r_6 := r0.trans (fr_1.mono (by simp))
  refine s_Shelf_weight_4 (fun z => absurd z (by decide)) (fun z_7 => ?_)
  refine s_Shelf_weight_7 (fun z_8 => ?_) (fun z_9 => ?_)
  · skip
    refine x_throw rfl th_Shelf_71_161_75 d_Shelf_weight_17 d_Shelf_weight_20 d_Shelf_weight_21 d_Shelf_weight_23 d_Shelf_weight_26 ⟨by show 1 + 4 < _; omega, by show 0 + (13 * (1 + 2) + 43) ≤ _; omega⟩ ⟨by omega, by omega⟩ ?_
    exact ⟨rfl, r_6⟩
  · skip
    refine s_Shelf_weight_11 (fun z => by rcases hn with q | q <;> first | contradiction | exact absurd z (i32_nle q)) (fun z_10 => ?_)
    refine x_throw rfl th_Shelf_71_161_75 d_Shelf_weight_17 d_Shelf_weight_20 d_Shelf_weight_21 d_Shelf_weight_23 d_Shelf_weight_26 ⟨by show 1 + 4 < _; omega, by show 0 + (13 * (1 + 2) + 43) ≤ _; omega⟩ ⟨by omega, by omega⟩ ?_
    exact ⟨rfl, r_6⟩
