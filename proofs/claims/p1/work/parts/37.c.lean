/-! ONE CALL ON A FRESH OBJECT: THE CLASS: by program (wip/tools/p1l.py) -/
set_option maxHeartbeats 1000000 in
theorem fc_weight_1 {G : xw_G} {F L : Nat} {h : xw_A} {b : Int32} {x d tx w st sv qo so ao : Nat} {wf : Nat → Int32} (e_x : h x = some (.inr (0, [.ref d, .ref tx, .ref w, .ref st, .ref sv, .ref qo, .ref so, .ref ao, .int 0, .int 3, .int 20, .int 0, .int (-1), .int 0]))) (e_w : h w = some (.inl (0, 2, .inl wf))) (h3 : ¬ b < 0) (h4 : ¬ 9 < b) (hF : 2 ≤ F) (hL : 40 ≤ L) :
    xw_Met G m_Shelf_weight F L 0 0 [.ref x, .int 1, .int b] h (fun v h' => v = some (.int (wf 1)) ∧ FrO [x, w] h h') (fun _ _ => False) := by
  refine xw_Met.of rfl (by decide) (Nat.le_of_ble_eq_true rfl) ?_
  have r0 : FrO [x, w] h h := FrO.rf
  refine s_Shelf_weight_0 ?_
  refine x_callS (As := [.int 1]) (rest := []) (F1 := 1) (L1 := 20) (mc := 0) (ms := 0) d_Shelf_weight_1 cS_Shelf_90 (fc_isCol_1   (by omega) (by omega)) ⟨by omega, by show 8 + (1 + 11) + 20 ≤ _; omega⟩ ⟨by omega, by omega⟩ (Nat.le_of_ble_eq_true rfl) (fun v_3 h_2 p_4 => ?_)
  obtain ⟨rfl, fr_1⟩ := p_4
  have e_5 := fr_1 x _ (by simp) e_x
  have e_6 := fr_1 w _ (by simp) e_w
  have r_7 := r0.trans (fr_1.mono (by simp))
  refine s_Shelf_weight_4 (fun z => absurd z (by decide)) (fun z_8 => ?_)
  refine s_Shelf_weight_7 (fun z => absurd z h3) (fun z_9 => ?_)
  refine s_Shelf_weight_11 (fun z_10 => ?_) (fun z => absurd (i32_le h4) z)
  refine s_Shelf_weight_27 (draft_a0 := some d) (texts_a0 := some tx) (store_a0 := some st) (saved_a0 := some sv) (question_a0 := some qo) (standing_a0 := some so) (answers_a0 := some ao) e_5 e_6 (by unfold vp_in; decide) (by unfold vp_in; decide) ?_
  obtain ⟨h_11, z_14⟩ : ∃ z, z = xw_up h_2 w (.inl (0, 2, .inl (upd wf (1 : Int32).toNatClampNeg b))) := ⟨_, rfl⟩
  rw [← z_14]
  have e_12 : h_11 w = some (.inl (0, 2, .inl (upd wf (1 : Int32).toNatClampNeg b))) := by rw [z_14]; exact xw_up_s _ _ _
  have f_13 : ∀ q, q ≠ w → h_11 q = h_2 q := fun q hq => by rw [z_14]; exact xw_up_n _ _ hq
  clear z_14
  have e_15 := (f_13 x (xw_neC e_5 e_6 (by simp))).trans e_5
  have r_16 := r_7.up (by simp) f_13
  exact ⟨rfl, r_16⟩
set_option maxHeartbeats 1000000 in
theorem fc_has {G : xw_G} {F L : Nat} {h : xw_A} {k : Int32} {ao o1 o2 o3 o4 : Nat} (e_ao : h ao = some (.inr (1, [.ref o1, .ref o2, .int 0, .ref o3, .ref o4]))) (hF : 1 ≤ F) (hL : 20 ≤ L) :
    xw_Met G m_Answers_has F L 0 0 [.ref ao, .int k] h (fun v h' => v = some (.int 0) ∧ FrO [] h h') (fun _ _ => False) := by
  refine xw_Met.of rfl (by decide) (Nat.le_of_ble_eq_true rfl) ?_
  have r0 : FrO [] h h := FrO.rf
  refine s_Answers_has_0 (fun z_1 => ?_) (fun z_2 => ?_)
  · skip
    refine s_Answers_has_16 ?_
    refine s_Answers_has_17 rfl ?_
    exact ⟨rfl, r0⟩
  · skip
    refine s_Answers_has_4 (rows_a0 := some o1) (scores_a0 := some o2) (lengths_a0 := some o3) (order_a0 := some o4) e_ao (fun z_3 => ?_) (fun z => absurd (i32_le z_2) z)
    refine s_Answers_has_16 ?_
    refine s_Answers_has_17 rfl ?_
    exact ⟨rfl, r0⟩
set_option maxHeartbeats 1000000 in
theorem fc_answer {G : xw_G} {F L : Nat} {h : xw_A} {k b : Int32} {x d tx w st sv qo so ao o1 o2 o3 o4 : Nat} (e_x : h x = some (.inr (0, [.ref d, .ref tx, .ref w, .ref st, .ref sv, .ref qo, .ref so, .ref ao, .int 0, .int 3, .int 20, .int 0, .int (-1), .int 0]))) (e_ao : h ao = some (.inr (1, [.ref o1, .ref o2, .int 0, .ref o3, .ref o4]))) (hF : 6 ≤ F) (hL : 90 ≤ L) :
    xw_Met G m_Shelf_answer F L 1 6 [.ref x, .int k, .int b] h (fun v h' => False) (fun E h' => E = "java/lang/IndexOutOfBoundsException" ∧ FrO [x] h h') := by
  refine xw_Met.of rfl (by decide) (Nat.le_of_ble_eq_true rfl) ?_
  have r0 : FrO [x] h h := FrO.rf
  refine s_Shelf_answer_0 (draft_a0 := some d) (texts_a0 := some tx) (weights_a0 := some w) (store_a0 := some st) (saved_a0 := some sv) (question_a0 := some qo) (standing_a0 := some so) (answers_a0 := some ao) e_x ?_
  refine x_callV (As := [.int k]) (b := ao) (rest := []) (F1 := 1) (L1 := 20) (mc := 0) (ms := 0) d_Shelf_answer_5 cV_Shelf_195 (fc_has  e_ao (by omega) (by omega)) e_ao ⟨by decide, rfl⟩ ⟨by omega, by show 8 + (2 + 11) + 20 ≤ _; omega⟩ ⟨by omega, by omega⟩ (Nat.le_of_ble_eq_true rfl) (fun v_3 h_2 p_4 => ?_)
  obtain ⟨rfl, fr_1⟩ := p_4
  have e_5 := fr_1 x _ (by simp) e_x
  have e_6 := fr_1 ao _ (by simp) e_ao
  have r_7 := r0.trans (fr_1.mono (by simp))
  refine s_Shelf_answer_8 (fun z => absurd z (by decide)) (fun z_8 => ?_)
  refine x_throw rfl th_Shelf_81_198_85 d_Shelf_answer_11 d_Shelf_answer_14 d_Shelf_answer_15 d_Shelf_answer_17 d_Shelf_answer_20 ⟨by show 1 + 4 < _; omega, by show 0 + (13 * (1 + 2) + 43) ≤ _; omega⟩ ⟨by omega, by omega⟩ ?_
  exact ⟨rfl, r_7⟩
set_option maxHeartbeats 1000000 in
theorem fc_score {G : xw_G} {F L : Nat} {h : xw_A} {k b : Int32} {x d tx w st sv qo so ao o1 o2 o3 o4 : Nat} (e_x : h x = some (.inr (0, [.ref d, .ref tx, .ref w, .ref st, .ref sv, .ref qo, .ref so, .ref ao, .int 0, .int 3, .int 20, .int 0, .int (-1), .int 0]))) (e_ao : h ao = some (.inr (1, [.ref o1, .ref o2, .int 0, .ref o3, .ref o4]))) (hF : 6 ≤ F) (hL : 90 ≤ L) :
    xw_Met G m_Shelf_score F L 1 6 [.ref x, .int k, .int b] h (fun v h' => False) (fun E h' => E = "java/lang/IndexOutOfBoundsException" ∧ FrO [x] h h') := by
  refine xw_Met.of rfl (by decide) (Nat.le_of_ble_eq_true rfl) ?_
  have r0 : FrO [x] h h := FrO.rf
  refine s_Shelf_score_0 (draft_a0 := some d) (texts_a0 := some tx) (weights_a0 := some w) (store_a0 := some st) (saved_a0 := some sv) (question_a0 := some qo) (standing_a0 := some so) (answers_a0 := some ao) e_x ?_
  refine x_callV (As := [.int k]) (b := ao) (rest := []) (F1 := 1) (L1 := 20) (mc := 0) (ms := 0) d_Shelf_score_5 cV_Shelf_195 (fc_has  e_ao (by omega) (by omega)) e_ao ⟨by decide, rfl⟩ ⟨by omega, by show 8 + (2 + 11) + 20 ≤ _; omega⟩ ⟨by omega, by omega⟩ (Nat.le_of_ble_eq_true rfl) (fun v_3 h_2 p_4 => ?_)
  obtain ⟨rfl, fr_1⟩ := p_4
  have e_5 := fr_1 x _ (by simp) e_x
  have e_6 := fr_1 ao _ (by simp) e_ao
  have r_7 := r0.trans (fr_1.mono (by simp))
  refine s_Shelf_score_8 (fun z => absurd z (by decide)) (fun z_8 => ?_)
  refine x_throw rfl th_Shelf_81_198_85 d_Shelf_score_11 d_Shelf_score_14 d_Shelf_score_15 d_Shelf_score_17 d_Shelf_score_20 ⟨by show 1 + 4 < _; omega, by show 0 + (13 * (1 + 2) + 43) ≤ _; omega⟩ ⟨by omega, by omega⟩ ?_
  exact ⟨rfl, r_7⟩
set_option maxHeartbeats 1000000 in
theorem fc_segment {G : xw_G} {F L : Nat} {h : xw_A} {k b : Int32} {x d tx w st sv qo so ao s1 s2 s3 s4 : Nat} (e_x : h x = some (.inr (0, [.ref d, .ref tx, .ref w, .ref st, .ref sv, .ref qo, .ref so, .ref ao, .int 0, .int 3, .int 20, .int 0, .int (-1), .int 0]))) (e_st : h st = some (.inr (8, [.ref s1, .ref s2, .ref s3, .ref s4, .int 0, .int 0, .int 0, .int 0, .int 0, .int 0]))) (hF : 6 ≤ F) (hL : 90 ≤ L) :
    xw_Met G m_Shelf_segment F L 1 6 [.ref x, .int k, .int b] h (fun v h' => False) (fun E h' => E = "java/lang/IndexOutOfBoundsException" ∧ FrO [x] h h') := by
  refine xw_Met.of rfl (by decide) (Nat.le_of_ble_eq_true rfl) ?_
  have r0 : FrO [x] h h := FrO.rf
  refine s_Shelf_segment_0 (fun z_1 => ?_) (fun z_2 => ?_)
  · skip
    refine x_throw rfl th_Shelf_81_223_85 d_Shelf_segment_15 d_Shelf_segment_18 d_Shelf_segment_19 d_Shelf_segment_21 d_Shelf_segment_24 ⟨by show 1 + 4 < _; omega, by show 0 + (13 * (1 + 2) + 43) ≤ _; omega⟩ ⟨by omega, by omega⟩ ?_
    exact ⟨rfl, r0⟩
  · skip
    refine s_Shelf_segment_4 (draft_a0 := some d) (texts_a0 := some tx) (weights_a0 := some w) (saved_a0 := some sv) (question_a0 := some qo) (standing_a0 := some so) (answers_a0 := some ao) (rows_store_a0 := some s1) (pending_store_a0 := some s2) (segments_store_a0 := some s3) (live_store_a0 := some s4) e_x e_st (fun z => absurd z z_2) (fun z_3 => ?_)
    refine x_throw rfl th_Shelf_81_223_85 d_Shelf_segment_15 d_Shelf_segment_18 d_Shelf_segment_19 d_Shelf_segment_21 d_Shelf_segment_24 ⟨by show 1 + 4 < _; omega, by show 0 + (13 * (1 + 2) + 43) ≤ _; omega⟩ ⟨by omega, by omega⟩ ?_
    exact ⟨rfl, r0⟩
set_option maxHeartbeats 4000000 in
theorem fc_rowCount {G : xw_G} {F L : Nat} {h : xw_A} {st s1 s2 s3 s4 : Nat} (e_st : h st = some (.inr (8, [.ref s1, .ref s2, .ref s3, .ref s4, .int 0, .int 0, .int 0, .int 0, .int 0, .int 0]))) (e_s1 : h s1 = some (.inl (10 + 6, 25, .inr (.inr (.inr (.inr (fun _ => none))))))) (hF : 1 ≤ F) (hL : 20 ≤ L) :
    xw_Met G m_Store_rowCount F L 0 0 [.ref st] h (fun v h' => v = some (.int 0) ∧ FrO [] h h') (fun _ _ => False) := by
  refine xw_Met.of rfl (by decide) (Nat.le_of_ble_eq_true rfl) ?_
  have r0 : FrO [] h h := FrO.rf
  refine s_Store_rowCount_0 ?_
  refine s_Store_rowCount_4 (fun z => absurd z (by decide)) (fun z_1 => ?_)
  refine s_Store_rowCount_10 (pending_a0 := some s2) (segments_a0 := some s3) (live_a0 := some s4) e_st e_s1 (by unfold vp_in; decide) (fun z_2 => ?_) (fun _ z => absurd z (by simp))
  refine s_Store_rowCount_22 ?_
  refine s_Store_rowCount_4 (fun z => absurd z (by decide)) (fun z_3 => ?_)
  refine s_Store_rowCount_10 (pending_a0 := some s2) (segments_a0 := some s3) (live_a0 := some s4) e_st e_s1 (by unfold vp_in; decide) (fun z_4 => ?_) (fun _ z => absurd z (by simp))
  refine s_Store_rowCount_22 ?_
  refine s_Store_rowCount_4 (fun z => absurd z (by decide)) (fun z_5 => ?_)
  refine s_Store_rowCount_10 (pending_a0 := some s2) (segments_a0 := some s3) (live_a0 := some s4) e_st e_s1 (by unfold vp_in; decide) (fun z_6 => ?_) (fun _ z => absurd z (by simp))
  refine s_Store_rowCount_22 ?_
  refine s_Store_rowCount_4 (fun z => absurd z (by decide)) (fun z_7 => ?_)
  refine s_Store_rowCount_10 (pending_a0 := some s2) (segments_a0 := some s3) (live_a0 := some s4) e_st e_s1 (by unfold vp_in; decide) (fun z_8 => ?_) (fun _ z => absurd z (by simp))
  refine s_Store_rowCount_22 ?_
  refine s_Store_rowCount_4 (fun z => absurd z (by decide)) (fun z_9 => ?_)
  refine s_Store_rowCount_10 (pending_a0 := some s2) (segments_a0 := some s3) (live_a0 := some s4) e_st e_s1 (by unfold vp_in; decide) (fun z_10 => ?_) (fun _ z => absurd z (by simp))
  refine s_Store_rowCount_22 ?_
  refine s_Store_rowCount_4 (fun z => absurd z (by decide)) (fun z_11 => ?_)
  refine s_Store_rowCount_10 (pending_a0 := some s2) (segments_a0 := some s3) (live_a0 := some s4) e_st e_s1 (by unfold vp_in; decide) (fun z_12 => ?_) (fun _ z => absurd z (by simp))
  refine s_Store_rowCount_22 ?_
  refine s_Store_rowCount_4 (fun z => absurd z (by decide)) (fun z_13 => ?_)
  refine s_Store_rowCount_10 (pending_a0 := some s2) (segments_a0 := some s3) (live_a0 := some s4) e_st e_s1 (by unfold vp_in; decide) (fun z_14 => ?_) (fun _ z => absurd z (by simp))
  refine s_Store_rowCount_22 ?_
  refine s_Store_rowCount_4 (fun z => absurd z (by decide)) (fun z_15 => ?_)
  refine s_Store_rowCount_10 (pending_a0 := some s2) (segments_a0 := some s3) (live_a0 := some s4) e_st e_s1 (by unfold vp_in; decide) (fun z_16 => ?_) (fun _ z => absurd z (by simp))
  refine s_Store_rowCount_22 ?_
  refine s_Store_rowCount_4 (fun z => absurd z (by decide)) (fun z_17 => ?_)
  refine s_Store_rowCount_10 (pending_a0 := some s2) (segments_a0 := some s3) (live_a0 := some s4) e_st e_s1 (by unfold vp_in; decide) (fun z_18 => ?_) (fun _ z => absurd z (by simp))
  refine s_Store_rowCount_22 ?_
  refine s_Store_rowCount_4 (fun z => absurd z (by decide)) (fun z_19 => ?_)
  refine s_Store_rowCount_10 (pending_a0 := some s2) (segments_a0 := some s3) (live_a0 := some s4) e_st e_s1 (by unfold vp_in; decide) (fun z_20 => ?_) (fun _ z => absurd z (by simp))
  refine s_Store_rowCount_22 ?_
  refine s_Store_rowCount_4 (fun z => absurd z (by decide)) (fun z_21 => ?_)
  refine s_Store_rowCount_10 (pending_a0 := some s2) (segments_a0 := some s3) (live_a0 := some s4) e_st e_s1 (by unfold vp_in; decide) (fun z_22 => ?_) (fun _ z => absurd z (by simp))
  refine s_Store_rowCount_22 ?_
  refine s_Store_rowCount_4 (fun z => absurd z (by decide)) (fun z_23 => ?_)
  refine s_Store_rowCount_10 (pending_a0 := some s2) (segments_a0 := some s3) (live_a0 := some s4) e_st e_s1 (by unfold vp_in; decide) (fun z_24 => ?_) (fun _ z => absurd z (by simp))
  refine s_Store_rowCount_22 ?_
  refine s_Store_rowCount_4 (fun z => absurd z (by decide)) (fun z_25 => ?_)
  refine s_Store_rowCount_10 (pending_a0 := some s2) (segments_a0 := some s3) (live_a0 := some s4) e_st e_s1 (by unfold vp_in; decide) (fun z_26 => ?_) (fun _ z => absurd z (by simp))
  refine s_Store_rowCount_22 ?_
  refine s_Store_rowCount_4 (fun z => absurd z (by decide)) (fun z_27 => ?_)
  refine s_Store_rowCount_10 (pending_a0 := some s2) (segments_a0 := some s3) (live_a0 := some s4) e_st e_s1 (by unfold vp_in; decide) (fun z_28 => ?_) (fun _ z => absurd z (by simp))
  refine s_Store_rowCount_22 ?_
  refine s_Store_rowCount_4 (fun z => absurd z (by decide)) (fun z_29 => ?_)
  refine s_Store_rowCount_10 (pending_a0 := some s2) (segments_a0 := some s3) (live_a0 := some s4) e_st e_s1 (by unfold vp_in; decide) (fun z_30 => ?_) (fun _ z => absurd z (by simp))
  refine s_Store_rowCount_22 ?_
  refine s_Store_rowCount_4 (fun z => absurd z (by decide)) (fun z_31 => ?_)
  refine s_Store_rowCount_10 (pending_a0 := some s2) (segments_a0 := some s3) (live_a0 := some s4) e_st e_s1 (by unfold vp_in; decide) (fun z_32 => ?_) (fun _ z => absurd z (by simp))
  refine s_Store_rowCount_22 ?_
  refine s_Store_rowCount_4 (fun z => absurd z (by decide)) (fun z_33 => ?_)
  refine s_Store_rowCount_10 (pending_a0 := some s2) (segments_a0 := some s3) (live_a0 := some s4) e_st e_s1 (by unfold vp_in; decide) (fun z_34 => ?_) (fun _ z => absurd z (by simp))
  refine s_Store_rowCount_22 ?_
  refine s_Store_rowCount_4 (fun z => absurd z (by decide)) (fun z_35 => ?_)
  refine s_Store_rowCount_10 (pending_a0 := some s2) (segments_a0 := some s3) (live_a0 := some s4) e_st e_s1 (by unfold vp_in; decide) (fun z_36 => ?_) (fun _ z => absurd z (by simp))
  refine s_Store_rowCount_22 ?_
  refine s_Store_rowCount_4 (fun z => absurd z (by decide)) (fun z_37 => ?_)
  refine s_Store_rowCount_10 (pending_a0 := some s2) (segments_a0 := some s3) (live_a0 := some s4) e_st e_s1 (by unfold vp_in; decide) (fun z_38 => ?_) (fun _ z => absurd z (by simp))
  refine s_Store_rowCount_22 ?_
  refine s_Store_rowCount_4 (fun z => absurd z (by decide)) (fun z_39 => ?_)
  refine s_Store_rowCount_10 (pending_a0 := some s2) (segments_a0 := some s3) (live_a0 := some s4) e_st e_s1 (by unfold vp_in; decide) (fun z_40 => ?_) (fun _ z => absurd z (by simp))
  refine s_Store_rowCount_22 ?_
  refine s_Store_rowCount_4 (fun z => absurd z (by decide)) (fun z_41 => ?_)
  refine s_Store_rowCount_10 (pending_a0 := some s2) (segments_a0 := some s3) (live_a0 := some s4) e_st e_s1 (by unfold vp_in; decide) (fun z_42 => ?_) (fun _ z => absurd z (by simp))
  refine s_Store_rowCount_22 ?_
  refine s_Store_rowCount_4 (fun z => absurd z (by decide)) (fun z_43 => ?_)
  refine s_Store_rowCount_10 (pending_a0 := some s2) (segments_a0 := some s3) (live_a0 := some s4) e_st e_s1 (by unfold vp_in; decide) (fun z_44 => ?_) (fun _ z => absurd z (by simp))
  refine s_Store_rowCount_22 ?_
  refine s_Store_rowCount_4 (fun z => absurd z (by decide)) (fun z_45 => ?_)
  refine s_Store_rowCount_10 (pending_a0 := some s2) (segments_a0 := some s3) (live_a0 := some s4) e_st e_s1 (by unfold vp_in; decide) (fun z_46 => ?_) (fun _ z => absurd z (by simp))
  refine s_Store_rowCount_22 ?_
  refine s_Store_rowCount_4 (fun z => absurd z (by decide)) (fun z_47 => ?_)
  refine s_Store_rowCount_10 (pending_a0 := some s2) (segments_a0 := some s3) (live_a0 := some s4) e_st e_s1 (by unfold vp_in; decide) (fun z_48 => ?_) (fun _ z => absurd z (by simp))
  refine s_Store_rowCount_22 ?_
  refine s_Store_rowCount_4 (fun z_49 => ?_) (fun z => absurd z (by decide))
  refine s_Store_rowCount_28 ?_
  exact ⟨rfl, r0⟩
set_option maxHeartbeats 1000000 in
theorem fc_count_0 {G : xw_G} {F L : Nat} {h : xw_A} {x d tx w st sv qo so ao s1 s2 s3 s4 : Nat} (e_x : h x = some (.inr (0, [.ref d, .ref tx, .ref w, .ref st, .ref sv, .ref qo, .ref so, .ref ao, .int 0, .int 3, .int 20, .int 0, .int (-1), .int 0]))) (e_st : h st = some (.inr (8, [.ref s1, .ref s2, .ref s3, .ref s4, .int 0, .int 0, .int 0, .int 0, .int 0, .int 0]))) (e_s1 : h s1 = some (.inl (10 + 6, 25, .inr (.inr (.inr (.inr (fun _ => none))))))) (hF : 2 ≤ F) (hL : 42 ≤ L) :
    xw_Met G m_Shelf_count F L 0 0 [.ref x, .int 0] h (fun v h' => v = some (.int 0) ∧ FrO [] h h') (fun _ _ => False) := by
  refine xw_Met.of rfl (by decide) (Nat.le_of_ble_eq_true rfl) ?_
  have r0 : FrO [] h h := FrO.rf
  refine s_Shelf_count_0 ?_
  refine x_tableAt (tgt := 52) d_Shelf_count_1 (by decide) (by decide) (show _ = some 51 by decide) (by decide) ⟨123, by decide⟩ ?_
  refine x_le (xw_le_s (xw_le_n xw_le_e)) ?_
  refine s_Shelf_count_52 (draft_a0 := some d) (texts_a0 := some tx) (weights_a0 := some w) (store_a0 := some st) (saved_a0 := some sv) (question_a0 := some qo) (standing_a0 := some so) (answers_a0 := some ao) e_x ?_
  refine x_callV (As := []) (b := st) (rest := []) (F1 := 1) (L1 := 20) (mc := 0) (ms := 0) d_Shelf_count_56 cV_Shelf_153 (fc_rowCount  e_st e_s1 (by omega) (by omega)) e_st ⟨by decide, rfl⟩ ⟨by omega, by show 8 + (3 + 11) + 20 ≤ _; omega⟩ ⟨by omega, by omega⟩ (Nat.le_of_ble_eq_true rfl) (fun v_3 h_2 p_4 => ?_)
  obtain ⟨rfl, fr_1⟩ := p_4
  have e_5 := fr_1 x _ (by simp) e_x
  have e_6 := fr_1 st _ (by simp) e_st
  have e_7 := fr_1 s1 _ (by simp) e_s1
  have r_8 := r0.trans (fr_1.mono (by simp))
  refine x_le (xw_le_n (xw_le_n xw_le_e)) ?_
  refine s_Shelf_count_59 ?_
  exact ⟨rfl, r_8⟩
set_option maxHeartbeats 1000000 in
theorem fc_count_1 {G : xw_G} {F L : Nat} {h : xw_A} {x d tx w st sv qo so ao s1 s2 s3 s4 : Nat} (e_x : h x = some (.inr (0, [.ref d, .ref tx, .ref w, .ref st, .ref sv, .ref qo, .ref so, .ref ao, .int 0, .int 3, .int 20, .int 0, .int (-1), .int 0]))) (e_st : h st = some (.inr (8, [.ref s1, .ref s2, .ref s3, .ref s4, .int 0, .int 0, .int 0, .int 0, .int 0, .int 0]))) (hF : 1 ≤ F) (hL : 20 ≤ L) :
    xw_Met G m_Shelf_count F L 0 0 [.ref x, .int 1] h (fun v h' => v = some (.int 0) ∧ FrO [] h h') (fun _ _ => False) := by
  refine xw_Met.of rfl (by decide) (Nat.le_of_ble_eq_true rfl) ?_
  have r0 : FrO [] h h := FrO.rf
  refine s_Shelf_count_0 ?_
  refine x_tableAt (tgt := 60) d_Shelf_count_1 (by decide) (by decide) (show _ = some 59 by decide) (by decide) ⟨123, by decide⟩ ?_
  refine x_le (xw_le_s (xw_le_n xw_le_e)) ?_
  refine s_Shelf_count_60 (draft_a0 := some d) (texts_a0 := some tx) (weights_a0 := some w) (saved_a0 := some sv) (question_a0 := some qo) (standing_a0 := some so) (answers_a0 := some ao) (rows_store_a0 := some s1) (pending_store_a0 := some s2) (segments_store_a0 := some s3) (live_store_a0 := some s4) e_x e_st ?_
  exact ⟨rfl, r0⟩
set_option maxHeartbeats 1000000 in
theorem fc_count_2 {G : xw_G} {F L : Nat} {h : xw_A} {x d tx w st sv qo so ao s1 s2 s3 s4 : Nat} (e_x : h x = some (.inr (0, [.ref d, .ref tx, .ref w, .ref st, .ref sv, .ref qo, .ref so, .ref ao, .int 0, .int 3, .int 20, .int 0, .int (-1), .int 0]))) (e_st : h st = some (.inr (8, [.ref s1, .ref s2, .ref s3, .ref s4, .int 0, .int 0, .int 0, .int 0, .int 0, .int 0]))) (hF : 1 ≤ F) (hL : 20 ≤ L) :
    xw_Met G m_Shelf_count F L 0 0 [.ref x, .int 2] h (fun v h' => v = some (.int 0) ∧ FrO [] h h') (fun _ _ => False) := by
  refine xw_Met.of rfl (by decide) (Nat.le_of_ble_eq_true rfl) ?_
  have r0 : FrO [] h h := FrO.rf
  refine s_Shelf_count_0 ?_
  refine x_tableAt (tgt := 68) d_Shelf_count_1 (by decide) (by decide) (show _ = some 67 by decide) (by decide) ⟨123, by decide⟩ ?_
  refine x_le (xw_le_s (xw_le_n xw_le_e)) ?_
  refine s_Shelf_count_68 (draft_a0 := some d) (texts_a0 := some tx) (weights_a0 := some w) (saved_a0 := some sv) (question_a0 := some qo) (standing_a0 := some so) (answers_a0 := some ao) (rows_store_a0 := some s1) (pending_store_a0 := some s2) (segments_store_a0 := some s3) (live_store_a0 := some s4) e_x e_st ?_
  exact ⟨rfl, r0⟩
set_option maxHeartbeats 1000000 in
theorem fc_count_3 {G : xw_G} {F L : Nat} {h : xw_A} {x d tx w st sv qo so ao s1 s2 s3 s4 : Nat} (e_x : h x = some (.inr (0, [.ref d, .ref tx, .ref w, .ref st, .ref sv, .ref qo, .ref so, .ref ao, .int 0, .int 3, .int 20, .int 0, .int (-1), .int 0]))) (e_st : h st = some (.inr (8, [.ref s1, .ref s2, .ref s3, .ref s4, .int 0, .int 0, .int 0, .int 0, .int 0, .int 0]))) (hF : 1 ≤ F) (hL : 20 ≤ L) :
    xw_Met G m_Shelf_count F L 0 0 [.ref x, .int 3] h (fun v h' => v = some (.int 0) ∧ FrO [] h h') (fun _ _ => False) := by
  refine xw_Met.of rfl (by decide) (Nat.le_of_ble_eq_true rfl) ?_
  have r0 : FrO [] h h := FrO.rf
  refine s_Shelf_count_0 ?_
  refine x_tableAt (tgt := 76) d_Shelf_count_1 (by decide) (by decide) (show _ = some 75 by decide) (by decide) ⟨123, by decide⟩ ?_
  refine x_le (xw_le_s (xw_le_n xw_le_e)) ?_
  refine s_Shelf_count_76 (draft_a0 := some d) (texts_a0 := some tx) (weights_a0 := some w) (saved_a0 := some sv) (question_a0 := some qo) (standing_a0 := some so) (answers_a0 := some ao) (rows_store_a0 := some s1) (pending_store_a0 := some s2) (segments_store_a0 := some s3) (live_store_a0 := some s4) e_x e_st ?_
  exact ⟨rfl, r0⟩
set_option maxHeartbeats 1000000 in
theorem fc_count_4 {G : xw_G} {F L : Nat} {h : xw_A} {x d tx w st sv qo so ao s1 s2 s3 s4 : Nat} (e_x : h x = some (.inr (0, [.ref d, .ref tx, .ref w, .ref st, .ref sv, .ref qo, .ref so, .ref ao, .int 0, .int 3, .int 20, .int 0, .int (-1), .int 0]))) (e_st : h st = some (.inr (8, [.ref s1, .ref s2, .ref s3, .ref s4, .int 0, .int 0, .int 0, .int 0, .int 0, .int 0]))) (hF : 1 ≤ F) (hL : 20 ≤ L) :
    xw_Met G m_Shelf_count F L 0 0 [.ref x, .int 4] h (fun v h' => v = some (.int 0) ∧ FrO [] h h') (fun _ _ => False) := by
  refine xw_Met.of rfl (by decide) (Nat.le_of_ble_eq_true rfl) ?_
  have r0 : FrO [] h h := FrO.rf
  refine s_Shelf_count_0 ?_
  refine x_tableAt (tgt := 84) d_Shelf_count_1 (by decide) (by decide) (show _ = some 83 by decide) (by decide) ⟨123, by decide⟩ ?_
  refine x_le (xw_le_s (xw_le_n xw_le_e)) ?_
  refine s_Shelf_count_84 (draft_a0 := some d) (texts_a0 := some tx) (weights_a0 := some w) (saved_a0 := some sv) (question_a0 := some qo) (standing_a0 := some so) (answers_a0 := some ao) (rows_store_a0 := some s1) (pending_store_a0 := some s2) (segments_store_a0 := some s3) (live_store_a0 := some s4) e_x e_st ?_
  exact ⟨rfl, r0⟩
set_option maxHeartbeats 1000000 in
theorem fc_count_5 {G : xw_G} {F L : Nat} {h : xw_A} {x d tx w st sv qo so ao o1 o2 o3 o4 : Nat} (e_x : h x = some (.inr (0, [.ref d, .ref tx, .ref w, .ref st, .ref sv, .ref qo, .ref so, .ref ao, .int 0, .int 3, .int 20, .int 0, .int (-1), .int 0]))) (e_ao : h ao = some (.inr (1, [.ref o1, .ref o2, .int 0, .ref o3, .ref o4]))) (hF : 1 ≤ F) (hL : 20 ≤ L) :
    xw_Met G m_Shelf_count F L 0 0 [.ref x, .int 5] h (fun v h' => v = some (.int 0) ∧ FrO [] h h') (fun _ _ => False) := by
  refine xw_Met.of rfl (by decide) (Nat.le_of_ble_eq_true rfl) ?_
  have r0 : FrO [] h h := FrO.rf
  refine s_Shelf_count_0 ?_
  refine x_tableAt (tgt := 92) d_Shelf_count_1 (by decide) (by decide) (show _ = some 91 by decide) (by decide) ⟨123, by decide⟩ ?_
  refine x_le (xw_le_s (xw_le_n xw_le_e)) ?_
  refine s_Shelf_count_92 (draft_a0 := some d) (texts_a0 := some tx) (weights_a0 := some w) (store_a0 := some st) (saved_a0 := some sv) (question_a0 := some qo) (standing_a0 := some so) (rows_answers_a0 := some o1) (scores_answers_a0 := some o2) (lengths_answers_a0 := some o3) (order_answers_a0 := some o4) e_x e_ao ?_
  exact ⟨rfl, r0⟩
set_option maxHeartbeats 1000000 in
theorem fc_count_6 {G : xw_G} {F L : Nat} {h : xw_A} {x d tx w st sv qo so ao : Nat} (e_x : h x = some (.inr (0, [.ref d, .ref tx, .ref w, .ref st, .ref sv, .ref qo, .ref so, .ref ao, .int 0, .int 3, .int 20, .int 0, .int (-1), .int 0]))) (hF : 1 ≤ F) (hL : 20 ≤ L) :
    xw_Met G m_Shelf_count F L 0 0 [.ref x, .int 6] h (fun v h' => v = some (.int 0) ∧ FrO [] h h') (fun _ _ => False) := by
  refine xw_Met.of rfl (by decide) (Nat.le_of_ble_eq_true rfl) ?_
  have r0 : FrO [] h h := FrO.rf
  refine s_Shelf_count_0 ?_
  refine x_tableAt (tgt := 100) d_Shelf_count_1 (by decide) (by decide) (show _ = some 99 by decide) (by decide) ⟨123, by decide⟩ ?_
  refine x_le (xw_le_s (xw_le_n xw_le_e)) ?_
  refine s_Shelf_count_100 (draft_a0 := some d) (texts_a0 := some tx) (weights_a0 := some w) (store_a0 := some st) (saved_a0 := some sv) (question_a0 := some qo) (standing_a0 := some so) (answers_a0 := some ao) e_x ?_
  exact ⟨rfl, r0⟩
set_option maxHeartbeats 1000000 in
theorem fc_count_7 {G : xw_G} {F L : Nat} {h : xw_A} {x d tx w st sv qo so ao : Nat} (e_x : h x = some (.inr (0, [.ref d, .ref tx, .ref w, .ref st, .ref sv, .ref qo, .ref so, .ref ao, .int 0, .int 3, .int 20, .int 0, .int (-1), .int 0]))) (hF : 1 ≤ F) (hL : 20 ≤ L) :
    xw_Met G m_Shelf_count F L 0 0 [.ref x, .int 7] h (fun v h' => v = some (.int 0) ∧ FrO [] h h') (fun _ _ => False) := by
  refine xw_Met.of rfl (by decide) (Nat.le_of_ble_eq_true rfl) ?_
  have r0 : FrO [] h h := FrO.rf
  refine s_Shelf_count_0 ?_
  refine x_tableAt (tgt := 105) d_Shelf_count_1 (by decide) (by decide) (show _ = some 104 by decide) (by decide) ⟨123, by decide⟩ ?_
  refine x_le (xw_le_s (xw_le_n xw_le_e)) ?_
  refine s_Shelf_count_105 (draft_a0 := some d) (texts_a0 := some tx) (weights_a0 := some w) (store_a0 := some st) (saved_a0 := some sv) (question_a0 := some qo) (standing_a0 := some so) (answers_a0 := some ao) e_x (fun z_1 => ?_) (fun z => absurd z (by decide))
  refine s_Shelf_count_116 ?_
  refine s_Shelf_count_117 ?_
  exact ⟨rfl, r0⟩
set_option maxHeartbeats 1000000 in
theorem fc_count_8 {G : xw_G} {F L : Nat} {h : xw_A} {x d tx w st sv qo so ao : Nat} (e_x : h x = some (.inr (0, [.ref d, .ref tx, .ref w, .ref st, .ref sv, .ref qo, .ref so, .ref ao, .int 0, .int 3, .int 20, .int 0, .int (-1), .int 0]))) (hF : 1 ≤ F) (hL : 20 ≤ L) :
    xw_Met G m_Shelf_count F L 0 0 [.ref x, .int 8] h (fun v h' => v = some (.int 0) ∧ FrO [] h h') (fun _ _ => False) := by
  refine xw_Met.of rfl (by decide) (Nat.le_of_ble_eq_true rfl) ?_
  have r0 : FrO [] h h := FrO.rf
  refine s_Shelf_count_0 ?_
  refine x_tableAt (tgt := 118) d_Shelf_count_1 (by decide) (by decide) (show _ = some 117 by decide) (by decide) ⟨123, by decide⟩ ?_
  refine x_le (xw_le_s (xw_le_n xw_le_e)) ?_
  refine s_Shelf_count_118 (draft_a0 := some d) (texts_a0 := some tx) (weights_a0 := some w) (store_a0 := some st) (saved_a0 := some sv) (question_a0 := some qo) (standing_a0 := some so) (answers_a0 := some ao) e_x ?_
  exact ⟨rfl, r0⟩
set_option maxHeartbeats 1000000 in
theorem fc_count_no {G : xw_G} {F L : Nat} {h : xw_A} {a : Int32} {x d tx w st sv qo so ao : Nat} (e_x : h x = some (.inr (0, [.ref d, .ref tx, .ref w, .ref st, .ref sv, .ref qo, .ref so, .ref ao, .int 0, .int 3, .int 20, .int 0, .int (-1), .int 0]))) (hn : a < 0 ∨ 8 < a) (hF : 6 ≤ F) (hL : 90 ≤ L) :
    xw_Met G m_Shelf_count F L 1 6 [.ref x, .int a] h (fun v h' => False) (fun E h' => E = "java/lang/IllegalArgumentException" ∧ FrO [x] h h') := by
  refine xw_Met.of rfl (by decide) (Nat.le_of_ble_eq_true rfl) ?_
  have r0 : FrO [x] h h := FrO.rf
  refine s_Shelf_count_0 ?_
  refine x_tableOut (dt := 123) d_Shelf_count_1 (hn.elim (fun q => Or.inl (Int32.lt_iff_toInt_lt.mp q)) (fun q => Or.inr (Int32.lt_iff_toInt_lt.mp q))) (by decide) ?_
  refine x_throw rfl th_Shelf_71_250_75 d_Shelf_count_123 d_Shelf_count_126 d_Shelf_count_127 d_Shelf_count_129 d_Shelf_count_132 ⟨by show 1 + 4 < _; omega, by show 0 + (13 * (1 + 2) + 43) ≤ _; omega⟩ ⟨by omega, by omega⟩ ?_
  exact ⟨rfl, r0⟩
set_option maxHeartbeats 1000000 in
theorem fc_addSeg {G : xw_G} {F L : Nat} {h : xw_A} {y : Int32} {st s1 s2 s3 s4 : Nat} (e_st : h st = some (.inr (8, [.ref s1, .ref s2, .ref s3, .ref s4, .int 0, .int 0, .int 0, .int 0, .int 0, .int 0]))) (hF : 1 ≤ F) (hL : 20 ≤ L) :
    xw_Met G m_Store_addSegment F L 0 0 [.ref st, .int y] h (fun v h' => v = none ∧ FrO [] h h') (fun _ _ => False) := by
  refine xw_Met.of rfl (by decide) (Nat.le_of_ble_eq_true rfl) ?_
  have r0 : FrO [] h h := FrO.rf
  refine s_Store_addSegment_0 (rows_a0 := some s1) (pending_a0 := some s2) (segments_a0 := some s3) (live_a0 := some s4) e_st (fun z_1 => ?_) (fun z => absurd z (by decide))
  refine s_Store_addSegment_62 ?_
  exact ⟨rfl, r0⟩
set_option maxHeartbeats 1000000 in
theorem fc_segsOf {G : xw_G} {F L : Nat} {h : xw_A} {y : Int32} {st s1 s2 s3 s4 : Nat} (e_st : h st = some (.inr (8, [.ref s1, .ref s2, .ref s3, .ref s4, .int 0, .int 0, .int 0, .int 0, .int 0, .int 0]))) (hF : 1 ≤ F) (hL : 20 ≤ L) :
    xw_Met G m_Store_segmentsOf F L 0 0 [.ref st, .int y] h (fun v h' => v = some (.int 0) ∧ FrO [] h h') (fun _ _ => False) := by
  refine xw_Met.of rfl (by decide) (Nat.le_of_ble_eq_true rfl) ?_
  have r0 : FrO [] h h := FrO.rf
  refine s_Store_segmentsOf_0 ?_
  refine s_Store_segmentsOf_4 (rows_a0 := some s1) (pending_a0 := some s2) (segments_a0 := some s3) (live_a0 := some s4) e_st (fun z_1 => ?_) (fun z => absurd z (by decide))
  refine s_Store_segmentsOf_34 ?_
  exact ⟨rfl, r0⟩
set_option maxHeartbeats 1000000 in
theorem fc_flushP {G : xw_G} {F L : Nat} {h : xw_A} {st s1 s2 s3 s4 : Nat} (e_st : h st = some (.inr (8, [.ref s1, .ref s2, .ref s3, .ref s4, .int 0, .int 0, .int 0, .int 0, .int 0, .int 0]))) (hF : 2 ≤ F) (hL : 43 ≤ L) :
    xw_Met G m_Store_flushPending F L 0 0 [.ref st, .int 3] h (fun v h' => v = none ∧ h' st = some (.inr (8, [.ref s1, .ref s2, .ref s3, .ref s4, .int 0, .int 0, .int 0, .int 0, .int 0, .int 0])) ∧ FrO [st] h h') (fun _ _ => False) := by
  refine xw_Met.of rfl (by decide) (Nat.le_of_ble_eq_true rfl) ?_
  have r0 : FrO [st] h h := FrO.rf
  refine s_Store_flushPending_0 (rows_a0 := some s1) (pending_a0 := some s2) (segments_a0 := some s3) (live_a0 := some s4) e_st ?_
  refine x_u1 (fun h_1 e_2 f_3 => ?_)
  have r_4 := r0.up (by simp) f_3
  refine s_Store_flushPending_7 (rows_a0 := some s1) (pending_a0 := some s2) (segments_a0 := some s3) (live_a0 := some s4) e_2 (fun z_5 => ?_) (fun z => absurd z (by decide))
  refine s_Store_flushPending_31 (rows_a0 := some s1) (pending_a0 := some s2) (segments_a0 := some s3) (live_a0 := some s4) e_2 ?_
  rw [xw_up_up]
  refine x_u1 (fun h_6 e_7 f_8 => ?_)
  have r_9 := r_4.up (by simp) f_8
  refine x_callV (As := [.int 0]) (b := st) (rest := []) (F1 := 1) (L1 := 20) (mc := 0) (ms := 0) d_Store_flushPending_43 cV_Store_58 (fc_addSeg  e_7 (by omega) (by omega)) e_7 ⟨by decide, rfl⟩ ⟨by omega, by show 8 + (2 + 11) + 20 ≤ _; omega⟩ ⟨by omega, by omega⟩ (Nat.le_of_ble_eq_true rfl) (fun v_12 h_11 p_13 => ?_)
  obtain ⟨rfl, fr_10⟩ := p_13
  have e_14 := fr_10 st _ (by simp) e_7
  have r_15 := r_9.trans (fr_10.mono (by simp))
  refine s_Store_flushPending_46 ?_
  refine s_Store_flushPending_48 (fun z => absurd z (by decide)) (fun z_16 => ?_)
  refine s_Store_flushPending_53 ?_
  refine x_callV (As := [.int 0]) (b := st) (rest := []) (F1 := 1) (L1 := 20) (mc := 0) (ms := 0) d_Store_flushPending_55 cV_Store_62 (fc_segsOf  e_14 (by omega) (by omega)) e_14 ⟨by decide, rfl⟩ ⟨by omega, by show 8 + (4 + 11) + 20 ≤ _; omega⟩ ⟨by omega, by omega⟩ (Nat.le_of_ble_eq_true rfl) (fun v_19 h_18 p_20 => ?_)
  obtain ⟨rfl, fr_17⟩ := p_20
  have e_21 := fr_17 st _ (by simp) e_14
  have r_22 := r_15.trans (fr_17.mono (by simp))
  refine s_Store_flushPending_58 (fun z_23 => ?_) (fun z => absurd z (by decide))
  refine s_Store_flushPending_71 ?_
  refine s_Store_flushPending_48 (fun z => absurd z (by decide)) (fun z_24 => ?_)
  refine s_Store_flushPending_53 ?_
  refine x_callV (As := [.int (0 + 1)]) (b := st) (rest := []) (F1 := 1) (L1 := 20) (mc := 0) (ms := 0) d_Store_flushPending_55 cV_Store_62 (fc_segsOf  e_21 (by omega) (by omega)) e_21 ⟨by decide, rfl⟩ ⟨by omega, by show 8 + (4 + 11) + 20 ≤ _; omega⟩ ⟨by omega, by omega⟩ (Nat.le_of_ble_eq_true rfl) (fun v_27 h_26 p_28 => ?_)
  obtain ⟨rfl, fr_25⟩ := p_28
  have e_29 := fr_25 st _ (by simp) e_21
  have r_30 := r_22.trans (fr_25.mono (by simp))
  refine s_Store_flushPending_58 (fun z_31 => ?_) (fun z => absurd z (by decide))
  refine s_Store_flushPending_71 ?_
  refine s_Store_flushPending_48 (fun z => absurd z (by decide)) (fun z_32 => ?_)
  refine s_Store_flushPending_53 ?_
  refine x_callV (As := [.int ((0 + 1) + 1)]) (b := st) (rest := []) (F1 := 1) (L1 := 20) (mc := 0) (ms := 0) d_Store_flushPending_55 cV_Store_62 (fc_segsOf  e_29 (by omega) (by omega)) e_29 ⟨by decide, rfl⟩ ⟨by omega, by show 8 + (4 + 11) + 20 ≤ _; omega⟩ ⟨by omega, by omega⟩ (Nat.le_of_ble_eq_true rfl) (fun v_35 h_34 p_36 => ?_)
  obtain ⟨rfl, fr_33⟩ := p_36
  have e_37 := fr_33 st _ (by simp) e_29
  have r_38 := r_30.trans (fr_33.mono (by simp))
  refine s_Store_flushPending_58 (fun z_39 => ?_) (fun z => absurd z (by decide))
  refine s_Store_flushPending_71 ?_
  refine s_Store_flushPending_48 (fun z => absurd z (by decide)) (fun z_40 => ?_)
  refine s_Store_flushPending_53 ?_
  refine x_callV (As := [.int (((0 + 1) + 1) + 1)]) (b := st) (rest := []) (F1 := 1) (L1 := 20) (mc := 0) (ms := 0) d_Store_flushPending_55 cV_Store_62 (fc_segsOf  e_37 (by omega) (by omega)) e_37 ⟨by decide, rfl⟩ ⟨by omega, by show 8 + (4 + 11) + 20 ≤ _; omega⟩ ⟨by omega, by omega⟩ (Nat.le_of_ble_eq_true rfl) (fun v_43 h_42 p_44 => ?_)
  obtain ⟨rfl, fr_41⟩ := p_44
  have e_45 := fr_41 st _ (by simp) e_37
  have r_46 := r_38.trans (fr_41.mono (by simp))
  refine s_Store_flushPending_58 (fun z_47 => ?_) (fun z => absurd z (by decide))
  refine s_Store_flushPending_71 ?_
  refine s_Store_flushPending_48 (fun z => absurd z (by decide)) (fun z_48 => ?_)
  refine s_Store_flushPending_53 ?_
  refine x_callV (As := [.int ((((0 + 1) + 1) + 1) + 1)]) (b := st) (rest := []) (F1 := 1) (L1 := 20) (mc := 0) (ms := 0) d_Store_flushPending_55 cV_Store_62 (fc_segsOf  e_45 (by omega) (by omega)) e_45 ⟨by decide, rfl⟩ ⟨by omega, by show 8 + (4 + 11) + 20 ≤ _; omega⟩ ⟨by omega, by omega⟩ (Nat.le_of_ble_eq_true rfl) (fun v_51 h_50 p_52 => ?_)
  obtain ⟨rfl, fr_49⟩ := p_52
  have e_53 := fr_49 st _ (by simp) e_45
  have r_54 := r_46.trans (fr_49.mono (by simp))
  refine s_Store_flushPending_58 (fun z_55 => ?_) (fun z => absurd z (by decide))
  refine s_Store_flushPending_71 ?_
  refine s_Store_flushPending_48 (fun z_56 => ?_) (fun z => absurd z (by decide))
  refine s_Store_flushPending_77 ?_
  exact ⟨rfl, e_53, r_54⟩
set_option maxHeartbeats 1000000 in
theorem fc_flush {G : xw_G} {F L : Nat} {h : xw_A} {x d tx w st sv qo so ao s1 s2 s3 s4 : Nat} (e_x : h x = some (.inr (0, [.ref d, .ref tx, .ref w, .ref st, .ref sv, .ref qo, .ref so, .ref ao, .int 0, .int 3, .int 20, .int 0, .int (-1), .int 0]))) (e_st : h st = some (.inr (8, [.ref s1, .ref s2, .ref s3, .ref s4, .int 0, .int 0, .int 0, .int 0, .int 0, .int 0]))) (hF : 3 ≤ F) (hL : 65 ≤ L) :
    xw_Met G m_Shelf_flush F L 0 0 [.ref x] h (fun v h' => v = some (.int 0) ∧ FrO [st] h h') (fun _ _ => False) := by
  refine xw_Met.of rfl (by decide) (Nat.le_of_ble_eq_true rfl) ?_
  have r0 : FrO [st] h h := FrO.rf
  refine s_Shelf_flush_0 (draft_a0 := some d) (texts_a0 := some tx) (weights_a0 := some w) (store_a0 := some st) (saved_a0 := some sv) (question_a0 := some qo) (standing_a0 := some so) (answers_a0 := some ao) e_x ?_
  refine x_callV (As := [.int 3]) (b := st) (rest := []) (F1 := 2) (L1 := 43) (mc := 0) (ms := 0) d_Shelf_flush_8 cV_Shelf_147 (fc_flushP e_st (by omega) (by omega)) e_st ⟨by decide, rfl⟩ ⟨by omega, by show 8 + (3 + 11) + 43 ≤ _; omega⟩ ⟨by omega, by omega⟩ (Nat.le_of_ble_eq_true rfl) (fun v_4 h_3 p_5 => ?_)
  obtain ⟨rfl, e_1, fr_2⟩ := p_5
  have e_6 := fr_2 x _ (by simp only [List.mem_cons, List.not_mem_nil, or_false]; exact (xw_neC e_x e_st (by simp))) e_x
  have r_7 := r0.trans (fr_2.mono (by simp))
  refine s_Shelf_flush_11 (draft_a0 := some d) (texts_a0 := some tx) (weights_a0 := some w) (saved_a0 := some sv) (question_a0 := some qo) (standing_a0 := some so) (answers_a0 := some ao) (rows_store_a0 := some s1) (pending_store_a0 := some s2) (segments_store_a0 := some s3) (live_store_a0 := some s4) e_6 e_1 ?_
  exact ⟨rfl, r_7⟩
set_option maxHeartbeats 1000000 in
theorem fc_mergeL {G : xw_G} {F L : Nat} {h : xw_A} {st s1 s2 s3 s4 : Nat} (e_st : h st = some (.inr (8, [.ref s1, .ref s2, .ref s3, .ref s4, .int 0, .int 0, .int 0, .int 0, .int 0, .int 0]))) (hF : 2 ≤ F) (hL : 41 ≤ L) :
    xw_Met G m_Store_mergeLevels F L 0 0 [.ref st, .int 0, .int 5, .int 0] h (fun v h' => v = none ∧ h' st = some (.inr (8, [.ref s1, .ref s2, .ref s3, .ref s4, .int 0, .int 0, .int 0, .int 0, .int 0, .int 0])) ∧ FrO [st] h h') (fun _ _ => False) := by
  refine xw_Met.of rfl (by decide) (Nat.le_of_ble_eq_true rfl) ?_
  have r0 : FrO [st] h h := FrO.rf
  refine s_Store_mergeLevels_0 (rows_a0 := some s1) (pending_a0 := some s2) (segments_a0 := some s3) (live_a0 := some s4) e_st ?_
  refine x_u1 (fun h_1 e_2 f_3 => ?_)
  have r_4 := r0.up (by simp) f_3
  refine s_Store_mergeLevels_11 (rows_a0 := some s1) (pending_a0 := some s2) (segments_a0 := some s3) (live_a0 := some s4) e_2 (fun z_5 => ?_) (fun z => absurd z (by decide))
  refine s_Store_mergeLevels_74 (rows_a0 := some s1) (pending_a0 := some s2) (segments_a0 := some s3) (live_a0 := some s4) e_2 ?_
  refine x_u1 (fun h_6 e_7 f_8 => ?_)
  have r_9 := r_4.up (by simp) f_8
  refine x_callV (As := [.int 0]) (b := st) (rest := []) (F1 := 1) (L1 := 20) (mc := 0) (ms := 0) d_Store_mergeLevels_82 cV_Store_58 (fc_addSeg  e_7 (by omega) (by omega)) e_7 ⟨by decide, rfl⟩ ⟨by omega, by show 8 + (2 + 11) + 20 ≤ _; omega⟩ ⟨by omega, by omega⟩ (Nat.le_of_ble_eq_true rfl) (fun v_12 h_11 p_13 => ?_)
  obtain ⟨rfl, fr_10⟩ := p_13
  have e_14 := fr_10 st _ (by simp) e_7
  have r_15 := r_9.trans (fr_10.mono (by simp))
  refine x_le (xw_le_n (xw_le_n (xw_le_n (xw_le_n (xw_le_n (xw_le_n (xw_le_n xw_le_e))))))) ?_
  refine s_Store_mergeLevels_85 ?_
  exact ⟨rfl, e_14, r_15⟩
set_option maxHeartbeats 1000000 in
theorem fc_mergeA {G : xw_G} {F L : Nat} {h : xw_A} {st s1 s2 s3 s4 : Nat} (e_st : h st = some (.inr (8, [.ref s1, .ref s2, .ref s3, .ref s4, .int 0, .int 0, .int 0, .int 0, .int 0, .int 0]))) (hF : 3 ≤ F) (hL : 67 ≤ L) :
    xw_Met G m_Store_mergeAll F L 0 0 [.ref st] h (fun v h' => v = some (.int 0) ∧ FrO [st] h h') (fun _ _ => False) := by
  refine xw_Met.of rfl (by decide) (Nat.le_of_ble_eq_true rfl) ?_
  have r0 : FrO [st] h h := FrO.rf
  refine s_Store_mergeAll_0 (rows_a0 := some s1) (pending_a0 := some s2) (segments_a0 := some s3) (live_a0 := some s4) e_st ?_
  refine s_Store_mergeAll_9 (rows_a0 := some s1) (pending_a0 := some s2) (segments_a0 := some s3) (live_a0 := some s4) e_st (fun z_1 => ?_) (fun z => absurd z (by decide))
  refine s_Store_mergeAll_37 ?_
  refine x_callV (As := [.int 0, .int 5, .int 0]) (b := st) (rest := []) (F1 := 2) (L1 := 41) (mc := 0) (ms := 0) d_Store_mergeAll_41 cV_Store_66 (fc_mergeL e_st (by omega) (by omega)) e_st ⟨by decide, rfl⟩ ⟨by omega, by show 8 + (7 + 11) + 41 ≤ _; omega⟩ ⟨by omega, by omega⟩ (Nat.le_of_ble_eq_true rfl) (fun v_5 h_4 p_6 => ?_)
  obtain ⟨rfl, e_2, fr_3⟩ := p_6
  have r_7 := r0.trans (fr_3.mono (by simp))
  refine x_le (xw_le_n (xw_le_s (xw_le_n (xw_le_n xw_le_e)))) ?_
  refine s_Store_mergeAll_44 ?_
  exact ⟨rfl, r_7⟩
set_option maxHeartbeats 1000000 in
theorem fc_optimize {G : xw_G} {F L : Nat} {h : xw_A} {x d tx w st sv qo so ao s1 s2 s3 s4 : Nat} (e_x : h x = some (.inr (0, [.ref d, .ref tx, .ref w, .ref st, .ref sv, .ref qo, .ref so, .ref ao, .int 0, .int 3, .int 20, .int 0, .int (-1), .int 0]))) (e_st : h st = some (.inr (8, [.ref s1, .ref s2, .ref s3, .ref s4, .int 0, .int 0, .int 0, .int 0, .int 0, .int 0]))) (hF : 4 ≤ F) (hL : 90 ≤ L) :
    xw_Met G m_Shelf_optimize F L 0 0 [.ref x] h (fun v h' => v = some (.int 0) ∧ FrO [st] h h') (fun _ _ => False) := by
  refine xw_Met.of rfl (by decide) (Nat.le_of_ble_eq_true rfl) ?_
  have r0 : FrO [st] h h := FrO.rf
  refine s_Shelf_optimize_0 (draft_a0 := some d) (texts_a0 := some tx) (weights_a0 := some w) (store_a0 := some st) (saved_a0 := some sv) (question_a0 := some qo) (standing_a0 := some so) (answers_a0 := some ao) e_x ?_
  refine x_callV (As := []) (b := st) (rest := []) (F1 := 3) (L1 := 67) (mc := 0) (ms := 0) d_Shelf_optimize_4 cV_Shelf_156 (fc_mergeA  e_st (by omega) (by omega)) e_st ⟨by decide, rfl⟩ ⟨by omega, by show 8 + (4 + 11) + 67 ≤ _; omega⟩ ⟨by omega, by omega⟩ (Nat.le_of_ble_eq_true rfl) (fun v_3 h_2 p_4 => ?_)
  obtain ⟨rfl, fr_1⟩ := p_4
  have e_5 := fr_1 x _ (by simp only [List.mem_cons, List.not_mem_nil, or_false, not_or]; exact (xw_neC e_x e_st (by simp))) e_x
  have r_6 := r0.trans (fr_1.mono (by simp))
  refine x_le (xw_le_n xw_le_e) ?_
  refine s_Shelf_optimize_7 ?_
  exact ⟨rfl, r_6⟩
theorem s_Store_copyFrom_8n {G : xw_G} {F L bc bs : Nat} {pr : Option Value → xw_A → Prop} {px : String → xw_A → Prop} {h : xw_A} {a0 : Nat} {a1 : Nat} {x2 : Int32} {rows_a0 : Nat} {pending_a0 : Option Nat} {segments_a0 : Option Nat} {live_a0 : Option Nat} {pendingCount_a0 : Int32} {pendingEntries_a0 : Int32} {segmentCount_a0 : Int32} {versionsMade_a0 : Int32} {segmentsMade_a0 : Int32} {liveCount_a0 : Int32} {rows_a1 : Nat} {pending_a1 : Option Nat} {segments_a1 : Option Nat} {live_a1 : Option Nat} {pendingCount_a1 : Int32} {pendingEntries_a1 : Int32} {segmentCount_a1 : Int32} {versionsMade_a1 : Int32} {segmentsMade_a1 : Int32} {liveCount_a1 : Int32} {n_rows_a1 : Nat} {f_rows_a1 : Nat → Option Nat} {n_rows_a0 : Nat} {f_rows_a0 : Nat → Option Nat} (e_a0 : h a0 = some (.inr (8, [.ref rows_a0, va_rf pending_a0, va_rf segments_a0, va_rf live_a0, .int pendingCount_a0, .int pendingEntries_a0, .int segmentCount_a0, .int versionsMade_a0, .int segmentsMade_a0, .int liveCount_a0]))) (e_a1 : h a1 = some (.inr (8, [.ref rows_a1, va_rf pending_a1, va_rf segments_a1, va_rf live_a1, .int pendingCount_a1, .int pendingEntries_a1, .int segmentCount_a1, .int versionsMade_a1, .int segmentsMade_a1, .int liveCount_a1]))) (e_rows_a1 : h rows_a1 = some (.inl (10 + 6, n_rows_a1, .inr (.inr (.inr (.inr f_rows_a1)))))) (i_18 : vp_in x2 n_rows_a1) (g_18 : f_rows_a1 x2.toNatClampNeg = none) (e_rows_a0 : h rows_a0 = some (.inl (10 + 6, n_rows_a0, .inr (.inr (.inr (.inr f_rows_a0)))))) (i_19 : vp_in x2 n_rows_a0) (k : xw G m_Store_copyFrom F L bc bs pr px 2 [some (.ref a0), some (.ref a1), some (.int (x2 + 1))] [] (xw_up h rows_a0 (.inl (10 + 6, n_rows_a0, .inr (.inr (.inr (.inr (va_up f_rows_a0 x2.toNatClampNeg none)))))))) : xw G m_Store_copyFrom F L bc bs pr px 8 [some (.ref a0), some (.ref a1), some (.int x2)] [] h := by
  refine x_aload_n d_Store_copyFrom_8 rfl rfl ?_
  refine x_get d_Store_copyFrom_9 f_Store_11 e_a0 rfl ?_
  refine x_iload_n d_Store_copyFrom_12 rfl rfl ?_
  refine x_aload_n d_Store_copyFrom_13 rfl rfl ?_
  refine x_get d_Store_copyFrom_14 f_Store_11 e_a1 rfl ?_
  refine x_iload_n d_Store_copyFrom_17 rfl rfl ?_
  refine x_aald (v := .null) d_Store_copyFrom_18 e_rows_a1 i_18 (by rw [g_18]; rfl) ?_
  refine x_aastN d_Store_copyFrom_19 e_rows_a0 i_19 ?_
  refine x_iinc (v := x2 + 1) d_Store_copyFrom_20 rfl (by rfl) (by decide) rfl ?_
  show xw G m_Store_copyFrom F L bc bs pr px 23 [some (.ref a0), some (.ref a1), some (.int (x2 + 1))] [] (xw_up h rows_a0 (.inl (10 + 6, n_rows_a0, .inr (.inr (.inr (.inr (va_up f_rows_a0 x2.toNatClampNeg none)))))))
  refine x_goto (tgt := 2) d_Store_copyFrom_23 (by decide) ?_
  exact k
set_option maxHeartbeats 8000000 in
theorem fc_copy {G : xw_G} {F L : Nat} {h : xw_A} {sv v1 v2 v3 v4 st s1 s2 s3 s4 : Nat} (e_sv : h sv = some (.inr (8, [.ref v1, .ref v2, .ref v3, .ref v4, .int 0, .int 0, .int 0, .int 0, .int 0, .int 0]))) (e_v1 : h v1 = some (.inl (10 + 6, 25, .inr (.inr (.inr (.inr (fun _ => none))))))) (e_st : h st = some (.inr (8, [.ref s1, .ref s2, .ref s3, .ref s4, .int 0, .int 0, .int 0, .int 0, .int 0, .int 0]))) (e_s1 : h s1 = some (.inl (10 + 6, 25, .inr (.inr (.inr (.inr (fun _ => none))))))) (n_sv_st : sv ≠ st) (n_v1_s1 : v1 ≠ s1) (hF : 1 ≤ F) (hL : 20 ≤ L) :
    xw_Met G m_Store_copyFrom F L 0 0 [.ref sv, .ref st] h (fun v h' => v = none ∧ FrO [sv, v1] h h') (fun _ _ => False) := by
  refine xw_Met.of rfl (by decide) (Nat.le_of_ble_eq_true rfl) ?_
  have r0 : FrO [sv, v1] h h := FrO.rf
  refine s_Store_copyFrom_0 ?_
  refine s_Store_copyFrom_2 (fun z => absurd z (by decide)) (fun z_1 => ?_)
  refine s_Store_copyFrom_8n (pending_a0 := some v2) (segments_a0 := some v3) (live_a0 := some v4) (pending_a1 := some s2) (segments_a1 := some s3) (live_a1 := some s4) e_sv e_st e_s1 (by unfold vp_in; decide) rfl e_v1 (by unfold vp_in; decide) ?_
  refine x_u1 (fun h_2 e_3 f_4 => ?_)
  have e_5 := (f_4 sv (xw_neC e_sv e_v1 (by simp))).trans e_sv
  have e_6 := (f_4 st (xw_neC e_st e_v1 (by simp))).trans e_st
  have e_7 := (f_4 s1 (Ne.symm n_v1_s1)).trans e_s1
  have r_8 := r0.up (by simp) f_4
  refine s_Store_copyFrom_2 (fun z => absurd z (by decide)) (fun z_9 => ?_)
  refine s_Store_copyFrom_8n (pending_a0 := some v2) (segments_a0 := some v3) (live_a0 := some v4) (pending_a1 := some s2) (segments_a1 := some s3) (live_a1 := some s4) e_5 e_6 e_7 (by unfold vp_in; decide) rfl e_3 (by unfold vp_in; decide) ?_
  refine x_u1 (fun h_10 e_11 f_12 => ?_)
  have e_13 := (f_12 sv (xw_neC e_5 e_3 (by simp))).trans e_5
  have e_14 := (f_12 st (xw_neC e_6 e_3 (by simp))).trans e_6
  have e_15 := (f_12 s1 (Ne.symm n_v1_s1)).trans e_7
  have r_16 := r_8.up (by simp) f_12
  refine s_Store_copyFrom_2 (fun z => absurd z (by decide)) (fun z_17 => ?_)
  refine s_Store_copyFrom_8n (pending_a0 := some v2) (segments_a0 := some v3) (live_a0 := some v4) (pending_a1 := some s2) (segments_a1 := some s3) (live_a1 := some s4) e_13 e_14 e_15 (by unfold vp_in; decide) rfl e_11 (by unfold vp_in; decide) ?_
  refine x_u1 (fun h_18 e_19 f_20 => ?_)
  have e_21 := (f_20 sv (xw_neC e_13 e_11 (by simp))).trans e_13
  have e_22 := (f_20 st (xw_neC e_14 e_11 (by simp))).trans e_14
  have e_23 := (f_20 s1 (Ne.symm n_v1_s1)).trans e_15
  have r_24 := r_16.up (by simp) f_20
  refine s_Store_copyFrom_2 (fun z => absurd z (by decide)) (fun z_25 => ?_)
  refine s_Store_copyFrom_8n (pending_a0 := some v2) (segments_a0 := some v3) (live_a0 := some v4) (pending_a1 := some s2) (segments_a1 := some s3) (live_a1 := some s4) e_21 e_22 e_23 (by unfold vp_in; decide) rfl e_19 (by unfold vp_in; decide) ?_
  refine x_u1 (fun h_26 e_27 f_28 => ?_)
  have e_29 := (f_28 sv (xw_neC e_21 e_19 (by simp))).trans e_21
  have e_30 := (f_28 st (xw_neC e_22 e_19 (by simp))).trans e_22
  have e_31 := (f_28 s1 (Ne.symm n_v1_s1)).trans e_23
  have r_32 := r_24.up (by simp) f_28
  refine s_Store_copyFrom_2 (fun z => absurd z (by decide)) (fun z_33 => ?_)
  refine s_Store_copyFrom_8n (pending_a0 := some v2) (segments_a0 := some v3) (live_a0 := some v4) (pending_a1 := some s2) (segments_a1 := some s3) (live_a1 := some s4) e_29 e_30 e_31 (by unfold vp_in; decide) rfl e_27 (by unfold vp_in; decide) ?_
  refine x_u1 (fun h_34 e_35 f_36 => ?_)
  have e_37 := (f_36 sv (xw_neC e_29 e_27 (by simp))).trans e_29
  have e_38 := (f_36 st (xw_neC e_30 e_27 (by simp))).trans e_30
  have e_39 := (f_36 s1 (Ne.symm n_v1_s1)).trans e_31
  have r_40 := r_32.up (by simp) f_36
  refine s_Store_copyFrom_2 (fun z => absurd z (by decide)) (fun z_41 => ?_)
  refine s_Store_copyFrom_8n (pending_a0 := some v2) (segments_a0 := some v3) (live_a0 := some v4) (pending_a1 := some s2) (segments_a1 := some s3) (live_a1 := some s4) e_37 e_38 e_39 (by unfold vp_in; decide) rfl e_35 (by unfold vp_in; decide) ?_
  refine x_u1 (fun h_42 e_43 f_44 => ?_)
  have e_45 := (f_44 sv (xw_neC e_37 e_35 (by simp))).trans e_37
  have e_46 := (f_44 st (xw_neC e_38 e_35 (by simp))).trans e_38
  have e_47 := (f_44 s1 (Ne.symm n_v1_s1)).trans e_39
  have r_48 := r_40.up (by simp) f_44
  refine s_Store_copyFrom_2 (fun z => absurd z (by decide)) (fun z_49 => ?_)
  refine s_Store_copyFrom_8n (pending_a0 := some v2) (segments_a0 := some v3) (live_a0 := some v4) (pending_a1 := some s2) (segments_a1 := some s3) (live_a1 := some s4) e_45 e_46 e_47 (by unfold vp_in; decide) rfl e_43 (by unfold vp_in; decide) ?_
  refine x_u1 (fun h_50 e_51 f_52 => ?_)
  have e_53 := (f_52 sv (xw_neC e_45 e_43 (by simp))).trans e_45
  have e_54 := (f_52 st (xw_neC e_46 e_43 (by simp))).trans e_46
  have e_55 := (f_52 s1 (Ne.symm n_v1_s1)).trans e_47
  have r_56 := r_48.up (by simp) f_52
  refine s_Store_copyFrom_2 (fun z => absurd z (by decide)) (fun z_57 => ?_)
  refine s_Store_copyFrom_8n (pending_a0 := some v2) (segments_a0 := some v3) (live_a0 := some v4) (pending_a1 := some s2) (segments_a1 := some s3) (live_a1 := some s4) e_53 e_54 e_55 (by unfold vp_in; decide) rfl e_51 (by unfold vp_in; decide) ?_
  refine x_u1 (fun h_58 e_59 f_60 => ?_)
  have e_61 := (f_60 sv (xw_neC e_53 e_51 (by simp))).trans e_53
  have e_62 := (f_60 st (xw_neC e_54 e_51 (by simp))).trans e_54
  have e_63 := (f_60 s1 (Ne.symm n_v1_s1)).trans e_55
  have r_64 := r_56.up (by simp) f_60
  refine s_Store_copyFrom_2 (fun z => absurd z (by decide)) (fun z_65 => ?_)
  refine s_Store_copyFrom_8n (pending_a0 := some v2) (segments_a0 := some v3) (live_a0 := some v4) (pending_a1 := some s2) (segments_a1 := some s3) (live_a1 := some s4) e_61 e_62 e_63 (by unfold vp_in; decide) rfl e_59 (by unfold vp_in; decide) ?_
  refine x_u1 (fun h_66 e_67 f_68 => ?_)
  have e_69 := (f_68 sv (xw_neC e_61 e_59 (by simp))).trans e_61
  have e_70 := (f_68 st (xw_neC e_62 e_59 (by simp))).trans e_62
  have e_71 := (f_68 s1 (Ne.symm n_v1_s1)).trans e_63
  have r_72 := r_64.up (by simp) f_68
  refine s_Store_copyFrom_2 (fun z => absurd z (by decide)) (fun z_73 => ?_)
  refine s_Store_copyFrom_8n (pending_a0 := some v2) (segments_a0 := some v3) (live_a0 := some v4) (pending_a1 := some s2) (segments_a1 := some s3) (live_a1 := some s4) e_69 e_70 e_71 (by unfold vp_in; decide) rfl e_67 (by unfold vp_in; decide) ?_
  refine x_u1 (fun h_74 e_75 f_76 => ?_)
  have e_77 := (f_76 sv (xw_neC e_69 e_67 (by simp))).trans e_69
  have e_78 := (f_76 st (xw_neC e_70 e_67 (by simp))).trans e_70
  have e_79 := (f_76 s1 (Ne.symm n_v1_s1)).trans e_71
  have r_80 := r_72.up (by simp) f_76
  refine s_Store_copyFrom_2 (fun z => absurd z (by decide)) (fun z_81 => ?_)
  refine s_Store_copyFrom_8n (pending_a0 := some v2) (segments_a0 := some v3) (live_a0 := some v4) (pending_a1 := some s2) (segments_a1 := some s3) (live_a1 := some s4) e_77 e_78 e_79 (by unfold vp_in; decide) rfl e_75 (by unfold vp_in; decide) ?_
  refine x_u1 (fun h_82 e_83 f_84 => ?_)
  have e_85 := (f_84 sv (xw_neC e_77 e_75 (by simp))).trans e_77
  have e_86 := (f_84 st (xw_neC e_78 e_75 (by simp))).trans e_78
  have e_87 := (f_84 s1 (Ne.symm n_v1_s1)).trans e_79
  have r_88 := r_80.up (by simp) f_84
  refine s_Store_copyFrom_2 (fun z => absurd z (by decide)) (fun z_89 => ?_)
  refine s_Store_copyFrom_8n (pending_a0 := some v2) (segments_a0 := some v3) (live_a0 := some v4) (pending_a1 := some s2) (segments_a1 := some s3) (live_a1 := some s4) e_85 e_86 e_87 (by unfold vp_in; decide) rfl e_83 (by unfold vp_in; decide) ?_
  refine x_u1 (fun h_90 e_91 f_92 => ?_)
  have e_93 := (f_92 sv (xw_neC e_85 e_83 (by simp))).trans e_85
  have e_94 := (f_92 st (xw_neC e_86 e_83 (by simp))).trans e_86
  have e_95 := (f_92 s1 (Ne.symm n_v1_s1)).trans e_87
  have r_96 := r_88.up (by simp) f_92
  refine s_Store_copyFrom_2 (fun z => absurd z (by decide)) (fun z_97 => ?_)
  refine s_Store_copyFrom_8n (pending_a0 := some v2) (segments_a0 := some v3) (live_a0 := some v4) (pending_a1 := some s2) (segments_a1 := some s3) (live_a1 := some s4) e_93 e_94 e_95 (by unfold vp_in; decide) rfl e_91 (by unfold vp_in; decide) ?_
  refine x_u1 (fun h_98 e_99 f_100 => ?_)
  have e_101 := (f_100 sv (xw_neC e_93 e_91 (by simp))).trans e_93
  have e_102 := (f_100 st (xw_neC e_94 e_91 (by simp))).trans e_94
  have e_103 := (f_100 s1 (Ne.symm n_v1_s1)).trans e_95
  have r_104 := r_96.up (by simp) f_100
  refine s_Store_copyFrom_2 (fun z => absurd z (by decide)) (fun z_105 => ?_)
  refine s_Store_copyFrom_8n (pending_a0 := some v2) (segments_a0 := some v3) (live_a0 := some v4) (pending_a1 := some s2) (segments_a1 := some s3) (live_a1 := some s4) e_101 e_102 e_103 (by unfold vp_in; decide) rfl e_99 (by unfold vp_in; decide) ?_
  refine x_u1 (fun h_106 e_107 f_108 => ?_)
  have e_109 := (f_108 sv (xw_neC e_101 e_99 (by simp))).trans e_101
  have e_110 := (f_108 st (xw_neC e_102 e_99 (by simp))).trans e_102
  have e_111 := (f_108 s1 (Ne.symm n_v1_s1)).trans e_103
  have r_112 := r_104.up (by simp) f_108
  refine s_Store_copyFrom_2 (fun z => absurd z (by decide)) (fun z_113 => ?_)
  refine s_Store_copyFrom_8n (pending_a0 := some v2) (segments_a0 := some v3) (live_a0 := some v4) (pending_a1 := some s2) (segments_a1 := some s3) (live_a1 := some s4) e_109 e_110 e_111 (by unfold vp_in; decide) rfl e_107 (by unfold vp_in; decide) ?_
  refine x_u1 (fun h_114 e_115 f_116 => ?_)
  have e_117 := (f_116 sv (xw_neC e_109 e_107 (by simp))).trans e_109
  have e_118 := (f_116 st (xw_neC e_110 e_107 (by simp))).trans e_110
  have e_119 := (f_116 s1 (Ne.symm n_v1_s1)).trans e_111
  have r_120 := r_112.up (by simp) f_116
  refine s_Store_copyFrom_2 (fun z => absurd z (by decide)) (fun z_121 => ?_)
  refine s_Store_copyFrom_8n (pending_a0 := some v2) (segments_a0 := some v3) (live_a0 := some v4) (pending_a1 := some s2) (segments_a1 := some s3) (live_a1 := some s4) e_117 e_118 e_119 (by unfold vp_in; decide) rfl e_115 (by unfold vp_in; decide) ?_
  refine x_u1 (fun h_122 e_123 f_124 => ?_)
  have e_125 := (f_124 sv (xw_neC e_117 e_115 (by simp))).trans e_117
  have e_126 := (f_124 st (xw_neC e_118 e_115 (by simp))).trans e_118
  have e_127 := (f_124 s1 (Ne.symm n_v1_s1)).trans e_119
  have r_128 := r_120.up (by simp) f_124
  refine s_Store_copyFrom_2 (fun z => absurd z (by decide)) (fun z_129 => ?_)
  refine s_Store_copyFrom_8n (pending_a0 := some v2) (segments_a0 := some v3) (live_a0 := some v4) (pending_a1 := some s2) (segments_a1 := some s3) (live_a1 := some s4) e_125 e_126 e_127 (by unfold vp_in; decide) rfl e_123 (by unfold vp_in; decide) ?_
  refine x_u1 (fun h_130 e_131 f_132 => ?_)
  have e_133 := (f_132 sv (xw_neC e_125 e_123 (by simp))).trans e_125
  have e_134 := (f_132 st (xw_neC e_126 e_123 (by simp))).trans e_126
  have e_135 := (f_132 s1 (Ne.symm n_v1_s1)).trans e_127
  have r_136 := r_128.up (by simp) f_132
  refine s_Store_copyFrom_2 (fun z => absurd z (by decide)) (fun z_137 => ?_)
  refine s_Store_copyFrom_8n (pending_a0 := some v2) (segments_a0 := some v3) (live_a0 := some v4) (pending_a1 := some s2) (segments_a1 := some s3) (live_a1 := some s4) e_133 e_134 e_135 (by unfold vp_in; decide) rfl e_131 (by unfold vp_in; decide) ?_
  refine x_u1 (fun h_138 e_139 f_140 => ?_)
  have e_141 := (f_140 sv (xw_neC e_133 e_131 (by simp))).trans e_133
  have e_142 := (f_140 st (xw_neC e_134 e_131 (by simp))).trans e_134
  have e_143 := (f_140 s1 (Ne.symm n_v1_s1)).trans e_135
  have r_144 := r_136.up (by simp) f_140
  refine s_Store_copyFrom_2 (fun z => absurd z (by decide)) (fun z_145 => ?_)
  refine s_Store_copyFrom_8n (pending_a0 := some v2) (segments_a0 := some v3) (live_a0 := some v4) (pending_a1 := some s2) (segments_a1 := some s3) (live_a1 := some s4) e_141 e_142 e_143 (by unfold vp_in; decide) rfl e_139 (by unfold vp_in; decide) ?_
  refine x_u1 (fun h_146 e_147 f_148 => ?_)
  have e_149 := (f_148 sv (xw_neC e_141 e_139 (by simp))).trans e_141
  have e_150 := (f_148 st (xw_neC e_142 e_139 (by simp))).trans e_142
  have e_151 := (f_148 s1 (Ne.symm n_v1_s1)).trans e_143
  have r_152 := r_144.up (by simp) f_148
  refine s_Store_copyFrom_2 (fun z => absurd z (by decide)) (fun z_153 => ?_)
  refine s_Store_copyFrom_8n (pending_a0 := some v2) (segments_a0 := some v3) (live_a0 := some v4) (pending_a1 := some s2) (segments_a1 := some s3) (live_a1 := some s4) e_149 e_150 e_151 (by unfold vp_in; decide) rfl e_147 (by unfold vp_in; decide) ?_
  refine x_u1 (fun h_154 e_155 f_156 => ?_)
  have e_157 := (f_156 sv (xw_neC e_149 e_147 (by simp))).trans e_149
  have e_158 := (f_156 st (xw_neC e_150 e_147 (by simp))).trans e_150
  have e_159 := (f_156 s1 (Ne.symm n_v1_s1)).trans e_151
  have r_160 := r_152.up (by simp) f_156
  refine s_Store_copyFrom_2 (fun z => absurd z (by decide)) (fun z_161 => ?_)
  refine s_Store_copyFrom_8n (pending_a0 := some v2) (segments_a0 := some v3) (live_a0 := some v4) (pending_a1 := some s2) (segments_a1 := some s3) (live_a1 := some s4) e_157 e_158 e_159 (by unfold vp_in; decide) rfl e_155 (by unfold vp_in; decide) ?_
  refine x_u1 (fun h_162 e_163 f_164 => ?_)
  have e_165 := (f_164 sv (xw_neC e_157 e_155 (by simp))).trans e_157
  have e_166 := (f_164 st (xw_neC e_158 e_155 (by simp))).trans e_158
  have e_167 := (f_164 s1 (Ne.symm n_v1_s1)).trans e_159
  have r_168 := r_160.up (by simp) f_164
  refine s_Store_copyFrom_2 (fun z => absurd z (by decide)) (fun z_169 => ?_)
  refine s_Store_copyFrom_8n (pending_a0 := some v2) (segments_a0 := some v3) (live_a0 := some v4) (pending_a1 := some s2) (segments_a1 := some s3) (live_a1 := some s4) e_165 e_166 e_167 (by unfold vp_in; decide) rfl e_163 (by unfold vp_in; decide) ?_
  refine x_u1 (fun h_170 e_171 f_172 => ?_)
  have e_173 := (f_172 sv (xw_neC e_165 e_163 (by simp))).trans e_165
  have e_174 := (f_172 st (xw_neC e_166 e_163 (by simp))).trans e_166
  have e_175 := (f_172 s1 (Ne.symm n_v1_s1)).trans e_167
  have r_176 := r_168.up (by simp) f_172
  refine s_Store_copyFrom_2 (fun z => absurd z (by decide)) (fun z_177 => ?_)
  refine s_Store_copyFrom_8n (pending_a0 := some v2) (segments_a0 := some v3) (live_a0 := some v4) (pending_a1 := some s2) (segments_a1 := some s3) (live_a1 := some s4) e_173 e_174 e_175 (by unfold vp_in; decide) rfl e_171 (by unfold vp_in; decide) ?_
  refine x_u1 (fun h_178 e_179 f_180 => ?_)
  have e_181 := (f_180 sv (xw_neC e_173 e_171 (by simp))).trans e_173
  have e_182 := (f_180 st (xw_neC e_174 e_171 (by simp))).trans e_174
  have e_183 := (f_180 s1 (Ne.symm n_v1_s1)).trans e_175
  have r_184 := r_176.up (by simp) f_180
  refine s_Store_copyFrom_2 (fun z => absurd z (by decide)) (fun z_185 => ?_)
  refine s_Store_copyFrom_8n (pending_a0 := some v2) (segments_a0 := some v3) (live_a0 := some v4) (pending_a1 := some s2) (segments_a1 := some s3) (live_a1 := some s4) e_181 e_182 e_183 (by unfold vp_in; decide) rfl e_179 (by unfold vp_in; decide) ?_
  refine x_u1 (fun h_186 e_187 f_188 => ?_)
  have e_189 := (f_188 sv (xw_neC e_181 e_179 (by simp))).trans e_181
  have e_190 := (f_188 st (xw_neC e_182 e_179 (by simp))).trans e_182
  have e_191 := (f_188 s1 (Ne.symm n_v1_s1)).trans e_183
  have r_192 := r_184.up (by simp) f_188
  refine s_Store_copyFrom_2 (fun z_193 => ?_) (fun z => absurd z (by decide))
  refine s_Store_copyFrom_26 (rows_a1 := some s1) (pending_a1 := some s2) (segments_a1 := some s3) (live_a1 := some s4) (rows_a0 := some v1) (pending_a0 := some v2) (segments_a0 := some v3) (live_a0 := some v4) e_190 e_189 ?_
  refine x_u1 (fun h_194 e_195 f_196 => ?_)
  have e_197 := (f_196 v1 (xw_neC e_187 e_189 (by simp))).trans e_187
  have e_198 := (f_196 st (Ne.symm n_sv_st)).trans e_190
  have e_199 := (f_196 s1 (xw_neC e_191 e_189 (by simp))).trans e_191
  have r_200 := r_192.up (by simp) f_196
  refine s_Store_copyFrom_36 (rows_a0 := some v1) (pending_a0 := some v2) (segments_a0 := some v3) (live_a0 := some v4) e_195 (fun z_201 => ?_) (fun z => absurd z (by decide))
  refine s_Store_copyFrom_62 (rows_a1 := some s1) (pending_a1 := some s2) (segments_a1 := some s3) (live_a1 := some s4) (rows_a0 := some v1) (pending_a0 := some v2) (segments_a0 := some v3) (live_a0 := some v4) e_198 e_195 (Ne.symm n_sv_st) ?_
  rw [xw_up_up]
  refine x_u1 (fun h_202 e_203 f_204 => ?_)
  have e_205 := (f_204 v1 (xw_neC e_197 e_195 (by simp))).trans e_197
  have e_206 := (f_204 st (Ne.symm n_sv_st)).trans e_198
  have e_207 := (f_204 s1 (xw_neC e_199 e_195 (by simp))).trans e_199
  have r_208 := r_200.up (by simp) f_204
  refine s_Store_copyFrom_80 (rows_a0 := some v1) (pending_a0 := some v2) (segments_a0 := some v3) (live_a0 := some v4) e_203 (fun z_209 => ?_) (fun z => absurd z (by decide))
  refine s_Store_copyFrom_106 ?_
  exact ⟨rfl, r_208⟩
