/-! ONE CALL ON A FRESH OBJECT: THE CLASS: by program (wip/tools/p1l.py) -/
theorem col2 {x : Int32} (h : 1 < x) : 2 ≤ x := by
  rw [Int32.lt_iff_toInt_lt] at h
  rw [Int32.le_iff_toInt_le]
  have h1 : (1 : Int32).toInt = 1 := rfl
  have h2 : (2 : Int32).toInt = 2 := rfl
  omega
theorem row_in {x : Int32} (h1 : ¬ x < 1) (h2 : ¬ 24 < x) : vp_in x 25 := by
  obtain ⟨j, a, b, rfl⟩ := ix_of (a := 1) (b := 24) (by decide) (by decide) h1 h2
  exact vp_in_nI (by omega) (by decide)
theorem FrO.over {A : List Nat} {h h0 h1 h2 : xw_A} {a : Nat} (r0 : FrO A h h0) (hz : h0 a = none) (hn : a ∉ A) (r : FrO A h h1) (r2 : FrO [a] h1 h2) : FrO A h h2 :=
  fun q e hq he => r2 q e (by
    simp only [List.mem_cons, List.not_mem_nil, or_false]
    intro z
    have h9 := r0 q e hq he
    rw [z, hz] at h9
    cases h9) (r q e hq he)
theorem th_Shelf_81_198_85 : xw_th "PhraseShelf" 81 198 85 "java/lang/IndexOutOfBoundsException" "no such answer" ["java/lang/RuntimeException", "java/lang/Exception"] :=
  ⟨xw_in 469 (by decide +kernel) rfl, xw_in 15 (by decide +kernel) rfl, List.mem_of_getElem? (i := 1025) (by decide +kernel), by decide +kernel, by decide +kernel, by decide +kernel⟩
theorem th_Shelf_71_168_75 : xw_th "PhraseShelf" 71 168 75 "java/lang/IllegalArgumentException" "the draft is no question" ["java/lang/RuntimeException", "java/lang/Exception"] :=
  ⟨xw_in 400 (by decide +kernel) rfl, xw_in 14 (by decide +kernel) rfl, List.mem_of_getElem? (i := 909) (by decide +kernel), by decide +kernel, by decide +kernel, by decide +kernel⟩
theorem th_Shelf_136_138_140 : xw_th "PhraseShelf" 136 138 140 "java/lang/IllegalStateException" "a transaction is open" ["java/lang/RuntimeException", "java/lang/Exception"] :=
  ⟨xw_in 622 (by decide +kernel) rfl, xw_in 19 (by decide +kernel) rfl, List.mem_of_getElem? (i := 631) (by decide +kernel), by decide +kernel, by decide +kernel, by decide +kernel⟩
theorem th_Shelf_136_145_140 : xw_th "PhraseShelf" 136 145 140 "java/lang/IllegalStateException" "no transaction is open" ["java/lang/RuntimeException", "java/lang/Exception"] :=
  ⟨xw_in 622 (by decide +kernel) rfl, xw_in 19 (by decide +kernel) rfl, List.mem_of_getElem? (i := 649) (by decide +kernel), by decide +kernel, by decide +kernel, by decide +kernel⟩
theorem th_Shelf_71_250_75 : xw_th "PhraseShelf" 71 250 75 "java/lang/IllegalArgumentException" "nothing counted has that number" ["java/lang/RuntimeException", "java/lang/Exception"] :=
  ⟨xw_in 400 (by decide +kernel) rfl, xw_in 14 (by decide +kernel) rfl, List.mem_of_getElem? (i := 1061) (by decide +kernel), by decide +kernel, by decide +kernel, by decide +kernel⟩
theorem th_Shelf_119_121_123 : xw_th "PhraseShelf" 119 121 123 "java/util/NoSuchElementException" "no such row" ["java/lang/RuntimeException", "java/lang/Exception"] :=
  ⟨xw_in 583 (by decide +kernel) rfl, xw_in 18 (by decide +kernel) rfl, List.mem_of_getElem? (i := 592) (by decide +kernel), by decide +kernel, by decide +kernel, by decide +kernel⟩
theorem th_Shelf_81_109_85 : xw_th "PhraseShelf" 81 109 85 "java/lang/IndexOutOfBoundsException" "all rows are taken" ["java/lang/RuntimeException", "java/lang/Exception"] :=
  ⟨xw_in 469 (by decide +kernel) rfl, xw_in 15 (by decide +kernel) rfl, List.mem_of_getElem? (i := 519) (by decide +kernel), by decide +kernel, by decide +kernel, by decide +kernel⟩
theorem th_Shelf_71_73_75 : xw_th "PhraseShelf" 71 73 75 "java/lang/IllegalArgumentException" "no letter, or an octet that is none" ["java/lang/RuntimeException", "java/lang/Exception"] :=
  ⟨xw_in 400 (by decide +kernel) rfl, xw_in 14 (by decide +kernel) rfl, List.mem_of_getElem? (i := 442) (by decide +kernel), by decide +kernel, by decide +kernel, by decide +kernel⟩
theorem th_Shelf_81_83_85 : xw_th "PhraseShelf" 81 83 85 "java/lang/IndexOutOfBoundsException" "the draft is full" ["java/lang/RuntimeException", "java/lang/Exception"] :=
  ⟨xw_in 469 (by decide +kernel) rfl, xw_in 15 (by decide +kernel) rfl, List.mem_of_getElem? (i := 478) (by decide +kernel), by decide +kernel, by decide +kernel, by decide +kernel⟩
theorem th_Shelf_71_221_75 : xw_th "PhraseShelf" 71 221 75 "java/lang/IllegalArgumentException" "nothing of a row has that number" ["java/lang/RuntimeException", "java/lang/Exception"] :=
  ⟨xw_in 400 (by decide +kernel) rfl, xw_in 14 (by decide +kernel) rfl, List.mem_of_getElem? (i := 1044) (by decide +kernel), by decide +kernel, by decide +kernel, by decide +kernel⟩
theorem th_Shelf_81_223_85 : xw_th "PhraseShelf" 81 223 85 "java/lang/IndexOutOfBoundsException" "no such segment" ["java/lang/RuntimeException", "java/lang/Exception"] :=
  ⟨xw_in 469 (by decide +kernel) rfl, xw_in 15 (by decide +kernel) rfl, List.mem_of_getElem? (i := 1052) (by decide +kernel), by decide +kernel, by decide +kernel, by decide +kernel⟩
theorem th_Shelf_71_239_75 : xw_th "PhraseShelf" 71 239 75 "java/lang/IllegalArgumentException" "nothing of a segment has that number" ["java/lang/RuntimeException", "java/lang/Exception"] :=
  ⟨xw_in 400 (by decide +kernel) rfl, xw_in 14 (by decide +kernel) rfl, List.mem_of_getElem? (i := 1053) (by decide +kernel), by decide +kernel, by decide +kernel, by decide +kernel⟩
theorem th_Shelf_71_94_75 : xw_th "PhraseShelf" 71 94 75 "java/lang/IllegalArgumentException" "no such column" ["java/lang/RuntimeException", "java/lang/Exception"] :=
  ⟨xw_in 400 (by decide +kernel) rfl, xw_in 14 (by decide +kernel) rfl, List.mem_of_getElem? (i := 495) (by decide +kernel), by decide +kernel, by decide +kernel, by decide +kernel⟩
theorem th_Shelf_81_96_85 : xw_th "PhraseShelf" 81 96 85 "java/lang/IndexOutOfBoundsException" "the draft is too long for a text" ["java/lang/RuntimeException", "java/lang/Exception"] :=
  ⟨xw_in 469 (by decide +kernel) rfl, xw_in 15 (by decide +kernel) rfl, List.mem_of_getElem? (i := 496) (by decide +kernel), by decide +kernel, by decide +kernel, by decide +kernel⟩
theorem th_Shelf_71_159_75 : xw_th "PhraseShelf" 71 159 75 "java/lang/IllegalArgumentException" "most or limit is out of range" ["java/lang/RuntimeException", "java/lang/Exception"] :=
  ⟨xw_in 400 (by decide +kernel) rfl, xw_in 14 (by decide +kernel) rfl, List.mem_of_getElem? (i := 668) (by decide +kernel), by decide +kernel, by decide +kernel, by decide +kernel⟩
theorem th_Shelf_71_161_75 : xw_th "PhraseShelf" 71 161 75 "java/lang/IllegalArgumentException" "column or weight is out of range" ["java/lang/RuntimeException", "java/lang/Exception"] :=
  ⟨xw_in 400 (by decide +kernel) rfl, xw_in 14 (by decide +kernel) rfl, List.mem_of_getElem? (i := 676) (by decide +kernel), by decide +kernel, by decide +kernel, by decide +kernel⟩
set_option maxHeartbeats 1000000 in
theorem fc_isCol_no {G : xw_G} {F L : Nat} {h : xw_A} {x : Int32}  (hn : x < 0 ∨ 1 < x) (hF : 1 ≤ F) (hL : 20 ≤ L) :
    xw_Met G m_Shelf_isColumn F L 0 0 [.int x] h (fun v h' => v = some (.int 0) ∧ FrO [] h h') (fun _ _ => False) := by
  refine xw_Met.of rfl (by decide) (Nat.le_of_ble_eq_true rfl) ?_
  have r0 : FrO [] h h := FrO.rf
  refine s_Shelf_isColumn_0 (fun z_1 => ?_) (fun z_2 => ?_)
  · skip
    refine s_Shelf_isColumn_13 ?_
    refine s_Shelf_isColumn_14 rfl ?_
    exact ⟨rfl, r0⟩
  · skip
    refine s_Shelf_isColumn_4 (fun z_3 => ?_) (fun z => by rcases hn with q | q; exacts [absurd q z_2, absurd (col2 q) z])
    refine s_Shelf_isColumn_13 ?_
    refine s_Shelf_isColumn_14 rfl ?_
    exact ⟨rfl, r0⟩
set_option maxHeartbeats 1000000 in
theorem fc_isCol_0 {G : xw_G} {F L : Nat} {h : xw_A}  (hF : 1 ≤ F) (hL : 20 ≤ L) :
    xw_Met G m_Shelf_isColumn F L 0 0 [.int 0] h (fun v h' => v = some (.int 1) ∧ FrO [] h h') (fun _ _ => False) := by
  refine xw_Met.of rfl (by decide) (Nat.le_of_ble_eq_true rfl) ?_
  have r0 : FrO [] h h := FrO.rf
  refine s_Shelf_isColumn_0 (fun z => absurd z (by decide)) (fun z_1 => ?_)
  refine s_Shelf_isColumn_4 (fun z => absurd z (by decide)) (fun z_2 => ?_)
  refine s_Shelf_isColumn_9 ?_
  refine s_Shelf_isColumn_14 rfl ?_
  exact ⟨rfl, r0⟩
set_option maxHeartbeats 1000000 in
theorem fc_isCol_1 {G : xw_G} {F L : Nat} {h : xw_A}  (hF : 1 ≤ F) (hL : 20 ≤ L) :
    xw_Met G m_Shelf_isColumn F L 0 0 [.int 1] h (fun v h' => v = some (.int 1) ∧ FrO [] h h') (fun _ _ => False) := by
  refine xw_Met.of rfl (by decide) (Nat.le_of_ble_eq_true rfl) ?_
  have r0 : FrO [] h h := FrO.rf
  refine s_Shelf_isColumn_0 (fun z => absurd z (by decide)) (fun z_1 => ?_)
  refine s_Shelf_isColumn_4 (fun z => absurd z (by decide)) (fun z_2 => ?_)
  refine s_Shelf_isColumn_9 ?_
  refine s_Shelf_isColumn_14 rfl ?_
  exact ⟨rfl, r0⟩
set_option maxHeartbeats 1000000 in
theorem fc_drop {G : xw_G} {F L : Nat} {h : xw_A} {x d tx w st sv qo so ao : Nat} (e_x : h x = some (.inr (0, [.ref d, .ref tx, .ref w, .ref st, .ref sv, .ref qo, .ref so, .ref ao, .int 0, .int 3, .int 20, .int 0, .int (-1), .int 0]))) (hF : 1 ≤ F) (hL : 20 ≤ L) :
    xw_Met G m_Shelf_drop F L 0 0 [.ref x] h (fun v h' => v = some (.int 0) ∧ FrO [x] h h') (fun _ _ => False) := by
  refine xw_Met.of rfl (by decide) (Nat.le_of_ble_eq_true rfl) ?_
  have r0 : FrO [x] h h := FrO.rf
  refine s_Shelf_drop_0 (draft_a0 := some d) (texts_a0 := some tx) (weights_a0 := some w) (store_a0 := some st) (saved_a0 := some sv) (question_a0 := some qo) (standing_a0 := some so) (answers_a0 := some ao) e_x ?_
  obtain ⟨h_1, z_4⟩ : ∃ z, z = xw_up h x (.inr (0, [va_rf (some d), va_rf (some tx), va_rf (some w), va_rf (some st), va_rf (some sv), va_rf (some qo), va_rf (some so), va_rf (some ao), .int 0, .int 3, .int 20, .int 0, .int (-1), .int 0])) := ⟨_, rfl⟩
  rw [← z_4]
  have e_2 : h_1 x = some (.inr (0, [va_rf (some d), va_rf (some tx), va_rf (some w), va_rf (some st), va_rf (some sv), va_rf (some qo), va_rf (some so), va_rf (some ao), .int 0, .int 3, .int 20, .int 0, .int (-1), .int 0])) := by rw [z_4]; exact xw_up_s _ _ _
  have f_3 : ∀ q, q ≠ x → h_1 q = h q := fun q hq => by rw [z_4]; exact xw_up_n _ _ hq
  clear z_4
  have r_5 := r0.up (by simp) f_3
  exact ⟨rfl, r_5⟩
set_option maxHeartbeats 1000000 in
theorem fc_wrong {G : xw_G} {F L : Nat} {h : xw_A} {x d tx w st sv qo so ao : Nat} (e_x : h x = some (.inr (0, [.ref d, .ref tx, .ref w, .ref st, .ref sv, .ref qo, .ref so, .ref ao, .int 0, .int 3, .int 20, .int 0, .int (-1), .int 0]))) (hF : 1 ≤ F) (hL : 20 ≤ L) :
    xw_Met G m_Shelf_wrong F L 0 0 [.ref x] h (fun v h' => v = some (.int (-1)) ∧ FrO [] h h') (fun _ _ => False) := by
  refine xw_Met.of rfl (by decide) (Nat.le_of_ble_eq_true rfl) ?_
  have r0 : FrO [] h h := FrO.rf
  refine s_Shelf_wrong_0 (draft_a0 := some d) (texts_a0 := some tx) (weights_a0 := some w) (store_a0 := some st) (saved_a0 := some sv) (question_a0 := some qo) (standing_a0 := some so) (answers_a0 := some ao) e_x ?_
  exact ⟨rfl, r0⟩
set_option maxHeartbeats 1000000 in
theorem fc_set_no {G : xw_G} {F L : Nat} {h : xw_A} {c : Int32} {x d tx w st sv qo so ao : Nat} (e_x : h x = some (.inr (0, [.ref d, .ref tx, .ref w, .ref st, .ref sv, .ref qo, .ref so, .ref ao, .int 0, .int 3, .int 20, .int 0, .int (-1), .int 0]))) (hn : c < 0 ∨ 1 < c) (hF : 6 ≤ F) (hL : 90 ≤ L) :
    xw_Met G m_Shelf_set F L 1 6 [.ref x, .int c] h (fun v h' => False) (fun E h' => E = "java/lang/IllegalArgumentException" ∧ FrO [x] h h') := by
  refine xw_Met.of rfl (by decide) (Nat.le_of_ble_eq_true rfl) ?_
  have r0 : FrO [x] h h := FrO.rf
  refine s_Shelf_set_0 ?_
  refine x_callS (As := [.int c]) (rest := []) (F1 := 1) (L1 := 20) (mc := 0) (ms := 0) d_Shelf_set_1 cS_Shelf_90 (fc_isCol_no  hn (by omega) (by omega)) ⟨by omega, by show 8 + (1 + 11) + 20 ≤ _; omega⟩ ⟨by omega, by omega⟩ (Nat.le_of_ble_eq_true rfl) (fun v_3 h_2 p_4 => ?_)
  obtain ⟨rfl, fr_1⟩ := p_4
  have e_5 := fr_1 x _ (by simp) e_x
  have r_6 := r0.trans (fr_1.mono (by simp))
  refine s_Shelf_set_4 (fun z => absurd z (by decide)) (fun z_7 => ?_)
  refine x_throw rfl th_Shelf_71_94_75 d_Shelf_set_7 d_Shelf_set_10 d_Shelf_set_11 d_Shelf_set_13 d_Shelf_set_16 ⟨by show 2 + 3 < _; omega, by show 0 + (13 * (2 + 1) + 43) ≤ _; omega⟩ ⟨by omega, by omega⟩ ?_
  exact ⟨rfl, r_6⟩
set_option maxHeartbeats 400000 in
theorem fc_tok0 {G : xw_G} {F L : Nat} {h : xw_A} {a : Nat} (e_a : h a = some (.inr (9, [.null, .null, .int 0]))) (hF : 1 ≤ F) (hL : 20 ≤ L) :
    xw_Met G m_Tokens_init F L 2 1 [.ref a, .int 0] h (fun v h' => v = none ∧ ∃ l z : Nat, h' a = some (.inr (9, [.ref l, .ref z, .int 0])) ∧ FrO [a] h h') (fun _ _ => False) := by
  refine xw_Met.of rfl (by decide) (Nat.le_of_ble_eq_true rfl) ?_
  have r0 : FrO [a] h h := FrO.rf
  refine s_Tokens_init_0 (letters_a0 := none) (starts_a0 := none) ⟨by omega, by omega⟩ (by decide) (by decide) (by decide) e_a (by decide) (by decide) (by decide) (fun q_1 z_2 q_3 z_4 => ?_)
  have n_5 : q_1 ≠ a := Ne.symm (xw_neN e_a z_2)
  obtain ⟨n_7, y_6⟩ := xw_upN z_4
  obtain ⟨n_9, y_8⟩ := xw_upN y_6
  have n_10 : q_3 ≠ a := Ne.symm (xw_neN e_a y_8)
  refine x_u4 (fun h_11 e_12 f_13 h_14 e_15 f_16 h_17 e_18 f_19 h_20 e_21 f_22 => ?_)
  have e_23 := (f_13 a (Ne.symm n_5)).trans e_a
  have r_24 := r0.new z_2 (by simp only [List.mem_cons, List.not_mem_nil, or_false, not_or]; exact n_5) f_13
  have e_25 := (f_16 q_1 n_5).trans e_12
  have r_26 := r_24.up (by simp) f_16
  have e_27 := (f_19 a (Ne.symm n_10)).trans e_15
  have e_28 := (f_19 q_1 (Ne.symm n_9)).trans e_25
  have r_29 := r_26.new y_8 (by simp only [List.mem_cons, List.not_mem_nil, or_false, not_or]; exact n_10) f_19
  have e_30 := (f_22 q_1 n_5).trans e_28
  have e_31 := (f_22 q_3 n_10).trans e_18
  have r_32 := r_29.up (by simp) f_22
  refine s_Tokens_init_24 ?_
  exact ⟨rfl, q_1, q_3, e_21, r_32⟩
set_option maxHeartbeats 400000 in
theorem fc_gather0 {G : xw_G} {F L : Nat} {h : xw_A} {t0 d : Nat} (hF : 1 ≤ F) (hL : 20 ≤ L) :
    xw_Met G m_Tokens_gather F L 0 0 [.ref t0, .ref d, .int 0, .int 0] h (fun v h' => v = none ∧ FrO [] h h') (fun _ _ => False) := by
  refine xw_Met.of rfl (by decide) (Nat.le_of_ble_eq_true rfl) ?_
  have r0 : FrO [] h h := FrO.rf
  refine s_Tokens_gather_0 ?_
  refine s_Tokens_gather_6 (fun z_1 => ?_) (fun z => absurd z (by decide))
  refine s_Tokens_gather_98 ?_
  exact ⟨rfl, r0⟩
