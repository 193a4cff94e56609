/-! ONE CALL ON A FRESH OBJECT: THE CLASS: by program (wip/tools/p1l.py) -/
set_option maxHeartbeats 1000000 in
theorem fc_begin {G : xw_G} {F L : Nat} {h : xw_A} {x d tx w st sv qo so ao v1 v2 v3 v4 s1 s2 s3 s4 : Nat} (e_x : h x = some (.inr (0, [.ref d, .ref tx, .ref w, .ref st, .ref sv, .ref qo, .ref so, .ref ao, .int 0, .int 3, .int 20, .int 0, .int (-1), .int 0]))) (e_sv : h sv = some (.inr (8, [.ref v1, .ref v2, .ref v3, .ref v4, .int 0, .int 0, .int 0, .int 0, .int 0, .int 0]))) (e_v1 : h v1 = some (.inl (10 + 6, 25, .inr (.inr (.inr (.inr (fun _ => none))))))) (e_st : h st = some (.inr (8, [.ref s1, .ref s2, .ref s3, .ref s4, .int 0, .int 0, .int 0, .int 0, .int 0, .int 0]))) (e_s1 : h s1 = some (.inl (10 + 6, 25, .inr (.inr (.inr (.inr (fun _ => none))))))) (n_sv_st : sv ≠ st) (n_v1_s1 : v1 ≠ s1) (hF : 2 ≤ F) (hL : 42 ≤ L) :
    xw_Met G m_Shelf_begin F L 0 0 [.ref x] h (fun v h' => v = none ∧ FrO [x, sv, v1] h h') (fun _ _ => False) := by
  refine xw_Met.of rfl (by decide) (Nat.le_of_ble_eq_true rfl) ?_
  have r0 : FrO [x, sv, v1] h h := FrO.rf
  refine s_Shelf_begin_0 (draft_a0 := some d) (texts_a0 := some tx) (weights_a0 := some w) (store_a0 := some st) (saved_a0 := some sv) (question_a0 := some qo) (standing_a0 := some so) (answers_a0 := some ao) e_x (fun z_1 => ?_) (fun z => absurd z (by decide))
  refine s_Shelf_begin_17 (draft_a0 := some d) (texts_a0 := some tx) (weights_a0 := some w) (store_a0 := some st) (saved_a0 := some sv) (question_a0 := some qo) (standing_a0 := some so) (answers_a0 := some ao) e_x ?_
  refine x_callV (As := [.ref st]) (b := sv) (rest := []) (F1 := 1) (L1 := 20) (mc := 0) (ms := 0) d_Shelf_begin_25 cV_Shelf_141 (fc_copy  e_sv e_v1 e_st e_s1 n_sv_st n_v1_s1 (by omega) (by omega)) e_sv ⟨by decide, rfl⟩ ⟨by omega, by show 8 + (3 + 11) + 20 ≤ _; omega⟩ ⟨by omega, by omega⟩ (Nat.le_of_ble_eq_true rfl) (fun v_4 h_3 p_5 => ?_)
  obtain ⟨rfl, fr_2⟩ := p_5
  have e_6 := fr_2 x _ (by simp only [List.mem_cons, List.not_mem_nil, or_false, not_or]; exact ⟨(xw_neC e_x e_sv (by simp)), (xw_neC e_x e_v1 (by simp))⟩) e_x
  have e_7 := fr_2 st _ (by simp only [List.mem_cons, List.not_mem_nil, or_false, not_or]; exact ⟨(Ne.symm n_sv_st), (xw_neC e_st e_v1 (by simp))⟩) e_st
  have e_8 := fr_2 s1 _ (by simp only [List.mem_cons, List.not_mem_nil, or_false, not_or]; exact ⟨(xw_neC e_s1 e_sv (by simp)), (Ne.symm n_v1_s1)⟩) e_s1
  have r_9 := r0.trans (fr_2.mono (by simp))
  refine s_Shelf_begin_28 (draft_a0 := some d) (texts_a0 := some tx) (weights_a0 := some w) (store_a0 := some st) (saved_a0 := some sv) (question_a0 := some qo) (standing_a0 := some so) (answers_a0 := some ao) e_6 ?_
  obtain ⟨h_10, z_13⟩ : ∃ z, z = xw_up h_3 x (.inr (0, [va_rf (some d), va_rf (some tx), va_rf (some w), va_rf (some st), va_rf (some sv), va_rf (some qo), va_rf (some so), va_rf (some ao), .int 0, .int 3, .int 20, .int 1, .int (-1), .int 0])) := ⟨_, rfl⟩
  rw [← z_13]
  have e_11 : h_10 x = some (.inr (0, [va_rf (some d), va_rf (some tx), va_rf (some w), va_rf (some st), va_rf (some sv), va_rf (some qo), va_rf (some so), va_rf (some ao), .int 0, .int 3, .int 20, .int 1, .int (-1), .int 0])) := by rw [z_13]; exact xw_up_s _ _ _
  have f_12 : ∀ q, q ≠ x → h_10 q = h_3 q := fun q hq => by rw [z_13]; exact xw_up_n _ _ hq
  clear z_13
  have e_14 := (f_12 st (xw_neC e_7 e_6 (by simp))).trans e_7
  have e_15 := (f_12 s1 (xw_neC e_8 e_6 (by simp))).trans e_8
  have r_16 := r_9.up (by simp) f_12
  exact ⟨rfl, r_16⟩
set_option maxHeartbeats 1000000 in
theorem fc_blanks {G : xw_G} {F L : Nat} {h : xw_A} {po k1 k2 k3 d : Nat} (e_po : h po = some (.inr (3, [.ref k1, .ref k2, .ref k3, .ref d, .int 0]))) (hF : 1 ≤ F) (hL : 20 ≤ L) :
    xw_Met G m_Parts_blanksEnd F L 0 0 [.ref po, .int 0] h (fun v h' => v = some (.int 0) ∧ FrO [] h h') (fun _ _ => False) := by
  refine xw_Met.of rfl (by decide) (Nat.le_of_ble_eq_true rfl) ?_
  have r0 : FrO [] h h := FrO.rf
  refine s_Parts_blanksEnd_0 ?_
  refine s_Parts_blanksEnd_2 (kinds_a0 := some k1) (starts_a0 := some k2) (ends_a0 := some k3) (letters_a0 := some d) e_po (fun z_1 => ?_) (fun z => absurd z (by decide))
  refine s_Parts_blanksEnd_27 ?_
  exact ⟨rfl, r0⟩
set_option maxHeartbeats 1000000 in
theorem fc_readPart {G : xw_G} {F L : Nat} {h : xw_A} {fy : Nat → Int32} {po k1 k2 k3 d : Nat} (e_po : h po = some (.inr (3, [.ref k1, .ref k2, .ref k3, .ref d, .int 0]))) (e_k1 : h k1 = some (.inl (0, 97, .inl (fun _ => 0)))) (e_k2 : h k2 = some (.inl (0, 97, .inl fy))) (e_k3 : h k3 = some (.inl (0, 97, .inl (fun _ => 0)))) (n_k1_k2 : k1 ≠ k2) (n_k1_k3 : k1 ≠ k3) (n_k2_k3 : k2 ≠ k3) (hy : fy 0 = 0) (hF : 1 ≤ F) (hL : 20 ≤ L) :
    xw_Met G m_Parts_readPart F L 0 0 [.ref po, .int 0] h (fun v h' => v = none ∧ (∃ fk fy fz : Nat → Int32, fk 0 = 0 ∧ h' k1 = some (.inl (0, 97, .inl fk)) ∧ h' k2 = some (.inl (0, 97, .inl fy)) ∧ h' k3 = some (.inl (0, 97, .inl fz))) ∧ FrO [k1, k3] h h') (fun _ _ => False) := by
  refine xw_Met.of rfl (by decide) (Nat.le_of_ble_eq_true rfl) ?_
  have r0 : FrO [k1, k3] h h := FrO.rf
  refine s_Parts_readPart_0 (kinds_a0 := some k1) (ends_a0 := some k3) (letters_a0 := some d) e_po e_k2 (by unfold vp_in; decide) (fun z => absurd z (by show ¬ fy 0 < (0 : Int32); rw [hy]; decide)) (fun z_1 => ?_)
  refine s_Parts_readPart_15 (starts_a0 := some k2) (letters_a0 := some d) e_po e_k1 (by unfold vp_in; decide) e_k3 (by unfold vp_in; decide) (Ne.symm n_k1_k3) ?_
  refine x_u2 (fun h_2 e_3 f_4 h_5 e_6 f_7 => ?_)
  have e_8 := (f_4 po (xw_neC e_po e_k1 (by simp))).trans e_po
  have e_9 := (f_4 k2 (Ne.symm n_k1_k2)).trans e_k2
  have e_10 := (f_4 k3 (Ne.symm n_k1_k3)).trans e_k3
  have r_11 := r0.up (by simp) f_4
  have e_12 := (f_7 po (xw_neC e_8 e_10 (by simp))).trans e_8
  have e_13 := (f_7 k1 n_k1_k3).trans e_3
  have e_14 := (f_7 k2 n_k2_k3).trans e_9
  have r_15 := r_11.up (by simp) f_7
  refine s_Parts_readPart_160 ?_
  exact ⟨rfl, ⟨_, _, _, pk_us, e_13, e_14, e_6⟩, r_15⟩
set_option maxHeartbeats 1000000 in
theorem fc_split {G : xw_G} {F L : Nat} {h : xw_A} {po k1 k2 k3 d : Nat} (e_po : h po = some (.inr (3, [.ref k1, .ref k2, .ref k3, .null, .int 0]))) (e_k1 : h k1 = some (.inl (0, 97, .inl (fun _ => 0)))) (e_k2 : h k2 = some (.inl (0, 97, .inl (fun _ => 0)))) (e_k3 : h k3 = some (.inl (0, 97, .inl (fun _ => 0)))) (n_k1_k2 : k1 ≠ k2) (n_k1_k3 : k1 ≠ k3) (n_k2_k3 : k2 ≠ k3) (hF : 2 ≤ F) (hL : 43 ≤ L) :
    xw_Met G m_Parts_split F L 0 0 [.ref po, .ref d, .int 0] h (fun v h' => v = none ∧ h' po = some (.inr (3, [.ref k1, .ref k2, .ref k3, .ref d, .int 0])) ∧ (∃ fk fy fz : Nat → Int32, fk 0 = 0 ∧ h' k1 = some (.inl (0, 97, .inl fk)) ∧ h' k2 = some (.inl (0, 97, .inl fy)) ∧ h' k3 = some (.inl (0, 97, .inl fz))) ∧ FrO [po, k1, k2, k3] h h') (fun _ _ => False) := by
  refine xw_Met.of rfl (by decide) (Nat.le_of_ble_eq_true rfl) ?_
  have r0 : FrO [po, k1, k2, k3] h h := FrO.rf
  refine s_Parts_split_0 (kinds_a0 := some k1) (starts_a0 := some k2) (ends_a0 := some k3) (letters_a0 := none) e_po ?_
  rw [xw_up_up]
  refine x_u1 (fun h_1 e_2 f_3 => ?_)
  have e_4 := (f_3 k1 (xw_neC e_k1 e_po (by simp))).trans e_k1
  have e_5 := (f_3 k2 (xw_neC e_k2 e_po (by simp))).trans e_k2
  have e_6 := (f_3 k3 (xw_neC e_k3 e_po (by simp))).trans e_k3
  have r_7 := r0.up (by simp) f_3
  refine s_Parts_split_15 (starts_a0 := some k2) (ends_a0 := some k3) (letters_a0 := some d) e_2 e_4 (fun z => absurd z (by decide)) (fun z_8 => ?_)
  refine s_Parts_split_25 ?_
  refine x_callV (As := [.int 0]) (b := po) (rest := []) (F1 := 1) (L1 := 20) (mc := 0) (ms := 0) d_Parts_split_27 cV_Parts_29 (fc_blanks  e_2 (by omega) (by omega)) e_2 ⟨by decide, rfl⟩ ⟨by omega, by show 8 + (3 + 11) + 20 ≤ _; omega⟩ ⟨by omega, by omega⟩ (Nat.le_of_ble_eq_true rfl) (fun v_11 h_10 p_12 => ?_)
  obtain ⟨rfl, fr_9⟩ := p_12
  have e_13 := fr_9 po _ (by simp) e_2
  have e_14 := fr_9 k1 _ (by simp) e_4
  have e_15 := fr_9 k2 _ (by simp) e_5
  have e_16 := fr_9 k3 _ (by simp) e_6
  have r_17 := r_7.trans (fr_9.mono (by simp))
  refine x_le (xw_le_s (xw_le_n (xw_le_n (xw_le_n (xw_le_s xw_le_e))))) ?_
  refine s_Parts_split_30 (kinds_a0 := some k1) (ends_a0 := some k3) (letters_a0 := some d) e_13 e_15 (by unfold vp_in; decide) ?_
  refine x_u1 (fun h_18 e_19 f_20 => ?_)
  have e_21 := (f_20 po (xw_neC e_13 e_15 (by simp))).trans e_13
  have e_22 := (f_20 k1 n_k1_k2).trans e_14
  have e_23 := (f_20 k3 (Ne.symm n_k2_k3)).trans e_16
  have r_24 := r_17.up (by simp) f_20
  refine x_callV (As := [.int 0]) (b := po) (rest := []) (F1 := 1) (L1 := 20) (mc := 0) (ms := 0) d_Parts_split_42 cV_Parts_33 (fc_readPart e_21 e_22 e_19 e_23 n_k1_k2 n_k1_k3 n_k2_k3 pk_us (by omega) (by omega)) e_21 ⟨by decide, rfl⟩ ⟨by omega, by show 8 + (4 + 11) + 20 ≤ _; omega⟩ ⟨by omega, by omega⟩ (Nat.le_of_ble_eq_true rfl) (fun v_34 h_33 p_35 => ?_)
  obtain ⟨rfl, ⟨fk_25, fy_26, fz_27, hk_28, e_29, e_30, e_31⟩, fr_32⟩ := p_35
  have e_36 := fr_32 po _ (by simp only [List.mem_cons, List.not_mem_nil, or_false, not_or]; exact ⟨(xw_neC e_21 e_22 (by simp)), (xw_neC e_21 e_23 (by simp))⟩) e_21
  have r_37 := r_24.trans (fr_32.mono (by simp))
  refine x_le (xw_le_s (xw_le_n (xw_le_n (xw_le_n (xw_le_s xw_le_e))))) ?_
  refine s_Parts_split_45 (starts_a0 := some k2) (letters_a0 := some d) e_36 e_31 (by unfold vp_in; decide) e_29 (by unfold vp_in; decide) (fun z_38 => ?_) (fun z => absurd hk_28 z)
  refine s_Parts_split_74 ?_
  exact ⟨rfl, e_36, ⟨_, _, _, hk_28, e_29, e_30, e_31⟩, r_37⟩
theorem s_Question_readPhrase_28n {G : xw_G} {F L bc bs : Nat} {pr : Option Value → xw_A → Prop} {px : String → xw_A → Prop} {h : xw_A}   (kr : pr (some (.int 0)) h) : xw G m_Question_readPhrase F L bc bs pr px 28 [none, none, none] [.null] h := by
  refine x_pop d_Question_readPhrase_28 rfl ?_
  refine x_iconst (v := 0) d_Question_readPhrase_29 (by decide) ?_
  exact x_zret d_Question_readPhrase_30 rfl rfl kr
set_option maxHeartbeats 1000000 in
theorem fq_kind {G : xw_G} {F L : Nat} {h : xw_A} {fk : Nat → Int32} {wp : Int32} {qo t pa na po d k1 k2 k3 : Nat} (e_qo : h qo = some (.inr (5, [.ref t, .ref pa, .ref na, .int 0, .int 0, .int wp, .ref po, .ref d, .int 0]))) (e_po : h po = some (.inr (3, [.ref k1, .ref k2, .ref k3, .ref d, .int 0]))) (e_k1 : h k1 = some (.inl (0, 97, .inl fk))) (hk : fk 0 = 0) (hF : 1 ≤ F) (hL : 20 ≤ L) :
    xw_Met G m_Question_kind F L 0 0 [.ref qo] h (fun v h' => v = some (.int 0) ∧ FrO [] h h') (fun _ _ => False) := by
  refine xw_Met.of rfl (by decide) (Nat.le_of_ble_eq_true rfl) ?_
  have r0 : FrO [] h h := FrO.rf
  refine s_Question_kind_0 (tokens_a0 := some t) (phrases_a0 := some pa) (nodes_a0 := some na) (letters_a0 := some d) (starts_parts_a0 := some k2) (ends_parts_a0 := some k3) (letters_parts_a0 := some d) e_qo e_po e_k1 (by unfold vp_in; decide) ?_
  exact ⟨congrArg (fun z => some (Value.int z)) hk, r0⟩
set_option maxHeartbeats 1000000 in
theorem fq_takes8 {G : xw_G} {F L : Nat} {h : xw_A} {fk : Nat → Int32} {wp : Int32} {qo t pa na po d k1 k2 k3 : Nat} (e_qo : h qo = some (.inr (5, [.ref t, .ref pa, .ref na, .int 0, .int 0, .int wp, .ref po, .ref d, .int 0]))) (e_po : h po = some (.inr (3, [.ref k1, .ref k2, .ref k3, .ref d, .int 0]))) (e_k1 : h k1 = some (.inl (0, 97, .inl fk))) (hk : fk 0 = 0) (hF : 2 ≤ F) (hL : 40 ≤ L) :
    xw_Met G m_Question_takes F L 0 0 [.ref qo, .int 8] h (fun v h' => v = some (.int 0) ∧ FrO [] h h') (fun _ _ => False) := by
  refine xw_Met.of rfl (by decide) (Nat.le_of_ble_eq_true rfl) ?_
  have r0 : FrO [] h h := FrO.rf
  refine s_Question_takes_0 ?_
  refine x_callV (As := []) (b := qo) (rest := []) (F1 := 1) (L1 := 20) (mc := 0) (ms := 0) d_Question_takes_1 cV_Question_69 (fq_kind  e_qo e_po e_k1 hk (by omega) (by omega)) e_qo ⟨by decide, rfl⟩ ⟨by omega, by show 8 + (1 + 11) + 20 ≤ _; omega⟩ ⟨by omega, by omega⟩ (Nat.le_of_ble_eq_true rfl) (fun v_3 h_2 p_4 => ?_)
  obtain ⟨rfl, fr_1⟩ := p_4
  have e_5 := fr_1 qo _ (by simp) e_qo
  have e_6 := fr_1 po _ (by simp) e_po
  have e_7 := fr_1 k1 _ (by simp) e_k1
  have r_8 := r0.trans (fr_1.mono (by simp))
  refine s_Question_takes_4 (fun z => absurd z (by decide)) (fun z_9 => ?_)
  refine s_Question_takes_8 ?_
  exact ⟨rfl, r_8⟩
set_option maxHeartbeats 1000000 in
theorem fq_takes12 {G : xw_G} {F L : Nat} {h : xw_A} {fk : Nat → Int32} {wp : Int32} {qo t pa na po d k1 k2 k3 : Nat} (e_qo : h qo = some (.inr (5, [.ref t, .ref pa, .ref na, .int 0, .int 0, .int wp, .ref po, .ref d, .int 0]))) (e_po : h po = some (.inr (3, [.ref k1, .ref k2, .ref k3, .ref d, .int 0]))) (e_k1 : h k1 = some (.inl (0, 97, .inl fk))) (hk : fk 0 = 0) (hF : 2 ≤ F) (hL : 40 ≤ L) :
    xw_Met G m_Question_takes F L 0 0 [.ref qo, .int 12] h (fun v h' => v = some (.int 0) ∧ FrO [] h h') (fun _ _ => False) := by
  refine xw_Met.of rfl (by decide) (Nat.le_of_ble_eq_true rfl) ?_
  have r0 : FrO [] h h := FrO.rf
  refine s_Question_takes_0 ?_
  refine x_callV (As := []) (b := qo) (rest := []) (F1 := 1) (L1 := 20) (mc := 0) (ms := 0) d_Question_takes_1 cV_Question_69 (fq_kind  e_qo e_po e_k1 hk (by omega) (by omega)) e_qo ⟨by decide, rfl⟩ ⟨by omega, by show 8 + (1 + 11) + 20 ≤ _; omega⟩ ⟨by omega, by omega⟩ (Nat.le_of_ble_eq_true rfl) (fun v_3 h_2 p_4 => ?_)
  obtain ⟨rfl, fr_1⟩ := p_4
  have e_5 := fr_1 qo _ (by simp) e_qo
  have e_6 := fr_1 po _ (by simp) e_po
  have e_7 := fr_1 k1 _ (by simp) e_k1
  have r_8 := r0.trans (fr_1.mono (by simp))
  refine s_Question_takes_4 (fun z => absurd z (by decide)) (fun z_9 => ?_)
  refine s_Question_takes_8 ?_
  exact ⟨rfl, r_8⟩
set_option maxHeartbeats 1000000 in
theorem fq_deeper {G : xw_G} {F L : Nat} {h : xw_A} {fk : Nat → Int32} {wp : Int32} {qo t pa na po d k1 k2 k3 : Nat} (e_qo : h qo = some (.inr (5, [.ref t, .ref pa, .ref na, .int 0, .int 0, .int wp, .ref po, .ref d, .int 0]))) (e_po : h po = some (.inr (3, [.ref k1, .ref k2, .ref k3, .ref d, .int 0]))) (e_k1 : h k1 = some (.inl (0, 97, .inl fk))) (hk : fk 0 = 0) (hF : 2 ≤ F) (hL : 40 ≤ L) :
    xw_Met G m_Question_beginsDeeper F L 0 0 [.ref qo] h (fun v h' => v = some (.int 0) ∧ FrO [] h h') (fun _ _ => False) := by
  refine xw_Met.of rfl (by decide) (Nat.le_of_ble_eq_true rfl) ?_
  have r0 : FrO [] h h := FrO.rf
  refine s_Question_beginsDeeper_0 ?_
  refine x_callV (As := []) (b := qo) (rest := []) (F1 := 1) (L1 := 20) (mc := 0) (ms := 0) d_Question_beginsDeeper_1 cV_Question_69 (fq_kind  e_qo e_po e_k1 hk (by omega) (by omega)) e_qo ⟨by decide, rfl⟩ ⟨by omega, by show 8 + (1 + 11) + 20 ≤ _; omega⟩ ⟨by omega, by omega⟩ (Nat.le_of_ble_eq_true rfl) (fun v_3 h_2 p_4 => ?_)
  obtain ⟨rfl, fr_1⟩ := p_4
  have e_5 := fr_1 qo _ (by simp) e_qo
  have e_6 := fr_1 po _ (by simp) e_po
  have e_7 := fr_1 k1 _ (by simp) e_k1
  have r_8 := r0.trans (fr_1.mono (by simp))
  refine x_le (xw_le_n (xw_le_n xw_le_e)) ?_
  refine s_Question_beginsDeeper_4 (fun z => absurd z (by decide)) (fun z_9 => ?_)
  refine s_Question_beginsDeeper_11 (fun z => absurd z (by decide)) (fun z_10 => ?_)
  refine s_Question_beginsDeeper_17 (fun z_11 => ?_) (fun z => absurd z (by decide))
  refine s_Question_beginsDeeper_26 ?_
  refine s_Question_beginsDeeper_27 rfl ?_
  exact ⟨rfl, r_8⟩
set_option maxHeartbeats 1000000 in
theorem fq_string {G : xw_G} {F L : Nat} {h : xw_A} {fk : Nat → Int32} {wp : Int32} {qo t pa na po d k1 k2 k3 : Nat} (e_qo : h qo = some (.inr (5, [.ref t, .ref pa, .ref na, .int 0, .int 0, .int wp, .ref po, .ref d, .int 0]))) (e_po : h po = some (.inr (3, [.ref k1, .ref k2, .ref k3, .ref d, .int 0]))) (e_k1 : h k1 = some (.inl (0, 97, .inl fk))) (hk : fk 0 = 0) (hF : 2 ≤ F) (hL : 40 ≤ L) :
    xw_Met G m_Question_beginsString F L 0 0 [.ref qo] h (fun v h' => v = some (.int 0) ∧ FrO [] h h') (fun _ _ => False) := by
  refine xw_Met.of rfl (by decide) (Nat.le_of_ble_eq_true rfl) ?_
  have r0 : FrO [] h h := FrO.rf
  refine s_Question_beginsString_0 ?_
  refine x_callV (As := []) (b := qo) (rest := []) (F1 := 1) (L1 := 20) (mc := 0) (ms := 0) d_Question_beginsString_1 cV_Question_69 (fq_kind  e_qo e_po e_k1 hk (by omega) (by omega)) e_qo ⟨by decide, rfl⟩ ⟨by omega, by show 8 + (1 + 11) + 20 ≤ _; omega⟩ ⟨by omega, by omega⟩ (Nat.le_of_ble_eq_true rfl) (fun v_3 h_2 p_4 => ?_)
  obtain ⟨rfl, fr_1⟩ := p_4
  have e_5 := fr_1 qo _ (by simp) e_qo
  have e_6 := fr_1 po _ (by simp) e_po
  have e_7 := fr_1 k1 _ (by simp) e_k1
  have r_8 := r0.trans (fr_1.mono (by simp))
  refine x_le (xw_le_n (xw_le_n xw_le_e)) ?_
  refine s_Question_beginsString_4 (fun z => absurd z (by decide)) (fun z_9 => ?_)
  refine s_Question_beginsString_10 (fun z_10 => ?_) (fun z => absurd z (by decide))
  refine s_Question_beginsString_19 ?_
  refine s_Question_beginsString_20 rfl ?_
  exact ⟨rfl, r_8⟩
set_option maxHeartbeats 1000000 in
theorem fq_readString {G : xw_G} {F L : Nat} {h : xw_A} {fk : Nat → Int32} {wp : Int32} {qo t pa na po d k1 k2 k3 : Nat} (e_qo : h qo = some (.inr (5, [.ref t, .ref pa, .ref na, .int 0, .int 0, .int wp, .ref po, .ref d, .int 0]))) (e_po : h po = some (.inr (3, [.ref k1, .ref k2, .ref k3, .ref d, .int 0]))) (e_k1 : h k1 = some (.inl (0, 97, .inl fk))) (hk : fk 0 = 0) (hF : 3 ≤ F) (hL : 61 ≤ L) :
    xw_Met G m_Question_readString F L 0 0 [.ref qo] h (fun v h' => v = some (.int 0) ∧ FrO [] h h') (fun _ _ => False) := by
  refine xw_Met.of rfl (by decide) (Nat.le_of_ble_eq_true rfl) ?_
  have r0 : FrO [] h h := FrO.rf
  refine s_Question_readString_0 ?_
  refine x_callV (As := []) (b := qo) (rest := []) (F1 := 2) (L1 := 40) (mc := 0) (ms := 0) d_Question_readString_1 cV_Question_109 (fq_string  e_qo e_po e_k1 hk (by omega) (by omega)) e_qo ⟨by decide, rfl⟩ ⟨by omega, by show 8 + (2 + 11) + 40 ≤ _; omega⟩ ⟨by omega, by omega⟩ (Nat.le_of_ble_eq_true rfl) (fun v_3 h_2 p_4 => ?_)
  obtain ⟨rfl, fr_1⟩ := p_4
  have e_5 := fr_1 qo _ (by simp) e_qo
  have e_6 := fr_1 po _ (by simp) e_po
  have e_7 := fr_1 k1 _ (by simp) e_k1
  have r_8 := r0.trans (fr_1.mono (by simp))
  refine s_Question_readString_4 (fun z => absurd z (by decide)) (fun z_9 => ?_)
  refine s_Question_readString_7 ?_
  exact ⟨rfl, r_8⟩
set_option maxHeartbeats 1000000 in
theorem fq_refuse {G : xw_G} {F L : Nat} {h : xw_A} {fy : Nat → Int32} {wp : Int32} {qo t pa na po d k1 k2 k3 : Nat} (e_qo : h qo = some (.inr (5, [.ref t, .ref pa, .ref na, .int 0, .int 0, .int wp, .ref po, .ref d, .int 0]))) (e_po : h po = some (.inr (3, [.ref k1, .ref k2, .ref k3, .ref d, .int 0]))) (e_k2 : h k2 = some (.inl (0, 97, .inl fy))) (hF : 1 ≤ F) (hL : 20 ≤ L) :
    xw_Met G m_Question_refuse F L 0 0 [.ref qo] h (fun v h' => v = some (.null) ∧ (∃ w : Int32, h' qo = some (.inr (5, [.ref t, .ref pa, .ref na, .int 0, .int 0, .int w, .ref po, .ref d, .int 0]))) ∧ FrO [qo] h h') (fun _ _ => False) := by
  refine xw_Met.of rfl (by decide) (Nat.le_of_ble_eq_true rfl) ?_
  have r0 : FrO [qo] h h := FrO.rf
  refine s_Question_refuse_0 (tokens_a0 := some t) (phrases_a0 := some pa) (nodes_a0 := some na) (letters_a0 := some d) (kinds_parts_a0 := some k1) (ends_parts_a0 := some k3) (letters_parts_a0 := some d) e_qo e_po e_k2 (by unfold vp_in; decide) ?_
  obtain ⟨h_1, z_4⟩ : ∃ z, z = xw_up h qo (.inr (5, [va_rf (some t), va_rf (some pa), va_rf (some na), .int 0, .int 0, .int (fy (0 : Int32).toNatClampNeg), .ref po, va_rf (some d), .int 0])) := ⟨_, rfl⟩
  rw [← z_4]
  have e_2 : h_1 qo = some (.inr (5, [va_rf (some t), va_rf (some pa), va_rf (some na), .int 0, .int 0, .int (fy (0 : Int32).toNatClampNeg), .ref po, va_rf (some d), .int 0])) := by rw [z_4]; exact xw_up_s _ _ _
  have f_3 : ∀ q, q ≠ qo → h_1 q = h q := fun q hq => by rw [z_4]; exact xw_up_n _ _ hq
  clear z_4
  have e_5 := (f_3 po (xw_neC e_po e_qo (by simp))).trans e_po
  have e_6 := (f_3 k2 (xw_neC e_k2 e_qo (by simp))).trans e_k2
  have r_7 := r0.up (by simp) f_3
  exact ⟨rfl, ⟨_, e_2⟩, r_7⟩
set_option maxHeartbeats 1000000 in
theorem fq_readPhrase {G : xw_G} {F L : Nat} {h : xw_A} {fk : Nat → Int32} {fy : Nat → Int32} {wp : Int32} {qo t pa na po d k1 k2 k3 tl ts : Nat} (e_qo : h qo = some (.inr (5, [.ref t, .ref pa, .ref na, .int 0, .int 0, .int wp, .ref po, .ref d, .int 0]))) (e_po : h po = some (.inr (3, [.ref k1, .ref k2, .ref k3, .ref d, .int 0]))) (e_k1 : h k1 = some (.inl (0, 97, .inl fk))) (e_k2 : h k2 = some (.inl (0, 97, .inl fy))) (e_t : h t = some (.inr (9, [.ref tl, .ref ts, .int 0]))) (n_k1_k2 : k1 ≠ k2) (hk : fk 0 = 0) (hF : 4 ≤ F) (hL : 81 ≤ L) :
    xw_Met G m_Question_readPhrase F L 0 0 [.ref qo] h (fun v h' => v = some (.int 0) ∧ (∃ w : Int32, h' qo = some (.inr (5, [.ref t, .ref pa, .ref na, .int 0, .int 0, .int w, .ref po, .ref d, .int 0]))) ∧ FrO [qo] h h') (fun _ _ => False) := by
  refine xw_Met.of rfl (by decide) (Nat.le_of_ble_eq_true rfl) ?_
  have r0 : FrO [qo] h h := FrO.rf
  refine s_Question_readPhrase_0 (phrases_a0 := some pa) (nodes_a0 := some na) (parts_a0 := some po) (letters_a0 := some d) (letters_tokens_a0 := some tl) (starts_tokens_a0 := some ts) e_qo e_t (fun z => absurd z (by decide)) (fun z_1 => ?_)
  refine s_Question_readPhrase_17 ?_
  refine x_callV (As := []) (b := qo) (rest := []) (F1 := 3) (L1 := 61) (mc := 0) (ms := 0) d_Question_readPhrase_18 cV_Question_136 (fq_readString  e_qo e_po e_k1 hk (by omega) (by omega)) e_qo ⟨by decide, rfl⟩ ⟨by omega, by show 8 + (1 + 11) + 61 ≤ _; omega⟩ ⟨by omega, by omega⟩ (Nat.le_of_ble_eq_true rfl) (fun v_4 h_3 p_5 => ?_)
  obtain ⟨rfl, fr_2⟩ := p_5
  have e_6 := fr_2 qo _ (by simp) e_qo
  have e_7 := fr_2 po _ (by simp) e_po
  have e_8 := fr_2 k1 _ (by simp) e_k1
  have e_9 := fr_2 k2 _ (by simp) e_k2
  have e_10 := fr_2 t _ (by simp) e_t
  have r_11 := r0.trans (fr_2.mono (by simp))
  refine s_Question_readPhrase_21 (fun z => absurd z (by decide)) (fun z_12 => ?_)
  refine s_Question_readPhrase_24 ?_
  refine x_callV (As := []) (b := qo) (rest := []) (F1 := 1) (L1 := 20) (mc := 0) (ms := 0) d_Question_readPhrase_25 cV_Question_73 (fq_refuse  e_6 e_7 e_9 (by omega) (by omega)) e_6 ⟨by decide, rfl⟩ ⟨by omega, by show 8 + (1 + 11) + 20 ≤ _; omega⟩ ⟨by omega, by omega⟩ (Nat.le_of_ble_eq_true rfl) (fun v_17 h_16 p_18 => ?_)
  obtain ⟨rfl, ⟨wp_15, e_13⟩, fr_14⟩ := p_18
  have e_19 := fr_14 po _ (by simp only [List.mem_cons, List.not_mem_nil, or_false]; exact (xw_neC e_7 e_6 (by simp))) e_7
  have e_20 := fr_14 k1 _ (by simp only [List.mem_cons, List.not_mem_nil, or_false]; exact (xw_neC e_8 e_6 (by simp))) e_8
  have e_21 := fr_14 k2 _ (by simp only [List.mem_cons, List.not_mem_nil, or_false]; exact (xw_neC e_9 e_6 (by simp))) e_9
  have e_22 := fr_14 t _ (by simp only [List.mem_cons, List.not_mem_nil, or_false]; exact (xw_neC e_10 e_6 (by simp))) e_10
  have r_23 := r_11.trans (fr_14.mono (by simp))
  refine x_le (xw_le_n (xw_le_n (xw_le_n xw_le_e))) ?_
  refine s_Question_readPhrase_28n ?_
  exact ⟨rfl, ⟨_, e_13⟩, r_23⟩
set_option maxHeartbeats 1000000 in
theorem fq_single {G : xw_G} {F L : Nat} {h : xw_A} {fk : Nat → Int32} {fy : Nat → Int32} {wp : Int32} {qo t pa na po d k1 k2 k3 tl ts : Nat} (e_qo : h qo = some (.inr (5, [.ref t, .ref pa, .ref na, .int 0, .int 0, .int wp, .ref po, .ref d, .int 0]))) (e_po : h po = some (.inr (3, [.ref k1, .ref k2, .ref k3, .ref d, .int 0]))) (e_k1 : h k1 = some (.inl (0, 97, .inl fk))) (e_k2 : h k2 = some (.inl (0, 97, .inl fy))) (e_t : h t = some (.inr (9, [.ref tl, .ref ts, .int 0]))) (n_k1_k2 : k1 ≠ k2) (hk : fk 0 = 0) (hF : 5 ≤ F) (hL : 103 ≤ L) :
    xw_Met G m_Question_single F L 0 0 [.ref qo, .int 3] h (fun v h' => v = some (.null) ∧ (∃ w : Int32, h' qo = some (.inr (5, [.ref t, .ref pa, .ref na, .int 0, .int 0, .int w, .ref po, .ref d, .int 0]))) ∧ FrO [qo] h h') (fun _ _ => False) := by
  refine xw_Met.of rfl (by decide) (Nat.le_of_ble_eq_true rfl) ?_
  have r0 : FrO [qo] h h := FrO.rf
  refine s_Question_single_0 ?_
  refine x_callV (As := [.int 12]) (b := qo) (rest := []) (F1 := 2) (L1 := 40) (mc := 0) (ms := 0) d_Question_single_3 cV_Question_103 (fq_takes12  e_qo e_po e_k1 hk (by omega) (by omega)) e_qo ⟨by decide, rfl⟩ ⟨by omega, by show 8 + (2 + 11) + 40 ≤ _; omega⟩ ⟨by omega, by omega⟩ (Nat.le_of_ble_eq_true rfl) (fun v_3 h_2 p_4 => ?_)
  obtain ⟨rfl, fr_1⟩ := p_4
  have e_5 := fr_1 qo _ (by simp) e_qo
  have e_6 := fr_1 po _ (by simp) e_po
  have e_7 := fr_1 k1 _ (by simp) e_k1
  have e_8 := fr_1 k2 _ (by simp) e_k2
  have e_9 := fr_1 t _ (by simp) e_t
  have r_10 := r0.trans (fr_1.mono (by simp))
  refine s_Question_single_6 (fun z_11 => ?_) (fun z => absurd z (by decide))
  refine s_Question_single_13 ?_
  refine s_Question_single_14 (tokens_a0 := some t) (phrases_a0 := some pa) (nodes_a0 := some na) (parts_a0 := some po) (letters_a0 := some d) e_5 ?_
  refine x_callV (As := []) (b := qo) (rest := []) (F1 := 4) (L1 := 81) (mc := 0) (ms := 0) d_Question_single_21 cV_Question_126 (fq_readPhrase  e_5 e_6 e_7 e_8 e_9 n_k1_k2 hk (by omega) (by omega)) e_5 ⟨by decide, rfl⟩ ⟨by omega, by show 8 + (3 + 11) + 81 ≤ _; omega⟩ ⟨by omega, by omega⟩ (Nat.le_of_ble_eq_true rfl) (fun v_16 h_15 p_17 => ?_)
  obtain ⟨rfl, ⟨wp_14, e_12⟩, fr_13⟩ := p_17
  have e_18 := fr_13 po _ (by simp only [List.mem_cons, List.not_mem_nil, or_false]; exact (xw_neC e_6 e_5 (by simp))) e_6
  have e_19 := fr_13 k1 _ (by simp only [List.mem_cons, List.not_mem_nil, or_false]; exact (xw_neC e_7 e_5 (by simp))) e_7
  have e_20 := fr_13 k2 _ (by simp only [List.mem_cons, List.not_mem_nil, or_false]; exact (xw_neC e_8 e_5 (by simp))) e_8
  have e_21 := fr_13 t _ (by simp only [List.mem_cons, List.not_mem_nil, or_false]; exact (xw_neC e_9 e_5 (by simp))) e_9
  have r_22 := r_10.trans (fr_13.mono (by simp))
  refine s_Question_single_24 (fun z_23 => ?_) (fun z => absurd z (by decide))
  refine s_Question_single_38 ?_
  refine s_Question_single_39 (s0 := none) ?_
  exact ⟨rfl, ⟨_, e_12⟩, r_22⟩
set_option maxHeartbeats 1000000 in
theorem fq_atom {G : xw_G} {F L : Nat} {h : xw_A} {fk : Nat → Int32} {fy : Nat → Int32} {wp : Int32} {qo t pa na po d k1 k2 k3 tl ts : Nat} (e_qo : h qo = some (.inr (5, [.ref t, .ref pa, .ref na, .int 0, .int 0, .int wp, .ref po, .ref d, .int 0]))) (e_po : h po = some (.inr (3, [.ref k1, .ref k2, .ref k3, .ref d, .int 0]))) (e_k1 : h k1 = some (.inl (0, 97, .inl fk))) (e_k2 : h k2 = some (.inl (0, 97, .inl fy))) (e_t : h t = some (.inr (9, [.ref tl, .ref ts, .int 0]))) (n_k1_k2 : k1 ≠ k2) (hk : fk 0 = 0) (hF : 6 ≤ F) (hL : 126 ≤ L) :
    xw_Met G m_Question_atom F L 0 0 [.ref qo, .int 3, .int 0] h (fun v h' => v = some (.null) ∧ (∃ w : Int32, h' qo = some (.inr (5, [.ref t, .ref pa, .ref na, .int 0, .int 0, .int w, .ref po, .ref d, .int 0]))) ∧ FrO [qo] h h') (fun _ _ => False) := by
  refine xw_Met.of rfl (by decide) (Nat.le_of_ble_eq_true rfl) ?_
  have r0 : FrO [qo] h h := FrO.rf
  refine s_Question_atom_0 ?_
  refine x_callV (As := []) (b := qo) (rest := []) (F1 := 2) (L1 := 40) (mc := 0) (ms := 0) d_Question_atom_1 cV_Question_106 (fq_deeper  e_qo e_po e_k1 hk (by omega) (by omega)) e_qo ⟨by decide, rfl⟩ ⟨by omega, by show 8 + (2 + 11) + 40 ≤ _; omega⟩ ⟨by omega, by omega⟩ (Nat.le_of_ble_eq_true rfl) (fun v_3 h_2 p_4 => ?_)
  obtain ⟨rfl, fr_1⟩ := p_4
  have e_5 := fr_1 qo _ (by simp) e_qo
  have e_6 := fr_1 po _ (by simp) e_po
  have e_7 := fr_1 k1 _ (by simp) e_k1
  have e_8 := fr_1 k2 _ (by simp) e_k2
  have e_9 := fr_1 t _ (by simp) e_t
  have r_10 := r0.trans (fr_1.mono (by simp))
  refine s_Question_atom_4 (fun z_11 => ?_) (fun z => absurd z (by decide))
  refine s_Question_atom_29 ?_
  refine x_callV (As := [.int 8]) (b := qo) (rest := []) (F1 := 2) (L1 := 40) (mc := 0) (ms := 0) d_Question_atom_32 cV_Question_103 (fq_takes8  e_5 e_6 e_7 hk (by omega) (by omega)) e_5 ⟨by decide, rfl⟩ ⟨by omega, by show 8 + (2 + 11) + 40 ≤ _; omega⟩ ⟨by omega, by omega⟩ (Nat.le_of_ble_eq_true rfl) (fun v_14 h_13 p_15 => ?_)
  obtain ⟨rfl, fr_12⟩ := p_15
  have e_16 := fr_12 qo _ (by simp) e_5
  have e_17 := fr_12 po _ (by simp) e_6
  have e_18 := fr_12 k1 _ (by simp) e_7
  have e_19 := fr_12 k2 _ (by simp) e_8
  have e_20 := fr_12 t _ (by simp) e_9
  have r_21 := r_10.trans (fr_12.mono (by simp))
  refine s_Question_atom_35 (fun z_22 => ?_) (fun z => absurd z (by decide))
  refine s_Question_atom_46 ?_
  refine x_callV (As := [.int 3]) (b := qo) (rest := []) (F1 := 5) (L1 := 103) (mc := 0) (ms := 0) d_Question_atom_48 cV_Question_119 (fq_single  e_16 e_17 e_18 e_19 e_20 n_k1_k2 hk (by omega) (by omega)) e_16 ⟨by decide, rfl⟩ ⟨by omega, by show 8 + (4 + 11) + 103 ≤ _; omega⟩ ⟨by omega, by omega⟩ (Nat.le_of_ble_eq_true rfl) (fun v_27 h_26 p_28 => ?_)
  obtain ⟨rfl, ⟨wp_25, e_23⟩, fr_24⟩ := p_28
  have e_29 := fr_24 po _ (by simp only [List.mem_cons, List.not_mem_nil, or_false]; exact (xw_neC e_17 e_16 (by simp))) e_17
  have e_30 := fr_24 k1 _ (by simp only [List.mem_cons, List.not_mem_nil, or_false]; exact (xw_neC e_18 e_16 (by simp))) e_18
  have e_31 := fr_24 k2 _ (by simp only [List.mem_cons, List.not_mem_nil, or_false]; exact (xw_neC e_19 e_16 (by simp))) e_19
  have e_32 := fr_24 t _ (by simp only [List.mem_cons, List.not_mem_nil, or_false]; exact (xw_neC e_20 e_16 (by simp))) e_20
  have r_33 := r_21.trans (fr_24.mono (by simp))
  refine x_le (xw_le_n (xw_le_n (xw_le_n xw_le_e))) ?_
  refine s_Question_atom_51 (s0 := none) ?_
  exact ⟨rfl, ⟨_, e_23⟩, r_33⟩
set_option maxHeartbeats 1000000 in
theorem fq_op8 {G : xw_G} {F L : Nat} {h : xw_A} {fk : Nat → Int32} {fy : Nat → Int32} {wp : Int32} {qo t pa na po d k1 k2 k3 tl ts : Nat} (e_qo : h qo = some (.inr (5, [.ref t, .ref pa, .ref na, .int 0, .int 0, .int wp, .ref po, .ref d, .int 0]))) (e_po : h po = some (.inr (3, [.ref k1, .ref k2, .ref k3, .ref d, .int 0]))) (e_k1 : h k1 = some (.inl (0, 97, .inl fk))) (e_k2 : h k2 = some (.inl (0, 97, .inl fy))) (e_t : h t = some (.inr (9, [.ref tl, .ref ts, .int 0]))) (n_k1_k2 : k1 ≠ k2) (hk : fk 0 = 0) (hF : 7 ≤ F) (hL : 148 ≤ L) :
    xw_Met G m_Question_operand F L 0 0 [.ref qo, .int 8, .int 3, .int 0] h (fun v h' => v = some (.null) ∧ (∃ w : Int32, h' qo = some (.inr (5, [.ref t, .ref pa, .ref na, .int 0, .int 0, .int w, .ref po, .ref d, .int 0]))) ∧ FrO [qo] h h') (fun _ _ => False) := by
  refine xw_Met.of rfl (by decide) (Nat.le_of_ble_eq_true rfl) ?_
  have r0 : FrO [qo] h h := FrO.rf
  refine s_Question_operand_0 (fun z => absurd z (by decide)) (fun z_1 => ?_)
  refine s_Question_operand_6 ?_
  refine x_callV (As := [.int 3, .int 0]) (b := qo) (rest := []) (F1 := 6) (L1 := 126) (mc := 0) (ms := 0) d_Question_operand_9 cV_Question_95 (fq_atom  e_qo e_po e_k1 e_k2 e_t n_k1_k2 hk (by omega) (by omega)) e_qo ⟨by decide, rfl⟩ ⟨by omega, by show 8 + (3 + 11) + 126 ≤ _; omega⟩ ⟨by omega, by omega⟩ (Nat.le_of_ble_eq_true rfl) (fun v_6 h_5 p_7 => ?_)
  obtain ⟨rfl, ⟨wp_4, e_2⟩, fr_3⟩ := p_7
  have e_8 := fr_3 po _ (by simp only [List.mem_cons, List.not_mem_nil, or_false]; exact (xw_neC e_po e_qo (by simp))) e_po
  have e_9 := fr_3 k1 _ (by simp only [List.mem_cons, List.not_mem_nil, or_false]; exact (xw_neC e_k1 e_qo (by simp))) e_k1
  have e_10 := fr_3 k2 _ (by simp only [List.mem_cons, List.not_mem_nil, or_false]; exact (xw_neC e_k2 e_qo (by simp))) e_k2
  have e_11 := fr_3 t _ (by simp only [List.mem_cons, List.not_mem_nil, or_false]; exact (xw_neC e_t e_qo (by simp))) e_t
  have r_12 := r0.trans (fr_3.mono (by simp))
  refine x_le (xw_le_n (xw_le_n (xw_le_n (xw_le_n xw_le_e)))) ?_
  refine s_Question_operand_12 (s0 := none) ?_
  refine s_Question_operand_24 (s0 := none) ?_
  exact ⟨rfl, ⟨_, e_2⟩, r_12⟩
set_option maxHeartbeats 1000000 in
theorem fq_jo8 {G : xw_G} {F L : Nat} {h : xw_A} {fk : Nat → Int32} {fy : Nat → Int32} {wp : Int32} {qo t pa na po d k1 k2 k3 tl ts : Nat} (e_qo : h qo = some (.inr (5, [.ref t, .ref pa, .ref na, .int 0, .int 0, .int wp, .ref po, .ref d, .int 0]))) (e_po : h po = some (.inr (3, [.ref k1, .ref k2, .ref k3, .ref d, .int 0]))) (e_k1 : h k1 = some (.inl (0, 97, .inl fk))) (e_k2 : h k2 = some (.inl (0, 97, .inl fy))) (e_t : h t = some (.inr (9, [.ref tl, .ref ts, .int 0]))) (n_k1_k2 : k1 ≠ k2) (hk : fk 0 = 0) (hF : 8 ≤ F) (hL : 171 ≤ L) :
    xw_Met G m_Question_joined F L 0 0 [.ref qo, .int 8, .int 3, .int 0] h (fun v h' => v = some (.null) ∧ (∃ w : Int32, h' qo = some (.inr (5, [.ref t, .ref pa, .ref na, .int 0, .int 0, .int w, .ref po, .ref d, .int 0]))) ∧ FrO [qo] h h') (fun _ _ => False) := by
  refine xw_Met.of rfl (by decide) (Nat.le_of_ble_eq_true rfl) ?_
  have r0 : FrO [qo] h h := FrO.rf
  refine s_Question_joined_0 ?_
  refine x_callV (As := [.int 8, .int 3, .int 0]) (b := qo) (rest := []) (F1 := 7) (L1 := 148) (mc := 0) (ms := 0) d_Question_joined_4 cV_Question_84 (fq_op8  e_qo e_po e_k1 e_k2 e_t n_k1_k2 hk (by omega) (by omega)) e_qo ⟨by decide, rfl⟩ ⟨by omega, by show 8 + (4 + 11) + 148 ≤ _; omega⟩ ⟨by omega, by omega⟩ (Nat.le_of_ble_eq_true rfl) (fun v_5 h_4 p_6 => ?_)
  obtain ⟨rfl, ⟨wp_3, e_1⟩, fr_2⟩ := p_6
  have e_7 := fr_2 po _ (by simp only [List.mem_cons, List.not_mem_nil, or_false]; exact (xw_neC e_po e_qo (by simp))) e_po
  have e_8 := fr_2 k1 _ (by simp only [List.mem_cons, List.not_mem_nil, or_false]; exact (xw_neC e_k1 e_qo (by simp))) e_k1
  have e_9 := fr_2 k2 _ (by simp only [List.mem_cons, List.not_mem_nil, or_false]; exact (xw_neC e_k2 e_qo (by simp))) e_k2
  have e_10 := fr_2 t _ (by simp only [List.mem_cons, List.not_mem_nil, or_false]; exact (xw_neC e_t e_qo (by simp))) e_t
  have r_11 := r0.trans (fr_2.mono (by simp))
  refine s_Question_joined_7 (s0 := none) ?_
  refine s_Question_joined_12 (r4 := none) (fun z => absurd z (by decide)) (fun z_12 => ?_)
  refine s_Question_joined_19 (r4 := none) (fun z_13 => ?_) (fun _ z => absurd z (by simp))
  refine s_Question_joined_67 (r4 := none) ?_
  exact ⟨rfl, ⟨_, e_1⟩, r_11⟩
set_option maxHeartbeats 1000000 in
theorem fq_op7 {G : xw_G} {F L : Nat} {h : xw_A} {fk : Nat → Int32} {fy : Nat → Int32} {wp : Int32} {qo t pa na po d k1 k2 k3 tl ts : Nat} (e_qo : h qo = some (.inr (5, [.ref t, .ref pa, .ref na, .int 0, .int 0, .int wp, .ref po, .ref d, .int 0]))) (e_po : h po = some (.inr (3, [.ref k1, .ref k2, .ref k3, .ref d, .int 0]))) (e_k1 : h k1 = some (.inl (0, 97, .inl fk))) (e_k2 : h k2 = some (.inl (0, 97, .inl fy))) (e_t : h t = some (.inr (9, [.ref tl, .ref ts, .int 0]))) (n_k1_k2 : k1 ≠ k2) (hk : fk 0 = 0) (hF : 9 ≤ F) (hL : 197 ≤ L) :
    xw_Met G m_Question_operand F L 0 0 [.ref qo, .int 7, .int 3, .int 0] h (fun v h' => v = some (.null) ∧ (∃ w : Int32, h' qo = some (.inr (5, [.ref t, .ref pa, .ref na, .int 0, .int 0, .int w, .ref po, .ref d, .int 0]))) ∧ FrO [qo] h h') (fun _ _ => False) := by
  refine xw_Met.of rfl (by decide) (Nat.le_of_ble_eq_true rfl) ?_
  have r0 : FrO [qo] h h := FrO.rf
  refine s_Question_operand_0 (fun z_1 => ?_) (fun z => absurd z (by decide))
  refine s_Question_operand_15 ?_
  refine x_callV (As := [.int (7 + 1), .int 3, .int 0]) (b := qo) (rest := []) (F1 := 8) (L1 := 171) (mc := 0) (ms := 0) d_Question_operand_21 cV_Question_65 (fq_jo8  e_qo e_po e_k1 e_k2 e_t n_k1_k2 hk (by omega) (by omega)) e_qo ⟨by decide, rfl⟩ ⟨by omega, by show 8 + (7 + 11) + 171 ≤ _; omega⟩ ⟨by omega, by omega⟩ (Nat.le_of_ble_eq_true rfl) (fun v_6 h_5 p_7 => ?_)
  obtain ⟨rfl, ⟨wp_4, e_2⟩, fr_3⟩ := p_7
  have e_8 := fr_3 po _ (by simp only [List.mem_cons, List.not_mem_nil, or_false]; exact (xw_neC e_po e_qo (by simp))) e_po
  have e_9 := fr_3 k1 _ (by simp only [List.mem_cons, List.not_mem_nil, or_false]; exact (xw_neC e_k1 e_qo (by simp))) e_k1
  have e_10 := fr_3 k2 _ (by simp only [List.mem_cons, List.not_mem_nil, or_false]; exact (xw_neC e_k2 e_qo (by simp))) e_k2
  have e_11 := fr_3 t _ (by simp only [List.mem_cons, List.not_mem_nil, or_false]; exact (xw_neC e_t e_qo (by simp))) e_t
  have r_12 := r0.trans (fr_3.mono (by simp))
  refine x_le (xw_le_n (xw_le_n (xw_le_n (xw_le_n xw_le_e)))) ?_
  refine s_Question_operand_24 (s0 := none) ?_
  exact ⟨rfl, ⟨_, e_2⟩, r_12⟩
set_option maxHeartbeats 1000000 in
theorem fq_jo7 {G : xw_G} {F L : Nat} {h : xw_A} {fk : Nat → Int32} {fy : Nat → Int32} {wp : Int32} {qo t pa na po d k1 k2 k3 tl ts : Nat} (e_qo : h qo = some (.inr (5, [.ref t, .ref pa, .ref na, .int 0, .int 0, .int wp, .ref po, .ref d, .int 0]))) (e_po : h po = some (.inr (3, [.ref k1, .ref k2, .ref k3, .ref d, .int 0]))) (e_k1 : h k1 = some (.inl (0, 97, .inl fk))) (e_k2 : h k2 = some (.inl (0, 97, .inl fy))) (e_t : h t = some (.inr (9, [.ref tl, .ref ts, .int 0]))) (n_k1_k2 : k1 ≠ k2) (hk : fk 0 = 0) (hF : 10 ≤ F) (hL : 220 ≤ L) :
    xw_Met G m_Question_joined F L 0 0 [.ref qo, .int 7, .int 3, .int 0] h (fun v h' => v = some (.null) ∧ (∃ w : Int32, h' qo = some (.inr (5, [.ref t, .ref pa, .ref na, .int 0, .int 0, .int w, .ref po, .ref d, .int 0]))) ∧ FrO [qo] h h') (fun _ _ => False) := by
  refine xw_Met.of rfl (by decide) (Nat.le_of_ble_eq_true rfl) ?_
  have r0 : FrO [qo] h h := FrO.rf
  refine s_Question_joined_0 ?_
  refine x_callV (As := [.int 7, .int 3, .int 0]) (b := qo) (rest := []) (F1 := 9) (L1 := 197) (mc := 0) (ms := 0) d_Question_joined_4 cV_Question_84 (fq_op7  e_qo e_po e_k1 e_k2 e_t n_k1_k2 hk (by omega) (by omega)) e_qo ⟨by decide, rfl⟩ ⟨by omega, by show 8 + (4 + 11) + 197 ≤ _; omega⟩ ⟨by omega, by omega⟩ (Nat.le_of_ble_eq_true rfl) (fun v_5 h_4 p_6 => ?_)
  obtain ⟨rfl, ⟨wp_3, e_1⟩, fr_2⟩ := p_6
  have e_7 := fr_2 po _ (by simp only [List.mem_cons, List.not_mem_nil, or_false]; exact (xw_neC e_po e_qo (by simp))) e_po
  have e_8 := fr_2 k1 _ (by simp only [List.mem_cons, List.not_mem_nil, or_false]; exact (xw_neC e_k1 e_qo (by simp))) e_k1
  have e_9 := fr_2 k2 _ (by simp only [List.mem_cons, List.not_mem_nil, or_false]; exact (xw_neC e_k2 e_qo (by simp))) e_k2
  have e_10 := fr_2 t _ (by simp only [List.mem_cons, List.not_mem_nil, or_false]; exact (xw_neC e_t e_qo (by simp))) e_t
  have r_11 := r0.trans (fr_2.mono (by simp))
  refine s_Question_joined_7 (s0 := none) ?_
  refine s_Question_joined_12 (r4 := none) (fun z => absurd z (by decide)) (fun z_12 => ?_)
  refine s_Question_joined_19 (r4 := none) (fun z_13 => ?_) (fun _ z => absurd z (by simp))
  refine s_Question_joined_67 (r4 := none) ?_
  exact ⟨rfl, ⟨_, e_1⟩, r_11⟩
set_option maxHeartbeats 1000000 in
theorem fq_op6 {G : xw_G} {F L : Nat} {h : xw_A} {fk : Nat → Int32} {fy : Nat → Int32} {wp : Int32} {qo t pa na po d k1 k2 k3 tl ts : Nat} (e_qo : h qo = some (.inr (5, [.ref t, .ref pa, .ref na, .int 0, .int 0, .int wp, .ref po, .ref d, .int 0]))) (e_po : h po = some (.inr (3, [.ref k1, .ref k2, .ref k3, .ref d, .int 0]))) (e_k1 : h k1 = some (.inl (0, 97, .inl fk))) (e_k2 : h k2 = some (.inl (0, 97, .inl fy))) (e_t : h t = some (.inr (9, [.ref tl, .ref ts, .int 0]))) (n_k1_k2 : k1 ≠ k2) (hk : fk 0 = 0) (hF : 11 ≤ F) (hL : 246 ≤ L) :
    xw_Met G m_Question_operand F L 0 0 [.ref qo, .int 6, .int 3, .int 0] h (fun v h' => v = some (.null) ∧ (∃ w : Int32, h' qo = some (.inr (5, [.ref t, .ref pa, .ref na, .int 0, .int 0, .int w, .ref po, .ref d, .int 0]))) ∧ FrO [qo] h h') (fun _ _ => False) := by
  refine xw_Met.of rfl (by decide) (Nat.le_of_ble_eq_true rfl) ?_
  have r0 : FrO [qo] h h := FrO.rf
  refine s_Question_operand_0 (fun z_1 => ?_) (fun z => absurd z (by decide))
  refine s_Question_operand_15 ?_
  refine x_callV (As := [.int (6 + 1), .int 3, .int 0]) (b := qo) (rest := []) (F1 := 10) (L1 := 220) (mc := 0) (ms := 0) d_Question_operand_21 cV_Question_65 (fq_jo7  e_qo e_po e_k1 e_k2 e_t n_k1_k2 hk (by omega) (by omega)) e_qo ⟨by decide, rfl⟩ ⟨by omega, by show 8 + (7 + 11) + 220 ≤ _; omega⟩ ⟨by omega, by omega⟩ (Nat.le_of_ble_eq_true rfl) (fun v_6 h_5 p_7 => ?_)
  obtain ⟨rfl, ⟨wp_4, e_2⟩, fr_3⟩ := p_7
  have e_8 := fr_3 po _ (by simp only [List.mem_cons, List.not_mem_nil, or_false]; exact (xw_neC e_po e_qo (by simp))) e_po
  have e_9 := fr_3 k1 _ (by simp only [List.mem_cons, List.not_mem_nil, or_false]; exact (xw_neC e_k1 e_qo (by simp))) e_k1
  have e_10 := fr_3 k2 _ (by simp only [List.mem_cons, List.not_mem_nil, or_false]; exact (xw_neC e_k2 e_qo (by simp))) e_k2
  have e_11 := fr_3 t _ (by simp only [List.mem_cons, List.not_mem_nil, or_false]; exact (xw_neC e_t e_qo (by simp))) e_t
  have r_12 := r0.trans (fr_3.mono (by simp))
  refine x_le (xw_le_n (xw_le_n (xw_le_n (xw_le_n xw_le_e)))) ?_
  refine s_Question_operand_24 (s0 := none) ?_
  exact ⟨rfl, ⟨_, e_2⟩, r_12⟩
set_option maxHeartbeats 1000000 in
theorem fq_jo6 {G : xw_G} {F L : Nat} {h : xw_A} {fk : Nat → Int32} {fy : Nat → Int32} {wp : Int32} {qo t pa na po d k1 k2 k3 tl ts : Nat} (e_qo : h qo = some (.inr (5, [.ref t, .ref pa, .ref na, .int 0, .int 0, .int wp, .ref po, .ref d, .int 0]))) (e_po : h po = some (.inr (3, [.ref k1, .ref k2, .ref k3, .ref d, .int 0]))) (e_k1 : h k1 = some (.inl (0, 97, .inl fk))) (e_k2 : h k2 = some (.inl (0, 97, .inl fy))) (e_t : h t = some (.inr (9, [.ref tl, .ref ts, .int 0]))) (n_k1_k2 : k1 ≠ k2) (hk : fk 0 = 0) (hF : 12 ≤ F) (hL : 269 ≤ L) :
    xw_Met G m_Question_joined F L 0 0 [.ref qo, .int 6, .int 3, .int 0] h (fun v h' => v = some (.null) ∧ (∃ w : Int32, h' qo = some (.inr (5, [.ref t, .ref pa, .ref na, .int 0, .int 0, .int w, .ref po, .ref d, .int 0]))) ∧ FrO [qo] h h') (fun _ _ => False) := by
  refine xw_Met.of rfl (by decide) (Nat.le_of_ble_eq_true rfl) ?_
  have r0 : FrO [qo] h h := FrO.rf
  refine s_Question_joined_0 ?_
  refine x_callV (As := [.int 6, .int 3, .int 0]) (b := qo) (rest := []) (F1 := 11) (L1 := 246) (mc := 0) (ms := 0) d_Question_joined_4 cV_Question_84 (fq_op6  e_qo e_po e_k1 e_k2 e_t n_k1_k2 hk (by omega) (by omega)) e_qo ⟨by decide, rfl⟩ ⟨by omega, by show 8 + (4 + 11) + 246 ≤ _; omega⟩ ⟨by omega, by omega⟩ (Nat.le_of_ble_eq_true rfl) (fun v_5 h_4 p_6 => ?_)
  obtain ⟨rfl, ⟨wp_3, e_1⟩, fr_2⟩ := p_6
  have e_7 := fr_2 po _ (by simp only [List.mem_cons, List.not_mem_nil, or_false]; exact (xw_neC e_po e_qo (by simp))) e_po
  have e_8 := fr_2 k1 _ (by simp only [List.mem_cons, List.not_mem_nil, or_false]; exact (xw_neC e_k1 e_qo (by simp))) e_k1
  have e_9 := fr_2 k2 _ (by simp only [List.mem_cons, List.not_mem_nil, or_false]; exact (xw_neC e_k2 e_qo (by simp))) e_k2
  have e_10 := fr_2 t _ (by simp only [List.mem_cons, List.not_mem_nil, or_false]; exact (xw_neC e_t e_qo (by simp))) e_t
  have r_11 := r0.trans (fr_2.mono (by simp))
  refine s_Question_joined_7 (s0 := none) ?_
  refine s_Question_joined_12 (r4 := none) (fun z => absurd z (by decide)) (fun z_12 => ?_)
  refine s_Question_joined_19 (r4 := none) (fun z_13 => ?_) (fun _ z => absurd z (by simp))
  refine s_Question_joined_67 (r4 := none) ?_
  exact ⟨rfl, ⟨_, e_1⟩, r_11⟩
set_option maxHeartbeats 1000000 in
theorem fq_op5 {G : xw_G} {F L : Nat} {h : xw_A} {fk : Nat → Int32} {fy : Nat → Int32} {wp : Int32} {qo t pa na po d k1 k2 k3 tl ts : Nat} (e_qo : h qo = some (.inr (5, [.ref t, .ref pa, .ref na, .int 0, .int 0, .int wp, .ref po, .ref d, .int 0]))) (e_po : h po = some (.inr (3, [.ref k1, .ref k2, .ref k3, .ref d, .int 0]))) (e_k1 : h k1 = some (.inl (0, 97, .inl fk))) (e_k2 : h k2 = some (.inl (0, 97, .inl fy))) (e_t : h t = some (.inr (9, [.ref tl, .ref ts, .int 0]))) (n_k1_k2 : k1 ≠ k2) (hk : fk 0 = 0) (hF : 13 ≤ F) (hL : 295 ≤ L) :
    xw_Met G m_Question_operand F L 0 0 [.ref qo, .int 5, .int 3, .int 0] h (fun v h' => v = some (.null) ∧ (∃ w : Int32, h' qo = some (.inr (5, [.ref t, .ref pa, .ref na, .int 0, .int 0, .int w, .ref po, .ref d, .int 0]))) ∧ FrO [qo] h h') (fun _ _ => False) := by
  refine xw_Met.of rfl (by decide) (Nat.le_of_ble_eq_true rfl) ?_
  have r0 : FrO [qo] h h := FrO.rf
  refine s_Question_operand_0 (fun z_1 => ?_) (fun z => absurd z (by decide))
  refine s_Question_operand_15 ?_
  refine x_callV (As := [.int (5 + 1), .int 3, .int 0]) (b := qo) (rest := []) (F1 := 12) (L1 := 269) (mc := 0) (ms := 0) d_Question_operand_21 cV_Question_65 (fq_jo6  e_qo e_po e_k1 e_k2 e_t n_k1_k2 hk (by omega) (by omega)) e_qo ⟨by decide, rfl⟩ ⟨by omega, by show 8 + (7 + 11) + 269 ≤ _; omega⟩ ⟨by omega, by omega⟩ (Nat.le_of_ble_eq_true rfl) (fun v_6 h_5 p_7 => ?_)
  obtain ⟨rfl, ⟨wp_4, e_2⟩, fr_3⟩ := p_7
  have e_8 := fr_3 po _ (by simp only [List.mem_cons, List.not_mem_nil, or_false]; exact (xw_neC e_po e_qo (by simp))) e_po
  have e_9 := fr_3 k1 _ (by simp only [List.mem_cons, List.not_mem_nil, or_false]; exact (xw_neC e_k1 e_qo (by simp))) e_k1
  have e_10 := fr_3 k2 _ (by simp only [List.mem_cons, List.not_mem_nil, or_false]; exact (xw_neC e_k2 e_qo (by simp))) e_k2
  have e_11 := fr_3 t _ (by simp only [List.mem_cons, List.not_mem_nil, or_false]; exact (xw_neC e_t e_qo (by simp))) e_t
  have r_12 := r0.trans (fr_3.mono (by simp))
  refine x_le (xw_le_n (xw_le_n (xw_le_n (xw_le_n xw_le_e)))) ?_
  refine s_Question_operand_24 (s0 := none) ?_
  exact ⟨rfl, ⟨_, e_2⟩, r_12⟩
set_option maxHeartbeats 1000000 in
theorem fq_jo5 {G : xw_G} {F L : Nat} {h : xw_A} {fk : Nat → Int32} {fy : Nat → Int32} {wp : Int32} {qo t pa na po d k1 k2 k3 tl ts : Nat} (e_qo : h qo = some (.inr (5, [.ref t, .ref pa, .ref na, .int 0, .int 0, .int wp, .ref po, .ref d, .int 0]))) (e_po : h po = some (.inr (3, [.ref k1, .ref k2, .ref k3, .ref d, .int 0]))) (e_k1 : h k1 = some (.inl (0, 97, .inl fk))) (e_k2 : h k2 = some (.inl (0, 97, .inl fy))) (e_t : h t = some (.inr (9, [.ref tl, .ref ts, .int 0]))) (n_k1_k2 : k1 ≠ k2) (hk : fk 0 = 0) (hF : 14 ≤ F) (hL : 318 ≤ L) :
    xw_Met G m_Question_joined F L 0 0 [.ref qo, .int 5, .int 3, .int 0] h (fun v h' => v = some (.null) ∧ (∃ w : Int32, h' qo = some (.inr (5, [.ref t, .ref pa, .ref na, .int 0, .int 0, .int w, .ref po, .ref d, .int 0]))) ∧ FrO [qo] h h') (fun _ _ => False) := by
  refine xw_Met.of rfl (by decide) (Nat.le_of_ble_eq_true rfl) ?_
  have r0 : FrO [qo] h h := FrO.rf
  refine s_Question_joined_0 ?_
  refine x_callV (As := [.int 5, .int 3, .int 0]) (b := qo) (rest := []) (F1 := 13) (L1 := 295) (mc := 0) (ms := 0) d_Question_joined_4 cV_Question_84 (fq_op5  e_qo e_po e_k1 e_k2 e_t n_k1_k2 hk (by omega) (by omega)) e_qo ⟨by decide, rfl⟩ ⟨by omega, by show 8 + (4 + 11) + 295 ≤ _; omega⟩ ⟨by omega, by omega⟩ (Nat.le_of_ble_eq_true rfl) (fun v_5 h_4 p_6 => ?_)
  obtain ⟨rfl, ⟨wp_3, e_1⟩, fr_2⟩ := p_6
  have e_7 := fr_2 po _ (by simp only [List.mem_cons, List.not_mem_nil, or_false]; exact (xw_neC e_po e_qo (by simp))) e_po
  have e_8 := fr_2 k1 _ (by simp only [List.mem_cons, List.not_mem_nil, or_false]; exact (xw_neC e_k1 e_qo (by simp))) e_k1
  have e_9 := fr_2 k2 _ (by simp only [List.mem_cons, List.not_mem_nil, or_false]; exact (xw_neC e_k2 e_qo (by simp))) e_k2
  have e_10 := fr_2 t _ (by simp only [List.mem_cons, List.not_mem_nil, or_false]; exact (xw_neC e_t e_qo (by simp))) e_t
  have r_11 := r0.trans (fr_2.mono (by simp))
  refine s_Question_joined_7 (s0 := none) ?_
  refine s_Question_joined_12 (r4 := none) (fun z => absurd z (by decide)) (fun z_12 => ?_)
  refine s_Question_joined_19 (r4 := none) (fun z_13 => ?_) (fun _ z => absurd z (by simp))
  refine s_Question_joined_67 (r4 := none) ?_
  exact ⟨rfl, ⟨_, e_1⟩, r_11⟩
set_option maxHeartbeats 4000000 in
theorem fq_read {G : xw_G} {F L : Nat} {h : xw_A} {qo t pa na po k1 k2 k3 tl ts d : Nat} (e_qo : h qo = some (.inr (5, [.ref t, .ref pa, .ref na, .int 0, .int 0, .int 0, .ref po, .null, .int 0]))) (e_po : h po = some (.inr (3, [.ref k1, .ref k2, .ref k3, .null, .int 0]))) (e_k1 : h k1 = some (.inl (0, 97, .inl (fun _ => 0)))) (e_k2 : h k2 = some (.inl (0, 97, .inl (fun _ => 0)))) (e_k3 : h k3 = some (.inl (0, 97, .inl (fun _ => 0)))) (e_t : h t = some (.inr (9, [.ref tl, .ref ts, .int 0]))) (n_k1_k2 : k1 ≠ k2) (n_k1_k3 : k1 ≠ k3) (n_k2_k3 : k2 ≠ k3) (hF : 15 ≤ F) (hL : 344 ≤ L) :
    xw_Met G m_Question_read F L 0 0 [.ref qo, .ref d, .int 0] h (fun v h' => v = some (.int 0) ∧ (∃ w : Int32, h' qo = some (.inr (5, [.ref t, .ref pa, .ref na, .int 0, .int 0, .int w, .ref po, .ref d, .int 0]))) ∧ FrO [qo, po, k1, k2, k3, t] h h') (fun _ _ => False) := by
  refine xw_Met.of rfl (by decide) (Nat.le_of_ble_eq_true rfl) ?_
  have r0 : FrO [qo, po, k1, k2, k3, t] h h := FrO.rf
  refine s_Question_read_0 (tokens_a0 := some t) (phrases_a0 := some pa) (nodes_a0 := some na) (parts_a0 := some po) (letters_a0 := none) e_qo ?_
  refine x_callV (As := [.ref d, .int 0]) (b := po) (rest := []) (F1 := 2) (L1 := 43) (mc := 0) (ms := 0) d_Question_read_6 cV_Question_41 (fc_split e_po e_k1 e_k2 e_k3 n_k1_k2 n_k1_k3 n_k2_k3 (by omega) (by omega)) e_po ⟨by decide, rfl⟩ ⟨by omega, by show 8 + (5 + 11) + 43 ≤ _; omega⟩ ⟨by omega, by omega⟩ (Nat.le_of_ble_eq_true rfl) (fun v_10 h_9 p_11 => ?_)
  obtain ⟨rfl, e_4, ⟨fk_1, fy_2, fz_3, hk, e_5, e_6, e_7⟩, fr_8⟩ := p_11
  have e_12 := fr_8 qo _ (by simp only [List.mem_cons, List.not_mem_nil, or_false, not_or]; exact ⟨(xw_neC e_qo e_po (by simp)), (xw_neC e_qo e_k1 (by simp)), (xw_neC e_qo e_k2 (by simp)), (xw_neC e_qo e_k3 (by simp))⟩) e_qo
  have e_13 := fr_8 t _ (by simp only [List.mem_cons, List.not_mem_nil, or_false, not_or]; exact ⟨(xw_neC e_t e_po (by simp)), (xw_neC e_t e_k1 (by simp)), (xw_neC e_t e_k2 (by simp)), (xw_neC e_t e_k3 (by simp))⟩) e_t
  have r_14 := r0.trans (fr_8.mono (by simp))
  refine x_le (xw_le_s (xw_le_s (xw_le_n (xw_le_n xw_le_e)))) ?_
  refine s_Question_read_9 (phrases_a0 := some pa) (nodes_a0 := some na) (parts_a0 := some po) (letters_a0 := none) (letters_tokens_a0 := some tl) (starts_tokens_a0 := some ts) e_12 e_13 ?_
  rw [xw_up_up]
  refine x_u3 (fun h_15 e_16 f_17 h_18 e_19 f_20 h_21 e_22 f_23 => ?_)
  have e_24 := (f_17 po (xw_neC e_4 e_12 (by simp))).trans e_4
  have e_25 := (f_17 k1 (xw_neC e_5 e_12 (by simp))).trans e_5
  have e_26 := (f_17 k2 (xw_neC e_6 e_12 (by simp))).trans e_6
  have e_27 := (f_17 k3 (xw_neC e_7 e_12 (by simp))).trans e_7
  have e_28 := (f_17 t (xw_neC e_13 e_12 (by simp))).trans e_13
  have r_29 := r_14.up (by simp) f_17
  have e_30 := (f_20 qo (xw_neC e_16 e_28 (by simp))).trans e_16
  have e_31 := (f_20 po (xw_neC e_24 e_28 (by simp))).trans e_24
  have e_32 := (f_20 k1 (xw_neC e_25 e_28 (by simp))).trans e_25
  have e_33 := (f_20 k2 (xw_neC e_26 e_28 (by simp))).trans e_26
  have e_34 := (f_20 k3 (xw_neC e_27 e_28 (by simp))).trans e_27
  have r_35 := r_29.up (by simp) f_20
  have e_36 := (f_23 po (xw_neC e_31 e_30 (by simp))).trans e_31
  have e_37 := (f_23 k1 (xw_neC e_32 e_30 (by simp))).trans e_32
  have e_38 := (f_23 k2 (xw_neC e_33 e_30 (by simp))).trans e_33
  have e_39 := (f_23 k3 (xw_neC e_34 e_30 (by simp))).trans e_34
  have e_40 := (f_23 t (xw_neC e_19 e_30 (by simp))).trans e_19
  have r_41 := r_35.up (by simp) f_23
  refine s_Question_read_32 (tokens_a0 := some t) (phrases_a0 := some pa) (nodes_a0 := some na) (parts_a0 := some po) (letters_a0 := some d) e_22 ?_
  rw [xw_up_up]
  refine x_u1 (fun h_42 e_43 f_44 => ?_)
  have e_45 := (f_44 po (xw_neC e_36 e_22 (by simp))).trans e_36
  have e_46 := (f_44 k1 (xw_neC e_37 e_22 (by simp))).trans e_37
  have e_47 := (f_44 k2 (xw_neC e_38 e_22 (by simp))).trans e_38
  have e_48 := (f_44 k3 (xw_neC e_39 e_22 (by simp))).trans e_39
  have e_49 := (f_44 t (xw_neC e_40 e_22 (by simp))).trans e_40
  have r_50 := r_41.up (by simp) f_44
  refine x_callV (As := [.int 5, .int 3, .int 0]) (b := qo) (rest := []) (F1 := 14) (L1 := 318) (mc := 0) (ms := 0) d_Question_read_46 cV_Question_65 (fq_jo5  e_43 e_45 e_46 e_47 e_49 n_k1_k2 hk (by omega) (by omega)) e_43 ⟨by decide, rfl⟩ ⟨by omega, by show 8 + (7 + 11) + 318 ≤ _; omega⟩ ⟨by omega, by omega⟩ (Nat.le_of_ble_eq_true rfl) (fun v_55 h_54 p_56 => ?_)
  obtain ⟨rfl, ⟨wp_53, e_51⟩, fr_52⟩ := p_56
  have e_57 := fr_52 po _ (by simp only [List.mem_cons, List.not_mem_nil, or_false]; exact (xw_neC e_45 e_43 (by simp))) e_45
  have e_58 := fr_52 k1 _ (by simp only [List.mem_cons, List.not_mem_nil, or_false]; exact (xw_neC e_46 e_43 (by simp))) e_46
  have e_59 := fr_52 k2 _ (by simp only [List.mem_cons, List.not_mem_nil, or_false]; exact (xw_neC e_47 e_43 (by simp))) e_47
  have e_60 := fr_52 k3 _ (by simp only [List.mem_cons, List.not_mem_nil, or_false]; exact (xw_neC e_48 e_43 (by simp))) e_48
  have e_61 := fr_52 t _ (by simp only [List.mem_cons, List.not_mem_nil, or_false]; exact (xw_neC e_49 e_43 (by simp))) e_49
  have r_62 := r_50.trans (fr_52.mono (by simp))
  refine s_Question_read_49 (s0 := none) (fun z_63 => ?_) (fun _ z => absurd z (by simp))
  refine s_Question_read_66 (r3 := none) (fun z_64 => ?_) (fun _ z => absurd z (by simp))
  refine s_Question_read_74 ?_
  refine s_Question_read_75 rfl ?_
  exact ⟨rfl, ⟨_, e_51⟩, r_62⟩
set_option maxHeartbeats 2000000 in
theorem fc_ask {G : xw_G} {F L : Nat} {h : xw_A} {x d tx w st sv qo so ao t pa na po k1 k2 k3 tl ts : Nat} (e_x : h x = some (.inr (0, [.ref d, .ref tx, .ref w, .ref st, .ref sv, .ref qo, .ref so, .ref ao, .int 0, .int 3, .int 20, .int 0, .int (-1), .int 0]))) (e_qo : h qo = some (.inr (5, [.ref t, .ref pa, .ref na, .int 0, .int 0, .int 0, .ref po, .null, .int 0]))) (e_po : h po = some (.inr (3, [.ref k1, .ref k2, .ref k3, .null, .int 0]))) (e_k1 : h k1 = some (.inl (0, 97, .inl (fun _ => 0)))) (e_k2 : h k2 = some (.inl (0, 97, .inl (fun _ => 0)))) (e_k3 : h k3 = some (.inl (0, 97, .inl (fun _ => 0)))) (e_t : h t = some (.inr (9, [.ref tl, .ref ts, .int 0]))) (n_k1_k2 : k1 ≠ k2) (n_k1_k3 : k1 ≠ k3) (n_k2_k3 : k2 ≠ k3) (hF : 16 ≤ F) (hL : 367 ≤ L) :
    xw_Met G m_Shelf_ask F L 1 6 [.ref x] h (fun v h' => False) (fun E h' => E = "java/lang/IllegalArgumentException" ∧ FrO [x, qo, po, k1, k2, k3, t] h h') := by
  refine xw_Met.of rfl (by decide) (Nat.le_of_ble_eq_true rfl) ?_
  have r0 : FrO [x, qo, po, k1, k2, k3, t] h h := FrO.rf
  refine s_Shelf_ask_0 (draft_a0 := some d) (texts_a0 := some tx) (weights_a0 := some w) (store_a0 := some st) (saved_a0 := some sv) (question_a0 := some qo) (standing_a0 := some so) (answers_a0 := some ao) e_x ?_
  refine x_u1 (fun h_1 e_2 f_3 => ?_)
  have e_4 := (f_3 qo (xw_neC e_qo e_x (by simp))).trans e_qo
  have e_5 := (f_3 po (xw_neC e_po e_x (by simp))).trans e_po
  have e_6 := (f_3 k1 (xw_neC e_k1 e_x (by simp))).trans e_k1
  have e_7 := (f_3 k2 (xw_neC e_k2 e_x (by simp))).trans e_k2
  have e_8 := (f_3 k3 (xw_neC e_k3 e_x (by simp))).trans e_k3
  have e_9 := (f_3 t (xw_neC e_t e_x (by simp))).trans e_t
  have r_10 := r0.up (by simp) f_3
  refine x_callV (As := [.ref d, .int 0]) (b := qo) (rest := []) (F1 := 15) (L1 := 344) (mc := 0) (ms := 0) d_Shelf_ask_19 cV_Shelf_163 (fq_read e_4 e_5 e_6 e_7 e_8 e_9 n_k1_k2 n_k1_k3 n_k2_k3 (by omega) (by omega)) e_4 ⟨by decide, rfl⟩ ⟨by omega, by show 8 + (4 + 11) + 344 ≤ _; omega⟩ ⟨by omega, by omega⟩ (Nat.le_of_ble_eq_true rfl) (fun v_15 h_14 p_16 => ?_)
  obtain ⟨rfl, ⟨wp_13, e_11⟩, fr_12⟩ := p_16
  have e_17 := fr_12 x _ (by simp only [List.mem_cons, List.not_mem_nil, or_false, not_or]; exact ⟨(xw_neC e_2 e_4 (by simp)), (xw_neC e_2 e_5 (by simp)), (xw_neC e_2 e_6 (by simp)), (xw_neC e_2 e_7 (by simp)), (xw_neC e_2 e_8 (by simp)), (xw_neC e_2 e_9 (by simp))⟩) e_2
  have r_18 := r_10.trans (fr_12.mono (by simp))
  refine x_le (xw_le_s (xw_le_n (xw_le_n xw_le_e))) ?_
  refine s_Shelf_ask_22 (draft_a0 := some d) (texts_a0 := some tx) (weights_a0 := some w) (store_a0 := some st) (saved_a0 := some sv) (standing_a0 := some so) (answers_a0 := some ao) (tokens_question_a0 := some t) (phrases_question_a0 := some pa) (nodes_question_a0 := some na) (parts_question_a0 := some po) (letters_question_a0 := some d) e_17 e_11 (fun z => absurd z (by decide)) (fun z_19 => ?_)
  refine x_u1 (fun h_20 e_21 f_22 => ?_)
  have e_23 := (f_22 qo (xw_neC e_11 e_17 (by simp))).trans e_11
  have r_24 := r_18.up (by simp) f_22
  refine x_throw rfl th_Shelf_71_168_75 d_Shelf_ask_38 d_Shelf_ask_41 d_Shelf_ask_42 d_Shelf_ask_44 d_Shelf_ask_47 ⟨by show 1 + 4 < _; omega, by show 0 + (13 * (1 + 2) + 43) ≤ _; omega⟩ ⟨by omega, by omega⟩ ?_
  exact ⟨rfl, r_24⟩
