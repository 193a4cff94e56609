/-! the class in general states: by program (wip/tools/gen.py) -/
set_option maxHeartbeats 400000 in
theorem g_flushS {G : xw_G} {F L : Nat} {h : xw_A} {x d tx w st sv qo so ao dl mo li : Nat} {op wp gp : Int32} (e_x : h x = some (.inr (0, [.ref d, .ref tx, .ref w, .ref st, .ref sv, .ref qo, .ref so, .ref ao, .int (nI dl), .int (nI mo), .int (nI li), .int op, .int wp, .int gp]))) {A : List Nat} {s1 s2 s3 s4 : Nat} {fr fp fs fl : Nat → Option Nat} {pc sc lc nv ns : Nat} {R : Nat → Option VT} {P : List VT} {S : List SG} {Lv : List VT} (K : StoC A st s1 s2 s3 s4 fr fp fs fl pc sc lc (nI (sumE P)) (nI nv) (nI ns) h) (V : StV A h fr fp fs fl pc sc lc R P S Lv) (SA : StA A st s1 s2 s3 s4) (hmo : mo ≤ 9) (hF : 5 ≤ F) (hL : 148 ≤ L) :
    xw_Met G m_Shelf_flush F L 12 162 [.ref x] h (fun v h' => v = some (.int (nI (fluS R mo P S ns).1.length)) ∧ h' x = some (.inr (0, [.ref d, .ref tx, .ref w, .ref st, .ref sv, .ref qo, .ref so, .ref ao, .int (nI dl), .int (nI mo), .int (nI li), .int op, .int wp, .int gp])) ∧ StoG A st s1 s2 s3 s4 fr R [] (fluS R mo P S ns).1 nv (fluS R mo P S ns).2 h' ∧ FrO [st, s3, s4] h h') (fun _ _ => False) := by
  refine xw_Met.of rfl (by decide) (Nat.le_of_ble_eq_true rfl) ?_
  obtain ⟨e_st, e_s1, e_s2, e_s3, e_s4, -⟩ := id K
  have r0 : FrO [st, s3, s4] h h := FrO.rf
  refine s_Shelf_flush_0 (draft_a0 := some d) (texts_a0 := some tx) (weights_a0 := some w) (store_a0 := some st) (saved_a0 := some sv) (question_a0 := some qo) (standing_a0 := some so) (answers_a0 := some ao) e_x ?_
  refine x_callV (As := [.int (nI mo)]) (b := st) (rest := []) (F1 := 4) (L1 := 126) (mc := 12) (ms := 162) d_Shelf_flush_8 cV_Shelf_147 (g_flushV K V hmo SA (by omega) (by omega)) e_st ⟨by decide, rfl⟩ ⟨by omega, by show 8 + (3 + 11) + 126 ≤ _; omega⟩ ⟨by omega, by omega⟩ (Nat.le_of_ble_eq_true rfl) (fun v_10 h_9 p_11 => ?_)
  obtain ⟨rfl, ⟨fs_1, fl_2, sc_3, lc_4, Lv_5, K_6, V_7⟩, fr_8⟩ := p_11
  have e_12 := fr_8 x _ (by simp only [List.mem_cons, List.not_mem_nil, or_false, not_or]; exact ⟨(xw_neC e_x e_st (by simp)), (xw_neC e_x e_s3 (by simp)), (xw_neC e_x e_s4 (by simp))⟩) e_x
  obtain ⟨e_13, e_14, e_15, e_16, e_17, -⟩ := id K_6
  have r_18 := r0.trans (fr_8.mono (by simp))
  refine s_Shelf_flush_11 (draft_a0 := some d) (texts_a0 := some tx) (weights_a0 := some w) (saved_a0 := some sv) (question_a0 := some qo) (standing_a0 := some so) (answers_a0 := some ao) (rows_store_a0 := some s1) (pending_store_a0 := some s2) (segments_store_a0 := some s3) (live_store_a0 := some s4) e_12 e_13 ?_
  exact ⟨by rw [V_7.2.2.1.1], e_12, ⟨_, _, _, _, _, _, _, K_6, V_7⟩, r_18⟩
set_option maxHeartbeats 400000 in
theorem g_optimize {G : xw_G} {F L : Nat} {h : xw_A} {x d tx w st sv qo so ao dl : Nat} {mo li op wp gp : Int32} (e_x : h x = some (.inr (0, [.ref d, .ref tx, .ref w, .ref st, .ref sv, .ref qo, .ref so, .ref ao, .int (nI dl), .int mo, .int li, .int op, .int wp, .int gp]))) {A : List Nat} {s1 s2 s3 s4 : Nat} {fr fp fs fl : Nat → Option Nat} {pc sc lc nv ns : Nat} {R : Nat → Option VT} {P : List VT} {S : List SG} {Lv : List VT} (K : StoC A st s1 s2 s3 s4 fr fp fs fl pc sc lc (nI (sumE P)) (nI nv) (nI ns) h) (V : StV A h fr fp fs fl pc sc lc R P S Lv) (SA : StA A st s1 s2 s3 s4) (hF : 5 ≤ F) (hL : 149 ≤ L) :
    xw_Met G m_Shelf_optimize F L 2 27 [.ref x] h (fun v h' => v = some (.int (nI S.length)) ∧ h' x = some (.inr (0, [.ref d, .ref tx, .ref w, .ref st, .ref sv, .ref qo, .ref so, .ref ao, .int (nI dl), .int mo, .int li, .int op, .int wp, .int gp])) ∧ StoG A st s1 s2 s3 s4 fr R P (mrgS R 0 5 (hiL S 0) S) nv (mrgN R 0 5 S ns) h' ∧ FrO [st, s3, s4] h h') (fun _ _ => False) := by
  refine xw_Met.of rfl (by decide) (Nat.le_of_ble_eq_true rfl) ?_
  obtain ⟨e_st, e_s1, e_s2, e_s3, e_s4, -⟩ := id K
  have r0 : FrO [st, s3, s4] h h := FrO.rf
  refine s_Shelf_optimize_0 (draft_a0 := some d) (texts_a0 := some tx) (weights_a0 := some w) (store_a0 := some st) (saved_a0 := some sv) (question_a0 := some qo) (standing_a0 := some so) (answers_a0 := some ao) e_x ?_
  refine x_callV (As := []) (b := st) (rest := []) (F1 := 4) (L1 := 126) (mc := 2) (ms := 27) d_Shelf_optimize_4 cV_Shelf_156 (g_mergeAllV K V SA (by omega) (by omega)) e_st ⟨by decide, rfl⟩ ⟨by omega, by show 8 + (4 + 11) + 126 ≤ _; omega⟩ ⟨by omega, by omega⟩ (Nat.le_of_ble_eq_true rfl) (fun v_10 h_9 p_11 => ?_)
  obtain ⟨rfl, ⟨fs_1, fl_2, sc_3, lc_4, Lv_5, K_6, V_7⟩, fr_8⟩ := p_11
  have e_12 := fr_8 x _ (by simp only [List.mem_cons, List.not_mem_nil, or_false, not_or]; exact ⟨(xw_neC e_x e_st (by simp)), (xw_neC e_x e_s3 (by simp)), (xw_neC e_x e_s4 (by simp))⟩) e_x
  obtain ⟨e_13, e_14, e_15, e_16, e_17, -⟩ := id K_6
  have r_18 := r0.trans (fr_8.mono (by simp))
  refine x_le (xw_le_n xw_le_e) ?_
  refine s_Shelf_optimize_7 ?_
  exact ⟨by rw [V.2.2.1.1], e_12, ⟨_, _, _, _, _, _, _, K_6, V_7⟩, r_18⟩
set_option maxHeartbeats 400000 in
theorem g_commit {G : xw_G} {F L : Nat} {h : xw_A} {x d tx w st sv qo so ao dl mo li : Nat} {op wp gp : Int32} (e_x : h x = some (.inr (0, [.ref d, .ref tx, .ref w, .ref st, .ref sv, .ref qo, .ref so, .ref ao, .int (nI dl), .int (nI mo), .int (nI li), .int op, .int wp, .int gp]))) {A : List Nat} {s1 s2 s3 s4 : Nat} {fr fp fs fl : Nat → Option Nat} {pc sc lc nv ns : Nat} {R : Nat → Option VT} {P : List VT} {S : List SG} {Lv : List VT} (K : StoC A st s1 s2 s3 s4 fr fp fs fl pc sc lc (nI (sumE P)) (nI nv) (nI ns) h) (V : StV A h fr fp fs fl pc sc lc R P S Lv) (SA : StA A st s1 s2 s3 s4) (hxA : x ∈ A) (hmo : mo ≤ 9) (hF : 6 ≤ F) (hL : 148 ≤ L) :
    xw_Met G m_Shelf_commit F L 12 162 [.ref x] h (fun v h' => ¬ op = 0 ∧ v = some (.int (nI (fluS R mo P S ns).1.length)) ∧ h' x = some (.inr (0, [.ref d, .ref tx, .ref w, .ref st, .ref sv, .ref qo, .ref so, .ref ao, .int (nI dl), .int (nI mo), .int (nI li), .int 0, .int wp, .int gp])) ∧ StoG A st s1 s2 s3 s4 fr R [] (fluS R mo P S ns).1 nv (fluS R mo P S ns).2 h' ∧ FrO [x, st, s3, s4] h h') (fun E h' => E = "java/lang/IllegalStateException" ∧ FrO [] h h' ∧ op = 0) := by
  refine xw_Met.of rfl (by decide) (Nat.le_of_ble_eq_true rfl) ?_
  obtain ⟨e_st, e_s1, e_s2, e_s3, e_s4, -⟩ := id K
  have r0 : FrO [x, st, s3, s4] h h := FrO.rf
  refine s_Shelf_commit_0 (draft_a0 := some d) (texts_a0 := some tx) (weights_a0 := some w) (store_a0 := some st) (saved_a0 := some sv) (question_a0 := some qo) (standing_a0 := some so) (answers_a0 := some ao) e_x (fun z_1 => ?_) (fun z_2 => ?_)
  · skip
    refine s_Shelf_commit_17 (draft_a0 := some d) (texts_a0 := some tx) (weights_a0 := some w) (store_a0 := some st) (saved_a0 := some sv) (question_a0 := some qo) (standing_a0 := some so) (answers_a0 := some ao) e_x ?_
    refine x_u1 (fun h_3 e_4 f_5 => ?_)
    have e_6 := (f_5 st (xw_neC e_st e_x (by simp))).trans e_st
    have e_7 := (f_5 s1 (xw_neC e_s1 e_x (by simp))).trans e_s1
    have e_8 := (f_5 s2 (xw_neC e_s2 e_x (by simp))).trans e_s2
    have e_9 := (f_5 s3 (xw_neC e_s3 e_x (by simp))).trans e_s3
    have e_10 := (f_5 s4 (xw_neC e_s4 e_x (by simp))).trans e_s4
    have r_11 := r0.up (by simp) f_5
    have fq9 : FrO [x] h h_3 := FrO.rf.up (by simp) f_5
    have K9 := K.fr fq9 (suC hxA suN) ⟨(by simp only [List.mem_cons, List.not_mem_nil, or_false]; exact xw_neC e_st e_x (by simp)), (by simp only [List.mem_cons, List.not_mem_nil, or_false]; exact xw_neC e_s1 e_x (by simp)), (by simp only [List.mem_cons, List.not_mem_nil, or_false]; exact xw_neC e_s2 e_x (by simp)), (by simp only [List.mem_cons, List.not_mem_nil, or_false]; exact xw_neC e_s3 e_x (by simp)), (by simp only [List.mem_cons, List.not_mem_nil, or_false]; exact xw_neC e_s4 e_x (by simp))⟩ (exC e_4 exN)
    have V9 := V.fr fq9 (suC hxA suN)
    refine x_callV (As := [.int (nI mo)]) (b := st) (rest := []) (F1 := 4) (L1 := 126) (mc := 12) (ms := 162) d_Shelf_commit_30 cV_Shelf_147 (g_flushV K9 V9 hmo SA (by omega) (by omega)) e_6 ⟨by decide, rfl⟩ ⟨by omega, by show 8 + (3 + 11) + 126 ≤ _; omega⟩ ⟨by omega, by omega⟩ (Nat.le_of_ble_eq_true rfl) (fun v_21 h_20 p_22 => ?_)
    obtain ⟨rfl, ⟨fs_12, fl_13, sc_14, lc_15, Lv_16, K_17, V_18⟩, fr_19⟩ := p_22
    have e_23 := fr_19 x _ (by simp only [List.mem_cons, List.not_mem_nil, or_false, not_or]; exact ⟨(xw_neC e_4 e_6 (by simp)), (xw_neC e_4 e_9 (by simp)), (xw_neC e_4 e_10 (by simp))⟩) e_4
    obtain ⟨e_24, e_25, e_26, e_27, e_28, -⟩ := id K_17
    have r_29 := r_11.trans (fr_19.mono (by simp))
    refine s_Shelf_commit_33 (draft_a0 := some d) (texts_a0 := some tx) (weights_a0 := some w) (saved_a0 := some sv) (question_a0 := some qo) (standing_a0 := some so) (answers_a0 := some ao) (rows_store_a0 := some s1) (pending_store_a0 := some s2) (segments_store_a0 := some s3) (live_store_a0 := some s4) e_23 e_24 ?_
    exact ⟨z_1, by rw [V_18.2.2.1.1], e_23, ⟨_, _, _, _, _, _, _, K_17, V_18⟩, r_29⟩
  · skip
    refine x_throw rfl th_Shelf_136_145_140 d_Shelf_commit_7 d_Shelf_commit_10 d_Shelf_commit_11 d_Shelf_commit_13 d_Shelf_commit_16 ⟨by show 1 + 4 < _; omega, by show 0 + (13 * (1 + 2) + 43) ≤ _; omega⟩ ⟨by omega, by omega⟩ ?_
    exact ⟨rfl, FrO.rf, z_2⟩
set_option maxHeartbeats 2000000 in
theorem g_begin {G : xw_G} {F L : Nat} {h : xw_A} {x d tx w st sv qo so ao dl : Nat} {mo li op wp gp : Int32} (e_x : h x = some (.inr (0, [.ref d, .ref tx, .ref w, .ref st, .ref sv, .ref qo, .ref so, .ref ao, .int (nI dl), .int mo, .int li, .int op, .int wp, .int gp]))) {A : List Nat} {s1 s2 s3 s4 : Nat} {fr fp fs fl : Nat → Option Nat} {pc sc lc nv ns : Nat} {R : Nat → Option VT} {P : List VT} {S : List SG} {Lv : List VT} (K : StoC A st s1 s2 s3 s4 fr fp fs fl pc sc lc (nI (sumE P)) (nI nv) (nI ns) h) (V : StV A h fr fp fs fl pc sc lc R P S Lv) (SA : StA A st s1 s2 s3 s4) {v1 v2 v3 v4 : Nat} {er ep es el : Nat → Option Nat} {qc rc mc n9 m9 : Nat} {R9 : Nat → Option VT} {P9 : List VT} {S9 : List SG} {L9 : List VT} (Kv : StoC A sv v1 v2 v3 v4 er ep es el qc rc mc (nI (sumE P9)) (nI n9) (nI m9) h) (Vv : StV A h er ep es el qc rc mc R9 P9 S9 L9) (SV : StA A sv v1 v2 v3 v4) (NE : sv ≠ st ∧ v1 ≠ s1 ∧ v2 ≠ s2 ∧ v3 ≠ s3 ∧ v4 ≠ s4) (hxA : x ∈ A) (hF : 6 ≤ F) (hL : 90 ≤ L) :
    xw_Met G m_Shelf_begin F L 1 6 [.ref x] h (fun v h' => op = 0 ∧ v = none ∧ h' x = some (.inr (0, [.ref d, .ref tx, .ref w, .ref st, .ref sv, .ref qo, .ref so, .ref ao, .int (nI dl), .int mo, .int li, .int 1, .int wp, .int gp])) ∧ StoG A st s1 s2 s3 s4 fr R P S nv ns h' ∧ (∃ er' : Nat → Option Nat, StoG A sv v1 v2 v3 v4 er' R P S n9 m9 h' ∧ ∀ j, 1 ≤ j → j ≤ 24 → er' j = fr j) ∧ FrO [x, sv, v1, v2, v3] h h') (fun E h' => E = "java/lang/IllegalStateException" ∧ FrO [] h h' ∧ ¬ op = 0) := by
  refine xw_Met.of rfl (by decide) (Nat.le_of_ble_eq_true rfl) ?_
  obtain ⟨e_st, e_s1, e_s2, e_s3, e_s4, -⟩ := id K
  obtain ⟨e_sv, e_v1, e_v2, e_v3, e_v4, -⟩ := id Kv
  have r0 : FrO [x, sv, v1, v2, v3] h h := FrO.rf
  refine s_Shelf_begin_0 (draft_a0 := some d) (texts_a0 := some tx) (weights_a0 := some w) (store_a0 := some st) (saved_a0 := some sv) (question_a0 := some qo) (standing_a0 := some so) (answers_a0 := some ao) e_x (fun z_1 => ?_) (fun z_2 => ?_)
  · skip
    refine s_Shelf_begin_17 (draft_a0 := some d) (texts_a0 := some tx) (weights_a0 := some w) (store_a0 := some st) (saved_a0 := some sv) (question_a0 := some qo) (standing_a0 := some so) (answers_a0 := some ao) e_x ?_
    refine x_callV (As := [.ref st]) (b := sv) (rest := []) (F1 := 1) (L1 := 20) (mc := 0) (ms := 0) d_Shelf_begin_25 cV_Shelf_141 (g_copyV Kv K SV NE (by omega) (by omega)) e_sv ⟨by decide, rfl⟩ ⟨by omega, by show 8 + (3 + 11) + 20 ≤ _; omega⟩ ⟨by omega, by omega⟩ (Nat.le_of_ble_eq_true rfl) (fun v_13 h_12 p_14 => ?_)
    obtain ⟨rfl, ⟨fr_3, fp_4, fs_5, K_6, hc_9, hc_10, hc_11⟩, K_7, fr_8⟩ := p_14
    have V1 := V.fr fr_8 (suC SV.1 (suC SV.2.1 (suC SV.2.2.1 (suC SV.2.2.2.1 suN))))
    have V2 := Vv.fr fr_8 (suC SV.1 (suC SV.2.1 (suC SV.2.2.1 (suC SV.2.2.2.1 suN))))
    have V3 := V1.copy hc_9 hc_10 hc_11 V2.2.2.2
    have e_15 := fr_8 x _ (by simp only [List.mem_cons, List.not_mem_nil, or_false, not_or]; exact ⟨xw_neC e_x e_sv (by simp), xw_neC e_x e_v1 (by simp), xw_neC e_x e_v2 (by simp), xw_neC e_x e_v3 (by simp)⟩) e_x
    have r_16 := r0.trans (fr_8.mono (by simp))
    refine s_Shelf_begin_28 (draft_a0 := some d) (texts_a0 := some tx) (weights_a0 := some w) (store_a0 := some st) (saved_a0 := some sv) (question_a0 := some qo) (standing_a0 := some so) (answers_a0 := some ao) e_15 ?_
    obtain ⟨h_17, z_20⟩ : ∃ z, z = xw_up h_12 x (.inr (0, [va_rf (some d), va_rf (some tx), va_rf (some w), va_rf (some st), va_rf (some sv), va_rf (some qo), va_rf (some so), va_rf (some ao), .int (nI dl), .int mo, .int li, .int 1, .int wp, .int gp])) := ⟨_, rfl⟩
    rw [← z_20]
    have e_18 : h_17 x = some (.inr (0, [va_rf (some d), va_rf (some tx), va_rf (some w), va_rf (some st), va_rf (some sv), va_rf (some qo), va_rf (some so), va_rf (some ao), .int (nI dl), .int mo, .int li, .int 1, .int wp, .int gp])) := by rw [z_20]; exact xw_up_s _ _ _
    have f_19 : ∀ q, q ≠ x → h_17 q = h_12 q := fun q hq => by rw [z_20]; exact xw_up_n _ _ hq
    clear z_20
    have r_21 := r_16.up (by simp) f_19
    have fq9 : FrO [x] h_12 h_17 := FrO.rf.up (by simp) f_19
    obtain ⟨k_sv, k_v1, k_v2, k_v3, k_v4, -⟩ := id K_6
    obtain ⟨k_st, k_s1, k_s2, k_s3, k_s4, -⟩ := id K_7
    exact ⟨z_1, rfl, e_18, ⟨_, _, _, _, _, _, _, K_7.fr fq9 (suC hxA suN) ⟨(by simp only [List.mem_cons, List.not_mem_nil, or_false]; exact xw_neC k_st e_15 (by simp)), (by simp only [List.mem_cons, List.not_mem_nil, or_false]; exact xw_neC k_s1 e_15 (by simp)), (by simp only [List.mem_cons, List.not_mem_nil, or_false]; exact xw_neC k_s2 e_15 (by simp)), (by simp only [List.mem_cons, List.not_mem_nil, or_false]; exact xw_neC k_s3 e_15 (by simp)), (by simp only [List.mem_cons, List.not_mem_nil, or_false]; exact xw_neC k_s4 e_15 (by simp))⟩ (exC e_18 exN), V1.fr fq9 (suC hxA suN)⟩, ⟨_, ⟨_, _, _, _, _, _, _, K_6.fr fq9 (suC hxA suN) ⟨(by simp only [List.mem_cons, List.not_mem_nil, or_false]; exact xw_neC k_sv e_15 (by simp)), (by simp only [List.mem_cons, List.not_mem_nil, or_false]; exact xw_neC k_v1 e_15 (by simp)), (by simp only [List.mem_cons, List.not_mem_nil, or_false]; exact xw_neC k_v2 e_15 (by simp)), (by simp only [List.mem_cons, List.not_mem_nil, or_false]; exact xw_neC k_v3 e_15 (by simp)), (by simp only [List.mem_cons, List.not_mem_nil, or_false]; exact xw_neC k_v4 e_15 (by simp))⟩ (exC e_18 exN), V3.fr fq9 (suC hxA suN)⟩, hc_9⟩, r_21⟩
  · skip
    refine x_throw rfl th_Shelf_136_138_140 d_Shelf_begin_7 d_Shelf_begin_10 d_Shelf_begin_11 d_Shelf_begin_13 d_Shelf_begin_16 ⟨by show 1 + 4 < _; omega, by show 0 + (13 * (1 + 2) + 43) ≤ _; omega⟩ ⟨by omega, by omega⟩ ?_
    exact ⟨rfl, FrO.rf, z_2⟩
set_option maxHeartbeats 2000000 in
theorem g_rollback {G : xw_G} {F L : Nat} {h : xw_A} {x d tx w st sv qo so ao dl : Nat} {mo li op wp gp : Int32} (e_x : h x = some (.inr (0, [.ref d, .ref tx, .ref w, .ref st, .ref sv, .ref qo, .ref so, .ref ao, .int (nI dl), .int mo, .int li, .int op, .int wp, .int gp]))) {A : List Nat} {s1 s2 s3 s4 : Nat} {fr fp fs fl : Nat → Option Nat} {pc sc lc nv ns : Nat} {R : Nat → Option VT} {P : List VT} {S : List SG} {Lv : List VT} (K : StoC A st s1 s2 s3 s4 fr fp fs fl pc sc lc (nI (sumE P)) (nI nv) (nI ns) h) (V : StV A h fr fp fs fl pc sc lc R P S Lv) (SA : StA A st s1 s2 s3 s4) {v1 v2 v3 v4 : Nat} {er ep es el : Nat → Option Nat} {qc rc mc n9 m9 : Nat} {R9 : Nat → Option VT} {P9 : List VT} {S9 : List SG} {L9 : List VT} (Kv : StoC A sv v1 v2 v3 v4 er ep es el qc rc mc (nI (sumE P9)) (nI n9) (nI m9) h) (Vv : StV A h er ep es el qc rc mc R9 P9 S9 L9) (SV : StA A sv v1 v2 v3 v4) (NE : sv ≠ st ∧ v1 ≠ s1 ∧ v2 ≠ s2 ∧ v3 ≠ s3 ∧ v4 ≠ s4) (hxA : x ∈ A) (hF : 6 ≤ F) (hL : 90 ≤ L) :
    xw_Met G m_Shelf_rollback F L 1 6 [.ref x] h (fun v h' => ¬ op = 0 ∧ ∃ fr' : Nat → Option Nat, (∀ j, 1 ≤ j → j ≤ 24 → fr' j = er j) ∧ v = some (.int (nI (cntS fr' 24))) ∧ h' x = some (.inr (0, [.ref d, .ref tx, .ref w, .ref st, .ref sv, .ref qo, .ref so, .ref ao, .int (nI dl), .int mo, .int li, .int 0, .int wp, .int gp])) ∧ StoG A st s1 s2 s3 s4 fr' R9 P9 S9 nv ns h' ∧ StoG A sv v1 v2 v3 v4 er R9 P9 S9 n9 m9 h' ∧ FrO [x, st, s1, s2, s3] h h') (fun E h' => E = "java/lang/IllegalStateException" ∧ FrO [] h h' ∧ op = 0) := by
  refine xw_Met.of rfl (by decide) (Nat.le_of_ble_eq_true rfl) ?_
  obtain ⟨e_st, e_s1, e_s2, e_s3, e_s4, -⟩ := id K
  obtain ⟨e_sv, e_v1, e_v2, e_v3, e_v4, -⟩ := id Kv
  have r0 : FrO [x, st, s1, s2, s3] h h := FrO.rf
  refine s_Shelf_rollback_0 (draft_a0 := some d) (texts_a0 := some tx) (weights_a0 := some w) (store_a0 := some st) (saved_a0 := some sv) (question_a0 := some qo) (standing_a0 := some so) (answers_a0 := some ao) e_x (fun z_1 => ?_) (fun z_2 => ?_)
  · skip
    refine s_Shelf_rollback_17 (draft_a0 := some d) (texts_a0 := some tx) (weights_a0 := some w) (store_a0 := some st) (saved_a0 := some sv) (question_a0 := some qo) (standing_a0 := some so) (answers_a0 := some ao) e_x ?_
    refine x_u1 (fun h_3 e_4 f_5 => ?_)
    have e_6 := (f_5 st (xw_neC e_st e_x (by simp))).trans e_st
    have e_7 := (f_5 s1 (xw_neC e_s1 e_x (by simp))).trans e_s1
    have e_8 := (f_5 s2 (xw_neC e_s2 e_x (by simp))).trans e_s2
    have e_9 := (f_5 s3 (xw_neC e_s3 e_x (by simp))).trans e_s3
    have e_10 := (f_5 s4 (xw_neC e_s4 e_x (by simp))).trans e_s4
    have e_11 := (f_5 sv (xw_neC e_sv e_x (by simp))).trans e_sv
    have r_12 := r0.up (by simp) f_5
    have fq9 : FrO [x] h h_3 := FrO.rf.up (by simp) f_5
    have K9 := K.fr fq9 (suC hxA suN) ⟨(by simp only [List.mem_cons, List.not_mem_nil, or_false]; exact xw_neC e_st e_x (by simp)), (by simp only [List.mem_cons, List.not_mem_nil, or_false]; exact xw_neC e_s1 e_x (by simp)), (by simp only [List.mem_cons, List.not_mem_nil, or_false]; exact xw_neC e_s2 e_x (by simp)), (by simp only [List.mem_cons, List.not_mem_nil, or_false]; exact xw_neC e_s3 e_x (by simp)), (by simp only [List.mem_cons, List.not_mem_nil, or_false]; exact xw_neC e_s4 e_x (by simp))⟩ (exC e_4 exN)
    have V9 := Kv.fr fq9 (suC hxA suN) ⟨(by simp only [List.mem_cons, List.not_mem_nil, or_false]; exact xw_neC e_sv e_x (by simp)), (by simp only [List.mem_cons, List.not_mem_nil, or_false]; exact xw_neC e_v1 e_x (by simp)), (by simp only [List.mem_cons, List.not_mem_nil, or_false]; exact xw_neC e_v2 e_x (by simp)), (by simp only [List.mem_cons, List.not_mem_nil, or_false]; exact xw_neC e_v3 e_x (by simp)), (by simp only [List.mem_cons, List.not_mem_nil, or_false]; exact xw_neC e_v4 e_x (by simp))⟩ (exC e_4 exN)
    have W9 := V.fr fq9 (suC hxA suN)
    have U9 := Vv.fr fq9 (suC hxA suN)
    refine x_callV (As := [.ref sv]) (b := st) (rest := []) (F1 := 1) (L1 := 20) (mc := 0) (ms := 0) d_Shelf_rollback_30 cV_Shelf_141 (g_copyV K9 V9 SA ⟨Ne.symm NE.1, Ne.symm NE.2.1, Ne.symm NE.2.2.1, Ne.symm NE.2.2.2.1, Ne.symm NE.2.2.2.2⟩ (by omega) (by omega)) e_6 ⟨by decide, rfl⟩ ⟨by omega, by show 8 + (3 + 11) + 20 ≤ _; omega⟩ ⟨by omega, by omega⟩ (Nat.le_of_ble_eq_true rfl) (fun v_23 h_22 p_24 => ?_)
    obtain ⟨rfl, ⟨fr_13, fp_14, fs_15, K_16, hc_19, hc_20, hc_21⟩, K_17, fr_18⟩ := p_24
    have V1 := W9.fr fr_18 (suC SA.1 (suC SA.2.1 (suC SA.2.2.1 (suC SA.2.2.2.1 suN))))
    have V2 := U9.fr fr_18 (suC SA.1 (suC SA.2.1 (suC SA.2.2.1 (suC SA.2.2.2.1 suN))))
    have V3 := V2.copy hc_19 hc_20 hc_21 V1.2.2.2
    have e_25 := fr_18 x _ (by simp only [List.mem_cons, List.not_mem_nil, or_false, not_or]; exact ⟨xw_neC e_x e_st (by simp), xw_neC e_x e_s1 (by simp), xw_neC e_x e_s2 (by simp), xw_neC e_x e_s3 (by simp)⟩) e_4
    obtain ⟨k_st, k_s1, k_s2, k_s3, k_s4, -⟩ := id K_16
    have r_26 := r_12.trans (fr_18.mono (by simp))
    refine s_Shelf_rollback_33 (draft_a0 := some d) (texts_a0 := some tx) (weights_a0 := some w) (store_a0 := some st) (saved_a0 := some sv) (question_a0 := some qo) (standing_a0 := some so) (answers_a0 := some ao) e_25 ?_
    refine x_callV (As := []) (b := st) (rest := []) (F1 := 1) (L1 := 20) (mc := 0) (ms := 0) d_Shelf_rollback_37 cV_Shelf_153 (g_rowCount K_16 (by omega) (by omega)) k_st ⟨by decide, rfl⟩ ⟨by omega, by show 8 + (3 + 11) + 20 ≤ _; omega⟩ ⟨by omega, by omega⟩ (Nat.le_of_ble_eq_true rfl) (fun v_31 h_30 p_32 => ?_)
    obtain ⟨⟨c_27, rfl, hc_28, hn_29⟩, rfl⟩ := p_32
    refine x_le (xw_le_n xw_le_e) ?_
    refine s_Shelf_rollback_40 ?_
    exact ⟨z_1, _, hc_19, by rw [hn_29], e_25, ⟨_, _, _, _, _, _, _, K_16, V3⟩, ⟨_, _, _, _, _, _, _, K_17, V2⟩, r_26⟩
  · skip
    refine x_throw rfl th_Shelf_136_145_140 d_Shelf_rollback_7 d_Shelf_rollback_10 d_Shelf_rollback_11 d_Shelf_rollback_13 d_Shelf_rollback_16 ⟨by show 1 + 4 < _; omega, by show 0 + (13 * (1 + 2) + 43) ≤ _; omega⟩ ⟨by omega, by omega⟩ ?_
    exact ⟨rfl, FrO.rf, z_2⟩
set_option maxHeartbeats 400000 in
theorem g_weight_no1 {G : xw_G} {F L : Nat} {h : xw_A} {a b : Int32} {x d tx w st sv qo so ao dl : Nat} {mo li op wp gp : Int32} (e_x : h x = some (.inr (0, [.ref d, .ref tx, .ref w, .ref st, .ref sv, .ref qo, .ref so, .ref ao, .int (nI dl), .int mo, .int li, .int op, .int wp, .int gp]))) (hn : a < 0 ∨ 1 < a) (hF : 6 ≤ F) (hL : 90 ≤ L) :
    xw_Met G m_Shelf_weight F L 1 6 [.ref x, .int a, .int b] h (fun v h' => False) (fun E h' => E = "java/lang/IllegalArgumentException" ∧ FrO [] h h') := by
  refine xw_Met.of rfl (by decide) (Nat.le_of_ble_eq_true rfl) ?_
  have r0 : FrO [] h h := FrO.rf
  refine s_Shelf_weight_0 ?_
  refine x_callS (As := [.int a]) (rest := []) (F1 := 1) (L1 := 20) (mc := 0) (ms := 0) d_Shelf_weight_1 cS_Shelf_90 (fc_isCol_no hn (by omega) (by omega)) ⟨by omega, by show 8 + (1 + 11) + 20 ≤ _; omega⟩ ⟨by omega, by omega⟩ (Nat.le_of_ble_eq_true rfl) (fun v_3 h_2 p_4 => ?_)
  obtain ⟨rfl, fr_1⟩ := p_4
  have e_5 := fr_1 x _ (by simp) e_x
  have r_6 := r0.trans (fr_1.mono (by simp))
  refine s_Shelf_weight_4 (fun z_7 => ?_) (fun z => absurd z (by decide))
  refine x_throw rfl th_Shelf_71_161_75 d_Shelf_weight_17 d_Shelf_weight_20 d_Shelf_weight_21 d_Shelf_weight_23 d_Shelf_weight_26 ⟨by show 1 + 4 < _; omega, by show 0 + (13 * (1 + 2) + 43) ≤ _; omega⟩ ⟨by omega, by omega⟩ ?_
  exact ⟨rfl, r_6⟩
set_option maxHeartbeats 400000 in
theorem g_weight_no2_0 {G : xw_G} {F L : Nat} {h : xw_A} {b : Int32} {x d tx w st sv qo so ao dl : Nat} {mo li op wp gp : Int32} (e_x : h x = some (.inr (0, [.ref d, .ref tx, .ref w, .ref st, .ref sv, .ref qo, .ref so, .ref ao, .int (nI dl), .int mo, .int li, .int op, .int wp, .int gp]))) (hn : b < 0 ∨ 9 < b) (hF : 6 ≤ F) (hL : 90 ≤ L) :
    xw_Met G m_Shelf_weight F L 1 6 [.ref x, .int 0, .int b] h (fun v h' => False) (fun E h' => E = "java/lang/IllegalArgumentException" ∧ FrO [] h h') := by
  refine xw_Met.of rfl (by decide) (Nat.le_of_ble_eq_true rfl) ?_
  have r0 : FrO [] h h := FrO.rf
  refine s_Shelf_weight_0 ?_
  refine x_callS (As := [.int 0]) (rest := []) (F1 := 1) (L1 := 20) (mc := 0) (ms := 0) d_Shelf_weight_1 cS_Shelf_90 (fc_isCol_0 (by omega) (by omega)) ⟨by omega, by show 8 + (1 + 11) + 20 ≤ _; omega⟩ ⟨by omega, by omega⟩ (Nat.le_of_ble_eq_true rfl) (fun v_3 h_2 p_4 => ?_)
  obtain ⟨rfl, fr_1⟩ := p_4
  have e_5 := fr_1 x _ (by simp) e_x
  have r_6 := r0.trans (fr_1.mono (by simp))
  refine s_Shelf_weight_4 (fun z => absurd z (by decide)) (fun z_7 => ?_)
  refine s_Shelf_weight_7 (fun z_8 => ?_) (fun z_9 => ?_)
  · skip
    refine x_throw rfl th_Shelf_71_161_75 d_Shelf_weight_17 d_Shelf_weight_20 d_Shelf_weight_21 d_Shelf_weight_23 d_Shelf_weight_26 ⟨by show 1 + 4 < _; omega, by show 0 + (13 * (1 + 2) + 43) ≤ _; omega⟩ ⟨by omega, by omega⟩ ?_
    exact ⟨rfl, r_6⟩
  · skip
    refine s_Shelf_weight_11 (fun z => by rcases hn with q | q <;> first | contradiction | exact absurd z (i32_nle q)) (fun z_10 => ?_)
    refine x_throw rfl th_Shelf_71_161_75 d_Shelf_weight_17 d_Shelf_weight_20 d_Shelf_weight_21 d_Shelf_weight_23 d_Shelf_weight_26 ⟨by show 1 + 4 < _; omega, by show 0 + (13 * (1 + 2) + 43) ≤ _; omega⟩ ⟨by omega, by omega⟩ ?_
    exact ⟨rfl, r_6⟩
set_option maxHeartbeats 400000 in
theorem g_weight_0 {G : xw_G} {F L : Nat} {h : xw_A} {b : Int32} {wf : Nat → Int32} {x d tx w st sv qo so ao dl : Nat} {mo li op wp gp : Int32} (e_x : h x = some (.inr (0, [.ref d, .ref tx, .ref w, .ref st, .ref sv, .ref qo, .ref so, .ref ao, .int (nI dl), .int mo, .int li, .int op, .int wp, .int gp]))) (e_w : h w = some (.inl (0, 2, .inl wf))) (h3 : ¬ b < 0) (h4 : ¬ 9 < b) (hF : 2 ≤ F) (hL : 40 ≤ L) :
    xw_Met G m_Shelf_weight F L 0 0 [.ref x, .int 0, .int b] h (fun v h' => v = some (.int (wf 0)) ∧ h' w = some (.inl (0, 2, .inl (upd wf 0 b))) ∧ FrO [w] h h') (fun _ _ => False) := by
  refine xw_Met.of rfl (by decide) (Nat.le_of_ble_eq_true rfl) ?_
  have r0 : FrO [w] h h := FrO.rf
  refine s_Shelf_weight_0 ?_
  refine x_callS (As := [.int 0]) (rest := []) (F1 := 1) (L1 := 20) (mc := 0) (ms := 0) d_Shelf_weight_1 cS_Shelf_90 (fc_isCol_0 (by omega) (by omega)) ⟨by omega, by show 8 + (1 + 11) + 20 ≤ _; omega⟩ ⟨by omega, by omega⟩ (Nat.le_of_ble_eq_true rfl) (fun v_3 h_2 p_4 => ?_)
  obtain ⟨rfl, fr_1⟩ := p_4
  have e_5 := fr_1 x _ (by simp) e_x
  have e_6 := fr_1 w _ (by simp) e_w
  have r_7 := r0.trans (fr_1.mono (by simp))
  refine s_Shelf_weight_4 (fun z => absurd z (by decide)) (fun z_8 => ?_)
  refine s_Shelf_weight_7 (fun z => absurd z h3) (fun z_9 => ?_)
  refine s_Shelf_weight_11 (fun z_10 => ?_) (fun z => absurd (i32_le h4) z)
  refine s_Shelf_weight_27 (draft_a0 := some d) (texts_a0 := some tx) (store_a0 := some st) (saved_a0 := some sv) (question_a0 := some qo) (standing_a0 := some so) (answers_a0 := some ao) e_5 e_6 (by unfold vp_in; decide) (by unfold vp_in; decide) ?_
  obtain ⟨h_11, z_14⟩ : ∃ z, z = xw_up h_2 w (.inl (0, 2, .inl (upd wf (0 : Int32).toNatClampNeg b))) := ⟨_, rfl⟩
  rw [← z_14]
  have e_12 : h_11 w = some (.inl (0, 2, .inl (upd wf (0 : Int32).toNatClampNeg b))) := by rw [z_14]; exact xw_up_s _ _ _
  have f_13 : ∀ q, q ≠ w → h_11 q = h_2 q := fun q hq => by rw [z_14]; exact xw_up_n _ _ hq
  clear z_14
  have e_15 := (f_13 x (xw_neC e_5 e_6 (by simp))).trans e_5
  have r_16 := r_7.up (by simp) f_13
  exact ⟨rfl, e_12, r_16⟩
set_option maxHeartbeats 400000 in
theorem g_weight_no2_1 {G : xw_G} {F L : Nat} {h : xw_A} {b : Int32} {x d tx w st sv qo so ao dl : Nat} {mo li op wp gp : Int32} (e_x : h x = some (.inr (0, [.ref d, .ref tx, .ref w, .ref st, .ref sv, .ref qo, .ref so, .ref ao, .int (nI dl), .int mo, .int li, .int op, .int wp, .int gp]))) (hn : b < 0 ∨ 9 < b) (hF : 6 ≤ F) (hL : 90 ≤ L) :
    xw_Met G m_Shelf_weight F L 1 6 [.ref x, .int 1, .int b] h (fun v h' => False) (fun E h' => E = "java/lang/IllegalArgumentException" ∧ FrO [] h h') := by
  refine xw_Met.of rfl (by decide) (Nat.le_of_ble_eq_true rfl) ?_
  have r0 : FrO [] h h := FrO.rf
  refine s_Shelf_weight_0 ?_
  refine x_callS (As := [.int 1]) (rest := []) (F1 := 1) (L1 := 20) (mc := 0) (ms := 0) d_Shelf_weight_1 cS_Shelf_90 (fc_isCol_1 (by omega) (by omega)) ⟨by omega, by show 8 + (1 + 11) + 20 ≤ _; omega⟩ ⟨by omega, by omega⟩ (Nat.le_of_ble_eq_true rfl) (fun v_3 h_2 p_4 => ?_)
  obtain ⟨rfl, fr_1⟩ := p_4
  have e_5 := fr_1 x _ (by simp) e_x
  have r_6 := r0.trans (fr_1.mono (by simp))
  refine s_Shelf_weight_4 (fun z => absurd z (by decide)) (fun z_7 => ?_)
  refine s_Shelf_weight_7 (fun z_8 => ?_) (fun z_9 => ?_)
  · skip
    refine x_throw rfl th_Shelf_71_161_75 d_Shelf_weight_17 d_Shelf_weight_20 d_Shelf_weight_21 d_Shelf_weight_23 d_Shelf_weight_26 ⟨by show 1 + 4 < _; omega, by show 0 + (13 * (1 + 2) + 43) ≤ _; omega⟩ ⟨by omega, by omega⟩ ?_
    exact ⟨rfl, r_6⟩
  · skip
    refine s_Shelf_weight_11 (fun z => by rcases hn with q | q <;> first | contradiction | exact absurd z (i32_nle q)) (fun z_10 => ?_)
    refine x_throw rfl th_Shelf_71_161_75 d_Shelf_weight_17 d_Shelf_weight_20 d_Shelf_weight_21 d_Shelf_weight_23 d_Shelf_weight_26 ⟨by show 1 + 4 < _; omega, by show 0 + (13 * (1 + 2) + 43) ≤ _; omega⟩ ⟨by omega, by omega⟩ ?_
    exact ⟨rfl, r_6⟩
set_option maxHeartbeats 400000 in
theorem g_weight_1 {G : xw_G} {F L : Nat} {h : xw_A} {b : Int32} {wf : Nat → Int32} {x d tx w st sv qo so ao dl : Nat} {mo li op wp gp : Int32} (e_x : h x = some (.inr (0, [.ref d, .ref tx, .ref w, .ref st, .ref sv, .ref qo, .ref so, .ref ao, .int (nI dl), .int mo, .int li, .int op, .int wp, .int gp]))) (e_w : h w = some (.inl (0, 2, .inl wf))) (h3 : ¬ b < 0) (h4 : ¬ 9 < b) (hF : 2 ≤ F) (hL : 40 ≤ L) :
    xw_Met G m_Shelf_weight F L 0 0 [.ref x, .int 1, .int b] h (fun v h' => v = some (.int (wf 1)) ∧ h' w = some (.inl (0, 2, .inl (upd wf 1 b))) ∧ FrO [w] h h') (fun _ _ => False) := by
  refine xw_Met.of rfl (by decide) (Nat.le_of_ble_eq_true rfl) ?_
  have r0 : FrO [w] h h := FrO.rf
  refine s_Shelf_weight_0 ?_
  refine x_callS (As := [.int 1]) (rest := []) (F1 := 1) (L1 := 20) (mc := 0) (ms := 0) d_Shelf_weight_1 cS_Shelf_90 (fc_isCol_1 (by omega) (by omega)) ⟨by omega, by show 8 + (1 + 11) + 20 ≤ _; omega⟩ ⟨by omega, by omega⟩ (Nat.le_of_ble_eq_true rfl) (fun v_3 h_2 p_4 => ?_)
  obtain ⟨rfl, fr_1⟩ := p_4
  have e_5 := fr_1 x _ (by simp) e_x
  have e_6 := fr_1 w _ (by simp) e_w
  have r_7 := r0.trans (fr_1.mono (by simp))
  refine s_Shelf_weight_4 (fun z => absurd z (by decide)) (fun z_8 => ?_)
  refine s_Shelf_weight_7 (fun z => absurd z h3) (fun z_9 => ?_)
  refine s_Shelf_weight_11 (fun z_10 => ?_) (fun z => absurd (i32_le h4) z)
  refine s_Shelf_weight_27 (draft_a0 := some d) (texts_a0 := some tx) (store_a0 := some st) (saved_a0 := some sv) (question_a0 := some qo) (standing_a0 := some so) (answers_a0 := some ao) e_5 e_6 (by unfold vp_in; decide) (by unfold vp_in; decide) ?_
  obtain ⟨h_11, z_14⟩ : ∃ z, z = xw_up h_2 w (.inl (0, 2, .inl (upd wf (1 : Int32).toNatClampNeg b))) := ⟨_, rfl⟩
  rw [← z_14]
  have e_12 : h_11 w = some (.inl (0, 2, .inl (upd wf (1 : Int32).toNatClampNeg b))) := by rw [z_14]; exact xw_up_s _ _ _
  have f_13 : ∀ q, q ≠ w → h_11 q = h_2 q := fun q hq => by rw [z_14]; exact xw_up_n _ _ hq
  clear z_14
  have e_15 := (f_13 x (xw_neC e_5 e_6 (by simp))).trans e_5
  have r_16 := r_7.up (by simp) f_13
  exact ⟨rfl, e_12, r_16⟩
set_option maxHeartbeats 400000 in
theorem g_set_no {G : xw_G} {F L : Nat} {h : xw_A} {c : Int32} {x d tx w st sv qo so ao dl : Nat} {mo li op wp gp : Int32} (e_x : h x = some (.inr (0, [.ref d, .ref tx, .ref w, .ref st, .ref sv, .ref qo, .ref so, .ref ao, .int (nI dl), .int mo, .int li, .int op, .int wp, .int gp]))) (hn : c < 0 ∨ 1 < c) (hF : 6 ≤ F) (hL : 90 ≤ L) :
    xw_Met G m_Shelf_set F L 1 6 [.ref x, .int c] h (fun v h' => False) (fun E h' => E = "java/lang/IllegalArgumentException" ∧ FrO [] h h') := by
  refine xw_Met.of rfl (by decide) (Nat.le_of_ble_eq_true rfl) ?_
  have r0 : FrO [] h h := FrO.rf
  refine s_Shelf_set_0 ?_
  refine x_callS (As := [.int c]) (rest := []) (F1 := 1) (L1 := 20) (mc := 0) (ms := 0) d_Shelf_set_1 cS_Shelf_90 (fc_isCol_no hn (by omega) (by omega)) ⟨by omega, by show 8 + (1 + 11) + 20 ≤ _; omega⟩ ⟨by omega, by omega⟩ (Nat.le_of_ble_eq_true rfl) (fun v_3 h_2 p_4 => ?_)
  obtain ⟨rfl, fr_1⟩ := p_4
  have e_5 := fr_1 x _ (by simp) e_x
  have r_6 := r0.trans (fr_1.mono (by simp))
  refine s_Shelf_set_4 (fun z => absurd z (by decide)) (fun z_7 => ?_)
  refine x_throw rfl th_Shelf_71_94_75 d_Shelf_set_7 d_Shelf_set_10 d_Shelf_set_11 d_Shelf_set_13 d_Shelf_set_16 ⟨by show 1 + 4 < _; omega, by show 0 + (13 * (1 + 2) + 43) ≤ _; omega⟩ ⟨by omega, by omega⟩ ?_
  exact ⟨rfl, r_6⟩
set_option maxHeartbeats 400000 in
theorem g_set_long_0 {G : xw_G} {F L : Nat} {h : xw_A} {x d tx w st sv qo so ao dl : Nat} {mo li op wp gp : Int32} (e_x : h x = some (.inr (0, [.ref d, .ref tx, .ref w, .ref st, .ref sv, .ref qo, .ref so, .ref ao, .int (nI dl), .int mo, .int li, .int op, .int wp, .int gp]))) (hdl : dl ≤ 96) (hf : 48 < dl) (hF : 6 ≤ F) (hL : 90 ≤ L) :
    xw_Met G m_Shelf_set F L 1 6 [.ref x, .int 0] h (fun v h' => False) (fun E h' => E = "java/lang/IndexOutOfBoundsException" ∧ FrO [] h h') := by
  refine xw_Met.of rfl (by decide) (Nat.le_of_ble_eq_true rfl) ?_
  have r0 : FrO [] h h := FrO.rf
  refine s_Shelf_set_0 ?_
  refine x_callS (As := [.int 0]) (rest := []) (F1 := 1) (L1 := 20) (mc := 0) (ms := 0) d_Shelf_set_1 cS_Shelf_90 (fc_isCol_0 (by omega) (by omega)) ⟨by omega, by show 8 + (1 + 11) + 20 ≤ _; omega⟩ ⟨by omega, by omega⟩ (Nat.le_of_ble_eq_true rfl) (fun v_3 h_2 p_4 => ?_)
  obtain ⟨rfl, fr_1⟩ := p_4
  have e_5 := fr_1 x _ (by simp) e_x
  have r_6 := r0.trans (fr_1.mono (by simp))
  refine s_Shelf_set_4 (fun z_7 => ?_) (fun z => absurd z (by decide))
  refine s_Shelf_set_17 (draft_a0 := some d) (texts_a0 := some tx) (weights_a0 := some w) (store_a0 := some st) (saved_a0 := some sv) (question_a0 := some qo) (standing_a0 := some so) (answers_a0 := some ao) e_5 (fun z => absurd z (nI_ge (b := dl) hf (by omega))) (fun z_8 => ?_)
  refine x_throw rfl th_Shelf_81_96_85 d_Shelf_set_26 d_Shelf_set_29 d_Shelf_set_30 d_Shelf_set_32 d_Shelf_set_35 ⟨by show 1 + 4 < _; omega, by show 0 + (13 * (1 + 2) + 43) ≤ _; omega⟩ ⟨by omega, by omega⟩ ?_
  exact ⟨rfl, r_6⟩
set_option maxHeartbeats 400000 in
theorem g_set_long_1 {G : xw_G} {F L : Nat} {h : xw_A} {x d tx w st sv qo so ao dl : Nat} {mo li op wp gp : Int32} (e_x : h x = some (.inr (0, [.ref d, .ref tx, .ref w, .ref st, .ref sv, .ref qo, .ref so, .ref ao, .int (nI dl), .int mo, .int li, .int op, .int wp, .int gp]))) (hdl : dl ≤ 96) (hf : 48 < dl) (hF : 6 ≤ F) (hL : 90 ≤ L) :
    xw_Met G m_Shelf_set F L 1 6 [.ref x, .int 1] h (fun v h' => False) (fun E h' => E = "java/lang/IndexOutOfBoundsException" ∧ FrO [] h h') := by
  refine xw_Met.of rfl (by decide) (Nat.le_of_ble_eq_true rfl) ?_
  have r0 : FrO [] h h := FrO.rf
  refine s_Shelf_set_0 ?_
  refine x_callS (As := [.int 1]) (rest := []) (F1 := 1) (L1 := 20) (mc := 0) (ms := 0) d_Shelf_set_1 cS_Shelf_90 (fc_isCol_1 (by omega) (by omega)) ⟨by omega, by show 8 + (1 + 11) + 20 ≤ _; omega⟩ ⟨by omega, by omega⟩ (Nat.le_of_ble_eq_true rfl) (fun v_3 h_2 p_4 => ?_)
  obtain ⟨rfl, fr_1⟩ := p_4
  have e_5 := fr_1 x _ (by simp) e_x
  have r_6 := r0.trans (fr_1.mono (by simp))
  refine s_Shelf_set_4 (fun z_7 => ?_) (fun z => absurd z (by decide))
  refine s_Shelf_set_17 (draft_a0 := some d) (texts_a0 := some tx) (weights_a0 := some w) (store_a0 := some st) (saved_a0 := some sv) (question_a0 := some qo) (standing_a0 := some so) (answers_a0 := some ao) e_5 (fun z => absurd z (nI_ge (b := dl) hf (by omega))) (fun z_8 => ?_)
  refine x_throw rfl th_Shelf_81_96_85 d_Shelf_set_26 d_Shelf_set_29 d_Shelf_set_30 d_Shelf_set_32 d_Shelf_set_35 ⟨by show 1 + 4 < _; omega, by show 0 + (13 * (1 + 2) + 43) ≤ _; omega⟩ ⟨by omega, by omega⟩ ?_
  exact ⟨rfl, r_6⟩
