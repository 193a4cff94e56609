/-! ONE CALL ON A FRESH OBJECT: THE CLASS: by program (wip/tools/p1l.py) -/
set_option maxHeartbeats 1000000 in
theorem fc_letters_yes {G : xw_G} {F L : Nat} {h : xw_A} {w : Int64} {n : Nat} {x d tx w_ st sv qo so ao : Nat} (e_x : h x = some (.inr (0, [.ref d, .ref tx, .ref w_, .ref st, .ref sv, .ref qo, .ref so, .ref ao, .int 0, .int 3, .int 20, .int 0, .int (-1), .int 0]))) (e_d : h d = some (.inl (1, 96, .inl (fun _ => 0)))) (hN : (ltr (oct w) 8 0).getD 0 = n + 1) (hn : n < 8) (hF : 3 ≤ F) (hL : 83 ≤ L) :
    xw_Met G m_Shelf_letters F L 0 0 [.ref x, .long w] h (fun v h' => v = some (.int (0 + nI (n + 1))) ∧ FrO [x, d] h h') (fun _ _ => False) := by
  refine xw_Met.of rfl (by decide) (Nat.le_of_ble_eq_true rfl) ?_
  have r0 : FrO [x, d] h h := FrO.rf
  refine s_Shelf_letters_0 ?_
  refine x_callS (As := [.long w]) (rest := []) (F1 := 2) (L1 := 60) (mc := 0) (ms := 0) d_Shelf_letters_1 cS_Shelf_67 (fc_lin (by omega) (by omega)) ⟨by omega, by show 8 + (4 + 11) + 60 ≤ _; omega⟩ ⟨by omega, by omega⟩ (Nat.le_of_ble_eq_true rfl) (fun v_2 h_1 p_3 => ?_)
  obtain ⟨rfl, rfl⟩ := p_3
  rw [hN]
  refine s_Shelf_letters_4 (fun z_4 => ?_) (fun z => absurd z (nI_ne0 (by omega) (by omega)))
  refine s_Shelf_letters_19 (draft_a0 := some d) (texts_a0 := some tx) (weights_a0 := some w_) (store_a0 := some st) (saved_a0 := some sv) (question_a0 := some qo) (standing_a0 := some so) (answers_a0 := some ao) e_x (fun z_5 => ?_) (fun z => absurd (by rw [show (0 : Int32) = nI 0 from rfl, nI_add]; exact nI_le (b := 96) (by omega) (by decide)) z)
  refine s_Shelf_letters_40 ?_
  refine lp_ccpy hn (by omega) (by omega) (fun h_6 f_7 e_8 e_9 r_10 => ?_) (n + 1) 0 _ _ (by omega) e_x e_d FrO.rf
  have r_11 := r0.trans (r_10.mono (by simp))
  refine s_Shelf_letters_74 (draft_a0 := some d) (texts_a0 := some tx) (weights_a0 := some w_) (store_a0 := some st) (saved_a0 := some sv) (question_a0 := some qo) (standing_a0 := some so) (answers_a0 := some ao) e_8 ?_
  obtain ⟨h_12, z_15⟩ : ∃ z, z = xw_up h_6 x (.inr (0, [va_rf (some d), va_rf (some tx), va_rf (some w_), va_rf (some st), va_rf (some sv), va_rf (some qo), va_rf (some so), va_rf (some ao), .int (0 + (nI (n + 1))), .int 3, .int 20, .int 0, .int (-1), .int 0])) := ⟨_, rfl⟩
  rw [← z_15]
  have e_13 : h_12 x = some (.inr (0, [va_rf (some d), va_rf (some tx), va_rf (some w_), va_rf (some st), va_rf (some sv), va_rf (some qo), va_rf (some so), va_rf (some ao), .int (0 + (nI (n + 1))), .int 3, .int 20, .int 0, .int (-1), .int 0])) := by rw [z_15]; exact xw_up_s _ _ _
  have f_14 : ∀ q, q ≠ x → h_12 q = h_6 q := fun q hq => by rw [z_15]; exact xw_up_n _ _ hq
  clear z_15
  have e_16 := (f_14 d (xw_neC e_9 e_8 (by simp))).trans e_9
  have r_17 := r_11.up (by simp) f_14
  exact ⟨rfl, r_17⟩
