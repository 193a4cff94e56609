/-! ONE CALL ON A FRESH OBJECT: THE CLASS: by program (wip/tools/p1l.py) -/
set_option maxHeartbeats 400000 in
theorem fc_octet {G : xw_G} {F L : Nat} {h : xw_A} {w : Int64} {i : Nat} (hF : 1 ≤ F) (hL : 20 ≤ L) :
    xw_Met G m_Shelf_octet F L 0 0 [.long w, .int (nI i)] h (fun v h' => v = some (.int (oct w i)) ∧ h = h') (fun _ _ => False) := by
  refine xw_Met.of rfl (by decide) (Nat.le_of_ble_eq_true rfl) ?_
  refine s_Shelf_octet_0 ?_
  exact ⟨rfl, rfl⟩
set_option maxHeartbeats 2000000 in
theorem lp_clet {G : xw_G} {F L bc bs : Nat} {pr : Option Value → xw_A → Prop} {px : String → xw_A → Prop} {h : xw_A} {w : Int64} (hF : 2 ≤ F) (hL : 60 ≤ L)
    (k : pr (some (.int (nI ((ltr (oct w) 8 0).getD 0)))) h) :
    ∀ d i : Nat, i + d = 8 → ltr (oct w) d i = ltr (oct w) 8 0 → xw G m_Shelf_lettersIn F L bc bs pr px 2 [some (.long w), none, some (.int (nI i)), none] [] h := by
  intro d
  induction d with
  | zero =>
    intro i hi hl
    obtain rfl : i = 8 := by omega
    refine s_Shelf_lettersIn_2 (fun _ => ?_) (fun z => absurd z (by decide))
    refine s_Shelf_lettersIn_40 ?_
    rw [← hl] at k
    exact k
  | succ d ih =>
    intro i hi hl
    refine s_Shelf_lettersIn_2 (fun z => absurd z (nI_ge (b := 8) (show i < 8 by omega) (by decide))) (fun _ => ?_)
    refine s_Shelf_lettersIn_8 ?_
    refine x_callS (As := [.long w, .int (nI i)]) (rest := []) (F1 := 1) (L1 := 20) (mc := 0) (ms := 0) d_Shelf_lettersIn_10 cS_Shelf_86 (fc_octet (by omega) (by omega)) ⟨by omega, by show 8 + (3 + 11) + 20 ≤ _; omega⟩ ⟨by omega, by omega⟩ (Nat.le_of_ble_eq_true rfl) (fun v h1 p => ?_)
    obtain ⟨rfl, rfl⟩ := p
    refine s_Shelf_lettersIn_13 (fun z0 => ?_) (fun z0 => ?_)
    · refine s_Shelf_lettersIn_20 (fun z1 => ?_) (fun z1 => ?_)
      · refine s_Shelf_lettersIn_32 ?_
        rw [← hl, ltr_n z0 (Or.inl z1)] at k
        exact k
      · refine s_Shelf_lettersIn_26 (fun z2 => ?_) (fun z2 => ?_)
        · refine s_Shelf_lettersIn_34 ?_
          rw [nI_1]
          refine ih (i + 1) (by omega) ?_
          rw [← hl]
          exact (ltr_s z0 (fun q => q.elim z1 (fun q => i32_nle q z2))).symm
        · refine s_Shelf_lettersIn_32 ?_
          rw [← hl, ltr_n z0 (Or.inr (Int32.not_le.mp z2))] at k
          exact k
    · refine s_Shelf_lettersIn_18 ?_
      rw [← hl, ltr_0 z0] at k
      exact k
theorem fc_lin {G : xw_G} {F L : Nat} {h : xw_A} {w : Int64} (hF : 2 ≤ F) (hL : 60 ≤ L) :
    xw_Met G m_Shelf_lettersIn F L 0 0 [.long w] h (fun v h' => v = some (.int (nI ((ltr (oct w) 8 0).getD 0))) ∧ h = h') (fun _ _ => False) := by
  refine xw_Met.of rfl (by decide) (Nat.le_of_ble_eq_true rfl) ?_
  refine s_Shelf_lettersIn_0 ?_
  exact lp_clet hF hL ⟨rfl, rfl⟩ 8 0 rfl rfl
set_option maxHeartbeats 1000000 in
theorem fc_letters_no {G : xw_G} {F L : Nat} {h : xw_A} {w : Int64} {x d tx w_ st sv qo so ao : Nat} (e_x : h x = some (.inr (0, [.ref d, .ref tx, .ref w_, .ref st, .ref sv, .ref qo, .ref so, .ref ao, .int 0, .int 3, .int 20, .int 0, .int (-1), .int 0]))) (hN : (ltr (oct w) 8 0).getD 0 = 0) (hF : 6 ≤ F) (hL : 90 ≤ L) :
    xw_Met G m_Shelf_letters F L 1 6 [.ref x, .long w] h (fun v h' => False) (fun E h' => E = "java/lang/IllegalArgumentException" ∧ FrO [x] h h') := by
  refine xw_Met.of rfl (by decide) (Nat.le_of_ble_eq_true rfl) ?_
  have r0 : FrO [x] h h := FrO.rf
  refine s_Shelf_letters_0 ?_
  refine x_callS (As := [.long w]) (rest := []) (F1 := 2) (L1 := 60) (mc := 0) (ms := 0) d_Shelf_letters_1 cS_Shelf_67 (fc_lin (by omega) (by omega)) ⟨by omega, by show 8 + (4 + 11) + 60 ≤ _; omega⟩ ⟨by omega, by omega⟩ (Nat.le_of_ble_eq_true rfl) (fun v_2 h_1 p_3 => ?_)
  obtain ⟨rfl, rfl⟩ := p_3
  rw [hN]
  refine s_Shelf_letters_4 (fun z => absurd z (by decide)) (fun z_4 => ?_)
  refine x_throw rfl th_Shelf_71_73_75 d_Shelf_letters_9 d_Shelf_letters_12 d_Shelf_letters_13 d_Shelf_letters_15 d_Shelf_letters_18 ⟨by show 1 + 4 < _; omega, by show 0 + (13 * (1 + 2) + 43) ≤ _; omega⟩ ⟨by omega, by omega⟩ ?_
  exact ⟨rfl, r0⟩
set_option maxHeartbeats 1000000 in
theorem lp_ccpy {G : xw_G} {F L bc bs : Nat} {pr : Option Value → xw_A → Prop} {px : String → xw_A → Prop} {h0 : xw_A} {w : Int64} {n x d tx w_ st sv qo so ao : Nat} (hn : n < 8) (hF : 2 ≤ F) (hL : 42 ≤ L)
    (k : ∀ (h : xw_A) (f_d : Nat → Int32), h x = some (.inr (0, [.ref d, .ref tx, .ref w_, .ref st, .ref sv, .ref qo, .ref so, .ref ao, .int 0, .int 3, .int 20, .int 0, .int (-1), .int 0])) → h d = some (.inl (1, 96, .inl f_d)) → FrO [d] h0 h → xw G m_Shelf_letters F L bc bs pr px 74 [some (.ref x), none, none, some (.int (nI (n + 1))), none] [] h) :
    ∀ (j i : Nat) (h : xw_A) (f_d : Nat → Int32), i + j = n + 1 → h x = some (.inr (0, [.ref d, .ref tx, .ref w_, .ref st, .ref sv, .ref qo, .ref so, .ref ao, .int 0, .int 3, .int 20, .int 0, .int (-1), .int 0])) → h d = some (.inl (1, 96, .inl f_d)) → FrO [d] h0 h → xw G m_Shelf_letters F L bc bs pr px 43 [some (.ref x), some (.long w), none, some (.int (nI (n + 1))), some (.int (nI i))] [] h := by
  intro j
  induction j with
  | zero =>
    intro i h f_d hi e_x e_d r0
    obtain rfl : i = n + 1 := by omega
    refine s_Shelf_letters_43 (fun _ => ?_) (fun z => absurd (nI_le (Nat.le_refl _) (by omega)) z)
    exact k _ _ e_x e_d r0
  | succ j ih =>
    intro i h f_d hi e_x e_d r0
    refine s_Shelf_letters_43 (fun z => absurd z (nI_ge (b := n + 1) (show i < n + 1 by omega) (by omega))) (fun _ => ?_)
    refine s_Shelf_letters_49 (draft_a0 := some d) (texts_a0 := some tx) (weights_a0 := some w_) (store_a0 := some st) (saved_a0 := some sv) (question_a0 := some qo) (standing_a0 := some so) (answers_a0 := some ao) e_x ?_
    refine x_callS (As := [.long w, .int (nI i)]) (rest := [.int (0 + (nI i)), .ref d]) (F1 := 1) (L1 := 20) (mc := 0) (ms := 0) d_Shelf_letters_63 cS_Shelf_86 (fc_octet (by omega) (by omega)) ⟨by omega, by show 8 + (3 + 11) + 20 ≤ _; omega⟩ ⟨by omega, by omega⟩ (Nat.le_of_ble_eq_true rfl) (fun v_2 h_1 p_3 => ?_)
    obtain ⟨rfl, rfl⟩ := p_3
    refine s_Shelf_letters_66 e_d (ixa (n := 0) rfl (by omega) (by decide)) ?_
    refine x_u1 (fun h_4 e_5 f_6 => ?_)
    have e_7 := (f_6 x (xw_neC e_x e_d (by simp))).trans e_x
    have r_8 := r0.up (by simp) f_6
    rw [nI_1]
    exact ih (i + 1) _ _ (by omega) e_7 e_5 r_8
set_option maxHeartbeats 1000000 in
theorem fc_letters_yes {G : xw_G} {F L : Nat} {h : xw_A} {w : Int64} {n : Nat} {x d tx w_ st sv qo so ao : Nat} (e_x : h x = some (.inr (0, [.ref d, .ref tx, .ref w_, .ref st, .ref sv, .ref qo, .ref so, .ref ao, .int 0, .int 3, .int 20, .int 0, .int (-1), .int 0]))) (e_d : h d = some (.inl (1, 96, .inl (fun _ => 0)))) (hN : (ltr (oct w) 8 0).getD 0 = n + 1) (hn : n < 8) (hF : 3 ≤ F) (hL : 83 ≤ L) :
    xw_Met G m_Shelf_letters F L 0 0 [.ref x, .long w] h (fun v h' => v = some (.int (0 + nI (n + 1))) ∧ FrO [x, d] h h') (fun _ _ => False) := by
  refine xw_Met.of rfl (by decide) (Nat.le_of_ble_eq_true rfl) ?_
  have r0 : FrO [x, d] h h := FrO.rf
  refine s_Shelf_letters_0 ?_
  refine x_callS (As := [.long w]) (rest := []) (F1 := 2) (L1 := 60) (mc := 0) (ms := 0) d_Shelf_letters_1 cS_Shelf_67 (fc_lin (by omega) (by omega)) ⟨by omega, by show 8 + (4 + 11) + 60 ≤ _; omega⟩ ⟨by omega, by omega⟩ (Nat.le_of_ble_eq_true rfl) (fun v_2 h_1 p_3 => ?_)
  obtain ⟨rfl, rfl⟩ := p_3
  rw [hN]
  refine s_Shelf_letters_4 (fun z_4 => ?_) (fun z => absurd z (nI_ne0 (by omega) (by omega)))
  refine s_Shelf_letters_19 (draft_a0 := some d) (texts_a0 := some tx) (weights_a0 := some w_) (store_a0 := some st) (saved_a0 := some sv) (question_a0 := some qo) (standing_a0 := some so) (answers_a0 := some ao) e_x (fun z_5 => ?_) (fun z => absurd (by rw [show (0 : Int32) = nI 0 from rfl, nI_add]; exact nI_le (b := 96) (by omega) (by decide)) z)
  refine s_Shelf_letters_40 ?_
  refine lp_ccpy hn (by omega) (by omega) (fun h_6 f_7 e_8 e_9 r_10 => ?_) (n + 1) 0 _ _ (by omega) e_x e_d FrO.rf
  have r_11 := r0.trans (r_10.mono (by simp))
  refine s_Shelf_letters_74 (draft_a0 := some d) (texts_a0 := some tx) (weights_a0 := some w_) (store_a0 := some st) (saved_a0 := some sv) (question_a0 := some qo) (standing_a0 := some so) (answers_a0 := some ao) e_8 ?_
  obtain ⟨h_12, z_15⟩ : ∃ z, z = xw_up h_6 x (.inr (0, [va_rf (some d), va_rf (some tx), va_rf (some w_), va_rf (some st), va_rf (some sv), va_rf (some qo), va_rf (some so), va_rf (some ao), .int (0 + (nI (n + 1))), .int 3, .int 20, .int 0, .int (-1), .int 0])) := ⟨_, rfl⟩
  rw [← z_15]
  have e_13 : h_12 x = some (.inr (0, [va_rf (some d), va_rf (some tx), va_rf (some w_), va_rf (some st), va_rf (some sv), va_rf (some qo), va_rf (some so), va_rf (some ao), .int (0 + (nI (n + 1))), .int 3, .int 20, .int 0, .int (-1), .int 0])) := by rw [z_15]; exact xw_up_s _ _ _
  have f_14 : ∀ q, q ≠ x → h_12 q = h_6 q := fun q hq => by rw [z_15]; exact xw_up_n _ _ hq
  clear z_15
  have e_16 := (f_14 d (xw_neC e_9 e_8 (by simp))).trans e_9
  have r_17 := r_11.up (by simp) f_14
  exact ⟨rfl, r_17⟩
