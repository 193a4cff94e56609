/-! the class in general states: by program (wip/tools/gen.py) -/
set_option maxHeartbeats 400000 in
theorem g_drop {G : xw_G} {F L : Nat} {h : xw_A} {x d tx w st sv qo so ao dl : Nat} {mo li op wp gp : Int32} (e_x : h x = some (.inr (0, [.ref d, .ref tx, .ref w, .ref st, .ref sv, .ref qo, .ref so, .ref ao, .int (nI dl), .int mo, .int li, .int op, .int wp, .int gp]))) (hdl : dl ≤ 96) (hF : 1 ≤ F) (hL : 20 ≤ L) :
    xw_Met G m_Shelf_drop F L 0 0 [.ref x] h (fun v h' => v = some (.int (nI dl)) ∧ h' = xw_up h x (.inr (0, [.ref d, .ref tx, .ref w, .ref st, .ref sv, .ref qo, .ref so, .ref ao, .int (0), .int mo, .int li, .int op, .int wp, .int gp]))) (fun _ _ => False) := by
  refine xw_Met.of rfl (by decide) (Nat.le_of_ble_eq_true rfl) ?_
  refine s_Shelf_drop_0 (draft_a0 := some d) (texts_a0 := some tx) (weights_a0 := some w) (store_a0 := some st) (saved_a0 := some sv) (question_a0 := some qo) (standing_a0 := some so) (answers_a0 := some ao) e_x ?_
  exact ⟨rfl, rfl⟩
set_option maxHeartbeats 400000 in
theorem g_wrong {G : xw_G} {F L : Nat} {h : xw_A} {x d tx w st sv qo so ao dl : Nat} {mo li op wp gp : Int32} (e_x : h x = some (.inr (0, [.ref d, .ref tx, .ref w, .ref st, .ref sv, .ref qo, .ref so, .ref ao, .int (nI dl), .int mo, .int li, .int op, .int wp, .int gp]))) (hdl : dl ≤ 96) (hF : 1 ≤ F) (hL : 20 ≤ L) :
    xw_Met G m_Shelf_wrong F L 0 0 [.ref x] h (fun v h' => v = some (.int wp) ∧ h = h') (fun _ _ => False) := by
  refine xw_Met.of rfl (by decide) (Nat.le_of_ble_eq_true rfl) ?_
  refine s_Shelf_wrong_0 (draft_a0 := some d) (texts_a0 := some tx) (weights_a0 := some w) (store_a0 := some st) (saved_a0 := some sv) (question_a0 := some qo) (standing_a0 := some so) (answers_a0 := some ao) e_x ?_
  exact ⟨rfl, rfl⟩
set_option maxHeartbeats 400000 in
theorem g_ways_no {G : xw_G} {F L : Nat} {h : xw_A} {a b : Int32} {x d tx w st sv qo so ao dl : Nat} {mo li op wp gp : Int32} (e_x : h x = some (.inr (0, [.ref d, .ref tx, .ref w, .ref st, .ref sv, .ref qo, .ref so, .ref ao, .int (nI dl), .int mo, .int li, .int op, .int wp, .int gp]))) (hdl : dl ≤ 96) (hn : a < 1 ∨ 9 < a ∨ b < 0 ∨ 200 < b) (hF : 6 ≤ F) (hL : 90 ≤ L) :
    xw_Met G m_Shelf_ways F L 1 6 [.ref x, .int a, .int b] h (fun v h' => False) (fun E h' => E = "java/lang/IllegalArgumentException" ∧ h = h') := by
  refine xw_Met.of rfl (by decide) (Nat.le_of_ble_eq_true rfl) ?_
  refine s_Shelf_ways_0 (fun z_1 => ?_) (fun z_2 => ?_)
  · skip
    refine x_throw rfl th_Shelf_71_159_75 d_Shelf_ways_22 d_Shelf_ways_25 d_Shelf_ways_26 d_Shelf_ways_28 d_Shelf_ways_31 ⟨by show 1 + 4 < _; omega, by show 0 + (13 * (1 + 2) + 43) ≤ _; omega⟩ ⟨by omega, by omega⟩ ?_
    exact ⟨rfl, rfl⟩
  · skip
    refine s_Shelf_ways_5 (fun z_3 => ?_) (fun z_4 => ?_)
    · skip
      refine x_throw rfl th_Shelf_71_159_75 d_Shelf_ways_22 d_Shelf_ways_25 d_Shelf_ways_26 d_Shelf_ways_28 d_Shelf_ways_31 ⟨by show 1 + 4 < _; omega, by show 0 + (13 * (1 + 2) + 43) ≤ _; omega⟩ ⟨by omega, by omega⟩ ?_
      exact ⟨rfl, rfl⟩
    · skip
      refine s_Shelf_ways_11 (fun z_5 => ?_) (fun z_6 => ?_)
      · skip
        refine x_throw rfl th_Shelf_71_159_75 d_Shelf_ways_22 d_Shelf_ways_25 d_Shelf_ways_26 d_Shelf_ways_28 d_Shelf_ways_31 ⟨by show 1 + 4 < _; omega, by show 0 + (13 * (1 + 2) + 43) ≤ _; omega⟩ ⟨by omega, by omega⟩ ?_
        exact ⟨rfl, rfl⟩
      · skip
        refine s_Shelf_ways_15 (fun z => by rcases hn with q | q | q | q <;> first | contradiction | exact absurd z (i32_nle q)) (fun z_7 => ?_)
        refine x_throw rfl th_Shelf_71_159_75 d_Shelf_ways_22 d_Shelf_ways_25 d_Shelf_ways_26 d_Shelf_ways_28 d_Shelf_ways_31 ⟨by show 1 + 4 < _; omega, by show 0 + (13 * (1 + 2) + 43) ≤ _; omega⟩ ⟨by omega, by omega⟩ ?_
        exact ⟨rfl, rfl⟩
set_option maxHeartbeats 400000 in
theorem g_ways_yes {G : xw_G} {F L : Nat} {h : xw_A} {a b : Int32} {x d tx w st sv qo so ao dl : Nat} {mo li op wp gp : Int32} (e_x : h x = some (.inr (0, [.ref d, .ref tx, .ref w, .ref st, .ref sv, .ref qo, .ref so, .ref ao, .int (nI dl), .int mo, .int li, .int op, .int wp, .int gp]))) (hdl : dl ≤ 96) (h1 : ¬ a < 1) (h2 : ¬ 9 < a) (h3 : ¬ b < 0) (h4 : ¬ 200 < b) (hF : 1 ≤ F) (hL : 20 ≤ L) :
    xw_Met G m_Shelf_ways F L 0 0 [.ref x, .int a, .int b] h (fun v h' => v = none ∧ h' x = some (.inr (0, [.ref d, .ref tx, .ref w, .ref st, .ref sv, .ref qo, .ref so, .ref ao, .int (nI dl), .int a, .int b, .int op, .int wp, .int gp])) ∧ FrO [x] h h') (fun _ _ => False) := by
  refine xw_Met.of rfl (by decide) (Nat.le_of_ble_eq_true rfl) ?_
  have r0 : FrO [x] h h := FrO.rf
  refine s_Shelf_ways_0 (fun z => absurd z h1) (fun z_1 => ?_)
  refine s_Shelf_ways_5 (fun z => absurd z h2) (fun z_2 => ?_)
  refine s_Shelf_ways_11 (fun z => absurd z h3) (fun z_3 => ?_)
  refine s_Shelf_ways_15 (fun z_4 => ?_) (fun z => absurd (i32_le h4) z)
  refine s_Shelf_ways_32 (draft_a0 := some d) (texts_a0 := some tx) (weights_a0 := some w) (store_a0 := some st) (saved_a0 := some sv) (question_a0 := some qo) (standing_a0 := some so) (answers_a0 := some ao) e_x ?_
  rw [xw_up_up]
  obtain ⟨h_5, z_11⟩ : ∃ z, z = xw_up h x (.inr (0, [va_rf (some d), va_rf (some tx), va_rf (some w), va_rf (some st), va_rf (some sv), va_rf (some qo), va_rf (some so), va_rf (some ao), .int (nI dl), .int a, .int b, .int op, .int wp, .int gp])) := ⟨_, rfl⟩
  rw [← z_11]
  have e_6 : h_5 x = some (.inr (0, [va_rf (some d), va_rf (some tx), va_rf (some w), va_rf (some st), va_rf (some sv), va_rf (some qo), va_rf (some so), va_rf (some ao), .int (nI dl), .int a, .int b, .int op, .int wp, .int gp])) := by rw [z_11]; exact xw_up_s _ _ _
  have f_7 : ∀ q, q ≠ x → h_5 q = h q := fun q hq => by rw [z_11]; exact xw_up_n _ _ hq
  clear z_11
  have r_12 := r0.up (by simp) f_7
  exact ⟨rfl, e_6, r_12⟩
set_option maxHeartbeats 400000 in
theorem g_letters_no {G : xw_G} {F L : Nat} {h : xw_A} {w : Int64} {x d tx w_ st sv qo so ao dl : Nat} {mo li op wp gp : Int32} (e_x : h x = some (.inr (0, [.ref d, .ref tx, .ref w_, .ref st, .ref sv, .ref qo, .ref so, .ref ao, .int (nI dl), .int mo, .int li, .int op, .int wp, .int gp]))) (hdl : dl ≤ 96) (hN : (ltr (oct w) 8 0).getD 0 = 0) (hF : 6 ≤ F) (hL : 90 ≤ L) :
    xw_Met G m_Shelf_letters F L 1 6 [.ref x, .long w] h (fun v h' => False) (fun E h' => E = "java/lang/IllegalArgumentException" ∧ h = h') := by
  refine xw_Met.of rfl (by decide) (Nat.le_of_ble_eq_true rfl) ?_
  refine s_Shelf_letters_0 ?_
  refine x_callS (As := [.long w]) (rest := []) (F1 := 2) (L1 := 60) (mc := 0) (ms := 0) d_Shelf_letters_1 cS_Shelf_67 (fc_lin (by omega) (by omega)) ⟨by omega, by show 8 + (4 + 11) + 60 ≤ _; omega⟩ ⟨by omega, by omega⟩ (Nat.le_of_ble_eq_true rfl) (fun v_2 h_1 p_3 => ?_)
  obtain ⟨rfl, rfl⟩ := p_3
  rw [hN]
  refine s_Shelf_letters_4 (fun z => absurd z (by decide)) (fun z_4 => ?_)
  refine x_throw rfl th_Shelf_71_73_75 d_Shelf_letters_9 d_Shelf_letters_12 d_Shelf_letters_13 d_Shelf_letters_15 d_Shelf_letters_18 ⟨by show 1 + 4 < _; omega, by show 0 + (13 * (1 + 2) + 43) ≤ _; omega⟩ ⟨by omega, by omega⟩ ?_
  exact ⟨rfl, rfl⟩
set_option maxHeartbeats 400000 in
theorem g_letters_full {G : xw_G} {F L : Nat} {h : xw_A} {w : Int64} {n : Nat} {x d tx w_ st sv qo so ao dl : Nat} {mo li op wp gp : Int32} (e_x : h x = some (.inr (0, [.ref d, .ref tx, .ref w_, .ref st, .ref sv, .ref qo, .ref so, .ref ao, .int (nI dl), .int mo, .int li, .int op, .int wp, .int gp]))) (hdl : dl ≤ 96) (hN : (ltr (oct w) 8 0).getD 0 = n + 1) (hn : n < 8) (hf : 96 < dl + (n + 1)) (hF : 6 ≤ F) (hL : 90 ≤ L) :
    xw_Met G m_Shelf_letters F L 1 6 [.ref x, .long w] h (fun v h' => False) (fun E h' => E = "java/lang/IndexOutOfBoundsException" ∧ h = h') := by
  refine xw_Met.of rfl (by decide) (Nat.le_of_ble_eq_true rfl) ?_
  refine s_Shelf_letters_0 ?_
  refine x_callS (As := [.long w]) (rest := []) (F1 := 2) (L1 := 60) (mc := 0) (ms := 0) d_Shelf_letters_1 cS_Shelf_67 (fc_lin (by omega) (by omega)) ⟨by omega, by show 8 + (4 + 11) + 60 ≤ _; omega⟩ ⟨by omega, by omega⟩ (Nat.le_of_ble_eq_true rfl) (fun v_2 h_1 p_3 => ?_)
  obtain ⟨rfl, rfl⟩ := p_3
  rw [hN]
  refine s_Shelf_letters_4 (fun z_4 => ?_) (fun z => absurd z (nI_ne0 (by omega) (by omega)))
  refine s_Shelf_letters_19 (draft_a0 := some d) (texts_a0 := some tx) (weights_a0 := some w_) (store_a0 := some st) (saved_a0 := some sv) (question_a0 := some qo) (standing_a0 := some so) (answers_a0 := some ao) e_x (fun z => absurd z (by rw [nI_add]; exact nI_ge hf (by omega))) (fun z_5 => ?_)
  refine x_throw rfl th_Shelf_81_83_85 d_Shelf_letters_30 d_Shelf_letters_33 d_Shelf_letters_34 d_Shelf_letters_36 d_Shelf_letters_39 ⟨by show 1 + 4 < _; omega, by show 0 + (13 * (1 + 2) + 43) ≤ _; omega⟩ ⟨by omega, by omega⟩ ?_
  exact ⟨rfl, rfl⟩
set_option maxHeartbeats 1000000 in
theorem lp_gcpy {G : xw_G} {F L bc bs : Nat} {pr : Option Value → xw_A → Prop} {px : String → xw_A → Prop} {h0 : xw_A} {w : Int64} {n : Nat} {f0 : Nat → Int32} {x d tx w_ st sv qo so ao dl : Nat} {mo li op wp gp : Int32} (hn : n < 8) (hf : dl + (n + 1) ≤ 96) (hF : 2 ≤ F) (hL : 42 ≤ L)
    (k : ∀ (h : xw_A) (f_d : Nat → Int32), h x = some (.inr (0, [.ref d, .ref tx, .ref w_, .ref st, .ref sv, .ref qo, .ref so, .ref ao, .int (nI dl), .int mo, .int li, .int op, .int wp, .int gp])) → h d = some (.inl (1, 96, .inl f_d)) → ((∀ j, j < dl → f_d j = f0 j) ∧ ∀ t, t < n + 1 → f_d (dl + t) = oct w t) → FrO [d] h0 h → xw G m_Shelf_letters F L bc bs pr px 74 [some (.ref x), none, none, some (.int (nI (n + 1))), none] [] h) :
    ∀ (j i : Nat) (h : xw_A) (f_d : Nat → Int32), i + j = n + 1 → h x = some (.inr (0, [.ref d, .ref tx, .ref w_, .ref st, .ref sv, .ref qo, .ref so, .ref ao, .int (nI dl), .int mo, .int li, .int op, .int wp, .int gp])) → h d = some (.inl (1, 96, .inl f_d)) → ((∀ j, j < dl → f_d j = f0 j) ∧ ∀ t, t < i → f_d (dl + t) = oct w t) → FrO [d] h0 h → xw G m_Shelf_letters F L bc bs pr px 43 [some (.ref x), some (.long w), none, some (.int (nI (n + 1))), some (.int (nI i))] [] h := by
  intro j
  induction j with
  | zero =>
    intro i h f_d hi e_x e_d C9 r0
    obtain rfl : i = n + 1 := by omega
    refine s_Shelf_letters_43 (fun _ => ?_) (fun z => absurd (nI_le (Nat.le_refl _) (by omega)) z)
    exact k _ _ e_x e_d C9 r0
  | succ j ih =>
    intro i h f_d hi e_x e_d C9 r0
    refine s_Shelf_letters_43 (fun z => absurd z (nI_ge (b := n + 1) (show i < n + 1 by omega) (by omega))) (fun _ => ?_)
    refine s_Shelf_letters_49 (draft_a0 := some d) (texts_a0 := some tx) (weights_a0 := some w_) (store_a0 := some st) (saved_a0 := some sv) (question_a0 := some qo) (standing_a0 := some so) (answers_a0 := some ao) e_x ?_
    refine x_callS (As := [.long w, .int (nI i)]) (rest := [.int ((nI dl) + (nI i)), .ref d]) (F1 := 1) (L1 := 20) (mc := 0) (ms := 0) d_Shelf_letters_63 cS_Shelf_86 (fc_octet (by omega) (by omega)) ⟨by omega, by show 8 + (3 + 11) + 20 ≤ _; omega⟩ ⟨by omega, by omega⟩ (Nat.le_of_ble_eq_true rfl) (fun v_2 h_1 p_3 => ?_)
    obtain ⟨rfl, rfl⟩ := p_3
    refine s_Shelf_letters_66 e_d (by rw [nI_add]; exact vp_in_nI (by omega) (by decide)) ?_
    refine x_u1 (fun h_4 e_5 f_6 => ?_)
    have e_7 := (f_6 x (xw_neC e_x e_d (by simp))).trans e_x
    have r_8 := r0.up (by simp) f_6
    rw [nI_1]
    rw [nI_add, nI_clamp (by omega), octC] at e_5
    exact ih (i + 1) _ _ (by omega) e_7 e_5 ⟨(fun j9 hj9 => by have q : ¬ j9 = dl + i := (by omega); rw [pk_un q]; exact C9.1 j9 hj9), (fun t9 ht9 => by by_cases q : t9 = i; (rw [q]; exact pk_us); (have q2 : ¬ dl + t9 = dl + i := (by omega); rw [pk_un q2]; exact C9.2 t9 (by omega)))⟩ r_8
set_option maxHeartbeats 400000 in
theorem g_letters_yes {G : xw_G} {F L : Nat} {h : xw_A} {w : Int64} {n : Nat} {f_d : Nat → Int32} {x d tx w_ st sv qo so ao dl : Nat} {mo li op wp gp : Int32} (e_x : h x = some (.inr (0, [.ref d, .ref tx, .ref w_, .ref st, .ref sv, .ref qo, .ref so, .ref ao, .int (nI dl), .int mo, .int li, .int op, .int wp, .int gp]))) (hdl : dl ≤ 96) (e_d : h d = some (.inl (1, 96, .inl f_d))) (hN : (ltr (oct w) 8 0).getD 0 = n + 1) (hn : n < 8) (hf : dl + (n + 1) ≤ 96) (hF : 3 ≤ F) (hL : 83 ≤ L) :
    xw_Met G m_Shelf_letters F L 0 0 [.ref x, .long w] h (fun v h' => v = some (.int (nI (dl + (n + 1)))) ∧ h' x = some (.inr (0, [.ref d, .ref tx, .ref w_, .ref st, .ref sv, .ref qo, .ref so, .ref ao, .int (nI (dl + (n + 1))), .int mo, .int li, .int op, .int wp, .int gp])) ∧ (∃ f : Nat → Int32, h' d = some (.inl (1, 96, .inl f)) ∧ (∀ j, j < dl → f j = f_d j) ∧ ∀ t, t < n + 1 → f (dl + t) = oct w t) ∧ FrO [x, d] h h') (fun _ _ => False) := by
  refine xw_Met.of rfl (by decide) (Nat.le_of_ble_eq_true rfl) ?_
  have r0 : FrO [x, d] h h := FrO.rf
  refine s_Shelf_letters_0 ?_
  refine x_callS (As := [.long w]) (rest := []) (F1 := 2) (L1 := 60) (mc := 0) (ms := 0) d_Shelf_letters_1 cS_Shelf_67 (fc_lin (by omega) (by omega)) ⟨by omega, by show 8 + (4 + 11) + 60 ≤ _; omega⟩ ⟨by omega, by omega⟩ (Nat.le_of_ble_eq_true rfl) (fun v_2 h_1 p_3 => ?_)
  obtain ⟨rfl, rfl⟩ := p_3
  rw [hN]
  refine s_Shelf_letters_4 (fun z_4 => ?_) (fun z => absurd z (nI_ne0 (by omega) (by omega)))
  refine s_Shelf_letters_19 (draft_a0 := some d) (texts_a0 := some tx) (weights_a0 := some w_) (store_a0 := some st) (saved_a0 := some sv) (question_a0 := some qo) (standing_a0 := some so) (answers_a0 := some ao) e_x (fun z_5 => ?_) (fun z => absurd (by rw [nI_add]; exact nI_le hf (by decide)) z)
  refine s_Shelf_letters_40 ?_
  refine lp_gcpy hn hf (by omega) (by omega) (fun h_6 f_7 e_8 e_9 C_11 r_10 => ?_) (n + 1) 0 _ _ (by omega) e_x e_d ⟨fun _ _ => rfl, fun t ht => absurd ht (Nat.not_lt_zero _)⟩ FrO.rf
  have r_12 := r0.trans (r_10.mono (by simp))
  refine s_Shelf_letters_74 (draft_a0 := some d) (texts_a0 := some tx) (weights_a0 := some w_) (store_a0 := some st) (saved_a0 := some sv) (question_a0 := some qo) (standing_a0 := some so) (answers_a0 := some ao) e_8 ?_
  obtain ⟨h_13, z_16⟩ : ∃ z, z = xw_up h_6 x (.inr (0, [va_rf (some d), va_rf (some tx), va_rf (some w_), va_rf (some st), va_rf (some sv), va_rf (some qo), va_rf (some so), va_rf (some ao), .int ((nI dl) + (nI (n + 1))), .int mo, .int li, .int op, .int wp, .int gp])) := ⟨_, rfl⟩
  rw [← z_16]
  have e_14 : h_13 x = some (.inr (0, [va_rf (some d), va_rf (some tx), va_rf (some w_), va_rf (some st), va_rf (some sv), va_rf (some qo), va_rf (some so), va_rf (some ao), .int ((nI dl) + (nI (n + 1))), .int mo, .int li, .int op, .int wp, .int gp])) := by rw [z_16]; exact xw_up_s _ _ _
  have f_15 : ∀ q, q ≠ x → h_13 q = h_6 q := fun q hq => by rw [z_16]; exact xw_up_n _ _ hq
  clear z_16
  have e_17 := (f_15 d (xw_neC e_9 e_8 (by simp))).trans e_9
  have r_18 := r_12.up (by simp) f_15
  rw [nI_add] at e_14
  exact ⟨congrArg (fun z => some (Value.int z)) (nI_add _ _), e_14, ⟨_, e_17, C_11⟩, r_18⟩
theorem DiA.le {A : List Nat} {h : xw_A} {a c : Nat} (k : DiA A h a c) : c ≤ 48 := by
  obtain ⟨-, l, z, m, kk, n, f, g, -, -, T, rfl⟩ := k
  have := sameD_le f g n
  have := T.2.2.2.1
  have := T.2.2.2.2.2.1
  omega
set_option maxHeartbeats 2000000 in
theorem g_give {G : xw_G} {F L : Nat} {h : xw_A} {r p q : Nat} {fx : Nat → Option Nat} {x d tx w st sv qo so ao dl mo li : Nat} {op wp gp : Int32} (e_x : h x = some (.inr (0, [.ref d, .ref tx, .ref w, .ref st, .ref sv, .ref qo, .ref so, .ref ao, .int (nI dl), .int (nI mo), .int (nI li), .int op, .int wp, .int gp]))) (e_tx : h tx = some (oa 2 9 fx)) (hx0 : fx 0 = some p) (hx1 : fx 1 = some q) {A : List Nat} {s1 s2 s3 s4 : Nat} {fr fp fs fl : Nat → Option Nat} {pc sc lc nv ns : Nat} {R : Nat → Option VT} {P : List VT} {S : List SG} {Lv : List VT} (K : StoC A st s1 s2 s3 s4 fr fp fs fl pc sc lc (nI (sumE P)) (nI nv) (nI ns) h) (V : StV A h fr fp fs fl pc sc lc R P S Lv) (SA : StA A st s1 s2 s3 s4) (hmo : mo ≤ 9) (hli : li ≤ 200) (hnv : nv < 999) (hr1 : 1 ≤ r) (hr2 : r ≤ 24) (hp : TokOK A h p) (hq : TokOK A h q) (hF : 6 ≤ F) (hL : 148 ≤ L) :
    xw_Met G m_Shelf_giveTexts F L 13 167 [.ref x, .int (nI r)] h (fun v h' => ∃ c1 c2 a : Nat, v = some (.int (nI (c1 + c2))) ∧ DiA A h p c1 ∧ DiA A h q c2 ∧ (∃ nn : Int32, h' a = some (.inr (10, [.int nn, .int (nI r), .ref p, .ref q, .int (nI (c1 + c2))]))) ∧ ∃ (P2 : List VT) (S2 : List SG) (n2 : Nat), GvR (va_up R r (some (nv, r, c1 + c2))) mo li (putP P (nv, r, c1 + c2)) S ns P2 S2 n2 ∧ StoG A st s1 s2 s3 s4 (va_up fr r (some a)) (va_up R r (some (nv, r, c1 + c2))) P2 S2 (nv + 1) n2 h' ∧ FrO [st, s1, s2, s3, s4] h h') (fun _ _ => False) := by
  refine xw_Met.of rfl (by decide) (Nat.le_of_ble_eq_true rfl) ?_
  have K0 := K
  obtain ⟨e_st, e_s1, e_s2, e_s3, e_s4, -⟩ := id K
  have r0 : FrO [st, s1, s2, s3, s4] h h := FrO.rf
  refine s_Shelf_giveTexts_0 (draft_a0 := some d) (weights_a0 := some w) (store_a0 := some st) (saved_a0 := some sv) (question_a0 := some qo) (standing_a0 := some so) (answers_a0 := some ao) e_x e_tx (by unfold vp_in; decide) (by unfold vp_in; decide) ?_
  rw [show fx (1 : Int32).toNatClampNeg = some q from hx1, show fx (0 : Int32).toNatClampNeg = some p from hx0]
  refine x_callV (As := [.int (nI r), .ref p, .ref q]) (b := st) (rest := []) (F1 := 5) (L1 := 112) (mc := 1) (ms := 5) d_Shelf_giveTexts_17 cV_Shelf_252 (g_put K SA hr1 hr2 hp hq (by omega) (by omega)) e_st ⟨by decide, rfl⟩ ⟨by omega, by show 8 + (6 + 11) + 112 ≤ _; omega⟩ ⟨by omega, by omega⟩ (Nat.le_of_ble_eq_true rfl) (fun v_16 h_15 p_17 => ?_)
  obtain ⟨y_1, a_2, rfl, ⟨fp_3, pc_4, pe_5, vm_6, nn_7, K_8, ea_9, t_10, t_11, t_12⟩, yd_13, fr_14⟩ := p_17
  obtain ⟨c1, c2, rfl, hd1, hd2⟩ := yd_13
  have hd3 := hd1.le
  have hd4 := hd2.le
  obtain ⟨K9, V9⟩ := put_G V fr_14 (suC SA.1 (suC SA.2.1 (suC SA.2.2.1 suN))) K_8 ea_9 ⟨t_10, t_11, t_12⟩ (by omega) hnv hr1 hr2
  have e_18 := fr_14 x _ (by simp only [List.mem_cons, List.not_mem_nil, or_false, not_or]; exact ⟨(xw_neC e_x e_st (by simp)), (xw_neC e_x e_s1 (by simp)), (xw_neC e_x e_s2 (by simp))⟩) e_x
  have e_19 := fr_14 tx _ (by simp only [List.mem_cons, List.not_mem_nil, or_false, not_or]; exact ⟨(xw_neC e_tx e_st (by simp)), (xw_neC e_tx e_s1 (by simp)), (xw_neC e_tx e_s2 (by simp))⟩) e_tx
  have haA9 : a_2 ∉ A := (K9.2.2.2.2.2.2.2.2.1 r a_2 (va_up_self _ _ _)).1
  have hsu9 : sumE (putP P (nv, r, c1 + c2)) < 2 ^ 31 := by have q1 := V9.2.1.2.sum; have q2 : (putP P (nv, r, c1 + c2)).length ≤ 201 := putP_len (by rw [V.2.1.1]; exact K.2.2.2.2.2.1); omega
  obtain ⟨e_20, e_21, e_22, e_23, e_24, -⟩ := id K9
  have r_25 := r0.trans (fr_14.mono (by simp))
  refine x_le (xw_le_s (xw_le_n (xw_le_n xw_le_e))) ?_
  refine s_Shelf_giveTexts_20 (draft_a0 := some d) (texts_a0 := some tx) (weights_a0 := some w) (saved_a0 := some sv) (question_a0 := some qo) (standing_a0 := some so) (answers_a0 := some ao) (rows_store_a0 := some s1) (pending_store_a0 := some s2) (segments_store_a0 := some s3) (live_store_a0 := some s4) e_18 e_20 (fun z_26 => ?_) (fun z_27 => ?_)
  · skip
    refine s_Shelf_giveTexts_46 ?_
    exact ⟨c1, c2, a_2, rfl, hd1, hd2, ⟨_, ea_9⟩, _, _, _, Or.inr ⟨Nat.not_lt.mpr ((nI_leI (by omega) (by omega)).mp z_26), rfl, rfl, rfl⟩, ⟨_, _, _, _, _, _, _, K9, V9⟩, r_25⟩
  · skip
    refine s_Shelf_giveTexts_35 (draft_a0 := some d) (texts_a0 := some tx) (weights_a0 := some w) (store_a0 := some st) (saved_a0 := some sv) (question_a0 := some qo) (standing_a0 := some so) (answers_a0 := some ao) e_18 ?_
    refine x_callV (As := [.int (nI mo)]) (b := st) (rest := []) (F1 := 4) (L1 := 126) (mc := 12) (ms := 162) d_Shelf_giveTexts_43 cV_Shelf_147 (g_flushV K9 V9 hmo SA (by omega) (by omega)) e_20 ⟨by decide, rfl⟩ ⟨by omega, by show 8 + (3 + 11) + 126 ≤ _; omega⟩ ⟨by omega, by omega⟩ (Nat.le_of_ble_eq_true rfl) (fun v_37 h_36 p_38 => ?_)
    obtain ⟨rfl, ⟨fs_28, fl_29, sc_30, lc_31, Lv_32, K_33, V_34⟩, fr_35⟩ := p_38
    have e_39 := fr_35 x _ (by simp only [List.mem_cons, List.not_mem_nil, or_false, not_or]; exact ⟨(xw_neC e_18 e_20 (by simp)), (xw_neC e_18 e_23 (by simp)), (xw_neC e_18 e_24 (by simp))⟩) e_18
    have e_40 := fr_35 tx _ (by simp only [List.mem_cons, List.not_mem_nil, or_false, not_or]; exact ⟨(xw_neC e_19 e_20 (by simp)), (xw_neC e_19 e_23 (by simp)), (xw_neC e_19 e_24 (by simp))⟩) e_19
    have ea_41 := fr_35 a_2 _ (nA9 haA9 (suC SA.1 (suC SA.2.2.2.1 (suC SA.2.2.2.2 suN)))) ea_9
    obtain ⟨e_42, e_43, e_44, e_45, e_46, -⟩ := id K_33
    have r_47 := r_25.trans (fr_35.mono (by simp))
    refine x_le (xw_le_n (xw_le_n (xw_le_s xw_le_e))) ?_
    refine s_Shelf_giveTexts_46 ?_
    exact ⟨c1, c2, a_2, rfl, hd1, hd2, ⟨_, ea_41⟩, [], _, _, Or.inl ⟨Nat.lt_of_not_le (fun q => z_27 (nI_le q (by omega))), rfl, rfl, rfl⟩, ⟨_, _, _, _, _, _, _, K_33, V_34⟩, r_47⟩
set_option maxHeartbeats 400000 in
theorem g_insert {G : xw_G} {F L : Nat} {h : xw_A} {x d tx w st sv qo so ao dl mo li : Nat} {op wp gp : Int32} (e_x : h x = some (.inr (0, [.ref d, .ref tx, .ref w, .ref st, .ref sv, .ref qo, .ref so, .ref ao, .int (nI dl), .int (nI mo), .int (nI li), .int op, .int wp, .int gp]))) {A : List Nat} {s1 s2 s3 s4 : Nat} {fr fp fs fl : Nat → Option Nat} {pc sc lc nv ns : Nat} {R : Nat → Option VT} {P : List VT} {S : List SG} {Lv : List VT} (K : StoC A st s1 s2 s3 s4 fr fp fs fl pc sc lc (nI (sumE P)) (nI nv) (nI ns) h) (V : StV A h fr fp fs fl pc sc lc R P S Lv) (SA : StA A st s1 s2 s3 s4) {p q : Nat} {fx : Nat → Option Nat} (e_tx : h tx = some (oa 2 9 fx)) (hx0 : fx 0 = some p) (hx1 : fx 1 = some q) (hp : TokOK A h p) (hq : TokOK A h q) (hmo : mo ≤ 9) (hli : li ≤ 200) (hnv : nv < 999) (hF : 7 ≤ F) (hL : 170 ≤ L) :
    xw_Met G m_Shelf_insert F L 13 167 [.ref x] h (fun v h' => ∃ c : Nat, v = some (.int (nI c)) ∧ 1 ≤ c ∧ c ≤ 24 ∧ fr c = none ∧ (∀ j, 1 ≤ j → j < c → fr j ≠ none) ∧ ∃ c1 c2 a : Nat, True ∧ DiA A h p c1 ∧ DiA A h q c2 ∧ (∃ nn : Int32, h' a = some (.inr (10, [.int nn, .int (nI c), .ref p, .ref q, .int (nI (c1 + c2))]))) ∧ ∃ (P2 : List VT) (S2 : List SG) (n2 : Nat), GvR (va_up R c (some (nv, c, c1 + c2))) mo li (putP P (nv, c, c1 + c2)) S ns P2 S2 n2 ∧ StoG A st s1 s2 s3 s4 (va_up fr c (some a)) (va_up R c (some (nv, c, c1 + c2))) P2 S2 (nv + 1) n2 h' ∧ FrO [st, s1, s2, s3, s4] h h') (fun E h' => E = "java/lang/IndexOutOfBoundsException" ∧ FrO [] h h' ∧ ∀ j, 1 ≤ j → j ≤ 24 → fr j ≠ none) := by
  refine xw_Met.of rfl (by decide) (Nat.le_of_ble_eq_true rfl) ?_
  obtain ⟨e_st, e_s1, e_s2, e_s3, e_s4, -⟩ := id K
  refine s_Shelf_insert_0 (draft_a0 := some d) (texts_a0 := some tx) (weights_a0 := some w) (store_a0 := some st) (saved_a0 := some sv) (question_a0 := some qo) (standing_a0 := some so) (answers_a0 := some ao) e_x ?_
  refine x_callV (As := []) (b := st) (rest := []) (F1 := 1) (L1 := 20) (mc := 0) (ms := 0) d_Shelf_insert_4 cV_Shelf_105 (g_freeRow K (by omega) (by omega)) e_st ⟨by decide, rfl⟩ ⟨by omega, by show 8 + (2 + 11) + 20 ≤ _; omega⟩ ⟨by omega, by omega⟩ (Nat.le_of_ble_eq_true rfl) (fun v_4 h_3 p_5 => ?_)
  obtain ⟨⟨c_1, rfl, hc_2⟩, rfl⟩ := p_5
  refine s_Shelf_insert_7 (fun z_6 => ?_) (fun z_7 => ?_)
  · skip
    refine s_Shelf_insert_22 ?_
    have q_14 := hc_2.resolve_left (fun y => absurd (by rw [y.1]; rfl) z_6)
    refine x_callV (As := [.int (nI c_1)]) (b := x) (rest := []) (F1 := 6) (L1 := 148) (mc := 13) (ms := 167) d_Shelf_insert_24 cV_Shelf_111 (g_give e_x e_tx hx0 hx1 K V SA hmo hli hnv q_14.1 q_14.2.1 hp hq (by omega) (by omega)) e_x ⟨by decide, rfl⟩ ⟨by omega, by show 8 + (3 + 11) + 148 ≤ _; omega⟩ ⟨by omega, by omega⟩ (Nat.le_of_ble_eq_true rfl) (fun v_16 h_15 p_17 => ?_)
    obtain ⟨c_8, c_9, a_10, rfl, d_11, d_12, rest_13⟩ := p_17
    refine x_le (xw_le_n (xw_le_s xw_le_e)) ?_
    refine s_Shelf_insert_27 ?_
    exact ⟨c_1, rfl, q_14.1, q_14.2.1, q_14.2.2.1, q_14.2.2.2, c_8, c_9, a_10, trivial, d_11, d_12, rest_13⟩
  · skip
    refine x_throw rfl th_Shelf_81_109_85 d_Shelf_insert_12 d_Shelf_insert_15 d_Shelf_insert_16 d_Shelf_insert_18 d_Shelf_insert_21 ⟨by show 1 + 4 < _; omega, by show 0 + (13 * (1 + 2) + 43) ≤ _; omega⟩ ⟨by omega, by omega⟩ ?_
    exact ⟨rfl, FrO.rf, hc_2.elim (fun y => y.2) (fun y => by have y1 := y.1; have y2 := y.2.1; exact absurd ((nI_eq (a := c_1) (b := 0) (by omega) (by decide)).mp z_7) (by omega))⟩
set_option maxHeartbeats 400000 in
theorem g_replace {G : xw_G} {F L : Nat} {h : xw_A} {r : Int32} {x d tx w st sv qo so ao dl mo li : Nat} {op wp gp : Int32} (e_x : h x = some (.inr (0, [.ref d, .ref tx, .ref w, .ref st, .ref sv, .ref qo, .ref so, .ref ao, .int (nI dl), .int (nI mo), .int (nI li), .int op, .int wp, .int gp]))) {A : List Nat} {s1 s2 s3 s4 : Nat} {fr fp fs fl : Nat → Option Nat} {pc sc lc nv ns : Nat} {R : Nat → Option VT} {P : List VT} {S : List SG} {Lv : List VT} (K : StoC A st s1 s2 s3 s4 fr fp fs fl pc sc lc (nI (sumE P)) (nI nv) (nI ns) h) (V : StV A h fr fp fs fl pc sc lc R P S Lv) (SA : StA A st s1 s2 s3 s4) {p q : Nat} {fx : Nat → Option Nat} (e_tx : h tx = some (oa 2 9 fx)) (hx0 : fx 0 = some p) (hx1 : fx 1 = some q) (hp : TokOK A h p) (hq : TokOK A h q) (hmo : mo ≤ 9) (hli : li ≤ 200) (hnv : nv < 999) (hF : 7 ≤ F) (hL : 170 ≤ L) :
    xw_Met G m_Shelf_replace F L 13 167 [.ref x, .int r] h (fun v h' => ∃ j : Nat, 1 ≤ j ∧ j ≤ 24 ∧ r = nI j ∧ fr j ≠ none ∧ ∃ c1 c2 a : Nat, v = some (.int (nI (c1 + c2))) ∧ DiA A h p c1 ∧ DiA A h q c2 ∧ (∃ nn : Int32, h' a = some (.inr (10, [.int nn, .int (nI j), .ref p, .ref q, .int (nI (c1 + c2))]))) ∧ ∃ (P2 : List VT) (S2 : List SG) (n2 : Nat), GvR (va_up R j (some (nv, j, c1 + c2))) mo li (putP P (nv, j, c1 + c2)) S ns P2 S2 n2 ∧ StoG A st s1 s2 s3 s4 (va_up fr j (some a)) (va_up R j (some (nv, j, c1 + c2))) P2 S2 (nv + 1) n2 h' ∧ FrO [st, s1, s2, s3, s4] h h') (fun E h' => E = "java/util/NoSuchElementException" ∧ FrO [] h h' ∧ ∀ j, 1 ≤ j → j ≤ 24 → r = nI j → fr j = none) := by
  refine xw_Met.of rfl (by decide) (Nat.le_of_ble_eq_true rfl) ?_
  obtain ⟨e_st, e_s1, e_s2, e_s3, e_s4, -⟩ := id K
  refine s_Shelf_replace_0 (draft_a0 := some d) (texts_a0 := some tx) (weights_a0 := some w) (store_a0 := some st) (saved_a0 := some sv) (question_a0 := some qo) (standing_a0 := some so) (answers_a0 := some ao) e_x ?_
  refine x_callV (As := [.int r]) (b := st) (rest := []) (F1 := 1) (L1 := 20) (mc := 0) (ms := 0) d_Shelf_replace_5 cV_Shelf_115 (g_versionOf K (by omega) (by omega)) e_st ⟨by decide, rfl⟩ ⟨by omega, by show 8 + (2 + 11) + 20 ≤ _; omega⟩ ⟨by omega, by omega⟩ (Nat.le_of_ble_eq_true rfl) (fun v_5 h_4 p_6 => ?_)
  obtain ⟨⟨o_1, rfl, ho_2, ho_3⟩, rfl⟩ := p_6
  refine s_Shelf_replace_8 (s0 := o_1) (fun z_7 => ?_) (fun a_8 z_9 => ?_)
  · skip
    refine x_throw rfl th_Shelf_119_121_123 d_Shelf_replace_11 d_Shelf_replace_14 d_Shelf_replace_15 d_Shelf_replace_17 d_Shelf_replace_20 ⟨by show 1 + 4 < _; omega, by show 0 + (13 * (1 + 2) + 43) ≤ _; omega⟩ ⟨by omega, by omega⟩ ?_
    exact ⟨rfl, FrO.rf, fun j9 h91 h92 e9 => (ho_3 j9 h91 h92 e9).symm.trans z_7⟩
  · skip
    refine s_Shelf_replace_21 ?_
    obtain ⟨-, j_16, ja_17, jb_18, je_19⟩ := ho_2 _ z_9
    have hj9 := ho_3 j_16 ja_17 jb_18 je_19
    subst je_19
    refine x_callV (As := [.int (nI j_16)]) (b := x) (rest := []) (F1 := 6) (L1 := 148) (mc := 13) (ms := 167) d_Shelf_replace_23 cV_Shelf_111 (g_give e_x e_tx hx0 hx1 K V SA hmo hli hnv ja_17 jb_18 hp hq (by omega) (by omega)) e_x ⟨by decide, rfl⟩ ⟨by omega, by show 8 + (3 + 11) + 148 ≤ _; omega⟩ ⟨by omega, by omega⟩ (Nat.le_of_ble_eq_true rfl) (fun v_21 h_20 p_22 => ?_)
    obtain ⟨c_10, c_11, a_12, rfl, d_13, d_14, rest_15⟩ := p_22
    refine x_le (xw_le_n (xw_le_n xw_le_e)) ?_
    refine s_Shelf_replace_26 ?_
    exact ⟨j_16, ja_17, jb_18, rfl, (fun q9 => nomatch (z_9.symm.trans (hj9.trans q9))), c_10, c_11, a_12, rfl, d_13, d_14, rest_15⟩
set_option maxHeartbeats 400000 in
theorem g_delete {G : xw_G} {F L : Nat} {h : xw_A} {r : Int32} {x d tx w st sv qo so ao dl : Nat} {mo li op wp gp : Int32} (e_x : h x = some (.inr (0, [.ref d, .ref tx, .ref w, .ref st, .ref sv, .ref qo, .ref so, .ref ao, .int (nI dl), .int mo, .int li, .int op, .int wp, .int gp]))) {A : List Nat} {s1 s2 s3 s4 : Nat} {fr fp fs fl : Nat → Option Nat} {pc sc lc nv ns : Nat} {R : Nat → Option VT} {P : List VT} {S : List SG} {Lv : List VT} (K : StoC A st s1 s2 s3 s4 fr fp fs fl pc sc lc (nI (sumE P)) (nI nv) (nI ns) h) (V : StV A h fr fp fs fl pc sc lc R P S Lv) (SA : StA A st s1 s2 s3 s4) (hF : 6 ≤ F) (hL : 90 ≤ L) :
    xw_Met G m_Shelf_delete F L 13 167 [.ref x, .int r] h (fun v h' => ∃ (j a p q l z n l2 z2 n2 vr : Nat) (vn ve : Int32), v = some (.int (nI (n + n2))) ∧ 1 ≤ j ∧ j ≤ 24 ∧ r = nI j ∧ fr j = some a ∧ StoG A st s1 s2 s3 s4 (va_up fr j none) (va_up R j none) P S nv ns h' ∧ (h' a = some (.inr (10, [.int vn, .int (nI vr), .ref p, .ref q, .int ve])) ∧ h' p = some (.inr (9, [.ref l, .ref z, .int (nI n)])) ∧ h' q = some (.inr (9, [.ref l2, .ref z2, .int (nI n2)]))) ∧ FrO [st, s1, s2, s3, s4] h h') (fun E h' => E = "java/util/NoSuchElementException" ∧ FrO [] h h' ∧ ∀ j, 1 ≤ j → j ≤ 24 → r = nI j → fr j = none) := by
  refine xw_Met.of rfl (by decide) (Nat.le_of_ble_eq_true rfl) ?_
  obtain ⟨e_st, e_s1, e_s2, e_s3, e_s4, -⟩ := id K
  refine s_Shelf_delete_0 (draft_a0 := some d) (texts_a0 := some tx) (weights_a0 := some w) (store_a0 := some st) (saved_a0 := some sv) (question_a0 := some qo) (standing_a0 := some so) (answers_a0 := some ao) e_x ?_
  refine x_callV (As := [.int r]) (b := st) (rest := []) (F1 := 1) (L1 := 20) (mc := 0) (ms := 0) d_Shelf_delete_5 cV_Shelf_115 (g_versionOf K (by omega) (by omega)) e_st ⟨by decide, rfl⟩ ⟨by omega, by show 8 + (2 + 11) + 20 ≤ _; omega⟩ ⟨by omega, by omega⟩ (Nat.le_of_ble_eq_true rfl) (fun v_5 h_4 p_6 => ?_)
  obtain ⟨⟨o_1, rfl, ho_2, ho_3⟩, rfl⟩ := p_6
  refine s_Shelf_delete_8 (s0 := o_1) (fun z_7 => ?_) (fun a_8 z_9 => ?_)
  · skip
    refine x_throw rfl th_Shelf_119_121_123 d_Shelf_delete_13 d_Shelf_delete_16 d_Shelf_delete_17 d_Shelf_delete_19 d_Shelf_delete_22 ⟨by show 1 + 4 < _; omega, by show 0 + (13 * (1 + 2) + 43) ≤ _; omega⟩ ⟨by omega, by omega⟩ ?_
    exact ⟨rfl, FrO.rf, fun j9 h91 h92 e9 => (ho_3 j9 h91 h92 e9).symm.trans z_7⟩
  · skip
    refine s_Shelf_delete_23 (r2 := o_1) (draft_a0 := some d) (texts_a0 := some tx) (weights_a0 := some w) (store_a0 := some st) (saved_a0 := some sv) (question_a0 := some qo) (standing_a0 := some so) (answers_a0 := some ao) e_x ?_
    obtain ⟨hv9, j9, ja9, jb9, je9⟩ := ho_2 _ z_9
    have hj9 := (ho_3 j9 ja9 jb9 je9).symm.trans z_9
    refine x_callV (As := [.int r]) (b := st) (rest := []) (F1 := 1) (L1 := 20) (mc := 0) (ms := 0) d_Shelf_delete_28 cV_Shelf_124 (g_clearRow K SA (by omega) (by omega)) e_st ⟨by decide, rfl⟩ ⟨by omega, by show 8 + (2 + 11) + 20 ≤ _; omega⟩ ⟨by omega, by omega⟩ (Nat.le_of_ble_eq_true rfl) (fun v_15 h_14 p_16 => ?_)
    obtain ⟨rfl, ⟨f_10, K_11, hf_12⟩, fr_13⟩ := p_16
    obtain ⟨vn, ve, vr, vp, vq, vl, vz, vj, vl2, vz2, vj2, ev1, ev2, ev3, hj1, hj2⟩ := (hv9.fr fr_13 (suC SA.2.1 suN)).tokens
    have hf9 := hf_12 j9 ja9 jb9 je9
    subst hf9
    refine x_le (xw_le_n (xw_le_n (xw_le_s xw_le_e))) ?_
    refine s_Shelf_delete_31 (r2 := o_1) ?_
    rw [z_9]
    refine x_callV (As := []) (b := a_8) (rest := []) (F1 := 1) (L1 := 20) (mc := 0) (ms := 0) d_Shelf_delete_32 cV_Shelf_127 (g_vtokens ev1 ev2 ev3 (by omega) (by omega)) ev1 ⟨by decide, rfl⟩ ⟨by omega, by show 8 + (1 + 11) + 20 ≤ _; omega⟩ ⟨by omega, by omega⟩ (Nat.le_of_ble_eq_true rfl) (fun v_18 h_17 p_19 => ?_)
    obtain ⟨rfl, rfl⟩ := p_19
    refine x_le (xw_le_n (xw_le_n (xw_le_n xw_le_e))) ?_
    refine s_Shelf_delete_35 ?_
    exact ⟨j9, a_8, vp, vq, vl, vz, vj, vl2, vz2, vj2, vr, vn, ve, rfl, ja9, jb9, je9, hj9, ⟨_, _, _, _, _, _, _, K_11, clr_G (V.fr fr_13 (suC SA.2.1 suN))⟩, ⟨ev1, ev2, ev3⟩, (fr_13.mono (by simp))⟩
