/-! the class in general states: by program (wip/tools/gen2.py) -/
theorem ix576 {p r c : Nat} (hr : 1 ≤ r) : (nI p * 24 + nI r - 1) * 2 + nI c = nI ((p * 24 + r - 1) * 2 + c) := by
  rw [show (24 : Int32) = nI 24 from rfl, pk_mul, nI_add, show (1 : Int32) = nI 1 from rfl, pk_sub (by omega), show (2 : Int32) = nI 2 from rfl, pk_mul, nI_add]
set_option maxHeartbeats 400000 in
theorem g_index {G : xw_G} {F L : Nat} {h : xw_A} {a r cc : Nat} (hr1 : 1 ≤ r) (hF : 1 ≤ F) (hL : 20 ≤ L) :
    xw_Met G m_Standing_index F L 0 0 [.int (nI a), .int (nI r), .int (nI cc)] h (fun v h' => v = some (.int (nI ((a * 24 + r - 1) * 2 + cc))) ∧ h = h') (fun _ _ => False) := by
  refine xw_Met.of rfl (by decide) (Nat.le_of_ble_eq_true rfl) ?_
  refine s_Standing_index_0 ?_
  exact ⟨congrArg (fun z => some (Value.int z)) (ix576 hr1), rfl⟩
set_option maxHeartbeats 400000 in
theorem g_placesOf {G : xw_G} {F L : Nat} {h : xw_A} {qo : Nat} {so sp : Nat} {pf : Nat → Int32} (e_so : h so = some (.inr (7, [.ref sp, .ref qo]))) (e_sp : h sp = some (.inl (0, 576, .inl pf))) {a r cc : Nat} (ha : a < 12) (hr1 : 1 ≤ r) (hr2 : r ≤ 24) (hcc : cc < 2) (hF : 2 ≤ F) (hL : 42 ≤ L) :
    xw_Met G m_Standing_placesOf F L 0 0 [.ref so, .int (nI a), .int (nI r), .int (nI cc)] h (fun v h' => (∃ y : Int32, v = some (.int y)) ∧ h = h') (fun _ _ => False) := by
  refine xw_Met.of rfl (by decide) (Nat.le_of_ble_eq_true rfl) ?_
  refine s_Standing_placesOf_0 (places_a0 := some sp) (question_a0 := some qo) e_so ?_
  refine x_callS (As := [.int (nI a), .int (nI r), .int (nI cc)]) (rest := [.ref sp]) (F1 := 1) (L1 := 20) (mc := 0) (ms := 0) d_Standing_placesOf_7 cS_Standing_45 (g_index hr1 (by omega) (by omega)) ⟨by omega, by show 8 + (3 + 11) + 20 ≤ _; omega⟩ ⟨by omega, by omega⟩ (Nat.le_of_ble_eq_true rfl) (fun v_2 h_1 p_3 => ?_)
  obtain ⟨rfl, rfl⟩ := p_3
  refine x_le (xw_le_n (xw_le_n (xw_le_n (xw_le_n xw_le_e)))) ?_
  refine s_Standing_placesOf_10 e_sp (vp_in_nI (by omega) (by decide)) ?_
  exact ⟨⟨_, rfl⟩, rfl⟩
set_option maxHeartbeats 400000 in
theorem g_standsIn {G : xw_G} {F L : Nat} {h : xw_A} {qo : Nat} {so sp : Nat} {pf : Nat → Int32} (e_so : h so = some (.inr (7, [.ref sp, .ref qo]))) (e_sp : h sp = some (.inl (0, 576, .inl pf))) {a r : Nat} (ha : a < 12) (hr1 : 1 ≤ r) (hr2 : r ≤ 24) (hF : 3 ≤ F) (hL : 65 ≤ L) :
    xw_Met G m_Standing_standsIn F L 0 0 [.ref so, .int (nI a), .int (nI r)] h (fun v h' => (∃ y : Int32, v = some (.int y) ∧ (y = 0 ∨ y = 1)) ∧ h = h') (fun _ _ => False) := by
  refine xw_Met.of rfl (by decide) (Nat.le_of_ble_eq_true rfl) ?_
  refine s_Standing_standsIn_0 ?_
  refine x_callV (As := [.int (nI a), .int (nI r), .int (nI 0)]) (b := so) (rest := []) (F1 := 2) (L1 := 42) (mc := 0) (ms := 0) d_Standing_standsIn_4 cV_Standing_78 (g_placesOf e_so e_sp (by omega) (by omega) (by omega) (by omega) (by omega) (by omega)) e_so ⟨by decide, rfl⟩ ⟨by omega, by show 8 + (4 + 11) + 42 ≤ _; omega⟩ ⟨by omega, by omega⟩ (Nat.le_of_ble_eq_true rfl) (fun v_3 h_2 p_4 => ?_)
  obtain ⟨⟨y_1, rfl⟩, rfl⟩ := p_4
  refine s_Standing_standsIn_7 ?_
  refine x_callV (As := [.int (nI a), .int (nI r), .int (nI 1)]) (b := so) (rest := [.int y_1]) (F1 := 2) (L1 := 42) (mc := 0) (ms := 0) d_Standing_standsIn_11 cV_Standing_78 (g_placesOf e_so e_sp (by omega) (by omega) (by omega) (by omega) (by omega) (by omega)) e_so ⟨by decide, rfl⟩ ⟨by omega, by show 8 + (4 + 11) + 42 ≤ _; omega⟩ ⟨by omega, by omega⟩ (Nat.le_of_ble_eq_true rfl) (fun v_7 h_6 p_8 => ?_)
  obtain ⟨⟨y_5, rfl⟩, rfl⟩ := p_8
  refine x_le (xw_le_n (xw_le_n (xw_le_n xw_le_e))) ?_
  refine s_Standing_standsIn_14 (fun z_9 => ?_) (fun z_10 => ?_)
  · skip
    refine s_Standing_standsIn_22 ?_
    refine s_Standing_standsIn_23 rfl ?_
    exact ⟨⟨_, rfl, by simp⟩, rfl⟩
  · skip
    refine s_Standing_standsIn_18 ?_
    refine s_Standing_standsIn_23 rfl ?_
    exact ⟨⟨_, rfl, by simp⟩, rfl⟩
set_option maxHeartbeats 1000000 in
theorem lp_rowsWith {G : xw_G} {F L bc bs : Nat} {pr : Option Value → xw_A → Prop} {px : String → xw_A → Prop} {h : xw_A} {qo : Nat} {so sp : Nat} {pf : Nat → Int32} (e_so : h so = some (.inr (7, [.ref sp, .ref qo]))) (e_sp : h sp = some (.inl (0, 576, .inl pf))) {a : Nat} (ha : a < 12) (hF : 4 ≤ F) (hL : 87 ≤ L) (kk : ∀ c : Nat, c ≤ 24 → pr (some (.int (nI c))) h) :
    ∀ (dd i : Nat) (c : Nat), i + dd = 25 → c < i → xw G m_Standing_rowsWith F L bc bs pr px 4 [some (.ref so), some (.int (nI a)), some (.int (nI c)), some (.int (nI i))] [] h := by
  intro dd
  induction dd with
  | zero =>
    intro i c hi hp
    obtain rfl : i = 25 := by omega
    refine s_Standing_rowsWith_4 (fun z_1 => ?_) (fun z => absurd (by decide) z)
    refine s_Standing_rowsWith_28 ?_
    exact kk _ (by omega)
  | succ dd ih =>
    intro i c hi hp
    refine s_Standing_rowsWith_4 (fun z => absurd z (nI_nlt (a := 24) (show i ≤ 24 by omega) (by decide))) (fun z_1 => ?_)
    refine s_Standing_rowsWith_10 ?_
    refine x_callV (As := [.int (nI a), .int (nI i)]) (b := so) (rest := []) (F1 := 3) (L1 := 65) (mc := 0) (ms := 0) d_Standing_rowsWith_13 cV_Standing_81 (g_standsIn e_so e_sp ha (by omega) (by omega) (by omega) (by omega)) e_so ⟨by decide, rfl⟩ ⟨by omega, by show 8 + (3 + 11) + 65 ≤ _; omega⟩ ⟨by omega, by omega⟩ (Nat.le_of_ble_eq_true rfl) (fun v_5 h_4 p_6 => ?_)
    obtain ⟨⟨y_2, rfl, hy_3⟩, rfl⟩ := p_6
    refine s_Standing_rowsWith_16 (fun z_7 => ?_) (fun z_8 => ?_)
    · skip
      refine s_Standing_rowsWith_22 ?_
      simp only [nI_1]
      exact ih (i + 1) _ (by omega) (by omega)
    · skip
      refine s_Standing_rowsWith_19 ?_
      refine s_Standing_rowsWith_22 ?_
      simp only [nI_1]
      exact ih (i + 1) _ (by omega) (by omega)
set_option maxHeartbeats 400000 in
theorem g_rowsWith {G : xw_G} {F L : Nat} {h : xw_A} {qo : Nat} {so sp : Nat} {pf : Nat → Int32} (e_so : h so = some (.inr (7, [.ref sp, .ref qo]))) (e_sp : h sp = some (.inl (0, 576, .inl pf))) {a : Nat} (ha : a < 12) (hF : 4 ≤ F) (hL : 87 ≤ L) :
    xw_Met G m_Standing_rowsWith F L 0 0 [.ref so, .int (nI a)] h (fun v h' => (∃ c : Nat, v = some (.int (nI c)) ∧ c ≤ 24) ∧ h = h') (fun _ _ => False) := by
  refine xw_Met.of rfl (by decide) (Nat.le_of_ble_eq_true rfl) ?_
  refine s_Standing_rowsWith_0 ?_
  exact lp_rowsWith e_so e_sp ha (by omega) (by omega) (fun c hc => ⟨⟨c, rfl, hc⟩, rfl⟩) 24 1 0 rfl (by decide)
set_option maxHeartbeats 1000000 in
theorem lp_standsAt {G : xw_G} {F L bc bs : Nat} {pr : Option Value → xw_A → Prop} {px : String → xw_A → Prop} {h : xw_A} {qo tk tl tz ph nd po k1 k2 k3 d ln c : Nat} {fk fs fe fd : Nat → Int32} {fp fn : Nat → Option Nat} {p nn n t : Nat} {wp : Int32} {f g : Nat → Int32} (K : QuC qo tk tl tz ph nd po k1 k2 k3 d ln c fk fs fe fd fp fn p nn n t wp f g h) {so sp : Nat} {pf : Nat → Int32} (e_so : h so = some (.inr (7, [.ref sp, .ref qo]))) (e_sp : h sp = some (.inl (0, 576, .inl pf))) {a u v : Nat} {b : Int32} (e_a : h a = some (.inr (4, [.int (nI u), .int (nI v), .int b]))) (huv : u + v ≤ n) {x xl xz m2 k2 n2 : Nat} {f2 g2 : Nat → Int32} (X : TokC x xl xz m2 k2 n2 f2 g2 h) {pl : Nat} (hpl : pl + v ≤ n2) (hF : 3 ≤ F) (hL : 68 ≤ L) (kk : ∀ y : Int32, (y = 0 ∨ y = 1) → pr (some (.int y)) h) :
    ∀ (dd i : Nat) , i + dd = v → xw G m_Standing_standsAt F L bc bs pr px 3 [some (.ref so), some (.ref a), some (.ref x), some (.int (nI pl)), some (.int (nI i)), none] [] h := by
  obtain ⟨e_qo, T, e_ph, e_nd, P, hp, hnn, ht, Fp, Nd⟩ := id K
  obtain ⟨e_po, e_d, e_k1, e_k2, e_k3, hln, PF⟩ := id P
  have e_tk := T.1
  have hc := PF.1
  have e_x := X.1
  have hn49 : n < 49 := T.2.2.2.1
  have hn50 : n2 < 49 := by have h1 := X.2.2.2.1; have h2 := X.2.2.2.2.2.1; omega
  intro dd
  induction dd with
  | zero =>
    intro i  hi
    obtain rfl : i = v := by omega
    refine s_Standing_standsAt_3 e_a (fun z_1 => ?_) (fun z => absurd (nI_le (Nat.le_refl _) (by omega)) z)
    refine s_Standing_standsAt_72 ?_
    exact kk _ (by simp)
  | succ dd ih =>
    intro i  hi
    refine s_Standing_standsAt_3 e_a (fun z => absurd z (nI_ge (b := v) (show i < v by omega) (by omega))) (fun z_1 => ?_)
    refine s_Standing_standsAt_12 e_a (fun z_2 => ?_) (fun z_3 => ?_)
    · skip
      refine s_Standing_standsAt_34 ?_
      refine s_Standing_standsAt_35 (places_a0 := some sp) (tokens_question_a0 := some tk) (phrases_question_a0 := some ph) (nodes_question_a0 := some nd) (parts_question_a0 := some po) (letters_question_a0 := some d) e_so e_qo e_a ?_
      rw [nI_add, nI_add]
      refine x_callV (As := [.int (nI (u + i)), .ref x, .int (nI (pl + i)), .int 0]) (b := tk) (rest := []) (F1 := 2) (L1 := 41) (mc := 0) (ms := 0) d_Standing_standsAt_58 cV_Standing_74 (g_fits T X (by omega) (by omega) (by omega) (by omega)) e_tk ⟨by decide, rfl⟩ ⟨by omega, by show 8 + (8 + 11) + 41 ≤ _; omega⟩ ⟨by omega, by omega⟩ (Nat.le_of_ble_eq_true rfl) (fun v_7 h_6 p_8 => ?_)
      obtain ⟨⟨c_4, rfl, hc_5, -⟩, rfl⟩ := p_8
      refine x_le (xw_le_s (xw_le_s (xw_le_s (xw_le_s (xw_le_s (xw_le_n xw_le_e)))))) ?_
      refine s_Standing_standsAt_61 (fun z_9 => ?_) (fun z_10 => ?_)
      · skip
        refine s_Standing_standsAt_66 ?_
        rw [nI_1]
        exact ih (i + 1) (by omega)
      · skip
        refine s_Standing_standsAt_64 ?_
        exact kk _ (by simp)
    · skip
      refine s_Standing_standsAt_19 e_a (fun z_11 => ?_) (fun z_12 => ?_)
      · skip
        refine s_Standing_standsAt_34 ?_
        refine s_Standing_standsAt_35 (places_a0 := some sp) (tokens_question_a0 := some tk) (phrases_question_a0 := some ph) (nodes_question_a0 := some nd) (parts_question_a0 := some po) (letters_question_a0 := some d) e_so e_qo e_a ?_
        rw [nI_add, nI_add]
        refine x_callV (As := [.int (nI (u + i)), .ref x, .int (nI (pl + i)), .int 0]) (b := tk) (rest := []) (F1 := 2) (L1 := 41) (mc := 0) (ms := 0) d_Standing_standsAt_58 cV_Standing_74 (g_fits T X (by omega) (by omega) (by omega) (by omega)) e_tk ⟨by decide, rfl⟩ ⟨by omega, by show 8 + (8 + 11) + 41 ≤ _; omega⟩ ⟨by omega, by omega⟩ (Nat.le_of_ble_eq_true rfl) (fun v_16 h_15 p_17 => ?_)
        obtain ⟨⟨c_13, rfl, hc_14, -⟩, rfl⟩ := p_17
        refine x_le (xw_le_s (xw_le_s (xw_le_s (xw_le_s (xw_le_s (xw_le_n xw_le_e)))))) ?_
        refine s_Standing_standsAt_61 (fun z_18 => ?_) (fun z_19 => ?_)
        · skip
          refine s_Standing_standsAt_66 ?_
          rw [nI_1]
          exact ih (i + 1) (by omega)
        · skip
          refine s_Standing_standsAt_64 ?_
          exact kk _ (by simp)
      · skip
        refine s_Standing_standsAt_30 ?_
        refine s_Standing_standsAt_35 (places_a0 := some sp) (tokens_question_a0 := some tk) (phrases_question_a0 := some ph) (nodes_question_a0 := some nd) (parts_question_a0 := some po) (letters_question_a0 := some d) e_so e_qo e_a ?_
        rw [nI_add, nI_add]
        refine x_callV (As := [.int (nI (u + i)), .ref x, .int (nI (pl + i)), .int 1]) (b := tk) (rest := []) (F1 := 2) (L1 := 41) (mc := 0) (ms := 0) d_Standing_standsAt_58 cV_Standing_74 (g_fits T X (by omega) (by omega) (by omega) (by omega)) e_tk ⟨by decide, rfl⟩ ⟨by omega, by show 8 + (8 + 11) + 41 ≤ _; omega⟩ ⟨by omega, by omega⟩ (Nat.le_of_ble_eq_true rfl) (fun v_23 h_22 p_24 => ?_)
        obtain ⟨⟨c_20, rfl, hc_21, -⟩, rfl⟩ := p_24
        refine x_le (xw_le_s (xw_le_s (xw_le_s (xw_le_s (xw_le_s (xw_le_n xw_le_e)))))) ?_
        refine s_Standing_standsAt_61 (fun z_25 => ?_) (fun z_26 => ?_)
        · skip
          refine s_Standing_standsAt_66 ?_
          rw [nI_1]
          exact ih (i + 1) (by omega)
        · skip
          refine s_Standing_standsAt_64 ?_
          exact kk _ (by simp)
set_option maxHeartbeats 400000 in
theorem g_standsAt {G : xw_G} {F L : Nat} {h : xw_A} {qo tk tl tz ph nd po k1 k2 k3 d ln c : Nat} {fk fs fe fd : Nat → Int32} {fp fn : Nat → Option Nat} {p nn n t : Nat} {wp : Int32} {f g : Nat → Int32} (K : QuC qo tk tl tz ph nd po k1 k2 k3 d ln c fk fs fe fd fp fn p nn n t wp f g h) {so sp : Nat} {pf : Nat → Int32} (e_so : h so = some (.inr (7, [.ref sp, .ref qo]))) (e_sp : h sp = some (.inl (0, 576, .inl pf))) {a u v : Nat} {b : Int32} (e_a : h a = some (.inr (4, [.int (nI u), .int (nI v), .int b]))) (huv : u + v ≤ n) {x xl xz m2 k2 n2 : Nat} {f2 g2 : Nat → Int32} (X : TokC x xl xz m2 k2 n2 f2 g2 h) {pl : Nat} (hpl : pl + v ≤ n2) (hF : 3 ≤ F) (hL : 68 ≤ L) :
    xw_Met G m_Standing_standsAt F L 0 0 [.ref so, .ref a, .ref x, .int (nI pl)] h (fun v h' => (∃ y : Int32, v = some (.int y) ∧ (y = 0 ∨ y = 1)) ∧ h = h') (fun _ _ => False) := by
  refine xw_Met.of rfl (by decide) (Nat.le_of_ble_eq_true rfl) ?_
  refine s_Standing_standsAt_0 ?_
  exact lp_standsAt K e_so e_sp e_a huv X hpl (by omega) (by omega) (fun y hy => ⟨⟨y, rfl, hy⟩, rfl⟩) v 0 (Nat.zero_add _)
set_option maxHeartbeats 1000000 in
theorem lp_placesIn {G : xw_G} {F L bc bs : Nat} {pr : Option Value → xw_A → Prop} {px : String → xw_A → Prop} {h : xw_A} {qo tk tl tz ph nd po k1 k2 k3 d ln c : Nat} {fk fs fe fd : Nat → Int32} {fp fn : Nat → Option Nat} {p nn n t : Nat} {wp : Int32} {f g : Nat → Int32} (K : QuC qo tk tl tz ph nd po k1 k2 k3 d ln c fk fs fe fd fp fn p nn n t wp f g h) {so sp : Nat} {pf : Nat → Int32} (e_so : h so = some (.inr (7, [.ref sp, .ref qo]))) (e_sp : h sp = some (.inl (0, 576, .inl pf))) {a u v : Nat} {b : Int32} (e_a : h a = some (.inr (4, [.int (nI u), .int (nI v), .int b]))) (huv : u + v ≤ n) {x xl xz m2 k2 n2 : Nat} {f2 g2 : Nat → Int32} (X : TokC x xl xz m2 k2 n2 f2 g2 h) (hF : 4 ≤ F) (hL : 93 ≤ L) (kk : ∀ r : Int32, pr (some (.int r)) h) :
    ∀ (dd i : Nat) (r : Int32), i + dd = (n2 + 1) → xw G m_Standing_placesIn F L bc bs pr px 12 [some (.ref so), some (.ref a), some (.ref x), some (.int r), some (.int (nI i))] [] h := by
  obtain ⟨e_qo, T, e_ph, e_nd, P, hp, hnn, ht, Fp, Nd⟩ := id K
  obtain ⟨e_po, e_d, e_k1, e_k2, e_k3, hln, PF⟩ := id P
  have e_tk := T.1
  have hc := PF.1
  have e_x := X.1
  have hn49 : n < 49 := T.2.2.2.1
  have hn50 : n2 < 49 := by have h1 := X.2.2.2.1; have h2 := X.2.2.2.2.2.1; omega
  intro dd
  induction dd with
  | zero =>
    intro i r hi
    obtain rfl : i = (n2 + 1) := by omega
    refine s_Standing_placesIn_12 (letters_a2 := some xl) (starts_a2 := some xz) e_a e_x (fun z_1 => ?_) (fun z => absurd (by rw [nI_add]; exact nI_lt (by omega) (by omega)) z)
    refine s_Standing_placesIn_50 ?_
    exact kk _
  | succ dd ih =>
    intro i r hi
    refine s_Standing_placesIn_12 (letters_a2 := some xl) (starts_a2 := some xz) e_a e_x (fun z_1 => ?_) (fun z_2 => ?_)
    · skip
      refine s_Standing_placesIn_50 ?_
      exact kk _
    · skip
      refine s_Standing_placesIn_26 ?_
      have hpl : i + v ≤ n2 := Nat.le_of_not_lt (fun q => z_2 (by rw [nI_add]; exact nI_lt q (by omega)))
      refine x_callV (As := [.ref a, .ref x, .int (nI i)]) (b := so) (rest := []) (F1 := 3) (L1 := 68) (mc := 0) (ms := 0) d_Standing_placesIn_31 cV_Standing_59 (g_standsAt K e_so e_sp e_a huv X hpl (by omega) (by omega)) e_so ⟨by decide, rfl⟩ ⟨by omega, by show 8 + (6 + 11) + 68 ≤ _; omega⟩ ⟨by omega, by omega⟩ (Nat.le_of_ble_eq_true rfl) (fun v_6 h_5 p_7 => ?_)
      obtain ⟨⟨y_3, rfl, hy_4⟩, rfl⟩ := p_7
      refine s_Standing_placesIn_34 (fun z_8 => ?_) (fun z_9 => ?_)
      · skip
        refine s_Standing_placesIn_44 ?_
        rw [nI_1]
        exact ih (i + 1) _ (by omega)
      · skip
        refine s_Standing_placesIn_37 ?_
        refine s_Standing_placesIn_44 ?_
        rw [nI_1]
        exact ih (i + 1) _ (by omega)
set_option maxHeartbeats 400000 in
theorem g_placesIn {G : xw_G} {F L : Nat} {h : xw_A} {qo tk tl tz ph nd po k1 k2 k3 d ln c : Nat} {fk fs fe fd : Nat → Int32} {fp fn : Nat → Option Nat} {p nn n t : Nat} {wp : Int32} {f g : Nat → Int32} (K : QuC qo tk tl tz ph nd po k1 k2 k3 d ln c fk fs fe fd fp fn p nn n t wp f g h) {so sp : Nat} {pf : Nat → Int32} (e_so : h so = some (.inr (7, [.ref sp, .ref qo]))) (e_sp : h sp = some (.inl (0, 576, .inl pf))) {a u v : Nat} {b : Int32} (e_a : h a = some (.inr (4, [.int (nI u), .int (nI v), .int b]))) (huv : u + v ≤ n) {x xl xz m2 k2 n2 : Nat} {f2 g2 : Nat → Int32} (X : TokC x xl xz m2 k2 n2 f2 g2 h) (hF : 4 ≤ F) (hL : 93 ≤ L) :
    xw_Met G m_Standing_placesIn F L 0 0 [.ref so, .ref a, .ref x] h (fun v h' => (∃ y : Int32, v = some (.int y)) ∧ h = h') (fun _ _ => False) := by
  refine xw_Met.of rfl (by decide) (Nat.le_of_ble_eq_true rfl) ?_
  have e_x := X.1
  refine s_Standing_placesIn_0 e_a (fun z_1 => ?_) (fun z_2 => ?_)
  · skip
    refine s_Standing_placesIn_50 ?_
    exact ⟨⟨_, rfl⟩, rfl⟩
  · skip
    refine s_Standing_placesIn_9 ?_
    exact lp_placesIn K e_so e_sp e_a huv X (by omega) (by omega) (fun r => ⟨⟨r, rfl⟩, rfl⟩) _ 0 0 (Nat.zero_add _)
set_option maxHeartbeats 1000000 in
theorem lp_allReach {G : xw_G} {F L bc bs : Nat} {pr : Option Value → xw_A → Prop} {px : String → xw_A → Prop} {h : xw_A} {qo tk tl tz ph nd po k1 k2 k3 d ln c : Nat} {fk fs fe fd : Nat → Int32} {fp fn : Nat → Option Nat} {p nn n t : Nat} {wp : Int32} {f g : Nat → Int32} (K : QuC qo tk tl tz ph nd po k1 k2 k3 d ln c fk fs fe fd fp fn p nn n t wp f g h) {so sp : Nat} {pf : Nat → Int32} (e_so : h so = some (.inr (7, [.ref sp, .ref qo]))) (e_sp : h sp = some (.inl (0, 576, .inl pf))) {nq u v : Nat} {nl nr : Option Nat} {z0 z1 z2 z3 z4 : Int32} (e_nq : h nq = some (.inr (2, [.int z0, va_rf nl, va_rf nr, .int (nI u), .int (nI v), .int z1, .int z2, .int z3, .int z4]))) (huv : u ≤ v) (hvp : v ≤ p) {r cc : Nat} (hr1 : 1 ≤ r) (hr2 : r ≤ 24) (hcc : cc < 2) {ee : Int32} (hF : 3 ≤ F) (hL : 65 ≤ L) (kk : ∀ y : Int32, (y = 0 ∨ y = 1) → pr (some (.int y)) h) :
    ∀ (dd i : Nat) , i + dd = v → u ≤ i → xw G m_Standing_allReach F L bc bs pr px 6 [some (.ref so), some (.ref nq), some (.int (nI r)), some (.int (nI cc)), some (.int ee), some (.int (nI i)), none, none, none] [] h := by
  obtain ⟨e_qo, T, e_ph, e_nd, P, hp, hnn, ht, Fp, Nd⟩ := id K
  obtain ⟨e_po, e_d, e_k1, e_k2, e_k3, hln, PF⟩ := id P
  have e_tk := T.1
  have hc := PF.1
  intro dd
  induction dd with
  | zero =>
    intro i  hi hp
    obtain rfl : i = v := by omega
    refine s_Standing_allReach_6 (left_a1 := nl) (right_a1 := nr) e_nq (fun z_1 => ?_) (fun z => absurd (nI_le (Nat.le_refl _) (by omega)) z)
    refine s_Standing_allReach_86 ?_
    exact kk _ (by simp)
  | succ dd ih =>
    intro i  hi hp
    refine s_Standing_allReach_6 (left_a1 := nl) (right_a1 := nr) e_nq (fun z => absurd z (nI_ge (b := v) (show i < v by omega) (by omega))) (fun z_1 => ?_)
    obtain ⟨pa, px1, py1, pb1, ea1, ea2, -⟩ := Fp i (by omega)
    refine s_Standing_allReach_15 (g27 := pa) (places_a0 := some sp) (tokens_question_a0 := some tk) (nodes_question_a0 := some nd) (parts_question_a0 := some po) (letters_question_a0 := some d) e_so e_qo e_ph (vp_in_nI (by omega) (by omega)) (by rw [nI_clamp (by omega)]; exact ea1) ea2 ?_
    refine x_mmax d_Standing_allReach_32 cM_Standing_138 (by omega) (by show 0 + 13 ≤ _; omega) (fun z_2 hz_3 => ?_)
    refine s_Standing_allReach_35 (left_a1 := nl) (right_a1 := nr) e_nq ?_
    refine x_mmin d_Standing_allReach_46 cM_Standing_147 (by omega) (by show 0 + 13 ≤ _; omega) (fun z_4 hz_5 => ?_)
    refine s_Standing_allReach_49 ?_
    refine x_callV (As := [.int (nI i), .int (nI r), .int (nI cc)]) (b := so) (rest := []) (F1 := 2) (L1 := 42) (mc := 0) (ms := 0) d_Standing_allReach_69 cV_Standing_78 (g_placesOf e_so e_sp (by omega) (by omega) (by omega) (by omega) (by omega) (by omega)) e_so ⟨by decide, rfl⟩ ⟨by omega, by show 8 + (4 + 11) + 42 ≤ _; omega⟩ ⟨by omega, by omega⟩ (Nat.le_of_ble_eq_true rfl) (fun v_8 h_7 p_9 => ?_)
    obtain ⟨⟨y_6, rfl⟩, rfl⟩ := p_9
    refine x_le (xw_le_s (xw_le_s (xw_le_s (xw_le_s (xw_le_s (xw_le_s (xw_le_n (xw_le_n (xw_le_s xw_le_e))))))))) ?_
    refine s_Standing_allReach_72 (fun z_10 => ?_) (fun z_11 => ?_)
    · skip
      refine s_Standing_allReach_80 ?_
      simp only [nI_1]
      exact ih (i + 1) (by omega) (by omega)
    · skip
      refine s_Standing_allReach_78 ?_
      exact kk _ (by simp)
set_option maxHeartbeats 400000 in
theorem g_allReach {G : xw_G} {F L : Nat} {h : xw_A} {qo tk tl tz ph nd po k1 k2 k3 d ln c : Nat} {fk fs fe fd : Nat → Int32} {fp fn : Nat → Option Nat} {p nn n t : Nat} {wp : Int32} {f g : Nat → Int32} (K : QuC qo tk tl tz ph nd po k1 k2 k3 d ln c fk fs fe fd fp fn p nn n t wp f g h) {so sp : Nat} {pf : Nat → Int32} (e_so : h so = some (.inr (7, [.ref sp, .ref qo]))) (e_sp : h sp = some (.inl (0, 576, .inl pf))) {nq u v : Nat} {nl nr : Option Nat} {z0 z1 z2 z3 z4 : Int32} (e_nq : h nq = some (.inr (2, [.int z0, va_rf nl, va_rf nr, .int (nI u), .int (nI v), .int z1, .int z2, .int z3, .int z4]))) (huv : u ≤ v) (hvp : v ≤ p) {r cc : Nat} (hr1 : 1 ≤ r) (hr2 : r ≤ 24) (hcc : cc < 2) {ee : Int32} (hF : 3 ≤ F) (hL : 65 ≤ L) :
    xw_Met G m_Standing_allReach F L 0 0 [.ref so, .ref nq, .int (nI r), .int (nI cc), .int ee] h (fun v h' => (∃ y : Int32, v = some (.int y) ∧ (y = 0 ∨ y = 1)) ∧ h = h') (fun _ _ => False) := by
  refine xw_Met.of rfl (by decide) (Nat.le_of_ble_eq_true rfl) ?_
  refine s_Standing_allReach_0 (left_a1 := nl) (right_a1 := nr) e_nq ?_
  exact lp_allReach K e_so e_sp e_nq huv hvp hr1 hr2 hcc (by omega) (by omega) (fun y hy => ⟨⟨y, rfl, hy⟩, rfl⟩) (v - u) u (by omega) (Nat.le_refl _)
set_option maxHeartbeats 1000000 in
theorem lp_areNear {G : xw_G} {F L bc bs : Nat} {pr : Option Value → xw_A → Prop} {px : String → xw_A → Prop} {h : xw_A} {qo tk tl tz ph nd po k1 k2 k3 d ln c : Nat} {fk fs fe fd : Nat → Int32} {fp fn : Nat → Option Nat} {p nn n t : Nat} {wp : Int32} {f g : Nat → Int32} (K : QuC qo tk tl tz ph nd po k1 k2 k3 d ln c fk fs fe fd fp fn p nn n t wp f g h) {so sp : Nat} {pf : Nat → Int32} (e_so : h so = some (.inr (7, [.ref sp, .ref qo]))) (e_sp : h sp = some (.inl (0, 576, .inl pf))) {nq u v : Nat} {nl nr : Option Nat} {z0 z1 z2 z3 z4 : Int32} (e_nq : h nq = some (.inr (2, [.int z0, va_rf nl, va_rf nr, .int (nI u), .int (nI v), .int z1, .int z2, .int z3, .int z4]))) (huv : u ≤ v) (hvp : v ≤ p) {r cc : Nat} (hr1 : 1 ≤ r) (hr2 : r ≤ 24) (hcc : cc < 2) (hF : 4 ≤ F) (hL : 93 ≤ L) (kk : ∀ y : Int32, (y = 0 ∨ y = 1) → pr (some (.int y)) h) :
    ∀ (dd i : Nat) , i + dd = 25 → xw G m_Standing_areNear F L bc bs pr px 3 [some (.ref so), some (.ref nq), some (.int (nI r)), some (.int (nI cc)), some (.int (nI i))] [] h := by
  intro dd
  induction dd with
  | zero =>
    intro i  hi
    obtain rfl : i = 25 := by omega
    refine s_Standing_areNear_3 (fun z_1 => ?_) (fun z => absurd (by decide) z)
    refine s_Standing_areNear_30 ?_
    exact kk _ (by simp)
  | succ dd ih =>
    intro i  hi
    refine s_Standing_areNear_3 (fun z => absurd z (nI_nlt (a := 24) (show i ≤ 24 by omega) (by decide))) (fun z_1 => ?_)
    refine s_Standing_areNear_10 ?_
    refine x_callV (As := [.ref nq, .int (nI r), .int (nI cc), .int (nI i)]) (b := so) (rest := []) (F1 := 3) (L1 := 65) (mc := 0) (ms := 0) d_Standing_areNear_16 cV_Standing_134 (g_allReach K e_so e_sp e_nq huv hvp hr1 hr2 hcc (by omega) (by omega)) e_so ⟨by decide, rfl⟩ ⟨by omega, by show 8 + (9 + 11) + 65 ≤ _; omega⟩ ⟨by omega, by omega⟩ (Nat.le_of_ble_eq_true rfl) (fun v_5 h_4 p_6 => ?_)
    obtain ⟨⟨y_2, rfl, hy_3⟩, rfl⟩ := p_6
    refine s_Standing_areNear_19 (fun z_7 => ?_) (fun z_8 => ?_)
    · skip
      refine s_Standing_areNear_24 ?_
      rw [nI_1]
      exact ih (i + 1) (by omega)
    · skip
      refine s_Standing_areNear_22 ?_
      exact kk _ (by simp)
set_option maxHeartbeats 400000 in
theorem g_areNear {G : xw_G} {F L : Nat} {h : xw_A} {qo tk tl tz ph nd po k1 k2 k3 d ln c : Nat} {fk fs fe fd : Nat → Int32} {fp fn : Nat → Option Nat} {p nn n t : Nat} {wp : Int32} {f g : Nat → Int32} (K : QuC qo tk tl tz ph nd po k1 k2 k3 d ln c fk fs fe fd fp fn p nn n t wp f g h) {so sp : Nat} {pf : Nat → Int32} (e_so : h so = some (.inr (7, [.ref sp, .ref qo]))) (e_sp : h sp = some (.inl (0, 576, .inl pf))) {nq u v : Nat} {nl nr : Option Nat} {z0 z1 z2 z3 z4 : Int32} (e_nq : h nq = some (.inr (2, [.int z0, va_rf nl, va_rf nr, .int (nI u), .int (nI v), .int z1, .int z2, .int z3, .int z4]))) (huv : u ≤ v) (hvp : v ≤ p) {r cc : Nat} (hr1 : 1 ≤ r) (hr2 : r ≤ 24) (hcc : cc < 2) (hF : 4 ≤ F) (hL : 93 ≤ L) :
    xw_Met G m_Standing_areNear F L 0 0 [.ref so, .ref nq, .int (nI r), .int (nI cc)] h (fun v h' => (∃ y : Int32, v = some (.int y) ∧ (y = 0 ∨ y = 1)) ∧ h = h') (fun _ _ => False) := by
  refine xw_Met.of rfl (by decide) (Nat.le_of_ble_eq_true rfl) ?_
  refine s_Standing_areNear_0 ?_
  exact lp_areNear K e_so e_sp e_nq huv hvp hr1 hr2 hcc (by omega) (by omega) (fun y hy => ⟨⟨y, rfl, hy⟩, rfl⟩) 24 1 rfl
set_option maxHeartbeats 1000000 in
theorem lp_holds {G : xw_G} {F L bc bs : Nat} {pr : Option Value → xw_A → Prop} {px : String → xw_A → Prop} {h : xw_A} {qo tk tl tz ph nd po k1 k2 k3 d ln c : Nat} {fk fs fe fd : Nat → Int32} {fp fn : Nat → Option Nat} {p nn n t : Nat} {wp : Int32} {f g : Nat → Int32} (K : QuC qo tk tl tz ph nd po k1 k2 k3 d ln c fk fs fe fd fp fn p nn n t wp f g h) {so sp : Nat} {pf : Nat → Int32} (e_so : h so = some (.inr (7, [.ref sp, .ref qo]))) (e_sp : h sp = some (.inl (0, 576, .inl pf))) {nq u v : Nat} {nl nr : Option Nat} {z0 z1 z2 z3 z4 : Int32} (e_nq : h nq = some (.inr (2, [.int z0, va_rf nl, va_rf nr, .int (nI u), .int (nI v), .int z1, .int z2, .int z3, .int z4]))) (huv : u ≤ v) (hvp : v ≤ p) {r cc : Nat} (hr1 : 1 ≤ r) (hr2 : r ≤ 24) (hcc : cc < 2) (kk0 : pr (some (.int 0)) h) (hF : 3 ≤ F) (hL : 65 ≤ L) (kk : xw G m_Standing_holds F L bc bs pr px 39 [some (.ref so), some (.ref nq), some (.int (nI r)), some (.int (nI cc)), none] [] h) :
    ∀ (dd i : Nat) , i + dd = v → u ≤ i → xw G m_Standing_holds F L bc bs pr px 6 [some (.ref so), some (.ref nq), some (.int (nI r)), some (.int (nI cc)), some (.int (nI i))] [] h := by
  obtain ⟨e_qo, T, e_ph, e_nd, P, hp, hnn, ht, Fp, Nd⟩ := id K
  obtain ⟨e_po, e_d, e_k1, e_k2, e_k3, hln, PF⟩ := id P
  have e_tk := T.1
  have hc := PF.1
  intro dd
  induction dd with
  | zero =>
    intro i  hi hp
    obtain rfl : i = v := by omega
    refine s_Standing_holds_6 (left_a1 := nl) (right_a1 := nr) e_nq (fun z_1 => ?_) (fun z => absurd (nI_le (Nat.le_refl _) (by omega)) z)
    exact kk
  | succ dd ih =>
    intro i  hi hp
    refine s_Standing_holds_6 (left_a1 := nl) (right_a1 := nr) e_nq (fun z => absurd z (nI_ge (b := v) (show i < v by omega) (by omega))) (fun z_1 => ?_)
    refine s_Standing_holds_15 ?_
    refine x_callV (As := [.int (nI i), .int (nI r), .int (nI cc)]) (b := so) (rest := []) (F1 := 2) (L1 := 42) (mc := 0) (ms := 0) d_Standing_holds_20 cV_Standing_78 (g_placesOf e_so e_sp (by omega) (by omega) (by omega) (by omega) (by omega) (by omega)) e_so ⟨by decide, rfl⟩ ⟨by omega, by show 8 + (4 + 11) + 42 ≤ _; omega⟩ ⟨by omega, by omega⟩ (Nat.le_of_ble_eq_true rfl) (fun v_4 h_3 p_5 => ?_)
    obtain ⟨⟨y_2, rfl⟩, rfl⟩ := p_5
    refine s_Standing_holds_23 (left_a1 := nl) (right_a1 := nr) e_nq (fun z_6 => ?_) (fun z_7 => ?_)
    · skip
      refine s_Standing_holds_33 ?_
      simp only [nI_1]
      exact ih (i + 1) (by omega) (by omega)
    · skip
      refine s_Standing_holds_31 ?_
      exact kk0
set_option maxHeartbeats 400000 in
theorem g_holds {G : xw_G} {F L : Nat} {h : xw_A} {qo tk tl tz ph nd po k1 k2 k3 d ln c : Nat} {fk fs fe fd : Nat → Int32} {fp fn : Nat → Option Nat} {p nn n t : Nat} {wp : Int32} {f g : Nat → Int32} (K : QuC qo tk tl tz ph nd po k1 k2 k3 d ln c fk fs fe fd fp fn p nn n t wp f g h) {so sp : Nat} {pf : Nat → Int32} (e_so : h so = some (.inr (7, [.ref sp, .ref qo]))) (e_sp : h sp = some (.inl (0, 576, .inl pf))) {nq u v : Nat} {nl nr : Option Nat} {z0 z1 z2 z3 z4 : Int32} (e_nq : h nq = some (.inr (2, [.int z0, va_rf nl, va_rf nr, .int (nI u), .int (nI v), .int z1, .int z2, .int z3, .int z4]))) (huv : u ≤ v) (hvp : v ≤ p) {r cc : Nat} (hr1 : 1 ≤ r) (hr2 : r ≤ 24) (hcc : cc < 2) (hF : 5 ≤ F) (hL : 117 ≤ L) :
    xw_Met G m_Standing_holds F L 0 0 [.ref so, .ref nq, .int (nI r), .int (nI cc)] h (fun v h' => (∃ y : Int32, v = some (.int y) ∧ (y = 0 ∨ y = 1)) ∧ h = h') (fun _ _ => False) := by
  refine xw_Met.of rfl (by decide) (Nat.le_of_ble_eq_true rfl) ?_
  refine s_Standing_holds_0 (left_a1 := nl) (right_a1 := nr) e_nq ?_
  refine lp_holds K e_so e_sp e_nq huv hvp hr1 hr2 hcc ⟨⟨0, rfl, Or.inl rfl⟩, rfl⟩ (by omega) (by omega) ?_ (v - u) u (by omega) (Nat.le_refl _)
  refine s_Standing_holds_39 (left_a1 := nl) (right_a1 := nr) e_nq (fun z_1 => ?_) (fun z_2 => ?_)
  · skip
    refine s_Standing_holds_62 ?_
    refine s_Standing_holds_67 rfl ?_
    exact ⟨⟨_, rfl, by simp⟩, rfl⟩
  · skip
    refine s_Standing_holds_52 ?_
    refine x_callV (As := [.ref nq, .int (nI r), .int (nI cc)]) (b := so) (rest := []) (F1 := 4) (L1 := 93) (mc := 0) (ms := 0) d_Standing_holds_56 cV_Standing_131 (g_areNear K e_so e_sp e_nq huv hvp hr1 hr2 hcc (by omega) (by omega)) e_so ⟨by decide, rfl⟩ ⟨by omega, by show 8 + (5 + 11) + 93 ≤ _; omega⟩ ⟨by omega, by omega⟩ (Nat.le_of_ble_eq_true rfl) (fun v_6 h_5 p_7 => ?_)
    obtain ⟨⟨y_3, rfl, hy_4⟩, rfl⟩ := p_7
    refine x_le (xw_le_n (xw_le_n (xw_le_n (xw_le_n (xw_le_n xw_le_e))))) ?_
    refine s_Standing_holds_59 (fun z_8 => ?_) (fun z_9 => ?_)
    · skip
      refine s_Standing_holds_66 ?_
      refine s_Standing_holds_67 rfl ?_
      exact ⟨⟨_, rfl, by simp⟩, rfl⟩
    · skip
      refine s_Standing_holds_62 ?_
      refine s_Standing_holds_67 rfl ?_
      exact ⟨⟨_, rfl, by simp⟩, rfl⟩
set_option maxHeartbeats 1000000 in
theorem lp_rowsG1 {G : xw_G} {F L bc bs : Nat} {pr : Option Value → xw_A → Prop} {px : String → xw_A → Prop} {h : xw_A} {qo tk tl tz ph nd po k1 k2 k3 d ln c : Nat} {fk fs fe fd : Nat → Int32} {fp fn : Nat → Option Nat} {p nn n t : Nat} {wp : Int32} {f g : Nat → Int32} (K : QuC qo tk tl tz ph nd po k1 k2 k3 d ln c fk fs fe fd fp fn p nn n t wp f g h) {so sp : Nat} {pf : Nat → Int32} (e_so : h so = some (.inr (7, [.ref sp, .ref qo]))) (e_sp : h sp = some (.inl (0, 576, .inl pf))) {nq u v : Nat} {nl nr : Option Nat} {z0 z1 z2 z3 z4 : Int32} (e_nq : h nq = some (.inr (2, [.int z0, va_rf nl, va_rf nr, .int (nI u), .int (nI v), .int z1, .int z2, .int z3, .int z4]))) (huv : u ≤ v) (hvp : v ≤ p) {r : Nat} (hr1 : 1 ≤ r) (hr2 : r ≤ 24) (hF : 6 ≤ F) (hL : 141 ≤ L) (kk : ∀ s : Int32, xw G m_Standing_rowsOfGroup F L bc bs pr px 55 [some (.ref so), some (.ref nq), some (.int s), some (.int (nI r)), none] [] h) :
    ∀ (dd i : Nat) (s : Int32), i + dd = 2 → xw G m_Standing_rowsOfGroup F L bc bs pr px 13 [some (.ref so), some (.ref nq), some (.int s), some (.int (nI r)), some (.int (nI i))] [] h := by
  intro dd
  induction dd with
  | zero =>
    intro i s hi
    obtain rfl : i = 2 := by omega
    refine s_Standing_rowsOfGroup_13 (fun z_1 => ?_) (fun z => absurd z (by decide))
    exact kk _
  | succ dd ih =>
    intro i s hi
    refine s_Standing_rowsOfGroup_13 (fun z => absurd z (nI_ge (b := 2) (show i < 2 by omega) (by decide))) (fun z_1 => ?_)
    refine s_Standing_rowsOfGroup_19 (left_a1 := nl) (right_a1 := nr) e_nq (fun z_2 => ?_) (fun z_3 => ?_)
    · skip
      refine s_Standing_rowsOfGroup_49 ?_
      rw [nI_1]
      exact ih (i + 1) _ (by omega)
    · skip
      refine s_Standing_rowsOfGroup_32 ?_
      refine x_callV (As := [.ref nq, .int (nI r), .int (nI i)]) (b := so) (rest := []) (F1 := 5) (L1 := 117) (mc := 0) (ms := 0) d_Standing_rowsOfGroup_37 cV_Standing_119 (g_holds K e_so e_sp e_nq huv hvp (show 1 ≤ r by omega) (by omega) (show i < 2 by omega) (by omega) (by omega)) e_so ⟨by decide, rfl⟩ ⟨by omega, by show 8 + (5 + 11) + 117 ≤ _; omega⟩ ⟨by omega, by omega⟩ (Nat.le_of_ble_eq_true rfl) (fun v_7 h_6 p_8 => ?_)
      obtain ⟨⟨y_4, rfl, hy_5⟩, rfl⟩ := p_8
      refine s_Standing_rowsOfGroup_40 (fun z_9 => ?_) (fun z_10 => ?_)
      · skip
        refine s_Standing_rowsOfGroup_49 ?_
        rw [nI_1]
        exact ih (i + 1) _ (by omega)
      · skip
        refine s_Standing_rowsOfGroup_43 ?_
        refine s_Standing_rowsOfGroup_49 ?_
        rw [nI_1]
        exact ih (i + 1) _ (by omega)
set_option maxHeartbeats 1000000 in
theorem lp_rowsG2 {G : xw_G} {F L bc bs : Nat} {pr : Option Value → xw_A → Prop} {px : String → xw_A → Prop} {h : xw_A} {qo tk tl tz ph nd po k1 k2 k3 d ln c : Nat} {fk fs fe fd : Nat → Int32} {fp fn : Nat → Option Nat} {p nn n t : Nat} {wp : Int32} {f g : Nat → Int32} (K : QuC qo tk tl tz ph nd po k1 k2 k3 d ln c fk fs fe fd fp fn p nn n t wp f g h) {so sp : Nat} {pf : Nat → Int32} (e_so : h so = some (.inr (7, [.ref sp, .ref qo]))) (e_sp : h sp = some (.inl (0, 576, .inl pf))) {nq u v : Nat} {nl nr : Option Nat} {z0 z1 z2 z3 z4 : Int32} (e_nq : h nq = some (.inr (2, [.int z0, va_rf nl, va_rf nr, .int (nI u), .int (nI v), .int z1, .int z2, .int z3, .int z4]))) (huv : u ≤ v) (hvp : v ≤ p) (hF : 6 ≤ F) (hL : 141 ≤ L) (kk : ∀ s : Int32, pr (some (.int s)) h) :
    ∀ (dd i : Nat) (s : Int32), i + dd = 25 → 1 ≤ i → xw G m_Standing_rowsOfGroup F L bc bs pr px 4 [some (.ref so), some (.ref nq), some (.int s), some (.int (nI i)), none] [] h := by
  intro dd
  induction dd with
  | zero =>
    intro i s hi hp
    obtain rfl : i = 25 := by omega
    refine s_Standing_rowsOfGroup_4 (fun z_1 => ?_) (fun z => absurd (by decide) z)
    refine s_Standing_rowsOfGroup_61 ?_
    exact kk _
  | succ dd ih =>
    intro i s hi hp
    refine s_Standing_rowsOfGroup_4 (fun z => absurd z (nI_nlt (a := 24) (show i ≤ 24 by omega) (by decide))) (fun z_1 => ?_)
    refine s_Standing_rowsOfGroup_10 ?_
    refine lp_rowsG1 K e_so e_sp e_nq huv hvp (show 1 ≤ i by omega) (show i ≤ 24 by omega) (by omega) (by omega) (fun s_2 => ?_) 2 0 _ rfl
    refine s_Standing_rowsOfGroup_55 ?_
    simp only [nI_1]
    exact ih (i + 1) _ (by omega) (by omega)
set_option maxHeartbeats 400000 in
theorem g_rowsOfGroup {G : xw_G} {F L : Nat} {h : xw_A} {qo tk tl tz ph nd po k1 k2 k3 d ln c : Nat} {fk fs fe fd : Nat → Int32} {fp fn : Nat → Option Nat} {p nn n t : Nat} {wp : Int32} {f g : Nat → Int32} (K : QuC qo tk tl tz ph nd po k1 k2 k3 d ln c fk fs fe fd fp fn p nn n t wp f g h) {so sp : Nat} {pf : Nat → Int32} (e_so : h so = some (.inr (7, [.ref sp, .ref qo]))) (e_sp : h sp = some (.inl (0, 576, .inl pf))) {nq u v : Nat} {nl nr : Option Nat} {z0 z1 z2 z3 z4 : Int32} (e_nq : h nq = some (.inr (2, [.int z0, va_rf nl, va_rf nr, .int (nI u), .int (nI v), .int z1, .int z2, .int z3, .int z4]))) (huv : u ≤ v) (hvp : v ≤ p) (hF : 6 ≤ F) (hL : 141 ≤ L) :
    xw_Met G m_Standing_rowsOfGroup F L 0 0 [.ref so, .ref nq] h (fun v h' => (∃ y : Int32, v = some (.int y)) ∧ h = h') (fun _ _ => False) := by
  refine xw_Met.of rfl (by decide) (Nat.le_of_ble_eq_true rfl) ?_
  refine s_Standing_rowsOfGroup_0 ?_
  exact lp_rowsG2 K e_so e_sp e_nq huv hvp (by omega) (by omega) (fun y => ⟨⟨y, rfl⟩, rfl⟩) 24 1 0 rfl (by decide)
set_option maxHeartbeats 400000 in
theorem g_rowsOfJoin {G : xw_G} {F L : Nat} {h : xw_A} {l : Nat} {ll lr : Option Nat} {l0 l1 l2 l3 l4 l5 l6 : Int32} (e_l : h l = some (.inr (2, [.int l0, va_rf ll, va_rf lr, .int l1, .int l2, .int l3, .int l4, .int l5, .int l6]))) {r : Nat} {rl rr : Option Nat} {r0 r1 r2 r3 r4 r5 r6 : Int32} (e_r : h r = some (.inr (2, [.int r0, va_rf rl, va_rf rr, .int r1, .int r2, .int r3, .int r4, .int r5, .int r6]))) {j : Nat} {j0 j1 j2 j3 j4 j5 j6 : Int32} (e_j : h j = some (.inr (2, [.int j0, .ref l, .ref r, .int j1, .int j2, .int j3, .int j4, .int j5, .int j6]))) (hF : 1 ≤ F) (hL : 20 ≤ L) :
    xw_Met G m_Standing_rowsOfJoin F L 0 0 [.ref j] h (fun v h' => (∃ y : Int32, v = some (.int y)) ∧ h = h') (fun _ _ => False) := by
  refine xw_Met.of rfl (by decide) (Nat.le_of_ble_eq_true rfl) ?_
  refine s_Standing_rowsOfJoin_0 (left_a0 := some l) (right_a0 := some r) e_j (fun z_1 => ?_) (fun z_2 => ?_)
  · skip
    refine s_Standing_rowsOfJoin_24 (right_a0 := some r) (left_left_a0 := ll) (right_left_a0 := lr) e_j e_l (fun z_3 => ?_) (fun z_4 => ?_)
    · skip
      refine s_Standing_rowsOfJoin_50 (left_a0 := some l) (left_right_a0 := rl) (right_right_a0 := rr) e_j e_r ?_
      refine s_Standing_rowsOfJoin_59 ?_
      exact ⟨⟨_, rfl⟩, rfl⟩
    · skip
      refine s_Standing_rowsOfJoin_40 (left_a0 := some l) (left_right_a0 := rl) (right_right_a0 := rr) e_j e_r ?_
      refine s_Standing_rowsOfJoin_59 ?_
      exact ⟨⟨_, rfl⟩, rfl⟩
  · skip
    refine s_Standing_rowsOfJoin_8 (left_left_a0 := ll) (right_left_a0 := lr) (left_right_a0 := rl) (right_right_a0 := rr) e_j e_l e_r ?_
    exact ⟨⟨_, rfl⟩, rfl⟩
set_option maxHeartbeats 2000000 in
theorem lp_fill1 {G : xw_G} {F L bc bs : Nat} {pr : Option Value → xw_A → Prop} {px : String → xw_A → Prop} {qo tk tl tz ph nd po k1 k2 k3 d ln c : Nat} {fk fs fe fd : Nat → Int32} {fp fn : Nat → Option Nat} {p nn n t : Nat} {wp : Int32} {f g : Nat → Int32} {h0 : xw_A} {so sp : Nat} {pf0 : Nat → Int32} (K0 : QuC qo tk tl tz ph nd po k1 k2 k3 d ln c fk fs fe fd fp fn p nn n t wp f g h0) (f_so : h0 so = some (.inr (7, [.ref sp, .ref qo]))) (f_sp : h0 sp = some (.inl (0, 576, .inl pf0))) {AL : List Nat} {st s1 s2 s3 s4 : Nat} {er ep es el : Nat → Option Nat} {pc sc lc : Nat} {pe vm sm : Int32} (KS0 : StoC AL st s1 s2 s3 s4 er ep es el pc sc lc pe vm sm h0) (hspA : sp ∈ AL) {a r : Nat} {o : Option Nat} (hap : a < p) (hr1 : 1 ≤ r) (hr2 : r ≤ 24) (hv : ∀ b, o = some b → VerOK AL h0 b) (hF : 5 ≤ F) (hL : 117 ≤ L) (kk : ∀ (h : xw_A) (pf : Nat → Int32), h sp = some (.inl (0, 576, .inl pf)) → FrO [sp] h0 h → xw G m_Standing_fill F L bc bs pr px 91 [some (.ref so), some (.ref qo), some (.ref st), some (.int (nI a)), some (.int (nI r)), none, none, none] [] h) :
    ∀ (dd i : Nat) (h : xw_A) (pf : Nat → Int32), i + dd = 2 → h sp = some (.inl (0, 576, .inl pf)) → FrO [sp] h0 h → xw G m_Standing_fill F L bc bs pr px 36 [some (.ref so), some (.ref qo), some (.ref st), some (.int (nI a)), some (.int (nI r)), some (va_rf o), some (.int (nI i)), none] [] h := by
  intro dd
  induction dd with
  | zero =>
    intro i h pf hi e_sp r0
    obtain rfl : i = 2 := by omega
    have K := K0.frP r0 f_sp
    have e_so := r0 so _ (nm1 (xw_neC f_so f_sp (by simp))) f_so
    have KS := KS0.fr r0 (suC hspA suN) ⟨nm1 (xw_neC KS0.1 f_sp (by simp)), nm1 (xw_neC KS0.2.1 f_sp (by simp)), nm1 (xw_neC KS0.2.2.1 f_sp (by simp)), nm1 (xw_neC KS0.2.2.2.1 f_sp (by simp)), nm1 (xw_neC KS0.2.2.2.2.1 f_sp (by simp))⟩ (exC e_sp exN)
    have e_st := KS.1
    obtain ⟨e_qo, T, e_ph, e_nd, P, hp, hnn, ht, Fp, Nd⟩ := id K
    obtain ⟨e_po, e_d, e_k1, e_k2, e_k3, hln, PF⟩ := id P
    have e_tk := T.1
    have hc := PF.1
    refine s_Standing_fill_36 (r5 := o) (fun z_1 => ?_) (fun z => absurd z (by decide))
    exact kk _ _ e_sp r0
  | succ dd ih =>
    intro i h pf hi e_sp r0
    have K := K0.frP r0 f_sp
    have e_so := r0 so _ (nm1 (xw_neC f_so f_sp (by simp))) f_so
    have KS := KS0.fr r0 (suC hspA suN) ⟨nm1 (xw_neC KS0.1 f_sp (by simp)), nm1 (xw_neC KS0.2.1 f_sp (by simp)), nm1 (xw_neC KS0.2.2.1 f_sp (by simp)), nm1 (xw_neC KS0.2.2.2.1 f_sp (by simp)), nm1 (xw_neC KS0.2.2.2.2.1 f_sp (by simp))⟩ (exC e_sp exN)
    have e_st := KS.1
    obtain ⟨e_qo, T, e_ph, e_nd, P, hp, hnn, ht, Fp, Nd⟩ := id K
    obtain ⟨e_po, e_d, e_k1, e_k2, e_k3, hln, PF⟩ := id P
    have e_tk := T.1
    have hc := PF.1
    refine s_Standing_fill_36 (r5 := o) (fun z => absurd z (nI_ge (b := 2) (show i < 2 by omega) (by decide))) (fun z_1 => ?_)
    refine s_Standing_fill_42 (r5 := o) (fun z_2 => ?_) (fun a_3 z_4 => ?_)
    · skip
      refine s_Standing_fill_47 (r5 := o) ?_
      refine s_Standing_fill_68 (r5 := o) (places_a0 := some sp) (question_a0 := some qo) e_so ?_
      refine x_callS (As := [.int (nI a), .int (nI r), .int (nI i)]) (rest := [.ref sp]) (F1 := 1) (L1 := 20) (mc := 0) (ms := 0) d_Standing_fill_79 cS_Standing_45 (g_index (show 1 ≤ r by omega) (by omega) (by omega)) ⟨by omega, by show 8 + (3 + 11) + 20 ≤ _; omega⟩ ⟨by omega, by omega⟩ (Nat.le_of_ble_eq_true rfl) (fun v_6 h_5 p_7 => ?_)
      obtain ⟨rfl, rfl⟩ := p_7
      refine s_Standing_fill_82 (r5 := o) e_sp (vp_in_nI (by omega) (by decide)) ?_
      refine x_u1 (fun h_8 e_9 f_10 => ?_)
      have e_11 := (f_10 qo (xw_neC e_qo e_sp (by simp))).trans e_qo
      have e_12 := (f_10 tk (xw_neC e_tk e_sp (by simp))).trans e_tk
      have e_13 := (f_10 ph (xw_neC e_ph e_sp (by simp))).trans e_ph
      have e_14 := (f_10 nd (xw_neC e_nd e_sp (by simp))).trans e_nd
      have e_15 := (f_10 po (xw_neC e_po e_sp (by simp))).trans e_po
      have e_16 := (f_10 d (xw_neC e_d e_sp (by simp))).trans e_d
      have e_17 := (f_10 k1 (xw_neC e_k1 e_sp (by simp))).trans e_k1
      have e_18 := (f_10 k2 (xw_neC e_k2 e_sp (by simp))).trans e_k2
      have e_19 := (f_10 k3 (xw_neC e_k3 e_sp (by simp))).trans e_k3
      have e_20 := (f_10 so (xw_neC e_so e_sp (by simp))).trans e_so
      have e_21 := (f_10 st (xw_neC e_st e_sp (by simp))).trans e_st
      have r_22 := r0.up (by simp) f_10
      rw [nI_1]
      exact ih (i + 1) _ _ (by omega) e_9 r_22
    · skip
      refine s_Standing_fill_51 (r5 := o) (tokens_a1 := some tk) (nodes_a1 := some nd) (parts_a1 := some po) (letters_a1 := some d) e_qo e_ph (vp_in_nI (by omega) (by omega)) ?_
      have hv9 := (hv _ z_4).fr r0 (suC hspA suN)
      obtain ⟨-, vn, ve, vr, vp, vq, ev, -, -, tp, tq⟩ := id hv9
      obtain ⟨pa, px1, py1, pb1, ea1, ea2, ea3⟩ := Fp a (by omega)
      obtain ⟨u, v, rfl, rfl, huv⟩ := ea3 (by omega)
      rw [z_4, nI_clamp (by omega), ea1]
      refine x_callV (As := [.int (nI i)]) (b := a_3) (rest := [.ref pa, .ref so]) (F1 := 1) (L1 := 20) (mc := 0) (ms := 0) d_Standing_fill_62 cV_Standing_35 (g_text ev (by omega) (by omega)) ev ⟨by decide, rfl⟩ ⟨by omega, by show 8 + (2 + 11) + 20 ≤ _; omega⟩ ⟨by omega, by omega⟩ (Nat.le_of_ble_eq_true rfl) (fun tv_23 h_24 p_25 => ?_)
      obtain ⟨th_26, rfl⟩ := p_25
      obtain ⟨tx, X0, hX⟩ : ∃ tx, TokOK AL h tx ∧ tv_23 = some (.ref tx) := th_26.elim (fun z => ⟨vp, tp, z⟩) (fun z => ⟨vq, tq, z⟩)
      subst hX
      obtain ⟨-, xl, xz, xm, xk, xn, xf, xg, -, -, X⟩ := X0
      refine x_callV (As := [.ref pa, .ref tx]) (b := so) (rest := []) (F1 := 4) (L1 := 93) (mc := 0) (ms := 0) d_Standing_fill_65 cV_Standing_41 (g_placesIn K e_so e_sp ea2 huv X (by omega) (by omega)) e_so ⟨by decide, rfl⟩ ⟨by omega, by show 8 + (5 + 11) + 93 ≤ _; omega⟩ ⟨by omega, by omega⟩ (Nat.le_of_ble_eq_true rfl) (fun v_29 h_28 p_30 => ?_)
      obtain ⟨⟨y_27, rfl⟩, rfl⟩ := p_30
      refine s_Standing_fill_68 (r5 := some a_3) (places_a0 := some sp) (question_a0 := some qo) e_so ?_
      refine x_callS (As := [.int (nI a), .int (nI r), .int (nI i)]) (rest := [.ref sp]) (F1 := 1) (L1 := 20) (mc := 0) (ms := 0) d_Standing_fill_79 cS_Standing_45 (g_index (show 1 ≤ r by omega) (by omega) (by omega)) ⟨by omega, by show 8 + (3 + 11) + 20 ≤ _; omega⟩ ⟨by omega, by omega⟩ (Nat.le_of_ble_eq_true rfl) (fun v_32 h_31 p_33 => ?_)
      obtain ⟨rfl, rfl⟩ := p_33
      refine s_Standing_fill_82 (r5 := some a_3) e_sp (vp_in_nI (by omega) (by decide)) ?_
      refine x_u1 (fun h_34 e_35 f_36 => ?_)
      have e_37 := (f_36 qo (xw_neC e_qo e_sp (by simp))).trans e_qo
      have e_38 := (f_36 tk (xw_neC e_tk e_sp (by simp))).trans e_tk
      have e_39 := (f_36 ph (xw_neC e_ph e_sp (by simp))).trans e_ph
      have e_40 := (f_36 nd (xw_neC e_nd e_sp (by simp))).trans e_nd
      have e_41 := (f_36 po (xw_neC e_po e_sp (by simp))).trans e_po
      have e_42 := (f_36 d (xw_neC e_d e_sp (by simp))).trans e_d
      have e_43 := (f_36 k1 (xw_neC e_k1 e_sp (by simp))).trans e_k1
      have e_44 := (f_36 k2 (xw_neC e_k2 e_sp (by simp))).trans e_k2
      have e_45 := (f_36 k3 (xw_neC e_k3 e_sp (by simp))).trans e_k3
      have e_46 := (f_36 so (xw_neC e_so e_sp (by simp))).trans e_so
      have e_47 := (f_36 st (xw_neC e_st e_sp (by simp))).trans e_st
      have r_48 := r0.up (by simp) f_36
      rw [← z_4]
      rw [nI_1]
      exact ih (i + 1) _ _ (by omega) e_35 r_48
set_option maxHeartbeats 2000000 in
theorem lp_fill2 {G : xw_G} {F L bc bs : Nat} {pr : Option Value → xw_A → Prop} {px : String → xw_A → Prop} {qo tk tl tz ph nd po k1 k2 k3 d ln c : Nat} {fk fs fe fd : Nat → Int32} {fp fn : Nat → Option Nat} {p nn n t : Nat} {wp : Int32} {f g : Nat → Int32} {h0 : xw_A} {so sp : Nat} {pf0 : Nat → Int32} (K0 : QuC qo tk tl tz ph nd po k1 k2 k3 d ln c fk fs fe fd fp fn p nn n t wp f g h0) (f_so : h0 so = some (.inr (7, [.ref sp, .ref qo]))) (f_sp : h0 sp = some (.inl (0, 576, .inl pf0))) {AL : List Nat} {st s1 s2 s3 s4 : Nat} {er ep es el : Nat → Option Nat} {pc sc lc : Nat} {pe vm sm : Int32} (KS0 : StoC AL st s1 s2 s3 s4 er ep es el pc sc lc pe vm sm h0) (hspA : sp ∈ AL) {a : Nat} (hap : a < p) (hF : 5 ≤ F) (hL : 117 ≤ L) (kk : ∀ (h : xw_A) (pf : Nat → Int32), h sp = some (.inl (0, 576, .inl pf)) → FrO [sp] h0 h → xw G m_Standing_fill F L bc bs pr px 97 [some (.ref so), some (.ref qo), some (.ref st), some (.int (nI a)), none, none, none, none] [] h) :
    ∀ (dd i : Nat) (h : xw_A) (pf : Nat → Int32), i + dd = 25 → 1 ≤ i → h sp = some (.inl (0, 576, .inl pf)) → FrO [sp] h0 h → xw G m_Standing_fill F L bc bs pr px 18 [some (.ref so), some (.ref qo), some (.ref st), some (.int (nI a)), some (.int (nI i)), none, none, none] [] h := by
  intro dd
  induction dd with
  | zero =>
    intro i h pf hi h1i e_sp r0
    obtain rfl : i = 25 := by omega
    have K := K0.frP r0 f_sp
    have e_so := r0 so _ (nm1 (xw_neC f_so f_sp (by simp))) f_so
    have KS := KS0.fr r0 (suC hspA suN) ⟨nm1 (xw_neC KS0.1 f_sp (by simp)), nm1 (xw_neC KS0.2.1 f_sp (by simp)), nm1 (xw_neC KS0.2.2.1 f_sp (by simp)), nm1 (xw_neC KS0.2.2.2.1 f_sp (by simp)), nm1 (xw_neC KS0.2.2.2.2.1 f_sp (by simp))⟩ (exC e_sp exN)
    have e_st := KS.1
    obtain ⟨e_qo, T, e_ph, e_nd, P, hp, hnn, ht, Fp, Nd⟩ := id K
    obtain ⟨e_po, e_d, e_k1, e_k2, e_k3, hln, PF⟩ := id P
    have e_tk := T.1
    have hc := PF.1
    refine s_Standing_fill_18 (fun z_1 => ?_) (fun z => absurd (by decide) z)
    exact kk _ _ e_sp r0
  | succ dd ih =>
    intro i h pf hi h1i e_sp r0
    have K := K0.frP r0 f_sp
    have e_so := r0 so _ (nm1 (xw_neC f_so f_sp (by simp))) f_so
    have KS := KS0.fr r0 (suC hspA suN) ⟨nm1 (xw_neC KS0.1 f_sp (by simp)), nm1 (xw_neC KS0.2.1 f_sp (by simp)), nm1 (xw_neC KS0.2.2.1 f_sp (by simp)), nm1 (xw_neC KS0.2.2.2.1 f_sp (by simp)), nm1 (xw_neC KS0.2.2.2.2.1 f_sp (by simp))⟩ (exC e_sp exN)
    have e_st := KS.1
    obtain ⟨e_qo, T, e_ph, e_nd, P, hp, hnn, ht, Fp, Nd⟩ := id K
    obtain ⟨e_po, e_d, e_k1, e_k2, e_k3, hln, PF⟩ := id P
    have e_tk := T.1
    have hc := PF.1
    refine s_Standing_fill_18 (fun z => absurd z (nI_nlt (a := 24) (show i ≤ 24 by omega) (by decide))) (fun z_1 => ?_)
    refine s_Standing_fill_25 ?_
    refine x_callV (As := [.int (nI i)]) (b := st) (rest := []) (F1 := 1) (L1 := 20) (mc := 0) (ms := 0) d_Standing_fill_28 cV_Standing_25 (g_versionOf KS (by omega) (by omega)) e_st ⟨by decide, rfl⟩ ⟨by omega, by show 8 + (2 + 11) + 20 ≤ _; omega⟩ ⟨by omega, by omega⟩ (Nat.le_of_ble_eq_true rfl) (fun v_5 h_4 p_6 => ?_)
    obtain ⟨⟨o_2, rfl, ho_3, -⟩, rfl⟩ := p_6
    refine s_Standing_fill_31 (s0 := o_2) ?_
    refine lp_fill1 (h0 := h) K e_so e_sp KS hspA hap (show 1 ≤ i by omega) (show i ≤ 24 by omega) (fun b hb => (ho_3 b hb).1) (by omega) (by omega) (fun h_7 pf_8 e_9 r_10 => ?_) 2 0 _ _ rfl e_sp FrO.rf
    have r_11 := r0.trans r_10
    refine s_Standing_fill_91 ?_
    rw [nI_1]
    exact ih (i + 1) _ _ (by omega) (by omega) e_9 r_11
set_option maxHeartbeats 2000000 in
theorem lp_fill3 {G : xw_G} {F L bc bs : Nat} {pr : Option Value → xw_A → Prop} {px : String → xw_A → Prop} {qo tk tl tz ph nd po k1 k2 k3 d ln c : Nat} {fk fs fe fd : Nat → Int32} {fp fn : Nat → Option Nat} {p nn n t : Nat} {wp : Int32} {f g : Nat → Int32} {h0 : xw_A} {so sp : Nat} {pf0 : Nat → Int32} (K0 : QuC qo tk tl tz ph nd po k1 k2 k3 d ln c fk fs fe fd fp fn p nn n t wp f g h0) (f_so : h0 so = some (.inr (7, [.ref sp, .ref qo]))) (f_sp : h0 sp = some (.inl (0, 576, .inl pf0))) {AL : List Nat} {st s1 s2 s3 s4 : Nat} {er ep es el : Nat → Option Nat} {pc sc lc : Nat} {pe vm sm : Int32} (KS0 : StoC AL st s1 s2 s3 s4 er ep es el pc sc lc pe vm sm h0) (hspA : sp ∈ AL) (hF : 5 ≤ F) (hL : 117 ≤ L) (kk : ∀ (h : xw_A) (pf : Nat → Int32), h sp = some (.inl (0, 576, .inl pf)) → FrO [sp] h0 h → pr none h) :
    ∀ (dd i : Nat) (h : xw_A) (pf : Nat → Int32), i + dd = p → h sp = some (.inl (0, 576, .inl pf)) → FrO [sp] h0 h → xw G m_Standing_fill F L bc bs pr px 7 [some (.ref so), some (.ref qo), some (.ref st), some (.int (nI i)), none, none, none, none] [] h := by
  intro dd
  induction dd with
  | zero =>
    intro i h pf hi e_sp r0
    obtain rfl : i = p := by omega
    have K := K0.frP r0 f_sp
    have e_so := r0 so _ (nm1 (xw_neC f_so f_sp (by simp))) f_so
    have KS := KS0.fr r0 (suC hspA suN) ⟨nm1 (xw_neC KS0.1 f_sp (by simp)), nm1 (xw_neC KS0.2.1 f_sp (by simp)), nm1 (xw_neC KS0.2.2.1 f_sp (by simp)), nm1 (xw_neC KS0.2.2.2.1 f_sp (by simp)), nm1 (xw_neC KS0.2.2.2.2.1 f_sp (by simp))⟩ (exC e_sp exN)
    have e_st := KS.1
    obtain ⟨e_qo, T, e_ph, e_nd, P, hp, hnn, ht, Fp, Nd⟩ := id K
    obtain ⟨e_po, e_d, e_k1, e_k2, e_k3, hln, PF⟩ := id P
    have e_tk := T.1
    have hc := PF.1
    refine s_Standing_fill_7 (tokens_a1 := some tk) (phrases_a1 := some ph) (nodes_a1 := some nd) (parts_a1 := some po) (letters_a1 := some d) e_qo (fun z_1 => ?_) (fun z => absurd (nI_le (Nat.le_refl _) (by omega)) z)
    refine s_Standing_fill_103 ?_
    exact kk _ _ e_sp r0
  | succ dd ih =>
    intro i h pf hi e_sp r0
    have K := K0.frP r0 f_sp
    have e_so := r0 so _ (nm1 (xw_neC f_so f_sp (by simp))) f_so
    have KS := KS0.fr r0 (suC hspA suN) ⟨nm1 (xw_neC KS0.1 f_sp (by simp)), nm1 (xw_neC KS0.2.1 f_sp (by simp)), nm1 (xw_neC KS0.2.2.1 f_sp (by simp)), nm1 (xw_neC KS0.2.2.2.1 f_sp (by simp)), nm1 (xw_neC KS0.2.2.2.2.1 f_sp (by simp))⟩ (exC e_sp exN)
    have e_st := KS.1
    obtain ⟨e_qo, T, e_ph, e_nd, P, hp, hnn, ht, Fp, Nd⟩ := id K
    obtain ⟨e_po, e_d, e_k1, e_k2, e_k3, hln, PF⟩ := id P
    have e_tk := T.1
    have hc := PF.1
    refine s_Standing_fill_7 (tokens_a1 := some tk) (phrases_a1 := some ph) (nodes_a1 := some nd) (parts_a1 := some po) (letters_a1 := some d) e_qo (fun z => absurd z (nI_ge (b := p) (show i < p by omega) (by omega))) (fun z_1 => ?_)
    refine s_Standing_fill_15 ?_
    refine lp_fill2 (h0 := h) K e_so e_sp KS hspA (show i < p by omega) (by omega) (by omega) (fun h_2 pf_3 e_4 r_5 => ?_) 24 1 _ _ rfl (Nat.le_refl _) e_sp FrO.rf
    have r_6 := r0.trans r_5
    refine s_Standing_fill_97 ?_
    rw [nI_1]
    exact ih (i + 1) _ _ (by omega) e_4 r_6
set_option maxHeartbeats 1000000 in
theorem g_fill {G : xw_G} {F L : Nat} {h : xw_A} {qo tk tl tz ph nd po k1 k2 k3 d ln c : Nat} {fk fs fe fd : Nat → Int32} {fp fn : Nat → Option Nat} {p nn n t : Nat} {wp : Int32} {f g : Nat → Int32} {so sp : Nat} {qq : Option Nat} {pf : Nat → Int32} (K : QuC qo tk tl tz ph nd po k1 k2 k3 d ln c fk fs fe fd fp fn p nn n t wp f g h) (e_so : h so = some (.inr (7, [.ref sp, va_rf qq]))) (e_sp : h sp = some (.inl (0, 576, .inl pf))) {AL : List Nat} {st s1 s2 s3 s4 : Nat} {er ep es el : Nat → Option Nat} {pc sc lc : Nat} {pe vm sm : Int32} (KS : StoC AL st s1 s2 s3 s4 er ep es el pc sc lc pe vm sm h) (hsA : so ∈ AL ∧ sp ∈ AL) (hF : 5 ≤ F) (hL : 117 ≤ L) :
    xw_Met G m_Standing_fill F L 0 0 [.ref so, .ref qo, .ref st] h (fun v h' => v = none ∧ h' so = some (.inr (7, [.ref sp, .ref qo])) ∧ (∃ pf' : Nat → Int32, h' sp = some (.inl (0, 576, .inl pf'))) ∧ FrO [so, sp] h h') (fun _ _ => False) := by
  refine xw_Met.of rfl (by decide) (Nat.le_of_ble_eq_true rfl) ?_
  refine s_Standing_fill_0 (places_a0 := some sp) (question_a0 := qq) e_so ?_
  refine x_u1 (fun h1 e1 f1 => ?_)
  have q1 : FrO [so] h h1 := FrO.rf.up (by simp) f1
  have n1 : sp ≠ so := xw_neC e_sp e_so (by simp)
  have e2 := (f1 _ n1).trans e_sp
  have K1 := K.fr7 q1 e_so
  have KS1 := KS.fr q1 (suC hsA.1 suN) ⟨nm1 (xw_neC KS.1 e_so (by simp)), nm1 (xw_neC KS.2.1 e_so (by simp)), nm1 (xw_neC KS.2.2.1 e_so (by simp)), nm1 (xw_neC KS.2.2.2.1 e_so (by simp)), nm1 (xw_neC KS.2.2.2.2.1 e_so (by simp))⟩ (exC e1 exN)
  exact lp_fill3 K1 e1 e2 KS1 hsA.2 (by omega) (by omega) (fun h2 pf2 e3 r3 => ⟨rfl, r3 so _ (nm1 (Ne.symm n1)) e1, ⟨pf2, e3⟩, (q1.mono (by simp)).trans (r3.mono (by simp))⟩) p 0 _ _ (Nat.zero_add _) e2 FrO.rf
set_option maxHeartbeats 2000000 in
theorem lp_rowsFound {G : xw_G} {F L bc bs : Nat} {pr : Option Value → xw_A → Prop} {px : String → xw_A → Prop} {B : List Nat} {qo tk tl tz ph nd po k1 k2 k3 d ln c : Nat} {fk fs fe fd : Nat → Int32} {fp fn : Nat → Option Nat} {p nn n t : Nat} {wp : Int32} {f g : Nat → Int32} {h0 : xw_A} {so sp : Nat} {pf : Nat → Int32} (A : QuA B qo tk tl tz ph nd po k1 k2 k3 d fp fn) (hF : 7 ≤ F) (hL : 165 ≤ L) (kk : ∀ (h : xw_A) (m : Int32), QuC qo tk tl tz ph nd po k1 k2 k3 d ln c fk fs fe fd fp fn p nn n t wp f g h → FrO B h0 h → pr (some (.int m)) h) :
    ∀ (dd i : Nat) (h : xw_A) (m : Int32), i + dd = nn → QuC qo tk tl tz ph nd po k1 k2 k3 d ln c fk fs fe fd fp fn p nn n t wp f g h → h so = some (.inr (7, [.ref sp, .ref qo])) → h sp = some (.inl (0, 576, .inl pf)) → FrO B h0 h → xw G m_Standing_rowsFound F L bc bs pr px 4 [some (.ref so), some (.ref qo), some (.int m), some (.int (nI i)), none] [] h := by
  intro dd
  induction dd with
  | zero =>
    intro i h m hi K e_so e_sp r0
    obtain rfl : i = nn := by omega
    obtain ⟨e_qo, T, e_ph, e_nd, P, hp, hnn, ht, Fp, Nd⟩ := id K
    obtain ⟨e_po, e_d, e_k1, e_k2, e_k3, hln, PF⟩ := id P
    have e_tk := T.1
    have hc := PF.1
    refine s_Standing_rowsFound_4 (tokens_a1 := some tk) (phrases_a1 := some ph) (nodes_a1 := some nd) (parts_a1 := some po) (letters_a1 := some d) e_qo (fun z_1 => ?_) (fun z => absurd (nI_le (Nat.le_refl _) (by omega)) z)
    refine s_Standing_rowsFound_59 ?_
    exact kk _ _ K r0
  | succ dd ih =>
    intro i h m hi K e_so e_sp r0
    obtain ⟨e_qo, T, e_ph, e_nd, P, hp, hnn, ht, Fp, Nd⟩ := id K
    obtain ⟨e_po, e_d, e_k1, e_k2, e_k3, hln, PF⟩ := id P
    have e_tk := T.1
    have hc := PF.1
    refine s_Standing_rowsFound_4 (tokens_a1 := some tk) (phrases_a1 := some ph) (nodes_a1 := some nd) (parts_a1 := some po) (letters_a1 := some d) e_qo (fun z => absurd z (nI_ge (b := nn) (show i < nn by omega) (by omega))) (fun z_1 => ?_)
    obtain ⟨a, l, r, k, x, y, z1, z2, z3, z4, ea1, ea2, ea3⟩ := Nd i (by omega)
    refine s_Standing_rowsFound_12 (g17 := a) (tokens_a1 := some tk) (phrases_a1 := some ph) (parts_a1 := some po) (letters_a1 := some d) (left_g17 := l) (right_g17 := r) e_qo e_nd (vp_in_nI (by omega) (by omega)) (by rw [nI_clamp (by omega)]; exact ea1) ea2 (fun z_2 => ?_) (fun z_3 => ?_)
    · skip
      refine s_Standing_rowsFound_39 ?_
      obtain ⟨i1, i2, hi1, hi2, rfl, rfl⟩ : ∃ i1 i2, i1 < nn ∧ i2 < nn ∧ l = fn i1 ∧ r = fn i2 := (ea3 (by omega)).elim (fun q => absurd q.1 z_2) (fun q => q.2)
      obtain ⟨a1, l1, r1, k1_, x1, y1, za1, zb1, zc1, zd1, eb1, ec1, -⟩ := Nd i1 (by omega)
      obtain ⟨a2, l2, r2, k2_, x2, y2, za2, zb2, zc2, zd2, eb2, ec2, -⟩ := Nd i2 (by omega)
      have ea9 := ea2
      rw [eb1, eb2] at ea9
      refine x_callS (As := [.ref a]) (rest := [.ref a]) (F1 := 1) (L1 := 20) (mc := 0) (ms := 0) d_Standing_rowsFound_41 cS_Standing_101 (g_rowsOfJoin ec1 ec2 ea9 (by omega) (by omega)) ⟨by omega, by show 8 + (1 + 11) + 20 ≤ _; omega⟩ ⟨by omega, by omega⟩ (Nat.le_of_ble_eq_true rfl) (fun v_6 h_5 p_7 => ?_)
      obtain ⟨⟨y_4, rfl⟩, rfl⟩ := p_7
      refine s_Standing_rowsFound_44 (left_a4 := fn i1) (right_a4 := fn i2) ea2 ?_
      refine x_u1 (fun h_8 e_9 f_10 => ?_)
      have e_11 := (f_10 qo (xw_neC e_qo ea2 (by simp))).trans e_qo
      have e_12 := (f_10 tk (xw_neC e_tk ea2 (by simp))).trans e_tk
      have e_13 := (f_10 ph (xw_neC e_ph ea2 (by simp))).trans e_ph
      have e_14 := (f_10 nd (xw_neC e_nd ea2 (by simp))).trans e_nd
      have e_15 := (f_10 po (xw_neC e_po ea2 (by simp))).trans e_po
      have e_16 := (f_10 d (xw_neC e_d ea2 (by simp))).trans e_d
      have e_17 := (f_10 k1 (xw_neC e_k1 ea2 (by simp))).trans e_k1
      have e_18 := (f_10 k2 (xw_neC e_k2 ea2 (by simp))).trans e_k2
      have e_19 := (f_10 k3 (xw_neC e_k3 ea2 (by simp))).trans e_k3
      have e_20 := (f_10 so (xw_neC e_so ea2 (by simp))).trans e_so
      have e_21 := (f_10 sp (xw_neC e_sp ea2 (by simp))).trans e_sp
      have r_22 := r0.up (A.2.2.1 i a (by omega) ea1) f_10
      rw [nI_1]
      have rA : FrO [a] h h_8 := FrO.rf.up (by simp) f_10
      exact ih (i + 1) _ _ (by omega) (K.nd0 A rA (by omega) ea1 ea2 e_9 ea3) (rA so _ (nm1 (xw_neC e_so ea2 (by simp))) e_so) (rA sp _ (nm1 (xw_neC e_sp ea2 (by simp))) e_sp) r_22
    · skip
      refine s_Standing_rowsFound_30 ?_
      obtain ⟨u, v, rfl, rfl, huv, hvp⟩ : ∃ u v, x = nI u ∧ y = nI v ∧ u ≤ v ∧ v ≤ p := (ea3 (by omega)).elim (fun q => q.2) (fun q => absurd z_3 q.1)
      refine x_callV (As := [.ref a]) (b := so) (rest := [.ref a]) (F1 := 6) (L1 := 141) (mc := 0) (ms := 0) d_Standing_rowsFound_33 cV_Standing_97 (g_rowsOfGroup K e_so e_sp ea2 huv hvp (by omega) (by omega)) e_so ⟨by decide, rfl⟩ ⟨by omega, by show 8 + (5 + 11) + 141 ≤ _; omega⟩ ⟨by omega, by omega⟩ (Nat.le_of_ble_eq_true rfl) (fun v_25 h_24 p_26 => ?_)
      obtain ⟨⟨y_23, rfl⟩, rfl⟩ := p_26
      refine s_Standing_rowsFound_36 ?_
      refine s_Standing_rowsFound_44 (left_a4 := l) (right_a4 := r) ea2 ?_
      refine x_u1 (fun h_27 e_28 f_29 => ?_)
      have e_30 := (f_29 qo (xw_neC e_qo ea2 (by simp))).trans e_qo
      have e_31 := (f_29 tk (xw_neC e_tk ea2 (by simp))).trans e_tk
      have e_32 := (f_29 ph (xw_neC e_ph ea2 (by simp))).trans e_ph
      have e_33 := (f_29 nd (xw_neC e_nd ea2 (by simp))).trans e_nd
      have e_34 := (f_29 po (xw_neC e_po ea2 (by simp))).trans e_po
      have e_35 := (f_29 d (xw_neC e_d ea2 (by simp))).trans e_d
      have e_36 := (f_29 k1 (xw_neC e_k1 ea2 (by simp))).trans e_k1
      have e_37 := (f_29 k2 (xw_neC e_k2 ea2 (by simp))).trans e_k2
      have e_38 := (f_29 k3 (xw_neC e_k3 ea2 (by simp))).trans e_k3
      have e_39 := (f_29 so (xw_neC e_so ea2 (by simp))).trans e_so
      have e_40 := (f_29 sp (xw_neC e_sp ea2 (by simp))).trans e_sp
      have r_41 := r0.up (A.2.2.1 i a (by omega) ea1) f_29
      rw [nI_1]
      have rA : FrO [a] h h_27 := FrO.rf.up (by simp) f_29
      exact ih (i + 1) _ _ (by omega) (K.nd0 A rA (by omega) ea1 ea2 e_28 ea3) (rA so _ (nm1 (xw_neC e_so ea2 (by simp))) e_so) (rA sp _ (nm1 (xw_neC e_sp ea2 (by simp))) e_sp) r_41
set_option maxHeartbeats 400000 in
theorem g_rowsFound {G : xw_G} {F L : Nat} {h : xw_A} {B : List Nat} {qo tk tl tz ph nd po k1 k2 k3 d ln c : Nat} {fk fs fe fd : Nat → Int32} {fp fn : Nat → Option Nat} {p nn n t : Nat} {wp : Int32} {f g : Nat → Int32} (K : QuC qo tk tl tz ph nd po k1 k2 k3 d ln c fk fs fe fd fp fn p nn n t wp f g h) (A : QuA B qo tk tl tz ph nd po k1 k2 k3 d fp fn) {so sp : Nat} {pf : Nat → Int32} (e_so : h so = some (.inr (7, [.ref sp, .ref qo]))) (e_sp : h sp = some (.inl (0, 576, .inl pf))) (hF : 7 ≤ F) (hL : 165 ≤ L) :
    xw_Met G m_Standing_rowsFound F L 0 0 [.ref so, .ref qo] h (fun v h' => (∃ m : Int32, v = some (.int m)) ∧ QuC qo tk tl tz ph nd po k1 k2 k3 d ln c fk fs fe fd fp fn p nn n t wp f g h' ∧ FrO B h h') (fun _ _ => False) := by
  refine xw_Met.of rfl (by decide) (Nat.le_of_ble_eq_true rfl) ?_
  refine s_Standing_rowsFound_0 ?_
  exact lp_rowsFound A (by omega) (by omega) (fun h2 m2 K2 r2 => ⟨⟨m2, rfl⟩, K2, r2⟩) nn 0 _ 0 (Nat.zero_add _) K e_so e_sp FrO.rf
