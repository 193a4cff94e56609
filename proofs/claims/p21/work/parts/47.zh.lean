set_option maxHeartbeats 1000000 in
theorem lp_standsAtH {G : xw_G} {F L bc bs : Nat} {pr : Option Value → xw_A → Prop} {px : String → xw_A → Prop} {h : xw_A} {qo tk tl tz ph nd po k1 k2 k3 d ln c : Nat} {fk fs fe fd : Nat → Int32} {fp fn : Nat → Option Nat} {p nn n t : Nat} {wp : Int32} {f g : Nat → Int32} (K : QuC qo tk tl tz ph nd po k1 k2 k3 d ln c fk fs fe fd fp fn p nn n t wp f g h) {so sp : Nat} {pf : Nat → Int32} (e_so : h so = some (.inr (7, [.ref sp, .ref qo]))) (e_sp : h sp = some (.inl (0, 576, .inl pf))) {a u vz : Nat} {b : Int32} {bb : Bool} (e_a : h a = some (.inr (4, [.int (nI u), .int (nI vz), .int b]))) (huv : u + vz ≤ n) (hbb : b = b01 bb) {x xl xz m2 k2 n2 : Nat} {f2 g2 : Nat → Int32} (X : TokC x xl xz m2 k2 n2 f2 g2 h) {ws T : List (List Int32)} {W W2 : Nat} (TW1 : TkW ws n W f g) (TW2 : TkW T n2 W2 f2 g2) (hW : W ≤ 96) (hW2 : W2 ≤ 96) {pl : Nat} (hpl : pl + vz ≤ n2) (hF : 3 ≤ F) (hL : 68 ≤ L) (kk : ∀ y : Int32, ((y = 0 ∧ ¬ SdA ws u vz bb T pl) ∨ (y = 1 ∧ SdA ws u vz bb T pl)) → pr (some (.int y)) h) :
    ∀ (dd i : Nat) , i + dd = vz → (∀ k, k < i → ∀ w9 x9, ws[u + k]? = some w9 → T[pl + k]? = some x9 → FtW (bb = true ∧ k + 1 = vz) w9 x9) → xw G m_Standing_standsAt F L bc bs pr px 3 [some (.ref so), some (.ref a), some (.ref x), some (.int (nI pl)), some (.int (nI i)), none] [] h := by
  obtain ⟨e_qo, T_, e_ph, e_nd, P, hp, hnn, ht, Fp, Nd⟩ := id K
  obtain ⟨e_po, e_d, e_k1, e_k2, e_k3, hln, PF⟩ := id P
  have e_tk := T_.1
  have hc := PF.1
  have e_x := X.1
  have hn49 : n < 49 := T_.2.2.2.1
  have hn50 : n2 < 49 := by have h1 := X.2.2.2.1; have h2 := X.2.2.2.2.2.1; omega
  intro dd
  induction dd with
  | zero =>
    intro i  hi hp
    obtain rfl : i = vz := by omega
    refine s_Standing_standsAt_3 e_a (fun z_1 => ?_) (fun z => absurd (nI_le (Nat.le_refl _) (by omega)) z)
    refine s_Standing_standsAt_72 ?_
    exact kk _ (Or.inr ⟨rfl, fun k hk w9 x9 q1 q2 => hp k hk w9 x9 q1 q2⟩)
  | succ dd ih =>
    intro i  hi hp
    refine s_Standing_standsAt_3 e_a (fun z => absurd z (nI_ge (b := vz) (show i < vz by omega) (by omega))) (fun z_1 => ?_)
    refine s_Standing_standsAt_12 e_a (fun z_2 => ?_) (fun z_3 => ?_)
    · skip
      refine s_Standing_standsAt_34 ?_
      refine s_Standing_standsAt_35 (places_a0 := some sp) (tokens_question_a0 := some tk) (phrases_question_a0 := some ph) (nodes_question_a0 := some nd) (parts_question_a0 := some po) (letters_question_a0 := some d) e_so e_qo e_a ?_
      have hbe_4 : (¬ (0 : Int32) = 0) ↔ (bb = true ∧ i + 1 = vz) := ⟨fun q => absurd rfl q, fun q => absurd z_2 (by rw [hbb, q.1]; decide)⟩
      rw [nI_add, nI_add]
      refine x_callV (As := [.int (nI (u + i)), .ref x, .int (nI (pl + i)), .int 0]) (b := tk) (rest := []) (F1 := 2) (L1 := 41) (mc := 0) (ms := 0) d_Standing_standsAt_58 cV_Standing_74 (g_fits T_ X (by omega) (by omega) (by omega) (by omega)) e_tk ⟨by decide, rfl⟩ ⟨by omega, by show 8 + (8 + 11) + 41 ≤ _; omega⟩ ⟨by omega, by omega⟩ (Nat.le_of_ble_eq_true rfl) (fun v_9 h_8 p_10 => ?_)
      obtain ⟨⟨c_5, rfl, hc_6, ft_7⟩, rfl⟩ := p_10
      refine x_le (xw_le_s (xw_le_s (xw_le_s (xw_le_s (xw_le_s (xw_le_n xw_le_e)))))) ?_
      refine s_Standing_standsAt_61 (fun z_11 => ?_) (fun z_12 => ?_)
      · skip
        refine s_Standing_standsAt_66 ?_
        simp only [nI_1]
        exact ih (i + 1) (by omega) (fun k hk w9 x9 q1 q2 => by by_cases q : k = i; (rw [q] at q1 q2 ⊢; exact (FtW.cg hbe_4).mp ((fit_W ft_7 TW1 TW2 hW hW2 q1 q2).mp (hc_6.resolve_left z_11))); (exact hp k (by omega) w9 x9 q1 q2))
      · skip
        refine s_Standing_standsAt_64 ?_
        refine kk _ (Or.inl ⟨rfl, fun S9 => ?_⟩)
        have g1 : u + i < ws.length := by rw [← TW1.1]; omega
        have g2 : pl + i < T.length := by rw [← TW2.1]; omega
        have q9 := (fit_W ft_7 TW1 TW2 hW hW2 (List.getElem?_eq_getElem g1) (List.getElem?_eq_getElem g2)).mpr ((FtW.cg hbe_4).mpr (S9 i (by omega) _ _ (List.getElem?_eq_getElem g1) (List.getElem?_eq_getElem g2)))
        rw [z_12] at q9
        exact absurd q9 (by decide)
    · skip
      refine s_Standing_standsAt_19 e_a (fun z_13 => ?_) (fun z_14 => ?_)
      · skip
        refine s_Standing_standsAt_34 ?_
        refine s_Standing_standsAt_35 (places_a0 := some sp) (tokens_question_a0 := some tk) (phrases_question_a0 := some ph) (nodes_question_a0 := some nd) (parts_question_a0 := some po) (letters_question_a0 := some d) e_so e_qo e_a ?_
        have hbe_15 : (¬ (0 : Int32) = 0) ↔ (bb = true ∧ i + 1 = vz) := ⟨fun q => absurd rfl q, fun q => absurd (by rw [← q.2]; exact (nI_pred i).symm) z_13⟩
        rw [nI_add, nI_add]
        refine x_callV (As := [.int (nI (u + i)), .ref x, .int (nI (pl + i)), .int 0]) (b := tk) (rest := []) (F1 := 2) (L1 := 41) (mc := 0) (ms := 0) d_Standing_standsAt_58 cV_Standing_74 (g_fits T_ X (by omega) (by omega) (by omega) (by omega)) e_tk ⟨by decide, rfl⟩ ⟨by omega, by show 8 + (8 + 11) + 41 ≤ _; omega⟩ ⟨by omega, by omega⟩ (Nat.le_of_ble_eq_true rfl) (fun v_20 h_19 p_21 => ?_)
        obtain ⟨⟨c_16, rfl, hc_17, ft_18⟩, rfl⟩ := p_21
        refine x_le (xw_le_s (xw_le_s (xw_le_s (xw_le_s (xw_le_s (xw_le_n xw_le_e)))))) ?_
        refine s_Standing_standsAt_61 (fun z_22 => ?_) (fun z_23 => ?_)
        · skip
          refine s_Standing_standsAt_66 ?_
          simp only [nI_1]
          exact ih (i + 1) (by omega) (fun k hk w9 x9 q1 q2 => by by_cases q : k = i; (rw [q] at q1 q2 ⊢; exact (FtW.cg hbe_15).mp ((fit_W ft_18 TW1 TW2 hW hW2 q1 q2).mp (hc_17.resolve_left z_22))); (exact hp k (by omega) w9 x9 q1 q2))
        · skip
          refine s_Standing_standsAt_64 ?_
          refine kk _ (Or.inl ⟨rfl, fun S9 => ?_⟩)
          have g1 : u + i < ws.length := by rw [← TW1.1]; omega
          have g2 : pl + i < T.length := by rw [← TW2.1]; omega
          have q9 := (fit_W ft_18 TW1 TW2 hW hW2 (List.getElem?_eq_getElem g1) (List.getElem?_eq_getElem g2)).mpr ((FtW.cg hbe_15).mpr (S9 i (by omega) _ _ (List.getElem?_eq_getElem g1) (List.getElem?_eq_getElem g2)))
          rw [z_23] at q9
          exact absurd q9 (by decide)
      · skip
        refine s_Standing_standsAt_30 ?_
        refine s_Standing_standsAt_35 (places_a0 := some sp) (tokens_question_a0 := some tk) (phrases_question_a0 := some ph) (nodes_question_a0 := some nd) (parts_question_a0 := some po) (letters_question_a0 := some d) e_so e_qo e_a ?_
        have hbe_24 : (¬ (1 : Int32) = 0) ↔ (bb = true ∧ i + 1 = vz) := ⟨fun _ => ⟨b01_t (by rw [← hbb]; exact z_3), by have q := z_14; rw [show (1 : Int32) = nI 1 from rfl, pk_sub (by omega)] at q; have := (nI_eq (by omega) (by omega)).mp q; omega⟩, fun _ => by decide⟩
        rw [nI_add, nI_add]
        refine x_callV (As := [.int (nI (u + i)), .ref x, .int (nI (pl + i)), .int 1]) (b := tk) (rest := []) (F1 := 2) (L1 := 41) (mc := 0) (ms := 0) d_Standing_standsAt_58 cV_Standing_74 (g_fits T_ X (by omega) (by omega) (by omega) (by omega)) e_tk ⟨by decide, rfl⟩ ⟨by omega, by show 8 + (8 + 11) + 41 ≤ _; omega⟩ ⟨by omega, by omega⟩ (Nat.le_of_ble_eq_true rfl) (fun v_29 h_28 p_30 => ?_)
        obtain ⟨⟨c_25, rfl, hc_26, ft_27⟩, rfl⟩ := p_30
        refine x_le (xw_le_s (xw_le_s (xw_le_s (xw_le_s (xw_le_s (xw_le_n xw_le_e)))))) ?_
        refine s_Standing_standsAt_61 (fun z_31 => ?_) (fun z_32 => ?_)
        · skip
          refine s_Standing_standsAt_66 ?_
          simp only [nI_1]
          exact ih (i + 1) (by omega) (fun k hk w9 x9 q1 q2 => by by_cases q : k = i; (rw [q] at q1 q2 ⊢; exact (FtW.cg hbe_24).mp ((fit_W ft_27 TW1 TW2 hW hW2 q1 q2).mp (hc_26.resolve_left z_31))); (exact hp k (by omega) w9 x9 q1 q2))
        · skip
          refine s_Standing_standsAt_64 ?_
          refine kk _ (Or.inl ⟨rfl, fun S9 => ?_⟩)
          have g1 : u + i < ws.length := by rw [← TW1.1]; omega
          have g2 : pl + i < T.length := by rw [← TW2.1]; omega
          have q9 := (fit_W ft_27 TW1 TW2 hW hW2 (List.getElem?_eq_getElem g1) (List.getElem?_eq_getElem g2)).mpr ((FtW.cg hbe_24).mpr (S9 i (by omega) _ _ (List.getElem?_eq_getElem g1) (List.getElem?_eq_getElem g2)))
          rw [z_32] at q9
          exact absurd q9 (by decide)
set_option maxHeartbeats 400000 in
theorem g_standsAtH {G : xw_G} {F L : Nat} {h : xw_A} {qo tk tl tz ph nd po k1 k2 k3 d ln c : Nat} {fk fs fe fd : Nat → Int32} {fp fn : Nat → Option Nat} {p nn n t : Nat} {wp : Int32} {f g : Nat → Int32} (K : QuC qo tk tl tz ph nd po k1 k2 k3 d ln c fk fs fe fd fp fn p nn n t wp f g h) {so sp : Nat} {pf : Nat → Int32} (e_so : h so = some (.inr (7, [.ref sp, .ref qo]))) (e_sp : h sp = some (.inl (0, 576, .inl pf))) {a u vz : Nat} {b : Int32} {bb : Bool} (e_a : h a = some (.inr (4, [.int (nI u), .int (nI vz), .int b]))) (huv : u + vz ≤ n) (hbb : b = b01 bb) {x xl xz m2 k2 n2 : Nat} {f2 g2 : Nat → Int32} (X : TokC x xl xz m2 k2 n2 f2 g2 h) {ws T : List (List Int32)} {W W2 : Nat} (TW1 : TkW ws n W f g) (TW2 : TkW T n2 W2 f2 g2) (hW : W ≤ 96) (hW2 : W2 ≤ 96) {pl : Nat} (hpl : pl + vz ≤ n2) (hF : 3 ≤ F) (hL : 68 ≤ L) :
    xw_Met G m_Standing_standsAt F L 0 0 [.ref so, .ref a, .ref x, .int (nI pl)] h (fun v h' => (∃ y : Int32, v = some (.int y) ∧ ((y = 0 ∧ ¬ SdA ws u vz bb T pl) ∨ (y = 1 ∧ SdA ws u vz bb T pl))) ∧ h = h') (fun _ _ => False) := by
  refine xw_Met.of rfl (by decide) (Nat.le_of_ble_eq_true rfl) ?_
  refine s_Standing_standsAt_0 ?_
  exact lp_standsAtH K e_so e_sp e_a huv hbb X TW1 TW2 hW hW2 hpl (by omega) (by omega) (fun y hy => ⟨⟨y, rfl, hy⟩, rfl⟩) vz 0 (Nat.zero_add _) (fun k hk => absurd hk (Nat.not_lt_zero _))
set_option maxHeartbeats 1000000 in
theorem lp_placesInH {G : xw_G} {F L bc bs : Nat} {pr : Option Value → xw_A → Prop} {px : String → xw_A → Prop} {h : xw_A} {qo tk tl tz ph nd po k1 k2 k3 d ln c : Nat} {fk fs fe fd : Nat → Int32} {fp fn : Nat → Option Nat} {p nn n t : Nat} {wp : Int32} {f g : Nat → Int32} (K : QuC qo tk tl tz ph nd po k1 k2 k3 d ln c fk fs fe fd fp fn p nn n t wp f g h) {so sp : Nat} {pf : Nat → Int32} (e_so : h so = some (.inr (7, [.ref sp, .ref qo]))) (e_sp : h sp = some (.inl (0, 576, .inl pf))) {a u vz : Nat} {b : Int32} {bb : Bool} (e_a : h a = some (.inr (4, [.int (nI u), .int (nI vz), .int b]))) (huv : u + vz ≤ n) (hbb : b = b01 bb) {x xl xz m2 k2 n2 : Nat} {f2 g2 : Nat → Int32} (X : TokC x xl xz m2 k2 n2 f2 g2 h) {ws T : List (List Int32)} {W W2 : Nat} (TW1 : TkW ws n W f g) (TW2 : TkW T n2 W2 f2 g2) (hW : W ≤ 96) (hW2 : W2 ≤ 96) (hn24 : n2 ≤ 24) (hv0 : 0 < vz) (hF : 4 ≤ F) (hL : 93 ≤ L) (kk : ∀ r : Int32, BW r (fun j => (j + vz ≤ n2 ∧ SdA ws u vz bb T j)) → pr (some (.int r)) h) :
    ∀ (dd i : Nat) (r : Int32), i + dd = (n2 + 1) → BW r (fun j => j < i ∧ (j + vz ≤ n2 ∧ SdA ws u vz bb T j)) → xw G m_Standing_placesIn F L bc bs pr px 12 [some (.ref so), some (.ref a), some (.ref x), some (.int r), some (.int (nI i))] [] h := by
  obtain ⟨e_qo, T_, e_ph, e_nd, P, hp, hnn, ht, Fp, Nd⟩ := id K
  obtain ⟨e_po, e_d, e_k1, e_k2, e_k3, hln, PF⟩ := id P
  have e_tk := T_.1
  have hc := PF.1
  have e_x := X.1
  have hn49 : n < 49 := T_.2.2.2.1
  have hn50 : n2 < 49 := by have h1 := X.2.2.2.1; have h2 := X.2.2.2.2.2.1; omega
  intro dd
  induction dd with
  | zero =>
    intro i r hi hp
    obtain rfl : i = (n2 + 1) := by omega
    refine s_Standing_placesIn_12 (letters_a2 := some xl) (starts_a2 := some xz) e_a e_x (fun z_1 => ?_) (fun z => absurd (by rw [nI_add]; exact nI_lt (by omega) (by omega)) z)
    refine s_Standing_placesIn_50 ?_
    refine kk _ (hp.congr (fun j _ => ⟨fun q => q.2, fun q => ⟨?_, q⟩⟩))
    have := q.1
    omega
  | succ dd ih =>
    intro i r hi hp
    refine s_Standing_placesIn_12 (letters_a2 := some xl) (starts_a2 := some xz) e_a e_x (fun z_1 => ?_) (fun z_2 => ?_)
    · skip
      refine s_Standing_placesIn_50 ?_
      refine kk _ (hp.congr (fun j _ => ⟨fun q => q.2, fun q => ⟨?_, q⟩⟩))
      have q9 : n2 < i + vz := by rw [nI_add] at z_1; exact (nI_ltI (by omega) (by omega)).mp z_1
      have := q.1
      omega
    · skip
      refine s_Standing_placesIn_26 ?_
      have hpl : i + vz ≤ n2 := Nat.le_of_not_lt (fun q => z_2 (by rw [nI_add]; exact nI_lt q (by omega)))
      refine x_callV (As := [.ref a, .ref x, .int (nI i)]) (b := so) (rest := []) (F1 := 3) (L1 := 68) (mc := 0) (ms := 0) d_Standing_placesIn_31 cV_Standing_59 (g_standsAtH K e_so e_sp e_a huv hbb X TW1 TW2 hW hW2 hpl (by omega) (by omega)) e_so ⟨by decide, rfl⟩ ⟨by omega, by show 8 + (6 + 11) + 68 ≤ _; omega⟩ ⟨by omega, by omega⟩ (Nat.le_of_ble_eq_true rfl) (fun v_6 h_5 p_7 => ?_)
      obtain ⟨⟨y_3, rfl, hy_4⟩, rfl⟩ := p_7
      refine s_Standing_placesIn_34 (fun z_8 => ?_) (fun z_9 => ?_)
      · skip
        refine s_Standing_placesIn_44 ?_
        simp only [nI_1]
        have hf_10 := (hy_4.resolve_right (fun q => absurd (q.1.symm.trans z_8) (by decide))).2
        exact ih (i + 1) _ (by omega) (hp.congr (fun j _ => ⟨fun q => ⟨by omega, q.2⟩, fun q => ⟨(Nat.lt_or_ge j i).elim id (fun z => absurd q.2.2 (by rw [show j = i by have := q.1; omega]; exact hf_10)), q.2⟩⟩))
      · skip
        refine s_Standing_placesIn_37 ?_
        refine s_Standing_placesIn_44 ?_
        simp only [nI_1]
        have hf_11 := (hy_4.resolve_left (fun q => z_9 q.1)).2
        exact ih (i + 1) _ (by omega) ((hp.set (n := i) (by omega)).congr (fun j _ => ⟨fun q => q.elim (fun q => ⟨by omega, q.2⟩) (fun q => ⟨by omega, by rw [q]; exact ⟨hpl, hf_11⟩⟩), fun q => (Nat.lt_or_ge j i).elim (fun z => Or.inl ⟨z, q.2⟩) (fun z => Or.inr (by have := q.1; omega))⟩))
set_option maxHeartbeats 400000 in
theorem g_placesInH {G : xw_G} {F L : Nat} {h : xw_A} {qo tk tl tz ph nd po k1 k2 k3 d ln c : Nat} {fk fs fe fd : Nat → Int32} {fp fn : Nat → Option Nat} {p nn n t : Nat} {wp : Int32} {f g : Nat → Int32} (K : QuC qo tk tl tz ph nd po k1 k2 k3 d ln c fk fs fe fd fp fn p nn n t wp f g h) {so sp : Nat} {pf : Nat → Int32} (e_so : h so = some (.inr (7, [.ref sp, .ref qo]))) (e_sp : h sp = some (.inl (0, 576, .inl pf))) {a u vz : Nat} {b : Int32} {bb : Bool} (e_a : h a = some (.inr (4, [.int (nI u), .int (nI vz), .int b]))) (huv : u + vz ≤ n) (hbb : b = b01 bb) {x xl xz m2 k2 n2 : Nat} {f2 g2 : Nat → Int32} (X : TokC x xl xz m2 k2 n2 f2 g2 h) {ws T : List (List Int32)} {W W2 : Nat} (TW1 : TkW ws n W f g) (TW2 : TkW T n2 W2 f2 g2) (hW : W ≤ 96) (hW2 : W2 ≤ 96) (hn24 : n2 ≤ 24) (hF : 4 ≤ F) (hL : 93 ≤ L) :
    xw_Met G m_Standing_placesIn F L 0 0 [.ref so, .ref a, .ref x] h (fun v h' => (∃ y : Int32, v = some (.int y) ∧ BW y (fun j => 0 < vz ∧ (j + vz ≤ n2 ∧ SdA ws u vz bb T j))) ∧ h = h') (fun _ _ => False) := by
  refine xw_Met.of rfl (by decide) (Nat.le_of_ble_eq_true rfl) ?_
  have e_x := X.1
  have hn49 : n < 49 := K.2.1.2.2.2.1
  refine s_Standing_placesIn_0 e_a (fun z_1 => ?_) (fun z_2 => ?_)
  · skip
    refine s_Standing_placesIn_50 ?_
    exact ⟨⟨_, rfl, BW.zero.congr (fun j _ => ⟨fun q => q.elim, fun q => absurd z_1 (nI_nle q.1 (by omega))⟩)⟩, rfl⟩
  · skip
    refine s_Standing_placesIn_9 ?_
    have hv0 : 0 < vz := Nat.pos_of_ne_zero (fun q => z_2 (by rw [q]; decide))
    exact lp_placesInH K e_so e_sp e_a huv hbb X TW1 TW2 hW hW2 hn24 hv0 (by omega) (by omega) (fun r hr => ⟨⟨r, rfl, hr.congr (fun j _ => ⟨fun q => ⟨hv0, q⟩, fun q => q.2⟩)⟩, rfl⟩) _ 0 0 (Nat.zero_add _) (BW.zero.congr (fun j _ => ⟨fun q => q.elim, fun q => absurd q.1 (Nat.not_lt_zero _)⟩))
set_option maxHeartbeats 400000 in
theorem g_textH {G : xw_G} {F L : Nat} {h : xw_A} {cc : Nat} (hcc : cc < 2) {a p q : Nat} {n r y : Int32} (e_a : h a = some (.inr (10, [.int n, .int r, .ref p, .ref q, .int y]))) (hF : 1 ≤ F) (hL : 20 ≤ L) :
    xw_Met G m_Version_text F L 0 0 [.ref a, .int (nI cc)] h (fun v h' => v = some (.ref (if cc = 0 then p else q)) ∧ h = h') (fun _ _ => False) := by
  refine xw_Met.of rfl (by decide) (Nat.le_of_ble_eq_true rfl) ?_
  refine s_Version_text_0 (fun z_1 => ?_) (fun z_2 => ?_)
  · skip
    refine s_Version_text_11 (first_a0 := some p) (second_a0 := some q) e_a ?_
    refine s_Version_text_15 (s0 := some q) ?_
    exact ⟨by rw [if_neg (fun q => z_1 (by rw [q]; rfl))]; rfl, rfl⟩
  · skip
    refine s_Version_text_4 (first_a0 := some p) (second_a0 := some q) e_a ?_
    refine s_Version_text_15 (s0 := some p) ?_
    exact ⟨by rw [if_pos ((nI_eq (b := 0) (by omega) (by decide)).mp z_2)]; rfl, rfl⟩
set_option maxHeartbeats 2000000 in
theorem lp_fill1H {G : xw_G} {F L bc bs : Nat} {pr : Option Value → xw_A → Prop} {px : String → xw_A → Prop} {qo tk tl tz ph nd po k1 k2 k3 d ln c : Nat} {fk fs fe fd : Nat → Int32} {fp fn : Nat → Option Nat} {p nn n t : Nat} {wp : Int32} {f g : Nat → Int32} {h0 : xw_A} {so sp : Nat} {pf0 : Nat → Int32} {sg : PSt} {nds : List NDt} {TW : Nat → Nat → List (List Int32)} (K0 : QuC qo tk tl tz ph nd po k1 k2 k3 d ln c fk fs fe fd fp fn p nn n t wp f g h0) (X0 : QuT fd ln c fk fs fe fp fn p nn n t f g sg ([]) nds h0) (hln9 : ln ≤ 96) (f_so : h0 so = some (.inr (7, [.ref sp, .ref qo]))) (f_sp : h0 sp = some (.inl (0, 576, .inl pf0))) {AL : List Nat} {st s1 s2 s3 s4 : Nat} {er ep es el : Nat → Option Nat} {pc sc lc : Nat} {pe vm sm : Int32} (KS0 : StoC AL st s1 s2 s3 s4 er ep es el pc sc lc pe vm sm h0) (hspA : sp ∈ AL) (hV : ∀ r, 1 ≤ r → r ≤ 24 → ∀ b, er r = some b → VrX AL h0 b (TW r 0) (TW r 1)) {a r : Nat} {o : Option Nat} (hap : a < p) (hr1 : 1 ≤ r) (hr2 : r ≤ 24) (ho : o = er r) (hF : 5 ≤ F) (hL : 117 ≤ L) (kk : ∀ (h : xw_A) (pf : Nat → Int32), h sp = some (.inl (0, 576, .inl pf)) → FLs (QP fd sg.2.1 TW er) pf ((a * 24 + r - 1) * 2 + 2) → FrO [sp] h0 h → xw G m_Standing_fill F L bc bs pr px 91 [some (.ref so), some (.ref qo), some (.ref st), some (.int (nI a)), some (.int (nI r)), none, none, none] [] h) :
    ∀ (dd i : Nat) (h : xw_A) (pf : Nat → Int32), i + dd = 2 → h sp = some (.inl (0, 576, .inl pf)) → FLs (QP fd sg.2.1 TW er) pf ((a * 24 + r - 1) * 2 + i) → FrO [sp] h0 h → xw G m_Standing_fill F L bc bs pr px 36 [some (.ref so), some (.ref qo), some (.ref st), some (.int (nI a)), some (.int (nI r)), some (va_rf o), some (.int (nI i)), none] [] h := by
  intro dd
  induction dd with
  | zero =>
    intro i h pf hi e_sp FL r0
    obtain rfl : i = 2 := by omega
    have K := K0.frP r0 f_sp
    have e_so := r0 so _ (nm1 (xw_neC f_so f_sp (by simp))) f_so
    have KS := KS0.fr r0 (suC hspA suN) ⟨nm1 (xw_neC KS0.1 f_sp (by simp)), nm1 (xw_neC KS0.2.1 f_sp (by simp)), nm1 (xw_neC KS0.2.2.1 f_sp (by simp)), nm1 (xw_neC KS0.2.2.2.1 f_sp (by simp)), nm1 (xw_neC KS0.2.2.2.2.1 f_sp (by simp))⟩ (exC e_sp exN)
    have e_st := KS.1
    obtain ⟨e_qo, T, e_ph, e_nd, P, hp, hnn, ht, Fp, Nd⟩ := id K
    obtain ⟨e_po, e_d, e_k1, e_k2, e_k3, hln, PF⟩ := id P
    have e_tk := T.1
    have hc := PF.1
    refine s_Standing_fill_36 (r5 := o) (fun z_1 => ?_) (fun z => absurd z (by decide))
    exact kk _ _ e_sp FL r0
  | succ dd ih =>
    intro i h pf hi e_sp FL r0
    have K := K0.frP r0 f_sp
    have e_so := r0 so _ (nm1 (xw_neC f_so f_sp (by simp))) f_so
    have KS := KS0.fr r0 (suC hspA suN) ⟨nm1 (xw_neC KS0.1 f_sp (by simp)), nm1 (xw_neC KS0.2.1 f_sp (by simp)), nm1 (xw_neC KS0.2.2.1 f_sp (by simp)), nm1 (xw_neC KS0.2.2.2.1 f_sp (by simp)), nm1 (xw_neC KS0.2.2.2.2.1 f_sp (by simp))⟩ (exC e_sp exN)
    have e_st := KS.1
    obtain ⟨e_qo, T, e_ph, e_nd, P, hp, hnn, ht, Fp, Nd⟩ := id K
    obtain ⟨e_po, e_d, e_k1, e_k2, e_k3, hln, PF⟩ := id P
    have e_tk := T.1
    have hc := PF.1
    refine s_Standing_fill_36 (r5 := o) (fun z => absurd z (nI_ge (b := 2) (show i < 2 by omega) (by decide))) (fun z_1 => ?_)
    refine s_Standing_fill_42 (r5 := o) (fun z_2 => ?_) (fun a_3 z_4 => ?_)
    · skip
      refine s_Standing_fill_47 (r5 := o) ?_
      refine s_Standing_fill_68 (r5 := o) (places_a0 := some sp) (question_a0 := some qo) e_so ?_
      refine x_callS (As := [.int (nI a), .int (nI r), .int (nI i)]) (rest := [.ref sp]) (F1 := 1) (L1 := 20) (mc := 0) (ms := 0) d_Standing_fill_79 cS_Standing_45 (g_index (show 1 ≤ r by omega) (by omega) (by omega)) ⟨by omega, by show 8 + (3 + 11) + 20 ≤ _; omega⟩ ⟨by omega, by omega⟩ (Nat.le_of_ble_eq_true rfl) (fun v_6 h_5 p_7 => ?_)
      obtain ⟨rfl, rfl⟩ := p_7
      refine s_Standing_fill_82 (r5 := o) e_sp (vp_in_nI (by omega) (by decide)) ?_
      refine x_u1 (fun h_8 e_9 f_10 => ?_)
      have e_11 := (f_10 qo (xw_neC e_qo e_sp (by simp))).trans e_qo
      have e_12 := (f_10 tk (xw_neC e_tk e_sp (by simp))).trans e_tk
      have e_13 := (f_10 ph (xw_neC e_ph e_sp (by simp))).trans e_ph
      have e_14 := (f_10 nd (xw_neC e_nd e_sp (by simp))).trans e_nd
      have e_15 := (f_10 po (xw_neC e_po e_sp (by simp))).trans e_po
      have e_16 := (f_10 d (xw_neC e_d e_sp (by simp))).trans e_d
      have e_17 := (f_10 k1 (xw_neC e_k1 e_sp (by simp))).trans e_k1
      have e_18 := (f_10 k2 (xw_neC e_k2 e_sp (by simp))).trans e_k2
      have e_19 := (f_10 k3 (xw_neC e_k3 e_sp (by simp))).trans e_k3
      have e_20 := (f_10 so (xw_neC e_so e_sp (by simp))).trans e_so
      have e_21 := (f_10 st (xw_neC e_st e_sp (by simp))).trans e_st
      have r_22 := r0.up (by simp) f_10
      rw [nI_clamp (show (a * 24 + r - 1) * 2 + i < 2 ^ 31 by omega)] at e_9
      rw [nI_1]
      exact ih (i + 1) _ _ (by omega) e_9 (FL.step hr1 hr2 (by omega) (QP.no (ho.symm.trans z_2))) r_22
    · skip
      refine s_Standing_fill_51 (r5 := o) (tokens_a1 := some tk) (nodes_a1 := some nd) (parts_a1 := some po) (letters_a1 := some d) e_qo e_ph (vp_in_nI (by omega) (by omega)) ?_
      have her : er r = some a_3 := ho.symm.trans z_4
      obtain ⟨-, vn, ve, vr, vp, vq, ev, tp, tq⟩ := (hV r hr1 hr2 _ her).fr r0 (suC hspA suN)
      have hxl : a < sg.2.1.length := by rw [← X0.2.2.1]; exact hap
      obtain ⟨xp, hxp⟩ : ∃ xp, sg.2.1[a]? = some xp := ⟨_, List.getElem?_eq_getElem hxl⟩
      obtain ⟨pa, ea1, ea0⟩ := X0.2.2.2.2.2.2.2.2.1 a xp hxp
      have ea2 := r0 pa _ (nm1 (xw_neC ea0 f_sp (by simp))) ea0
      rw [z_4, nI_clamp (by omega), ea1]
      refine x_callV (As := [.int (nI i)]) (b := a_3) (rest := [.ref pa, .ref so]) (F1 := 1) (L1 := 20) (mc := 0) (ms := 0) d_Standing_fill_62 cV_Standing_35 (g_textH (show i < 2 by omega) ev (by omega) (by omega)) ev ⟨by decide, rfl⟩ ⟨by omega, by show 8 + (2 + 11) + 20 ≤ _; omega⟩ ⟨by omega, by omega⟩ (Nat.le_of_ble_eq_true rfl) (fun v_24 h_23 p_25 => ?_)
      obtain ⟨rfl, rfl⟩ := p_25
      obtain ⟨tx, htx, hTX⟩ : ∃ tx, tx = (if i = 0 then vp else vq) ∧ TkX AL h tx (TW r i) := ⟨_, rfl, by rcases (show i = 0 ∨ i = 1 by omega) with q | q; (rw [q, if_pos rfl]; exact tp); (rw [q, if_neg (by decide)]; exact tq)⟩
      rw [← htx]
      obtain ⟨-, hT24, xl, xz, xm, xk, xn, xW, xf, xg, -, -, Xt, TWx, hWx⟩ := hTX
      obtain ⟨W0, TW0, hW0⟩ := X0.2.2.2.2.2.2.1
      rw [List.append_nil] at TW0
      have hW9 : W0 ≤ 96 := by have := wN_le fd sg.1; have := X0.2.1; have := pls_le fd ln t; omega
      have huv : (wds fd (spn (sg.2.1.take a))).length + (wds fd xp.1).length ≤ n := by rw [TW0.1]; exact spn_take hxp
      have hx24 : xn ≤ 24 := by rw [TWx.1]; exact hT24
      refine x_callV (As := [.ref pa, .ref tx]) (b := so) (rest := []) (F1 := 4) (L1 := 93) (mc := 0) (ms := 0) d_Standing_fill_65 cV_Standing_41 (g_placesInH K e_so e_sp ea2 huv rfl Xt TW0 TWx hW9 hWx hx24 (by omega) (by omega)) e_so ⟨by decide, rfl⟩ ⟨by omega, by show 8 + (5 + 11) + 93 ≤ _; omega⟩ ⟨by omega, by omega⟩ (Nat.le_of_ble_eq_true rfl) (fun v_29 h_28 p_30 => ?_)
      obtain ⟨⟨y_26, rfl, hy_27⟩, rfl⟩ := p_30
      refine s_Standing_fill_68 (r5 := some a_3) (places_a0 := some sp) (question_a0 := some qo) e_so ?_
      refine x_callS (As := [.int (nI a), .int (nI r), .int (nI i)]) (rest := [.ref sp]) (F1 := 1) (L1 := 20) (mc := 0) (ms := 0) d_Standing_fill_79 cS_Standing_45 (g_index (show 1 ≤ r by omega) (by omega) (by omega)) ⟨by omega, by show 8 + (3 + 11) + 20 ≤ _; omega⟩ ⟨by omega, by omega⟩ (Nat.le_of_ble_eq_true rfl) (fun v_32 h_31 p_33 => ?_)
      obtain ⟨rfl, rfl⟩ := p_33
      refine s_Standing_fill_82 (r5 := some a_3) e_sp (vp_in_nI (by omega) (by decide)) ?_
      refine x_u1 (fun h_34 e_35 f_36 => ?_)
      have e_37 := (f_36 qo (xw_neC e_qo e_sp (by simp))).trans e_qo
      have e_38 := (f_36 tk (xw_neC e_tk e_sp (by simp))).trans e_tk
      have e_39 := (f_36 ph (xw_neC e_ph e_sp (by simp))).trans e_ph
      have e_40 := (f_36 nd (xw_neC e_nd e_sp (by simp))).trans e_nd
      have e_41 := (f_36 po (xw_neC e_po e_sp (by simp))).trans e_po
      have e_42 := (f_36 d (xw_neC e_d e_sp (by simp))).trans e_d
      have e_43 := (f_36 k1 (xw_neC e_k1 e_sp (by simp))).trans e_k1
      have e_44 := (f_36 k2 (xw_neC e_k2 e_sp (by simp))).trans e_k2
      have e_45 := (f_36 k3 (xw_neC e_k3 e_sp (by simp))).trans e_k3
      have e_46 := (f_36 so (xw_neC e_so e_sp (by simp))).trans e_so
      have e_47 := (f_36 st (xw_neC e_st e_sp (by simp))).trans e_st
      have r_48 := r0.up (by simp) f_36
      rw [← z_4]
      rw [nI_clamp (show (a * 24 + r - 1) * 2 + i < 2 ^ 31 by omega)] at e_35
      rw [nI_1]
      exact ih (i + 1) _ _ (by omega) e_35 (FL.step hr1 hr2 (by omega) (QP.yes her hxp TWx.1 hy_27)) r_48
set_option maxHeartbeats 2000000 in
theorem lp_fill2H {G : xw_G} {F L bc bs : Nat} {pr : Option Value → xw_A → Prop} {px : String → xw_A → Prop} {qo tk tl tz ph nd po k1 k2 k3 d ln c : Nat} {fk fs fe fd : Nat → Int32} {fp fn : Nat → Option Nat} {p nn n t : Nat} {wp : Int32} {f g : Nat → Int32} {h0 : xw_A} {so sp : Nat} {pf0 : Nat → Int32} {sg : PSt} {nds : List NDt} {TW : Nat → Nat → List (List Int32)} (K0 : QuC qo tk tl tz ph nd po k1 k2 k3 d ln c fk fs fe fd fp fn p nn n t wp f g h0) (X0 : QuT fd ln c fk fs fe fp fn p nn n t f g sg ([]) nds h0) (hln9 : ln ≤ 96) (f_so : h0 so = some (.inr (7, [.ref sp, .ref qo]))) (f_sp : h0 sp = some (.inl (0, 576, .inl pf0))) {AL : List Nat} {st s1 s2 s3 s4 : Nat} {er ep es el : Nat → Option Nat} {pc sc lc : Nat} {pe vm sm : Int32} (KS0 : StoC AL st s1 s2 s3 s4 er ep es el pc sc lc pe vm sm h0) (hspA : sp ∈ AL) (hV : ∀ r, 1 ≤ r → r ≤ 24 → ∀ b, er r = some b → VrX AL h0 b (TW r 0) (TW r 1)) {a : Nat} (hap : a < p) (hF : 5 ≤ F) (hL : 117 ≤ L) (kk : ∀ (h : xw_A) (pf : Nat → Int32), h sp = some (.inl (0, 576, .inl pf)) → FLs (QP fd sg.2.1 TW er) pf ((a * 24 + 24) * 2) → FrO [sp] h0 h → xw G m_Standing_fill F L bc bs pr px 97 [some (.ref so), some (.ref qo), some (.ref st), some (.int (nI a)), none, none, none, none] [] h) :
    ∀ (dd i : Nat) (h : xw_A) (pf : Nat → Int32), i + dd = 25 → 1 ≤ i → h sp = some (.inl (0, 576, .inl pf)) → FLs (QP fd sg.2.1 TW er) pf ((a * 24 + i - 1) * 2) → FrO [sp] h0 h → xw G m_Standing_fill F L bc bs pr px 18 [some (.ref so), some (.ref qo), some (.ref st), some (.int (nI a)), some (.int (nI i)), none, none, none] [] h := by
  intro dd
  induction dd with
  | zero =>
    intro i h pf hi h1i e_sp FL r0
    obtain rfl : i = 25 := by omega
    have K := K0.frP r0 f_sp
    have e_so := r0 so _ (nm1 (xw_neC f_so f_sp (by simp))) f_so
    have KS := KS0.fr r0 (suC hspA suN) ⟨nm1 (xw_neC KS0.1 f_sp (by simp)), nm1 (xw_neC KS0.2.1 f_sp (by simp)), nm1 (xw_neC KS0.2.2.1 f_sp (by simp)), nm1 (xw_neC KS0.2.2.2.1 f_sp (by simp)), nm1 (xw_neC KS0.2.2.2.2.1 f_sp (by simp))⟩ (exC e_sp exN)
    have e_st := KS.1
    obtain ⟨e_qo, T, e_ph, e_nd, P, hp, hnn, ht, Fp, Nd⟩ := id K
    obtain ⟨e_po, e_d, e_k1, e_k2, e_k3, hln, PF⟩ := id P
    have e_tk := T.1
    have hc := PF.1
    refine s_Standing_fill_18 (fun z_1 => ?_) (fun z => absurd (by decide) z)
    exact kk _ _ e_sp (FL.cg (by omega)) r0
  | succ dd ih =>
    intro i h pf hi h1i e_sp FL r0
    have K := K0.frP r0 f_sp
    have e_so := r0 so _ (nm1 (xw_neC f_so f_sp (by simp))) f_so
    have KS := KS0.fr r0 (suC hspA suN) ⟨nm1 (xw_neC KS0.1 f_sp (by simp)), nm1 (xw_neC KS0.2.1 f_sp (by simp)), nm1 (xw_neC KS0.2.2.1 f_sp (by simp)), nm1 (xw_neC KS0.2.2.2.1 f_sp (by simp)), nm1 (xw_neC KS0.2.2.2.2.1 f_sp (by simp))⟩ (exC e_sp exN)
    have e_st := KS.1
    obtain ⟨e_qo, T, e_ph, e_nd, P, hp, hnn, ht, Fp, Nd⟩ := id K
    obtain ⟨e_po, e_d, e_k1, e_k2, e_k3, hln, PF⟩ := id P
    have e_tk := T.1
    have hc := PF.1
    refine s_Standing_fill_18 (fun z => absurd z (nI_nlt (a := 24) (show i ≤ 24 by omega) (by decide))) (fun z_1 => ?_)
    refine s_Standing_fill_25 ?_
    refine x_callV (As := [.int (nI i)]) (b := st) (rest := []) (F1 := 1) (L1 := 20) (mc := 0) (ms := 0) d_Standing_fill_28 cV_Standing_25 (g_versionOf KS (by omega) (by omega)) e_st ⟨by decide, rfl⟩ ⟨by omega, by show 8 + (2 + 11) + 20 ≤ _; omega⟩ ⟨by omega, by omega⟩ (Nat.le_of_ble_eq_true rfl) (fun v_6 h_5 p_7 => ?_)
    obtain ⟨⟨o_2, rfl, ho_3, he_4⟩, rfl⟩ := p_7
    refine s_Standing_fill_31 (s0 := o_2) ?_
    refine lp_fill1H (h0 := h) K (X0.fr r0 (fun _ _ ha => nm1 (xw_neC ha f_sp (by simp))) (fun _ _ ha => nm1 (xw_neC ha f_sp (by simp)))) hln9 e_so e_sp KS hspA (fun r9 q1 q2 b9 q3 => (hV r9 q1 q2 b9 q3).fr r0 (suC hspA suN)) hap (show 1 ≤ i by omega) (show i ≤ 24 by omega) (he_4 i (by omega) (by omega) rfl) (by omega) (by omega) (fun h_8 pf_9 e_10 FL_11 r_12 => ?_) 2 0 _ _ rfl e_sp (FL.cg (by omega)) FrO.rf
    have r_13 := r0.trans r_12
    refine s_Standing_fill_91 ?_
    rw [nI_1]
    exact ih (i + 1) _ _ (by omega) (by omega) e_10 (FL_11.cg (by omega)) r_13
set_option maxHeartbeats 2000000 in
theorem lp_fill3H {G : xw_G} {F L bc bs : Nat} {pr : Option Value → xw_A → Prop} {px : String → xw_A → Prop} {qo tk tl tz ph nd po k1 k2 k3 d ln c : Nat} {fk fs fe fd : Nat → Int32} {fp fn : Nat → Option Nat} {p nn n t : Nat} {wp : Int32} {f g : Nat → Int32} {h0 : xw_A} {so sp : Nat} {pf0 : Nat → Int32} {sg : PSt} {nds : List NDt} {TW : Nat → Nat → List (List Int32)} (K0 : QuC qo tk tl tz ph nd po k1 k2 k3 d ln c fk fs fe fd fp fn p nn n t wp f g h0) (X0 : QuT fd ln c fk fs fe fp fn p nn n t f g sg ([]) nds h0) (hln9 : ln ≤ 96) (f_so : h0 so = some (.inr (7, [.ref sp, .ref qo]))) (f_sp : h0 sp = some (.inl (0, 576, .inl pf0))) {AL : List Nat} {st s1 s2 s3 s4 : Nat} {er ep es el : Nat → Option Nat} {pc sc lc : Nat} {pe vm sm : Int32} (KS0 : StoC AL st s1 s2 s3 s4 er ep es el pc sc lc pe vm sm h0) (hspA : sp ∈ AL) (hV : ∀ r, 1 ≤ r → r ≤ 24 → ∀ b, er r = some b → VrX AL h0 b (TW r 0) (TW r 1)) (hF : 5 ≤ F) (hL : 117 ≤ L) (kk : ∀ (h : xw_A) (pf : Nat → Int32), h sp = some (.inl (0, 576, .inl pf)) → FLs (QP fd sg.2.1 TW er) pf (p * 48) → FrO [sp] h0 h → pr none h) :
    ∀ (dd i : Nat) (h : xw_A) (pf : Nat → Int32), i + dd = p → h sp = some (.inl (0, 576, .inl pf)) → FLs (QP fd sg.2.1 TW er) pf (i * 48) → FrO [sp] h0 h → xw G m_Standing_fill F L bc bs pr px 7 [some (.ref so), some (.ref qo), some (.ref st), some (.int (nI i)), none, none, none, none] [] h := by
  intro dd
  induction dd with
  | zero =>
    intro i h pf hi e_sp FL r0
    obtain rfl : i = p := by omega
    have K := K0.frP r0 f_sp
    have e_so := r0 so _ (nm1 (xw_neC f_so f_sp (by simp))) f_so
    have KS := KS0.fr r0 (suC hspA suN) ⟨nm1 (xw_neC KS0.1 f_sp (by simp)), nm1 (xw_neC KS0.2.1 f_sp (by simp)), nm1 (xw_neC KS0.2.2.1 f_sp (by simp)), nm1 (xw_neC KS0.2.2.2.1 f_sp (by simp)), nm1 (xw_neC KS0.2.2.2.2.1 f_sp (by simp))⟩ (exC e_sp exN)
    have e_st := KS.1
    obtain ⟨e_qo, T, e_ph, e_nd, P, hp, hnn, ht, Fp, Nd⟩ := id K
    obtain ⟨e_po, e_d, e_k1, e_k2, e_k3, hln, PF⟩ := id P
    have e_tk := T.1
    have hc := PF.1
    refine s_Standing_fill_7 (tokens_a1 := some tk) (phrases_a1 := some ph) (nodes_a1 := some nd) (parts_a1 := some po) (letters_a1 := some d) e_qo (fun z_1 => ?_) (fun z => absurd (nI_le (Nat.le_refl _) (by omega)) z)
    refine s_Standing_fill_103 ?_
    exact kk _ _ e_sp FL r0
  | succ dd ih =>
    intro i h pf hi e_sp FL r0
    have K := K0.frP r0 f_sp
    have e_so := r0 so _ (nm1 (xw_neC f_so f_sp (by simp))) f_so
    have KS := KS0.fr r0 (suC hspA suN) ⟨nm1 (xw_neC KS0.1 f_sp (by simp)), nm1 (xw_neC KS0.2.1 f_sp (by simp)), nm1 (xw_neC KS0.2.2.1 f_sp (by simp)), nm1 (xw_neC KS0.2.2.2.1 f_sp (by simp)), nm1 (xw_neC KS0.2.2.2.2.1 f_sp (by simp))⟩ (exC e_sp exN)
    have e_st := KS.1
    obtain ⟨e_qo, T, e_ph, e_nd, P, hp, hnn, ht, Fp, Nd⟩ := id K
    obtain ⟨e_po, e_d, e_k1, e_k2, e_k3, hln, PF⟩ := id P
    have e_tk := T.1
    have hc := PF.1
    refine s_Standing_fill_7 (tokens_a1 := some tk) (phrases_a1 := some ph) (nodes_a1 := some nd) (parts_a1 := some po) (letters_a1 := some d) e_qo (fun z => absurd z (nI_ge (b := p) (show i < p by omega) (by omega))) (fun z_1 => ?_)
    refine s_Standing_fill_15 ?_
    refine lp_fill2H (h0 := h) K (X0.fr r0 (fun _ _ ha => nm1 (xw_neC ha f_sp (by simp))) (fun _ _ ha => nm1 (xw_neC ha f_sp (by simp)))) hln9 e_so e_sp KS hspA (fun r9 q1 q2 b9 q3 => (hV r9 q1 q2 b9 q3).fr r0 (suC hspA suN)) (show i < p by omega) (by omega) (by omega) (fun h_2 pf_3 e_4 FL_5 r_6 => ?_) 24 1 _ _ rfl (Nat.le_refl _) e_sp (FL.cg (by omega)) FrO.rf
    have r_7 := r0.trans r_6
    refine s_Standing_fill_97 ?_
    rw [nI_1]
    exact ih (i + 1) _ _ (by omega) e_4 (FL_5.cg (by omega)) r_7
set_option maxHeartbeats 1000000 in
theorem g_fillH {G : xw_G} {F L : Nat} {h : xw_A} {qo tk tl tz ph nd po k1 k2 k3 d ln c : Nat} {fk fs fe fd : Nat → Int32} {fp fn : Nat → Option Nat} {p nn n t : Nat} {wp : Int32} {f g : Nat → Int32} {so sp : Nat} {qq : Option Nat} {pf : Nat → Int32} {sg : PSt} {nds : List NDt} {TW : Nat → Nat → List (List Int32)} (K : QuC qo tk tl tz ph nd po k1 k2 k3 d ln c fk fs fe fd fp fn p nn n t wp f g h) (X : QuT fd ln c fk fs fe fp fn p nn n t f g sg ([]) nds h) (hln9 : ln ≤ 96) (e_so : h so = some (.inr (7, [.ref sp, va_rf qq]))) (e_sp : h sp = some (.inl (0, 576, .inl pf))) {AL : List Nat} {st s1 s2 s3 s4 : Nat} {er ep es el : Nat → Option Nat} {pc sc lc : Nat} {pe vm sm : Int32} (KS : StoC AL st s1 s2 s3 s4 er ep es el pc sc lc pe vm sm h) (hsA : so ∈ AL ∧ sp ∈ AL) (hV : ∀ r, 1 ≤ r → r ≤ 24 → ∀ b, er r = some b → VrX AL h b (TW r 0) (TW r 1)) (hF : 5 ≤ F) (hL : 117 ≤ L) :
    xw_Met G m_Standing_fill F L 0 0 [.ref so, .ref qo, .ref st] h (fun v h' => v = none ∧ h' so = some (.inr (7, [.ref sp, .ref qo])) ∧ (∃ pf' : Nat → Int32, h' sp = some (.inl (0, 576, .inl pf')) ∧ FLs (QP fd sg.2.1 TW er) pf' (p * 48)) ∧ FrO [so, sp] h h') (fun _ _ => False) := by
  refine xw_Met.of rfl (by decide) (Nat.le_of_ble_eq_true rfl) ?_
  refine s_Standing_fill_0 (places_a0 := some sp) (question_a0 := qq) e_so ?_
  refine x_u1 (fun h1 e1 f1 => ?_)
  have q1 : FrO [so] h h1 := FrO.rf.up (by simp) f1
  have n1 : sp ≠ so := xw_neC e_sp e_so (by simp)
  have e2 := (f1 _ n1).trans e_sp
  have K1 := K.fr7 q1 e_so
  have X1 := X.fr q1 (fun _ _ ha => nm1 (xw_neC ha e_so (by simp))) (fun _ _ ha => nm1 (xw_neC ha e_so (by simp)))
  have KS1 := KS.fr q1 (suC hsA.1 suN) ⟨nm1 (xw_neC KS.1 e_so (by simp)), nm1 (xw_neC KS.2.1 e_so (by simp)), nm1 (xw_neC KS.2.2.1 e_so (by simp)), nm1 (xw_neC KS.2.2.2.1 e_so (by simp)), nm1 (xw_neC KS.2.2.2.2.1 e_so (by simp))⟩ (exC e1 exN)
  exact lp_fill3H K1 X1 hln9 e1 e2 KS1 hsA.2 (fun r9 q2 q3 b9 q4 => (hV r9 q2 q3 b9 q4).fr q1 (suC hsA.1 suN)) (by omega) (by omega) (fun h2 pf2 e3 FL3 r3 => ⟨rfl, r3 so _ (nm1 (Ne.symm n1)) e1, ⟨pf2, e3, FL3⟩, (q1.mono (by simp)).trans (r3.mono (by simp))⟩) p 0 _ _ (Nat.zero_add _) e2 (fun p9 r9 c9 _ _ _ q9 => absurd q9 (by omega)) FrO.rf
