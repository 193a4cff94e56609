set_option maxHeartbeats 400000 in
theorem g_takesH {G : xw_G} {F L : Nat} {h : xw_A} {x : Int32} {qo tk tl tz ph nd po k1 k2 k3 d ln c : Nat} {fk fs fe fd : Nat → Int32} {fp fn : Nat → Option Nat} {p nn n t : Nat} {wp : Int32} {f g : Nat → Int32} (K : QuC qo tk tl tz ph nd po k1 k2 k3 d ln c fk fs fe fd fp fn p nn n t wp f g h) {s : PSt} {sp : List (Nat × Nat)} {nds : List NDt} (X : QuT fd ln c fk fs fe fp fn p nn n t f g s sp nds h) {v9 : Nat} (hv : x = nI v9) (hv1 : 2 ≤ v9) (hv2 : v9 ≤ 16) (hF : 2 ≤ F) (hL : 40 ≤ L) :
    xw_Met G m_Question_takes F L 0 0 [.ref qo, .int x] h (fun v h' => ∃ (b : Int32) (t' : Nat), v = some (.int b) ∧ ((b = 0 ∧ (¬ kdS fd ln s = v9 ∧ QuT fd ln c fk fs fe fp fn p nn n t' f g s sp nds h')) ∨ (b = 1 ∧ (kdS fd ln s = v9 ∧ QuT fd ln c fk fs fe fp fn p nn n t' f g (skS fd ln s) sp nds h'))) ∧ QuC qo tk tl tz ph nd po k1 k2 k3 d ln c fk fs fe fd fp fn p nn n t' wp f g h' ∧ FrO [qo] h h') (fun _ _ => False) := by
  refine xw_Met.of rfl (by decide) (Nat.le_of_ble_eq_true rfl) ?_
  obtain ⟨e_qo, T, e_ph, e_nd, P, hp, hnn, ht, Fp, Nd⟩ := id K
  obtain ⟨e_po, e_d, e_k1, e_k2, e_k3, hln, PF⟩ := id P
  have e_tk := T.1
  have hc := PF.1
  have r0 : FrO [qo] h h := FrO.rf
  refine s_Question_takes_0 ?_
  refine x_callV (As := []) (b := qo) (rest := []) (F1 := 1) (L1 := 20) (mc := 0) (ms := 0) d_Question_takes_1 cV_Question_69 (g_kind K (by omega) (by omega)) e_qo ⟨by decide, rfl⟩ ⟨by omega, by show 8 + (1 + 11) + 20 ≤ _; omega⟩ ⟨by omega, by omega⟩ (Nat.le_of_ble_eq_true rfl) (fun v_2 h_1 p_3 => ?_)
  obtain ⟨rfl, rfl⟩ := p_3
  refine s_Question_takes_4 (fun z_4 => ?_) (fun z_5 => ?_)
  · skip
    refine s_Question_takes_10 (tokens_a0 := some tk) (phrases_a0 := some ph) (nodes_a0 := some nd) (parts_a0 := some po) (letters_a0 := some d) e_qo ?_
    obtain ⟨h_6, z_9⟩ : ∃ z, z = xw_up h qo (.inr (5, [va_rf (some tk), va_rf (some ph), va_rf (some nd), .int (nI p), .int (nI nn), .int wp, va_rf (some po), va_rf (some d), .int ((nI t) + 1)])) := ⟨_, rfl⟩
    rw [← z_9]
    have e_7 : h_6 qo = some (.inr (5, [va_rf (some tk), va_rf (some ph), va_rf (some nd), .int (nI p), .int (nI nn), .int wp, va_rf (some po), va_rf (some d), .int ((nI t) + 1)])) := by rw [z_9]; exact xw_up_s _ _ _
    have f_8 : ∀ q, q ≠ qo → h_6 q = h q := fun q hq => by rw [z_9]; exact xw_up_n _ _ hq
    clear z_9
    have e_10 := (f_8 tk (xw_neC e_tk e_qo (by simp))).trans e_tk
    have e_11 := (f_8 ph (xw_neC e_ph e_qo (by simp))).trans e_ph
    have e_12 := (f_8 nd (xw_neC e_nd e_qo (by simp))).trans e_nd
    have e_13 := (f_8 po (xw_neC e_po e_qo (by simp))).trans e_po
    have e_14 := (f_8 d (xw_neC e_d e_qo (by simp))).trans e_d
    have e_15 := (f_8 k1 (xw_neC e_k1 e_qo (by simp))).trans e_k1
    have e_16 := (f_8 k2 (xw_neC e_k2 e_qo (by simp))).trans e_k2
    have e_17 := (f_8 k3 (xw_neC e_k3 e_qo (by simp))).trans e_k3
    have r_18 := r0.up (by simp) f_8
    rw [nI_1] at e_7
    have hkd : kdS fd ln s = v9 := (X.kv ht (by omega)).mp (z_4.trans hv)
    exact ⟨1, t + 1, rfl, Or.inr ⟨rfl, hkd, X.next.q K.1 r_18⟩, K.q r_18 e_7 (PF.next ht (fun q => by have := (X.kv ht (v := 0) (by decide)).mp q; omega) (fun q => by have := (X.kv ht (v := 1) (by decide)).mp q; omega)), r_18⟩
  · skip
    refine s_Question_takes_8 ?_
    exact ⟨0, t, rfl, Or.inl ⟨rfl, fun q => z_5 (by rw [X.kd ht, hv, q]), X⟩, K, FrO.rf⟩
set_option maxHeartbeats 400000 in
theorem g_beginsDeeperH {G : xw_G} {F L : Nat} {h : xw_A} {qo tk tl tz ph nd po k1 k2 k3 d ln c : Nat} {fk fs fe fd : Nat → Int32} {fp fn : Nat → Option Nat} {p nn n t : Nat} {wp : Int32} {f g : Nat → Int32} (K : QuC qo tk tl tz ph nd po k1 k2 k3 d ln c fk fs fe fd fp fn p nn n t wp f g h) {s : PSt} {sp : List (Nat × Nat)} {nds : List NDt} (X : QuT fd ln c fk fs fe fp fn p nn n t f g s sp nds h) (hF : 2 ≤ F) (hL : 40 ≤ L) :
    xw_Met G m_Question_beginsDeeper F L 0 0 [.ref qo] h (fun v h' => ∃ b : Int32, v = some (.int b) ∧ ((b = 0 ∧ dpr (kdS fd ln s) = false) ∨ (b = 1 ∧ dpr (kdS fd ln s) = true)) ∧ h = h') (fun _ _ => False) := by
  refine xw_Met.of rfl (by decide) (Nat.le_of_ble_eq_true rfl) ?_
  obtain ⟨e_qo, T, e_ph, e_nd, P, hp, hnn, ht, Fp, Nd⟩ := id K
  obtain ⟨e_po, e_d, e_k1, e_k2, e_k3, hln, PF⟩ := id P
  have e_tk := T.1
  have hc := PF.1
  refine s_Question_beginsDeeper_0 ?_
  refine x_callV (As := []) (b := qo) (rest := []) (F1 := 1) (L1 := 20) (mc := 0) (ms := 0) d_Question_beginsDeeper_1 cV_Question_69 (g_kind K (by omega) (by omega)) e_qo ⟨by decide, rfl⟩ ⟨by omega, by show 8 + (1 + 11) + 20 ≤ _; omega⟩ ⟨by omega, by omega⟩ (Nat.le_of_ble_eq_true rfl) (fun v_2 h_1 p_3 => ?_)
  obtain ⟨rfl, rfl⟩ := p_3
  refine x_le (xw_le_n (xw_le_n xw_le_e)) ?_
  refine s_Question_beginsDeeper_4 (fun z_4 => ?_) (fun z_5 => ?_)
  · skip
    refine s_Question_beginsDeeper_22 ?_
    refine s_Question_beginsDeeper_27 rfl ?_
    exact ⟨1, rfl, Or.inr ⟨rfl, (dprI _ (kdS_le fd ln s)).mpr (by rw [← X.kd ht]; simp [z_4])⟩, rfl⟩
  · skip
    refine s_Question_beginsDeeper_11 (fun z_6 => ?_) (fun z_7 => ?_)
    · skip
      refine s_Question_beginsDeeper_22 ?_
      refine s_Question_beginsDeeper_27 rfl ?_
      exact ⟨1, rfl, Or.inr ⟨rfl, (dprI _ (kdS_le fd ln s)).mpr (by rw [← X.kd ht]; simp [z_5, z_6])⟩, rfl⟩
    · skip
      refine s_Question_beginsDeeper_17 (fun z_8 => ?_) (fun z_9 => ?_)
      · skip
        refine s_Question_beginsDeeper_26 ?_
        refine s_Question_beginsDeeper_27 rfl ?_
        exact ⟨0, rfl, Or.inl ⟨rfl, bF (fun q => absurd ((dprI _ (kdS_le fd ln s)).mp q) (by rw [← X.kd ht]; simp [z_5, z_7, z_8]))⟩, rfl⟩
      · skip
        refine s_Question_beginsDeeper_22 ?_
        refine s_Question_beginsDeeper_27 rfl ?_
        exact ⟨1, rfl, Or.inr ⟨rfl, (dprI _ (kdS_le fd ln s)).mpr (by rw [← X.kd ht]; simp [z_5, z_7, z_9])⟩, rfl⟩
set_option maxHeartbeats 400000 in
theorem g_beginsStringH {G : xw_G} {F L : Nat} {h : xw_A} {qo tk tl tz ph nd po k1 k2 k3 d ln c : Nat} {fk fs fe fd : Nat → Int32} {fp fn : Nat → Option Nat} {p nn n t : Nat} {wp : Int32} {f g : Nat → Int32} (K : QuC qo tk tl tz ph nd po k1 k2 k3 d ln c fk fs fe fd fp fn p nn n t wp f g h) {s : PSt} {sp : List (Nat × Nat)} {nds : List NDt} (X : QuT fd ln c fk fs fe fp fn p nn n t f g s sp nds h) (hF : 2 ≤ F) (hL : 40 ≤ L) :
    xw_Met G m_Question_beginsString F L 0 0 [.ref qo] h (fun v h' => ∃ b : Int32, v = some (.int b) ∧ ((b = 0 ∧ isS (kdS fd ln s) = false) ∨ (b = 1 ∧ isS (kdS fd ln s) = true)) ∧ h = h') (fun _ _ => False) := by
  refine xw_Met.of rfl (by decide) (Nat.le_of_ble_eq_true rfl) ?_
  obtain ⟨e_qo, T, e_ph, e_nd, P, hp, hnn, ht, Fp, Nd⟩ := id K
  obtain ⟨e_po, e_d, e_k1, e_k2, e_k3, hln, PF⟩ := id P
  have e_tk := T.1
  have hc := PF.1
  refine s_Question_beginsString_0 ?_
  refine x_callV (As := []) (b := qo) (rest := []) (F1 := 1) (L1 := 20) (mc := 0) (ms := 0) d_Question_beginsString_1 cV_Question_69 (g_kind K (by omega) (by omega)) e_qo ⟨by decide, rfl⟩ ⟨by omega, by show 8 + (1 + 11) + 20 ≤ _; omega⟩ ⟨by omega, by omega⟩ (Nat.le_of_ble_eq_true rfl) (fun v_2 h_1 p_3 => ?_)
  obtain ⟨rfl, rfl⟩ := p_3
  refine x_le (xw_le_n (xw_le_n xw_le_e)) ?_
  refine s_Question_beginsString_4 (fun z_4 => ?_) (fun z_5 => ?_)
  · skip
    refine s_Question_beginsString_15 ?_
    refine s_Question_beginsString_20 rfl ?_
    exact ⟨1, rfl, Or.inr ⟨rfl, (isSI _ (kdS_le fd ln s)).mpr (by rw [← X.kd ht]; simp [z_4])⟩, rfl⟩
  · skip
    refine s_Question_beginsString_10 (fun z_6 => ?_) (fun z_7 => ?_)
    · skip
      refine s_Question_beginsString_19 ?_
      refine s_Question_beginsString_20 rfl ?_
      exact ⟨0, rfl, Or.inl ⟨rfl, bF (fun q => absurd ((isSI _ (kdS_le fd ln s)).mp q) (by rw [← X.kd ht]; simp [z_5, z_6]))⟩, rfl⟩
    · skip
      refine s_Question_beginsString_15 ?_
      refine s_Question_beginsString_20 rfl ?_
      exact ⟨1, rfl, Or.inr ⟨rfl, (isSI _ (kdS_le fd ln s)).mpr (by rw [← X.kd ht]; simp [z_5, z_7])⟩, rfl⟩
set_option maxHeartbeats 400000 in
theorem g_beginsAtomH {G : xw_G} {F L : Nat} {h : xw_A} {qo tk tl tz ph nd po k1 k2 k3 d ln c : Nat} {fk fs fe fd : Nat → Int32} {fp fn : Nat → Option Nat} {p nn n t : Nat} {wp : Int32} {f g : Nat → Int32} (K : QuC qo tk tl tz ph nd po k1 k2 k3 d ln c fk fs fe fd fp fn p nn n t wp f g h) {s : PSt} {sp : List (Nat × Nat)} {nds : List NDt} (X : QuT fd ln c fk fs fe fp fn p nn n t f g s sp nds h) (hF : 3 ≤ F) (hL : 61 ≤ L) :
    xw_Met G m_Question_beginsAtom F L 0 0 [.ref qo] h (fun v h' => ∃ b : Int32, v = some (.int b) ∧ ((b = 0 ∧ bga (kdS fd ln s) = false) ∨ (b = 1 ∧ bga (kdS fd ln s) = true)) ∧ h = h') (fun _ _ => False) := by
  refine xw_Met.of rfl (by decide) (Nat.le_of_ble_eq_true rfl) ?_
  obtain ⟨e_qo, T, e_ph, e_nd, P, hp, hnn, ht, Fp, Nd⟩ := id K
  obtain ⟨e_po, e_d, e_k1, e_k2, e_k3, hln, PF⟩ := id P
  have e_tk := T.1
  have hc := PF.1
  refine s_Question_beginsAtom_0 ?_
  refine x_callV (As := []) (b := qo) (rest := []) (F1 := 1) (L1 := 20) (mc := 0) (ms := 0) d_Question_beginsAtom_1 cV_Question_69 (g_kind K (by omega) (by omega)) e_qo ⟨by decide, rfl⟩ ⟨by omega, by show 8 + (1 + 11) + 20 ≤ _; omega⟩ ⟨by omega, by omega⟩ (Nat.le_of_ble_eq_true rfl) (fun v_2 h_1 p_3 => ?_)
  obtain ⟨rfl, rfl⟩ := p_3
  refine s_Question_beginsAtom_4 ?_
  refine x_callV (As := []) (b := qo) (rest := []) (F1 := 2) (L1 := 40) (mc := 0) (ms := 0) d_Question_beginsAtom_6 cV_Question_106 (g_beginsDeeperH K X (by omega) (by omega)) e_qo ⟨by decide, rfl⟩ ⟨by omega, by show 8 + (2 + 11) + 40 ≤ _; omega⟩ ⟨by omega, by omega⟩ (Nat.le_of_ble_eq_true rfl) (fun v_7 h_6 p_8 => ?_)
  obtain ⟨b_4, rfl, hb_5, rfl⟩ := p_8
  refine s_Question_beginsAtom_9 (fun z_9 => ?_) (fun z_10 => ?_)
  · skip
    refine s_Question_beginsAtom_31 ?_
    refine s_Question_beginsAtom_36 rfl ?_
    have hf_11 := (hb_5.resolve_left (fun q => z_9 q.1)).2
    exact ⟨1, rfl, Or.inr ⟨rfl, (bgaI _ (kdS_le fd ln s)).mpr (by rw [← X.kd ht]; simp [hf_11])⟩, rfl⟩
  · skip
    refine s_Question_beginsAtom_12 ?_
    refine x_callV (As := []) (b := qo) (rest := []) (F1 := 2) (L1 := 40) (mc := 0) (ms := 0) d_Question_beginsAtom_13 cV_Question_109 (g_beginsStringH K X (by omega) (by omega)) e_qo ⟨by decide, rfl⟩ ⟨by omega, by show 8 + (2 + 11) + 40 ≤ _; omega⟩ ⟨by omega, by omega⟩ (Nat.le_of_ble_eq_true rfl) (fun v_15 h_14 p_16 => ?_)
    obtain ⟨b_12, rfl, hb_13, rfl⟩ := p_16
    refine x_le (xw_le_n (xw_le_s xw_le_e)) ?_
    refine s_Question_beginsAtom_16 (fun z_17 => ?_) (fun z_18 => ?_)
    · skip
      refine s_Question_beginsAtom_31 ?_
      refine s_Question_beginsAtom_36 rfl ?_
      have hf_19 := (hb_5.resolve_right (fun q => absurd (q.1.symm.trans z_10) (by decide))).2
      have hf_20 := (hb_13.resolve_left (fun q => z_17 q.1)).2
      exact ⟨1, rfl, Or.inr ⟨rfl, (bgaI _ (kdS_le fd ln s)).mpr (by rw [← X.kd ht]; simp [hf_19, hf_20])⟩, rfl⟩
    · skip
      refine s_Question_beginsAtom_19 (fun z_21 => ?_) (fun z_22 => ?_)
      · skip
        refine s_Question_beginsAtom_31 ?_
        refine s_Question_beginsAtom_36 rfl ?_
        have hf_23 := (hb_5.resolve_right (fun q => absurd (q.1.symm.trans z_10) (by decide))).2
        have hf_24 := (hb_13.resolve_right (fun q => absurd (q.1.symm.trans z_18) (by decide))).2
        exact ⟨1, rfl, Or.inr ⟨rfl, (bgaI _ (kdS_le fd ln s)).mpr (by rw [← X.kd ht]; simp [hf_23, hf_24, z_21])⟩, rfl⟩
      · skip
        refine s_Question_beginsAtom_25 (fun z_25 => ?_) (fun z_26 => ?_)
        · skip
          refine s_Question_beginsAtom_35 ?_
          refine s_Question_beginsAtom_36 rfl ?_
          have hf_27 := (hb_5.resolve_right (fun q => absurd (q.1.symm.trans z_10) (by decide))).2
          have hf_28 := (hb_13.resolve_right (fun q => absurd (q.1.symm.trans z_18) (by decide))).2
          exact ⟨0, rfl, Or.inl ⟨rfl, bF (fun q => absurd ((bgaI _ (kdS_le fd ln s)).mp q) (by rw [← X.kd ht]; simp [hf_27, hf_28, z_22, z_25]))⟩, rfl⟩
        · skip
          refine s_Question_beginsAtom_31 ?_
          refine s_Question_beginsAtom_36 rfl ?_
          have hf_29 := (hb_5.resolve_right (fun q => absurd (q.1.symm.trans z_10) (by decide))).2
          have hf_30 := (hb_13.resolve_right (fun q => absurd (q.1.symm.trans z_18) (by decide))).2
          exact ⟨1, rfl, Or.inr ⟨rfl, (bgaI _ (kdS_le fd ln s)).mpr (by rw [← X.kd ht]; simp [hf_29, hf_30, z_22, z_26])⟩, rfl⟩
set_option maxHeartbeats 400000 in
theorem g_goesOnH {G : xw_G} {F L : Nat} {h : xw_A} {x : Int32} {qo tk tl tz ph nd po k1 k2 k3 d ln c : Nat} {fk fs fe fd : Nat → Int32} {fp fn : Nat → Option Nat} {p nn n t : Nat} {wp : Int32} {f g : Nat → Int32} (K : QuC qo tk tl tz ph nd po k1 k2 k3 d ln c fk fs fe fd fp fn p nn n t wp f g h) {s : PSt} {sp : List (Nat × Nat)} {nds : List NDt} (X : QuT fd ln c fk fs fe fp fn p nn n t f g s sp nds h) {r : Nat} (hx : x = nI (r + 4)) (hr1 : 1 ≤ r) (hr4 : r ≤ 4) (hF : 4 ≤ F) (hL : 82 ≤ L) :
    xw_Met G m_Question_goesOn F L 0 0 [.ref qo, .int x] h (fun v h' => ∃ (b : Int32) (t' : Nat), v = some (.int b) ∧ ((b = 0 ∧ (goes r (kdS fd ln s) = false ∧ QuT fd ln c fk fs fe fp fn p nn n t' f g s sp nds h')) ∨ (b = 1 ∧ (goes r (kdS fd ln s) = true ∧ QuT fd ln c fk fs fe fp fn p nn n t' f g (if r = 4 then s else skS fd ln s) sp nds h'))) ∧ QuC qo tk tl tz ph nd po k1 k2 k3 d ln c fk fs fe fd fp fn p nn n t' wp f g h' ∧ FrO [qo] h h') (fun _ _ => False) := by
  refine xw_Met.of rfl (by decide) (Nat.le_of_ble_eq_true rfl) ?_
  obtain ⟨e_qo, T, e_ph, e_nd, P, hp, hnn, ht, Fp, Nd⟩ := id K
  obtain ⟨e_po, e_d, e_k1, e_k2, e_k3, hln, PF⟩ := id P
  have e_tk := T.1
  have hc := PF.1
  have r0 : FrO [qo] h h := FrO.rf
  refine s_Question_goesOn_0 (fun z_1 => ?_) (fun z_2 => ?_)
  · skip
    refine s_Question_goesOn_13 ?_
    refine x_callV (As := [.int x]) (b := qo) (rest := []) (F1 := 2) (L1 := 40) (mc := 0) (ms := 0) d_Question_goesOn_15 cV_Question_103 (g_takesH K X (v9 := r + 4) hx (by omega) (by omega) (by omega) (by omega)) e_qo ⟨by decide, rfl⟩ ⟨by omega, by show 8 + (2 + 11) + 40 ≤ _; omega⟩ ⟨by omega, by omega⟩ (Nat.le_of_ble_eq_true rfl) (fun v_9 h_8 p_10 => ?_)
    obtain ⟨b_3, t_4, rfl, hb_5, K_6, fr_7⟩ := p_10
    obtain ⟨eqo_11, T_12, eph_13, end_14, P_15, hp_16, hnn_17, ht_18, Fp_19, Nd_20⟩ := id K_6
    obtain ⟨epo_21, ed_22, ek1_23, ek2_24, ek3_25, -, PF_26⟩ := id P_15
    have etk_27 := T_12.1
    refine x_le (xw_le_n (xw_le_n xw_le_e)) ?_
    refine s_Question_goesOn_18 (nb01 (hb_5.elim (fun y => Or.inl y.1) (fun y => Or.inr y.1))) ?_
    have hr9 : ¬ r = 4 := fun q => z_1 (by rw [hx, q]; rfl)
    exact ⟨_, t_4, rfl, hb_5.elim (fun y => Or.inl ⟨y.1, by unfold goes; rw [if_neg hr9]; exact bF (fun q => y.2.1 (by simpa using q)), y.2.2⟩) (fun y => Or.inr ⟨y.1, by unfold goes; rw [if_neg hr9]; simpa using y.2.1, by rw [if_neg hr9]; exact y.2.2⟩), K_6, fr_7⟩
  · skip
    refine s_Question_goesOn_6 ?_
    refine x_callV (As := []) (b := qo) (rest := []) (F1 := 3) (L1 := 61) (mc := 0) (ms := 0) d_Question_goesOn_7 cV_Question_99 (g_beginsAtomH K X (by omega) (by omega)) e_qo ⟨by decide, rfl⟩ ⟨by omega, by show 8 + (2 + 11) + 61 ≤ _; omega⟩ ⟨by omega, by omega⟩ (Nat.le_of_ble_eq_true rfl) (fun v_31 h_30 p_32 => ?_)
    obtain ⟨b_28, rfl, hb_29, rfl⟩ := p_32
    refine x_le (xw_le_n (xw_le_n xw_le_e)) ?_
    refine s_Question_goesOn_10 ?_
    refine s_Question_goesOn_18 (nb01 (hb_29.elim (fun y => Or.inl y.1) (fun y => Or.inr y.1))) ?_
    have hr9 : r = 4 := by have := (nI_eq (a := r + 4) (b := 8) (by omega) (by decide)).mp (hx.symm.trans z_2); omega
    exact ⟨_, t, rfl, hb_29.elim (fun y => Or.inl ⟨y.1, by unfold goes; rw [if_pos hr9]; exact y.2, X⟩) (fun y => Or.inr ⟨y.1, by unfold goes; rw [if_pos hr9]; exact y.2, by rw [if_pos hr9]; exact X⟩), K, r0⟩
set_option maxHeartbeats 400000 in
theorem g_readStringH {G : xw_G} {F L : Nat} {h : xw_A} {B : List Nat} {qo tk tl tz ph nd po k1 k2 k3 d ln c : Nat} {fk fs fe fd : Nat → Int32} {fp fn : Nat → Option Nat} {p nn n t : Nat} {wp : Int32} {f g : Nat → Int32} (K : QuC qo tk tl tz ph nd po k1 k2 k3 d ln c fk fs fe fd fp fn p nn n t wp f g h) (A : QuA B qo tk tl tz ph nd po k1 k2 k3 d fp fn) {s : PSt} {sp : List (Nat × Nat)} {nds : List NDt} (X : QuT fd ln c fk fs fe fp fn p nn n t f g s sp nds h) (h128 : ∀ j, j < ln → ∃ c, c < 128 ∧ fd j = nI c) (hF : 3 ≤ F) (hL : 68 ≤ L) :
    xw_Met G m_Question_readString F L 0 0 [.ref qo] h (fun v h' => ∃ (b : Int32) (n' t' : Nat) (f' g' : Nat → Int32), v = some (.int b) ∧ ((b = 0 ∧ (isS (kdS fd ln s) = false ∧ QuT fd ln c fk fs fe fp fn p nn n' t' f' g' s sp nds h')) ∨ (b = 1 ∧ (isS (kdS fd ln s) = true ∧ QuT fd ln c fk fs fe fp fn p nn n' t' f' g' (skS fd ln s) (sp ++ [(bl fd ln s.1, skP fd ln s.1)]) nds h'))) ∧ QuC qo tk tl tz ph nd po k1 k2 k3 d ln c fk fs fe fd fp fn p nn n' t' wp f' g' h' ∧ FrO B h h') (fun _ _ => False) := by
  refine xw_Met.of rfl (by decide) (Nat.le_of_ble_eq_true rfl) ?_
  obtain ⟨e_qo, T, e_ph, e_nd, P, hp, hnn, ht, Fp, Nd⟩ := id K
  obtain ⟨e_po, e_d, e_k1, e_k2, e_k3, hln, PF⟩ := id P
  have e_tk := T.1
  have hc := PF.1
  have r0 : FrO B h h := FrO.rf
  refine s_Question_readString_0 ?_
  refine x_callV (As := []) (b := qo) (rest := []) (F1 := 2) (L1 := 40) (mc := 0) (ms := 0) d_Question_readString_1 cV_Question_109 (g_beginsStringH K X (by omega) (by omega)) e_qo ⟨by decide, rfl⟩ ⟨by omega, by show 8 + (2 + 11) + 40 ≤ _; omega⟩ ⟨by omega, by omega⟩ (Nat.le_of_ble_eq_true rfl) (fun v_4 h_3 p_5 => ?_)
  obtain ⟨b_1, rfl, hb_2, rfl⟩ := p_5
  refine s_Question_readString_4 (fun z_6 => ?_) (fun z_7 => ?_)
  · skip
    have hf_8 := (hb_2.resolve_left (fun q => z_6 q.1)).2
    have hS9 : isS (kdS fd ln s) = true := hf_8
    have ha := (X.1.2.1 t ht).2.1
    have hb := (X.1.2.1 t ht).2.2
    rw [← X.2.1] at ha hb
    have hS8 := isS_k hS9
    have hle := lex_end (t := fd) (n := ln) (s := bl fd ln s.1) hS8.1 hS8.2
    have hle2 : bl fd ln s.1 < skP fd ln s.1 := hle.2.1
    have hle3 : skP fd ln s.1 ≤ ln := hle.2.2
    refine s_Question_readString_9 (tokens_a0 := some tk) (phrases_a0 := some ph) (nodes_a0 := some nd) (letters_a0 := some d) (kinds_parts_a0 := some k1) (letters_parts_a0 := some d) e_qo e_po e_k2 (vp_in_nI (by omega) (by omega)) e_k3 (vp_in_nI (by omega) (by omega)) ?_
    rw [nI_clamp (by omega), ha, hb]
    refine x_callV (As := [.ref d, .int (nI (bl fd ln s.1)), .int (nI (skP fd ln s.1))]) (b := tk) (rest := []) (F1 := 2) (L1 := 42) (mc := 0) (ms := 0) d_Question_readString_41 cV_Question_152 (g_gather T e_d (fun z => A.2.2.2.1.2.2.2.1 (by rw [← z]; exact A.1.2.2.1)) (by omega) (show skP fd ln s.1 ≤ 96 by omega) (by decide) (by omega) (by omega)) e_tk ⟨by decide, rfl⟩ ⟨by omega, by show 8 + (7 + 11) + 42 ≤ _; omega⟩ ⟨by omega, by omega⟩ (Nat.le_of_ble_eq_true rfl) (fun v_23 h_22 p_24 => ?_)
    obtain ⟨rfl, ⟨n_9, f_10, g_11, hn_12, hc_16, ⟨w0_17, hw_18, hg_19, gx_20⟩, T_13⟩, fr_14⟩ := p_24
    have K_15 := K.tok A fr_14 T_13 hn_12
    have X_21 := X.string hln h128 ht hS9 T fr_14 hc_16 hw_18 hg_19 gx_20
    have r_25 := r0.trans (fr_14.mono (suC A.1.2.1 (suC A.1.2.2.1 (suC A.1.2.2.2 suN))))
    obtain ⟨eqo_26, T_27, eph_28, end_29, P_30, hp_31, hnn_32, ht_33, Fp_34, Nd_35⟩ := id K_15
    obtain ⟨epo_36, ed_37, ek1_38, ek2_39, ek3_40, -, PF_41⟩ := id P_30
    have etk_42 := T_27.1
    refine s_Question_readString_44 (tokens_a0 := some tk) (phrases_a0 := some ph) (nodes_a0 := some nd) (parts_a0 := some po) (letters_a0 := some d) eqo_26 ?_
    obtain ⟨h_43, z_46⟩ : ∃ z, z = xw_up h_22 qo (.inr (5, [va_rf (some tk), va_rf (some ph), va_rf (some nd), .int (nI p), .int (nI nn), .int wp, va_rf (some po), va_rf (some d), .int ((nI t) + 1)])) := ⟨_, rfl⟩
    rw [← z_46]
    have e_44 : h_43 qo = some (.inr (5, [va_rf (some tk), va_rf (some ph), va_rf (some nd), .int (nI p), .int (nI nn), .int wp, va_rf (some po), va_rf (some d), .int ((nI t) + 1)])) := by rw [z_46]; exact xw_up_s _ _ _
    have f_45 : ∀ q, q ≠ qo → h_43 q = h_22 q := fun q hq => by rw [z_46]; exact xw_up_n _ _ hq
    clear z_46
    have e_47 := (f_45 tk (xw_neC etk_42 eqo_26 (by simp))).trans etk_42
    have e_48 := (f_45 ph (xw_neC eph_28 eqo_26 (by simp))).trans eph_28
    have e_49 := (f_45 nd (xw_neC end_29 eqo_26 (by simp))).trans end_29
    have e_50 := (f_45 po (xw_neC epo_36 eqo_26 (by simp))).trans epo_36
    have e_51 := (f_45 d (xw_neC ed_37 eqo_26 (by simp))).trans ed_37
    have e_52 := (f_45 k1 (xw_neC ek1_38 eqo_26 (by simp))).trans ek1_38
    have e_53 := (f_45 k2 (xw_neC ek2_39 eqo_26 (by simp))).trans ek2_39
    have e_54 := (f_45 k3 (xw_neC ek3_40 eqo_26 (by simp))).trans ek3_40
    have r_55 := r_25.up A.1.1 f_45
    rw [nI_1] at e_44
    have hk9 : ¬ fk t = 0 ∧ ¬ fk t = 1 := ⟨fun q => hS8.1 ((X.kv ht (v := 0) (by decide)).mp q), fun q => hS8.2 ((X.kv ht (v := 1) (by decide)).mp q)⟩
    exact ⟨1, n_9, t + 1, f_10, g_11, rfl, Or.inr ⟨rfl, hS9, X_21.q K_15.1 (FrO.rf.up (by simp) f_45)⟩, K_15.q (FrO.rf.up (by simp) f_45) e_44 (PF.next ht hk9.1 hk9.2), r_55⟩
  · skip
    refine s_Question_readString_7 ?_
    have hf_56 := (hb_2.resolve_right (fun q => absurd (q.1.symm.trans z_7) (by decide))).2
    exact ⟨0, n, t, f, g, rfl, Or.inl ⟨rfl, hf_56, X⟩, K, FrO.rf⟩
set_option maxHeartbeats 2000000 in
theorem lp_readPhraseH {G : xw_G} {F L bc bs : Nat} {pr : Option Value → xw_A → Prop} {px : String → xw_A → Prop} {B : List Nat} {qo tk tl tz ph nd po k1 k2 k3 d ln c : Nat} {fk fs fe fd : Nat → Int32} {fp fn : Nat → Option Nat} {p nn u : Nat} {wp : Int32} {h0 : xw_A} {pg : List PHt × List GRt} {nds : List NDt} {R : Option (Nat × List (Nat × Nat))} (A : QuA B qo tk tl tz ph nd po k1 k2 k3 d fp fn) (h128 : ∀ j, j < ln → ∃ c, c < 128 ∧ fd j = nI c) (kk0 : ∀ (h : xw_A) (n t : Nat) (wp : Int32) (f g : Nat → Int32), QuC qo tk tl tz ph nd po k1 k2 k3 d ln c fk fs fe fd fp fn p nn n t wp f g h → g 0 = 0 → FrO B h0 h → R = none → pr (some (.int 0)) h) (hF : 4 ≤ F) (hL : 88 ≤ L) (kk : ∀ (h : xw_A) (n t : Nat) (f g : Nat → Int32) (pp : Nat) (sp : List (Nat × Nat)), QuC qo tk tl tz ph nd po k1 k2 k3 d ln c fk fs fe fd fp fn p nn n t wp f g h → QuT fd ln c fk fs fe fp fn p nn n t f g (pp, pg) sp nds h → R = some (pp, sp) → FrO B h0 h → xw G m_Question_readPhrase F L bc bs pr px 68 [some (.ref qo), some (.int (nI u)), none] [] h) :
    ∀ (dd i : Nat) (h : xw_A) (n : Nat) (t : Nat) (f : Nat → Int32) (g : Nat → Int32) (pp : Nat) (sp : List (Nat × Nat)), i + dd = 96 → QuC qo tk tl tz ph nd po k1 k2 k3 d ln c fk fs fe fd fp fn p nn n t wp f g h → QuT fd ln c fk fs fe fp fn p nn n t f g (pp, pg) sp nds h → rdP fd ln dd pp sp = R → FrO B h0 h → xw G m_Question_readPhrase F L bc bs pr px 33 [some (.ref qo), some (.int (nI u)), some (.int (nI i))] [] h := by
  intro dd
  induction dd with
  | zero =>
    intro i h n t f g pp sp hi K X hR r0
    obtain rfl : i = 96 := by omega
    obtain ⟨e_qo, T, e_ph, e_nd, P, hp, hnn, ht, Fp, Nd⟩ := id K
    obtain ⟨e_po, e_d, e_k1, e_k2, e_k3, hln, PF⟩ := id P
    have e_tk := T.1
    have hc := PF.1
    refine s_Question_readPhrase_33 (fun z_1 => ?_) (fun z => absurd z (by decide))
    exact kk _ _ _ _ _ _ _ K X (by rw [← hR]; rfl) r0
  | succ dd ih =>
    intro i h n t f g pp sp hi K X hR r0
    obtain ⟨e_qo, T, e_ph, e_nd, P, hp, hnn, ht, Fp, Nd⟩ := id K
    obtain ⟨e_po, e_d, e_k1, e_k2, e_k3, hln, PF⟩ := id P
    have e_tk := T.1
    have hc := PF.1
    refine s_Question_readPhrase_33 (fun z => absurd z (nI_ge (b := 96) (show i < 96 by omega) (by decide))) (fun z_1 => ?_)
    refine s_Question_readPhrase_39 ?_
    refine x_callV (As := [.int 14]) (b := qo) (rest := []) (F1 := 2) (L1 := 40) (mc := 0) (ms := 0) d_Question_readPhrase_42 cV_Question_103 (g_takesH K X (v9 := 14) rfl (by decide) (by decide) (by omega) (by omega)) e_qo ⟨by decide, rfl⟩ ⟨by omega, by show 8 + (2 + 11) + 40 ≤ _; omega⟩ ⟨by omega, by omega⟩ (Nat.le_of_ble_eq_true rfl) (fun v_8 h_7 p_9 => ?_)
    obtain ⟨b_2, t_3, rfl, hb_4, K_5, fr_6⟩ := p_9
    have r_10 := r0.trans (fr_6.mono (suC A.1.1 suN))
    obtain ⟨eqo_11, T_12, eph_13, end_14, P_15, hp_16, hnn_17, ht_18, Fp_19, Nd_20⟩ := id K_5
    obtain ⟨epo_21, ed_22, ek1_23, ek2_24, ek3_25, -, PF_26⟩ := id P_15
    have etk_27 := T_12.1
    refine s_Question_readPhrase_45 (fun z_28 => ?_) (fun z_29 => ?_)
    · skip
      have hf_30 := (hb_4.resolve_right (fun q => absurd (q.1.symm.trans z_28) (by decide))).2
      obtain ⟨hk_32, X_31⟩ := hf_30
      exact kk _ _ _ _ _ _ _ K_5 X_31 (by rw [← hR]; exact rdP_n hk_32) r_10
    · skip
      refine s_Question_readPhrase_48 ?_
      have hf_33 := (hb_4.resolve_left (fun q => z_29 q.1)).2
      obtain ⟨hk_35, X_34⟩ := hf_33
      refine x_callV (As := []) (b := qo) (rest := []) (F1 := 3) (L1 := 68) (mc := 0) (ms := 0) d_Question_readPhrase_49 cV_Question_136 (g_readStringH K_5 A X_34 h128 (by omega) (by omega)) eqo_11 ⟨by decide, rfl⟩ ⟨by omega, by show 8 + (1 + 11) + 68 ≤ _; omega⟩ ⟨by omega, by omega⟩ (Nat.le_of_ble_eq_true rfl) (fun v_45 h_44 p_46 => ?_)
      obtain ⟨b_36, n_37, t_38, f_39, g_40, rfl, hb_41, K_42, fr_43⟩ := p_46
      have r_47 := r_10.trans fr_43
      obtain ⟨eqo_48, T_49, eph_50, end_51, P_52, hp_53, hnn_54, ht_55, Fp_56, Nd_57⟩ := id K_42
      obtain ⟨epo_58, ed_59, ek1_60, ek2_61, ek3_62, -, PF_63⟩ := id P_52
      have etk_64 := T_49.1
      refine s_Question_readPhrase_52 (fun z_65 => ?_) (fun z_66 => ?_)
      · skip
        refine s_Question_readPhrase_62 ?_
        have hf_67 := (hb_41.resolve_left (fun q => z_65 q.1)).2
        obtain ⟨hk_69, X_68⟩ := hf_67
        rw [nI_1]
        exact ih (i + 1) _ _ _ _ _ (skP fd ln (skP fd ln pp)) (sp ++ [(bl fd ln (skP fd ln pp), skP fd ln (skP fd ln pp))]) (by omega) K_42 X_68 (by rw [← hR]; exact (rdP_y hk_35 hk_69).symm) r_47
      · skip
        refine s_Question_readPhrase_55 ?_
        have hf_70 := (hb_41.resolve_right (fun q => absurd (q.1.symm.trans z_66) (by decide))).2
        obtain ⟨hk_72, X_71⟩ := hf_70
        refine x_callV (As := []) (b := qo) (rest := []) (F1 := 1) (L1 := 20) (mc := 0) (ms := 0) d_Question_readPhrase_56 cV_Question_73 (g_refuse K_42 (by omega) (by omega)) eqo_48 ⟨by decide, rfl⟩ ⟨by omega, by show 8 + (1 + 11) + 20 ≤ _; omega⟩ ⟨by omega, by omega⟩ (Nat.le_of_ble_eq_true rfl) (fun v_77 h_76 p_78 => ?_)
        obtain ⟨rfl, ⟨wp_73, K_74⟩, fr_75⟩ := p_78
        have r_79 := r_47.trans (fr_75.mono (suC A.1.1 suN))
        obtain ⟨eqo_80, T_81, eph_82, end_83, P_84, hp_85, hnn_86, ht_87, Fp_88, Nd_89⟩ := id K_74
        obtain ⟨epo_90, ed_91, ek1_92, ek2_93, ek3_94, -, PF_95⟩ := id P_84
        have etk_96 := T_81.1
        refine x_le (xw_le_n (xw_le_n (xw_le_n xw_le_e))) ?_
        refine s_Question_readPhrase_59n ?_
        exact kk0 _ _ _ _ _ _ K_74 X_71.g0 r_79 (by rw [← hR]; exact rdP_f hk_35 hk_72)
set_option maxHeartbeats 2000000 in
theorem g_readPhraseH {G : xw_G} {F L : Nat} {h : xw_A} {B : List Nat} {qo tk tl tz ph nd po k1 k2 k3 d ln c : Nat} {fk fs fe fd : Nat → Int32} {fp fn : Nat → Option Nat} {p nn n t : Nat} {wp : Int32} {f g : Nat → Int32} (K : QuC qo tk tl tz ph nd po k1 k2 k3 d ln c fk fs fe fd fp fn p nn n t wp f g h) (A : QuA B qo tk tl tz ph nd po k1 k2 k3 d fp fn) {s : PSt} {nds : List NDt} (X : QuT fd ln c fk fs fe fp fn p nn n t f g s ([]) nds h) (h128 : ∀ j, j < ln → ∃ c, c < 128 ∧ fd j = nI c) (hF : 4 ≤ F) (hL : 88 ≤ L) :
    xw_Met G m_Question_readPhrase F L 0 0 [.ref qo] h (fun v h' => QuP B qo tk tl tz ph nd po k1 k2 k3 d ln c fk fs fe fd fp fn s nds (rdPh fd ln s.2.1.length s.1) h v h') (fun _ _ => False) := by
  refine xw_Met.of rfl (by decide) (Nat.le_of_ble_eq_true rfl) ?_
  obtain ⟨e_qo, T, e_ph, e_nd, P, hp, hnn, ht, Fp, Nd⟩ := id K
  obtain ⟨e_po, e_d, e_k1, e_k2, e_k3, hln, PF⟩ := id P
  have e_tk := T.1
  have hc := PF.1
  have r0 : FrO B h h := FrO.rf
  refine s_Question_readPhrase_0 (phrases_a0 := some ph) (nodes_a0 := some nd) (parts_a0 := some po) (letters_a0 := some d) (letters_tokens_a0 := some tl) (starts_tokens_a0 := some tz) e_qo e_tk (fun z_1 => ?_) (fun z_2 => ?_)
  · skip
    refine s_Question_readPhrase_24 ?_
    refine x_callV (As := []) (b := qo) (rest := []) (F1 := 1) (L1 := 20) (mc := 0) (ms := 0) d_Question_readPhrase_25 cV_Question_73 (g_refuse K (by omega) (by omega)) e_qo ⟨by decide, rfl⟩ ⟨by omega, by show 8 + (1 + 11) + 20 ≤ _; omega⟩ ⟨by omega, by omega⟩ (Nat.le_of_ble_eq_true rfl) (fun v_7 h_6 p_8 => ?_)
    obtain ⟨rfl, ⟨wp_3, K_4⟩, fr_5⟩ := p_8
    have r_9 := r0.trans (fr_5.mono (suC A.1.1 suN))
    obtain ⟨eqo_10, T_11, eph_12, end_13, P_14, hp_15, hnn_16, ht_17, Fp_18, Nd_19⟩ := id K_4
    obtain ⟨epo_20, ed_21, ek1_22, ek2_23, ek3_24, -, PF_25⟩ := id P_14
    have etk_26 := T_11.1
    refine x_le (xw_le_n (xw_le_n (xw_le_n xw_le_e))) ?_
    refine s_Question_readPhrase_28n ?_
    exact ⟨r_9, Or.inl ⟨rdPh_k (by rw [← X.2.2.1]; exact Nat.le_of_not_lt (fun q => absurd z_1 (nI_ge (b := 12) q (by decide)))), rfl, ⟨_, _, _, _, _, _, _, K_4, X.g0⟩⟩⟩
  · skip
    have hp12 : p < 12 := Nat.lt_of_not_le (fun q => z_2 (nI_le (a := 12) q (by omega)))
    refine s_Question_readPhrase_17 ?_
    refine x_callV (As := []) (b := qo) (rest := []) (F1 := 3) (L1 := 68) (mc := 0) (ms := 0) d_Question_readPhrase_18 cV_Question_136 (g_readStringH K A X h128 (by omega) (by omega)) e_qo ⟨by decide, rfl⟩ ⟨by omega, by show 8 + (1 + 11) + 68 ≤ _; omega⟩ ⟨by omega, by omega⟩ (Nat.le_of_ble_eq_true rfl) (fun v_36 h_35 p_37 => ?_)
    obtain ⟨b_27, n_28, t_29, f_30, g_31, rfl, hb_32, K_33, fr_34⟩ := p_37
    have r_38 := r0.trans fr_34
    obtain ⟨eqo_39, T_40, eph_41, end_42, P_43, hp_44, hnn_45, ht_46, Fp_47, Nd_48⟩ := id K_33
    obtain ⟨epo_49, ed_50, ek1_51, ek2_52, ek3_53, -, PF_54⟩ := id P_43
    have etk_55 := T_40.1
    refine s_Question_readPhrase_21 (fun z_56 => ?_) (fun z_57 => ?_)
    · skip
      refine s_Question_readPhrase_31 ?_
      have hf_58 := (hb_32.resolve_left (fun q => z_56 q.1)).2
      obtain ⟨hk_60, X_59⟩ := hf_58
      refine lp_readPhraseH (R := rdP fd ln 96 (skP fd ln s.1) [(bl fd ln s.1, skP fd ln s.1)]) A h128 (fun hh nn_ tt ww ff gg KK GG rr hR0 => ⟨r_38.trans rr, Or.inl ⟨rdPh_n hk_60 hR0, rfl, _, _, _, _, _, _, _, KK, GG⟩⟩) (by omega) (by omega) (fun h_61 n_62 t_63 f_64 g_65 pp_66 sp_67 K_68 X_69 hR_70 fr_71 => ?_) 96 0 _ _ _ _ _ (skP fd ln s.1) [(bl fd ln s.1, skP fd ln s.1)] rfl K_33 X_59 rfl FrO.rf
      have r99 := r_38.trans fr_71
      obtain ⟨eqo_72, T_73, eph_74, end_75, P_76, hp_77, hnn_78, ht_79, Fp_80, Nd_81⟩ := id K_68
      obtain ⟨epo_82, ed_83, ek1_84, ek2_85, ek3_86, -, PF_87⟩ := id P_76
      have etk_88 := T_73.1
      have hun := X.n0
      have hu : n ≤ n_62 := by have := X_69.ge; rw [hun]; exact this
      obtain ⟨a, ax, ay, ab, ea1, ea2, -⟩ := Fp_80 p hp12
      refine s_Question_readPhrase_68 (g76 := a) (nodes_a0 := some nd) (parts_a0 := some po) (letters_a0 := some d) (letters_tokens_a0 := some tl) (starts_tokens_a0 := some tz) eqo_72 eph_74 (vp_in_nI hp12 (by decide)) (by rw [nI_clamp (by omega)]; exact ea1) ea2 etk_88 ?_
      rw [xw_up_up]
      refine x_u1 (fun h9 e9 f9 => ?_)
      rw [pk_sub hu] at e9
      have K9 := K_68.phr A (FrO.rf.up (by simp) f9) hp12 (Nat.le_refl _) ea1 e9
      have X9 := X_69.pha A.2.2.2.2.1 hp12 ea1 ea2 (FrO.rf.up (by simp) f9)
      have r98 := r99.up (A.2.1 p a hp12 ea1) f9
      obtain ⟨eqo_89, T_90, eph_91, end_92, P_93, hp_94, hnn_95, ht_96, Fp_97, Nd_98⟩ := id K9
      obtain ⟨epo_99, ed_100, ek1_101, ek2_102, ek3_103, -, PF_104⟩ := id P_93
      have etk_105 := T_90.1
      refine x_callV (As := [.int 15]) (b := qo) (rest := [.ref a]) (F1 := 2) (L1 := 40) (mc := 0) (ms := 0) d_Question_readPhrase_100 cV_Question_103 (g_takesH K9 X9 (v9 := 15) rfl (by decide) (by decide) (by omega) (by omega)) eqo_89 ⟨by decide, rfl⟩ ⟨by omega, by show 8 + (2 + 11) + 40 ≤ _; omega⟩ ⟨by omega, by omega⟩ (Nat.le_of_ble_eq_true rfl) (fun v_112 h_111 p_113 => ?_)
      obtain ⟨b_106, t_107, rfl, hb_108, K_109, fr_110⟩ := p_113
      have r_114 := r98.trans (fr_110.mono (suC A.1.1 suN))
      obtain ⟨eqo_115, T_116, eph_117, end_118, P_119, hp_120, hnn_121, ht_122, Fp_123, Nd_124⟩ := id K_109
      obtain ⟨epo_125, ed_126, ek1_127, ek2_128, ek3_129, -, PF_130⟩ := id P_119
      have etk_131 := T_116.1
      have e97 := fr_110 a _ (nm1 (xw_neC e9 K9.1 (by simp))) e9
      refine x_le (xw_le_s (xw_le_n (xw_le_n xw_le_e))) ?_
      refine s_Question_readPhrase_103 (tokens_a0 := some tk) (phrases_a0 := some ph) (nodes_a0 := some nd) (parts_a0 := some po) (letters_a0 := some d) e97 (fb01 (hb_108.elim (fun y => Or.inl y.1) (fun y => Or.inr y.1))) eqo_115 ?_
      rw [nI_1]
      have K96 := QuC.p1 (K_109.phr A (FrO.rf.up (by simp) (fun q hq => xw_up_n _ _ hq)) hp12 (Nat.le_refl _) ea1 (xw_up_s _ _ (.inr (4, [.int (nI n), .int (nI (n_62 - n)), .int b_106])))) (FrO.rf.up (by simp) (fun q hq => xw_up_n _ (.inr (5, [.ref tk, .ref ph, .ref nd, .int (nI (p + 1)), .int (nI nn), .int wp, .ref po, .ref d, .int (nI t_107)])) hq)) (xw_up_s _ _ _) hp12 ea1 (xw_up_s _ _ _) (show n + (n_62 - n) ≤ n_62 by omega)
      have r96 := (r_114.up (A.2.1 p a hp12 ea1) (fun q hq => xw_up_n _ (.inr (4, [.int (nI n), .int (nI (n_62 - n)), .int b_106])) hq)).up A.1.1 (fun q hq => xw_up_n _ (.inr (5, [.ref tk, .ref ph, .ref nd, .int (nI (p + 1)), .int (nI nn), .int wp, .ref po, .ref d, .int (nI t_107)])) hq)
      refine ⟨r96, Or.inr ?_⟩
      have naq : a ≠ qo := xw_neC e97 eqo_115 (by simp)
      rcases hb_108 with ⟨hb0, hk0, X95⟩ | ⟨hb0, hk0, X95⟩
      · subst hb0
        refine ⟨pp_66, (sp_67, false), ?_, rfl, p + 1, nn, n_62, t_107, wp, f_64, g_65, K96, ?_⟩
        · have hq9 := rdPh_y (k := s.2.1.length) (by rw [← X.2.2.1]; exact hp12) hk_60 hR_70
          exact hq9.trans (if_neg hk0)
        · exact X95.phr A.2.2.2.2.1 hp12 ea1 (b := false) hun ((xw_up_n _ _ naq).trans (xw_up_s _ _ _)) (fun q vs hq he => (xw_up_n _ _ (xw_neC he eqo_115 (by simp))).trans ((xw_up_n _ _ hq).trans he)) (fun q vs he => (xw_up_n _ _ (xw_neC he eqo_115 (by simp))).trans ((xw_up_n _ _ (xw_neC he e97 (by simp))).trans he))
      · subst hb0
        refine ⟨skP fd ln pp_66, (sp_67, true), ?_, rfl, p + 1, nn, n_62, t_107, wp, f_64, g_65, K96, ?_⟩
        · have hq9 := rdPh_y (k := s.2.1.length) (by rw [← X.2.2.1]; exact hp12) hk_60 hR_70
          exact hq9.trans (if_pos hk0)
        · exact X95.phr A.2.2.2.2.1 hp12 ea1 (b := true) hun ((xw_up_n _ _ naq).trans (xw_up_s _ _ _)) (fun q vs hq he => (xw_up_n _ _ (xw_neC he eqo_115 (by simp))).trans ((xw_up_n _ _ hq).trans he)) (fun q vs he => (xw_up_n _ _ (xw_neC he eqo_115 (by simp))).trans ((xw_up_n _ _ (xw_neC he e97 (by simp))).trans he))
    · skip
      refine s_Question_readPhrase_24 ?_
      have hf_132 := (hb_32.resolve_right (fun q => absurd (q.1.symm.trans z_57) (by decide))).2
      obtain ⟨hk_134, X_133⟩ := hf_132
      refine x_callV (As := []) (b := qo) (rest := []) (F1 := 1) (L1 := 20) (mc := 0) (ms := 0) d_Question_readPhrase_25 cV_Question_73 (g_refuse K_33 (by omega) (by omega)) eqo_39 ⟨by decide, rfl⟩ ⟨by omega, by show 8 + (1 + 11) + 20 ≤ _; omega⟩ ⟨by omega, by omega⟩ (Nat.le_of_ble_eq_true rfl) (fun v_139 h_138 p_140 => ?_)
      obtain ⟨rfl, ⟨wp_135, K_136⟩, fr_137⟩ := p_140
      have r_141 := r_38.trans (fr_137.mono (suC A.1.1 suN))
      obtain ⟨eqo_142, T_143, eph_144, end_145, P_146, hp_147, hnn_148, ht_149, Fp_150, Nd_151⟩ := id K_136
      obtain ⟨epo_152, ed_153, ek1_154, ek2_155, ek3_156, -, PF_157⟩ := id P_146
      have etk_158 := T_143.1
      refine x_le (xw_le_n (xw_le_n (xw_le_n xw_le_e))) ?_
      refine s_Question_readPhrase_28n ?_
      exact ⟨r_141, Or.inl ⟨rdPh_s hk_134, rfl, ⟨_, _, _, _, _, _, _, K_136, X_133.g0⟩⟩⟩
set_option maxHeartbeats 1000000 in
theorem g_newNodeH {G : xw_G} {F L : Nat} {h : xw_A} {x : Int32} {qo tk tl tz ph nd po k1 k2 k3 d ln c : Nat} {fk fs fe fd : Nat → Int32} {fp fn : Nat → Option Nat} {p nn n t : Nat} {wp : Int32} {f g : Nat → Int32} (K : QuC qo tk tl tz ph nd po k1 k2 k3 d ln c fk fs fe fd fp fn p nn n t wp f g h) (hn : nn < 24) (hF : 1 ≤ F) (hL : 40 ≤ L) :
    xw_Met G m_Question_newNode F L 0 0 [.ref qo, .int x] h (fun v h' => ∃ (a : Nat) (l r : Option Nat) (y1 y2 z1 z2 z3 z4 : Int32) (vs : List Value), v = some (.ref a) ∧ fn nn = some a ∧ h' a = some (.inr (2, [.int x, va_rf l, va_rf r, .int y1, .int y2, .int z1, .int z2, .int z3, .int z4])) ∧ h' qo = some (.inr (5, [.ref tk, .ref ph, .ref nd, .int (nI p), .int (nI (nn + 1)), .int wp, .ref po, .ref d, .int (nI t)])) ∧ FrO [a, qo] h h' ∧ h a = some (.inr (2, vs))) (fun _ _ => False) := by
  refine xw_Met.of rfl (by decide) (Nat.le_of_ble_eq_true rfl) ?_
  obtain ⟨e_qo, T, e_ph, e_nd, P, hp, hnn, ht, Fp, Nd⟩ := id K
  obtain ⟨e_po, e_d, e_k1, e_k2, e_k3, hln, PF⟩ := id P
  have e_tk := T.1
  have hc := PF.1
  refine s_Question_newNode_0 (tokens_a0 := some tk) (phrases_a0 := some ph) (nodes_a0 := some nd) (parts_a0 := some po) (letters_a0 := some d) e_qo (fun z => ?_) (fun z => absurd (nI_lt (a := nn) (b := 24) hn (by decide)) z)
  obtain ⟨a, l, r, k, y1, y2, z1, z2, z3, z4, ea1, ea2, -⟩ := Nd nn hn
  refine s_Question_newNode_14 (tokens_a0 := some tk) (phrases_a0 := some ph) (parts_a0 := some po) (letters_a0 := some d) (g22 := a) (left_g22 := l) (right_g22 := r) e_qo e_nd (vp_in_nI hn (by decide)) (by rw [nI_clamp (by omega)]; exact ea1) ea2 ?_
  rw [nI_1]
  have naq : a ≠ qo := xw_neC ea2 e_qo (by simp)
  refine ⟨a, l, r, y1, y2, z1, z2, z3, z4, _, rfl, ea1, ?_, xw_up_s _ _ _, (FrO.rf.up (by simp) (fun q hq => xw_up_n _ _ hq)).up (by simp) (fun q hq => xw_up_n _ _ hq), ea2⟩
  rw [xw_up_n _ _ naq]
  exact xw_up_s _ _ _
set_option maxHeartbeats 1000000 in
theorem g_groupH {G : xw_G} {F L : Nat} {h : xw_A} {u : Nat} {re co pl : Int32} {y : GRt} {B : List Nat} {qo tk tl tz ph nd po k1 k2 k3 d ln c : Nat} {fk fs fe fd : Nat → Int32} {fp fn : Nat → Option Nat} {p nn n t : Nat} {wp : Int32} {f g : Nat → Int32} (K : QuC qo tk tl tz ph nd po k1 k2 k3 d ln c fk fs fe fd fp fn p nn n t wp f g h) (A : QuA B qo tk tl tz ph nd po k1 k2 k3 d fp fn) {s : PSt} {nds : List NDt} (X : QuT fd ln c fk fs fe fp fn p nn n t f g s ([]) nds h) (hu : u ≤ p) (hgp : s.2.2.length < p) (hy0 : u = y.2.1) (hy1 : p = y.2.2.1) (hy2 : re = nI (if y.1 = 2 then y.2.2.2.2 else 0)) (hy3 : co = nI y.2.2.2.1) (hy4 : pl = (if y.1 = 1 then 1 else -1)) (hF : 2 ≤ F) (hL : 62 ≤ L) :
    xw_Met G m_Question_group F L 0 0 [.ref qo, .int (nI u), .int re, .int co, .int pl] h (fun v h' => ∃ a : Nat, v = some (.ref a) ∧ fn nds.length = some a ∧ QuD qo tk tl tz ph nd po k1 k2 k3 d ln c fk fs fe fd fp fn (s.1, s.2.1, s.2.2 ++ [y]) [] (nds ++ [(0, s.2.2.length, 0)]) h' ∧ FrO B h h') (fun _ _ => False) := by
  refine xw_Met.of rfl (by decide) (Nat.le_of_ble_eq_true rfl) ?_
  have e_qo := K.1
  have hp12 := K.2.2.2.2.2.1
  have hnn := X.2.2.2.2.2.1
  have hn : nn < 24 := by omega
  refine s_Question_group_0 ?_
  refine x_callV (As := [.int 0]) (b := qo) (rest := []) (F1 := 1) (L1 := 40) (mc := 0) (ms := 0) d_Question_group_2 cV_Question_156 (g_newNodeH K hn (by omega) (by omega)) e_qo ⟨by decide, rfl⟩ ⟨by omega, by show 8 + (3 + 11) + 40 ≤ _; omega⟩ ⟨by omega, by omega⟩ (Nat.le_of_ble_eq_true rfl) (fun v h1 q => ?_)
  obtain ⟨a, l, r, y1, y2, z1, z2, z3, z4, vs, rfl, ha, e1, e2, fr, e0⟩ := q
  refine s_Question_group_5 (s0 := some a) (fun z => nomatch z) (fun a9 z => ?_)
  refine s_Question_group_12 (left_a5 := l) (right_a5 := r) (tokens_a0 := some tk) (phrases_a0 := some ph) (nodes_a0 := some nd) (parts_a0 := some po) (letters_a0 := some d) e1 e2 ?_
  rw [xw_up_up, xw_up_up, xw_up_up]
  refine x_u1 (fun h2 g2 f2 => ?_)
  refine s_Question_group_39 (left_a5 := l) (right_a5 := r) g2 ?_
  refine x_u1 (fun h3 g3 f3 => ?_)
  refine s_Question_group_46 (r5 := some a) ?_
  have naq : qo ≠ a := xw_neC e2 e1 (by simp)
  have e4 := (f3 _ naq).trans ((f2 _ naq).trans e2)
  have rr : FrO [a, qo] h h3 := (fr.up (by simp) f2).up (by simp) f3
  refine ⟨a, rfl, by rw [← X.2.2.2.1]; exact ha, ⟨p, nn + 1, n, t, wp, f, g, K.nd1 A rr hn ha g3 e4 (Or.inl ⟨rfl, u, p, rfl, rfl, hu, Nat.le_refl _⟩), ?_⟩, rr.mono (suC (A.2.2.1 nn a hn ha) (suC A.1.1 suN))⟩
  refine X.nd1 A.2.2.2.2.2 hn ha e_qo e0 rr g3 ⟨fun _ => ⟨rfl, y, ?_, by rw [hy0], by rw [hy1], hy2, hy3, hy4⟩, fun q => absurd rfl q⟩ (by show s.2.2.length + 1 ≤ p; omega) (by show nn + 1 ≤ 2 * (s.2.2.length + 1); omega)
  show (s.2.2 ++ [y])[s.2.2.length]? = some y
  simp
set_option maxHeartbeats 1000000 in
theorem g_joinH {G : xw_G} {F L : Nat} {h : xw_A} {x : Int32} {rk a1 a2 i1 i2 : Nat} {B : List Nat} {qo tk tl tz ph nd po k1 k2 k3 d ln c : Nat} {fk fs fe fd : Nat → Int32} {fp fn : Nat → Option Nat} {p nn n t : Nat} {wp : Int32} {f g : Nat → Int32} (K : QuC qo tk tl tz ph nd po k1 k2 k3 d ln c fk fs fe fd fp fn p nn n t wp f g h) (A : QuA B qo tk tl tz ph nd po k1 k2 k3 d fp fn) {s : PSt} {nds : List NDt} (X : QuT fd ln c fk fs fe fp fn p nn n t f g s ([]) nds h) (hx : x = nI (rk + 4)) (hr1 : 1 ≤ rk) (hr4 : rk ≤ 4) (hi1 : i1 < nn) (hf1 : fn i1 = some a1) (hi2 : i2 < nn) (hf2 : fn i2 = some a2) (hn2 : nn + 1 ≤ 2 * s.2.2.length) (hF : 2 ≤ F) (hL : 62 ≤ L) :
    xw_Met G m_Question_join F L 0 0 [.ref qo, .int x, .ref a1, .ref a2] h (fun v h' => ∃ a : Nat, v = some (.ref a) ∧ fn nds.length = some a ∧ QuD qo tk tl tz ph nd po k1 k2 k3 d ln c fk fs fe fd fp fn s [] (nds ++ [(rk, i1, i2)]) h' ∧ FrO B h h') (fun _ _ => False) := by
  refine xw_Met.of rfl (by decide) (Nat.le_of_ble_eq_true rfl) ?_
  have e_qo := K.1
  have hp12 := K.2.2.2.2.2.1
  have hgp := X.2.2.2.2.1
  have hn : nn < 24 := by omega
  refine s_Question_join_0 (fun z8 => ?_) (fun z8 => ?_)
  · have hr : ¬ rk = 4 := fun q => z8 (by rw [hx, q]; rfl)
    have hx0 : ¬ x = 0 := by rw [hx]; exact nI_ne0 (by omega) (by omega)
    refine s_Question_join_12 ?_
    refine x_callV (As := [.int x]) (b := qo) (rest := []) (F1 := 1) (L1 := 40) (mc := 0) (ms := 0) d_Question_join_13 cV_Question_156 (g_newNodeH K hn (by omega) (by omega)) e_qo ⟨by decide, rfl⟩ ⟨by omega, by show 8 + (3 + 11) + 40 ≤ _; omega⟩ ⟨by omega, by omega⟩ (Nat.le_of_ble_eq_true rfl) (fun v h1 q => ?_)
    obtain ⟨a, l, r, y1, y2, z1, z2, z3, z4, vs, rfl, ha, e1, e2, fr, e0⟩ := q
    refine s_Question_join_16 (s0 := some a) (fun z => nomatch z) (fun a9 z => ?_)
    refine s_Question_join_23 (left_a4 := l) (right_a4 := r) e1 ?_
    rw [xw_up_up]
    refine x_u1 (fun h2 g2 f2 => ?_)
    refine s_Question_join_35 (r4 := some a) ?_
    have naq : qo ≠ a := xw_neC e2 e1 (by simp)
    have e4 := (f2 _ naq).trans e2
    have rr : FrO [a, qo] h h2 := fr.up (by simp) f2
    refine ⟨a, rfl, by rw [← X.2.2.2.1]; exact ha, ⟨p, nn + 1, n, t, wp, f, g, K.nd1 (l := some a1) (r := some a2) A rr hn ha g2 e4 (Or.inr ⟨hx0, i1, i2, by omega, by omega, hf1.symm, hf2.symm⟩), ?_⟩, rr.mono (suC (A.2.2.1 nn a hn ha) (suC A.1.1 suN))⟩
    have Y := X.nd1 (x := (rk, i1, i2)) (gr2 := []) (l := some a1) (r := some a2) A.2.2.2.2.2 hn ha e_qo e0 rr g2 ⟨fun q => absurd q (by show ¬ rk = 0; omega), fun _ => ⟨by show _ = nI (if rk = 4 then 6 else rk + 4); rw [if_neg hr]; exact hx, hf1.symm, hf2.symm⟩⟩ (by show s.2.2.length + 0 ≤ p; have := X.2.2.2.2.1; omega) (by show nn + 1 ≤ 2 * (s.2.2.length + 0); omega)
    rw [List.append_nil] at Y
    exact Y
  · have hr : rk = 4 := by
      have := (nI_eq (a := rk + 4) (b := 8) (by omega) (by decide)).mp (hx.symm.trans z8)
      omega
    refine s_Question_join_7 ?_
    refine x_callV (As := [.int 6]) (b := qo) (rest := []) (F1 := 1) (L1 := 40) (mc := 0) (ms := 0) d_Question_join_13 cV_Question_156 (g_newNodeH K hn (by omega) (by omega)) e_qo ⟨by decide, rfl⟩ ⟨by omega, by show 8 + (3 + 11) + 40 ≤ _; omega⟩ ⟨by omega, by omega⟩ (Nat.le_of_ble_eq_true rfl) (fun v h1 q => ?_)
    obtain ⟨a, l, r, y1, y2, z1, z2, z3, z4, vs, rfl, ha, e1, e2, fr, e0⟩ := q
    refine s_Question_join_16 (s0 := some a) (fun z => nomatch z) (fun a9 z => ?_)
    refine s_Question_join_23 (left_a4 := l) (right_a4 := r) e1 ?_
    rw [xw_up_up]
    refine x_u1 (fun h2 g2 f2 => ?_)
    refine s_Question_join_35 (r4 := some a) ?_
    have naq : qo ≠ a := xw_neC e2 e1 (by simp)
    have e4 := (f2 _ naq).trans e2
    have rr : FrO [a, qo] h h2 := fr.up (by simp) f2
    refine ⟨a, rfl, by rw [← X.2.2.2.1]; exact ha, ⟨p, nn + 1, n, t, wp, f, g, K.nd1 (l := some a1) (r := some a2) A rr hn ha g2 e4 (Or.inr ⟨by decide, i1, i2, by omega, by omega, hf1.symm, hf2.symm⟩), ?_⟩, rr.mono (suC (A.2.2.1 nn a hn ha) (suC A.1.1 suN))⟩
    have Y := X.nd1 (x := (rk, i1, i2)) (gr2 := []) (l := some a1) (r := some a2) A.2.2.2.2.2 hn ha e_qo e0 rr g2 ⟨fun q => absurd q (by show ¬ rk = 0; omega), fun _ => ⟨by show _ = nI (if rk = 4 then 6 else rk + 4); rw [if_pos hr]; rfl, hf1.symm, hf2.symm⟩⟩ (by show s.2.2.length + 0 ≤ p; have := X.2.2.2.2.1; omega) (by show nn + 1 ≤ 2 * (s.2.2.length + 0); omega)
    rw [List.append_nil] at Y
    exact Y
