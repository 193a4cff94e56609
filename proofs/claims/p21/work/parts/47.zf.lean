set_option maxHeartbeats 2000000 in
theorem g_singleH {G : xw_G} {F L : Nat} {h : xw_A} {co : Int32} {cc : Nat} {B : List Nat} {qo tk tl tz ph nd po k1 k2 k3 d ln c : Nat} {fk fs fe fd : Nat → Int32} {fp fn : Nat → Option Nat} {p nn n t : Nat} {wp : Int32} {f g : Nat → Int32} (K : QuC qo tk tl tz ph nd po k1 k2 k3 d ln c fk fs fe fd fp fn p nn n t wp f g h) (A : QuA B qo tk tl tz ph nd po k1 k2 k3 d fp fn) {s : PSt} {nds : List NDt} (X : QuT fd ln c fk fs fe fp fn p nn n t f g s ([]) nds h) (h128 : ∀ j, j < ln → ∃ c, c < 128 ∧ fd j = nI c) (hco : co = nI cc) (h8 : ¬ kdS fd ln s = 8) (hF : 5 ≤ F) (hL : 110 ≤ L) :
    xw_Met G m_Question_single F L 0 0 [.ref qo, .int co] h (fun v h' => QuG B qo tk tl tz ph nd po k1 k2 k3 d ln c fk fs fe fd fp fn s nds (gpP fd ln cc s) h v h') (fun _ _ => False) := by
  refine xw_Met.of rfl (by decide) (Nat.le_of_ble_eq_true rfl) ?_
  obtain ⟨e_qo, T, e_ph, e_nd, P, hp, hnn, ht, Fp, Nd⟩ := id K
  obtain ⟨e_po, e_d, e_k1, e_k2, e_k3, hln, PF⟩ := id P
  have e_tk := T.1
  have hc := PF.1
  have r0 : FrO B h h := FrO.rf
  refine s_Question_single_0 ?_
  refine x_callV (As := [.int 12]) (b := qo) (rest := []) (F1 := 2) (L1 := 40) (mc := 0) (ms := 0) d_Question_single_3 cV_Question_103 (g_takesH K X (v9 := 12) rfl (by decide) (by decide) (by omega) (by omega)) e_qo ⟨by decide, rfl⟩ ⟨by omega, by show 8 + (2 + 11) + 40 ≤ _; omega⟩ ⟨by omega, by omega⟩ (Nat.le_of_ble_eq_true rfl) (fun v_7 h_6 p_8 => ?_)
  obtain ⟨b_1, t_2, rfl, hb_3, K_4, fr_5⟩ := p_8
  have r_9 := r0.trans (fr_5.mono (suC A.1.1 suN))
  obtain ⟨eqo_10, T_11, eph_12, end_13, P_14, hp_15, hnn_16, ht_17, Fp_18, Nd_19⟩ := id K_4
  obtain ⟨epo_20, ed_21, ek1_22, ek2_23, ek3_24, -, PF_25⟩ := id P_14
  have etk_26 := T_11.1
  refine s_Question_single_6 (fun z_27 => ?_) (fun z_28 => ?_)
  · skip
    refine s_Question_single_13 ?_
    refine s_Question_single_14 (tokens_a0 := some tk) (phrases_a0 := some ph) (nodes_a0 := some nd) (parts_a0 := some po) (letters_a0 := some d) eqo_10 ?_
    have hf_29 := (hb_3.resolve_right (fun q => absurd (q.1.symm.trans z_27) (by decide))).2
    obtain ⟨hk_31, X_30⟩ := hf_29
    refine x_callV (As := []) (b := qo) (rest := []) (F1 := 4) (L1 := 88) (mc := 0) (ms := 0) d_Question_single_21 cV_Question_126 (g_readPhraseH K_4 A X_30 h128 (by omega) (by omega)) eqo_10 ⟨by decide, rfl⟩ ⟨by omega, by show 8 + (3 + 11) + 88 ≤ _; omega⟩ ⟨by omega, by omega⟩ (Nat.le_of_ble_eq_true rfl) (fun v_40 h_39 p_41 => ?_)
    rcases p_41 with ⟨fr_32, ⟨hx_33, rfl, E_34⟩ | ⟨p_37, y_38, hx_35, rfl, D_36⟩⟩
    · skip
      have r_42 := r_9.trans fr_32
      obtain ⟨p_43, nn_44, n_45, t_46, wp_47, f_48, g_49, K_50, G_51⟩ := E_34
      obtain ⟨eqo_52, T_53, eph_54, end_55, P_56, hp_57, hnn_58, ht_59, Fp_60, Nd_61⟩ := id K_50
      obtain ⟨epo_62, ed_63, ek1_64, ek2_65, ek3_66, -, PF_67⟩ := id P_56
      have etk_68 := T_53.1
      refine s_Question_single_24 (fun z_69 => ?_) (fun z => absurd z (by decide))
      refine s_Question_single_38 ?_
      refine s_Question_single_39 (s0 := none) ?_
      exact ⟨r_42, Or.inl ⟨gp_0n h8 hk_31 hx_33, rfl, ⟨_, _, _, _, _, _, _, K_50, G_51⟩⟩⟩
    · skip
      have r_70 := r_9.trans fr_32
      obtain ⟨p_71, nn_72, n_73, t_74, wp_75, f_76, g_77, K_78, X_79⟩ := D_36
      obtain ⟨eqo_80, T_81, eph_82, end_83, P_84, hp_85, hnn_86, ht_87, Fp_88, Nd_89⟩ := id K_78
      obtain ⟨epo_90, ed_91, ek1_92, ek2_93, ek3_94, -, PF_95⟩ := id P_84
      have etk_96 := T_81.1
      refine s_Question_single_24 (fun z => absurd z (by decide)) (fun z_97 => ?_)
      refine s_Question_single_27 ?_
      have hl9 : p_71 = p + 1 := by have q1 : p_71 = (s.2.1 ++ [y_38]).length := X_79.2.2.1; have q2 := X.2.2.1; rw [List.length_append, List.length_singleton] at q1; omega
      have hl8 := X.2.2.2.2.1
      have hl7 := X.2.2.1
      refine x_callV (As := [.int (nI p), .int 0, .int co, .int (-1)]) (b := qo) (rest := []) (F1 := 2) (L1 := 62) (mc := 0) (ms := 0) d_Question_single_32 cV_Question_129 (g_groupH (u := p) (y := (0, s.2.1.length, s.2.1.length + 1, cc, 10)) K_78 A X_79 (by omega) (by show s.2.2.length < _; omega) hl7 (by show _ = s.2.1.length + 1; omega) rfl hco rfl (by omega) (by omega)) eqo_80 ⟨by decide, rfl⟩ ⟨by omega, by show 8 + (6 + 11) + 62 ≤ _; omega⟩ ⟨by omega, by omega⟩ (Nat.le_of_ble_eq_true rfl) (fun v_103 h_102 p_104 => ?_)
      obtain ⟨a_98, rfl, ha_99, D_100, fr_101⟩ := p_104
      have r_105 := r_70.trans fr_101
      refine x_le (xw_le_n (xw_le_n (xw_le_n (xw_le_n xw_le_e)))) ?_
      refine s_Question_single_35 (s0 := some a_98) ?_
      refine s_Question_single_39 (s0 := some a_98) ?_
      exact ⟨r_105, Or.inr ⟨_, _, a_98, gp_0y h8 hk_31 hx_35, rfl, ha_99, by show (_ ++ [_]).length = _; rw [List.length_append]; rfl, D_100⟩⟩
  · skip
    refine s_Question_single_9 ?_
    refine s_Question_single_14 (tokens_a0 := some tk) (phrases_a0 := some ph) (nodes_a0 := some nd) (parts_a0 := some po) (letters_a0 := some d) eqo_10 ?_
    have hf_106 := (hb_3.resolve_left (fun q => z_28 q.1)).2
    obtain ⟨hk_108, X_107⟩ := hf_106
    refine x_callV (As := []) (b := qo) (rest := []) (F1 := 4) (L1 := 88) (mc := 0) (ms := 0) d_Question_single_21 cV_Question_126 (g_readPhraseH K_4 A X_107 h128 (by omega) (by omega)) eqo_10 ⟨by decide, rfl⟩ ⟨by omega, by show 8 + (3 + 11) + 88 ≤ _; omega⟩ ⟨by omega, by omega⟩ (Nat.le_of_ble_eq_true rfl) (fun v_117 h_116 p_118 => ?_)
    rcases p_118 with ⟨fr_109, ⟨hx_110, rfl, E_111⟩ | ⟨p_114, y_115, hx_112, rfl, D_113⟩⟩
    · skip
      have r_119 := r_9.trans fr_109
      obtain ⟨p_120, nn_121, n_122, t_123, wp_124, f_125, g_126, K_127, G_128⟩ := E_111
      obtain ⟨eqo_129, T_130, eph_131, end_132, P_133, hp_134, hnn_135, ht_136, Fp_137, Nd_138⟩ := id K_127
      obtain ⟨epo_139, ed_140, ek1_141, ek2_142, ek3_143, -, PF_144⟩ := id P_133
      have etk_145 := T_130.1
      refine s_Question_single_24 (fun z_146 => ?_) (fun z => absurd z (by decide))
      refine s_Question_single_38 ?_
      refine s_Question_single_39 (s0 := none) ?_
      exact ⟨r_119, Or.inl ⟨gp_12n hk_108 hx_110, rfl, ⟨_, _, _, _, _, _, _, K_127, G_128⟩⟩⟩
    · skip
      have r_147 := r_9.trans fr_109
      obtain ⟨p_148, nn_149, n_150, t_151, wp_152, f_153, g_154, K_155, X_156⟩ := D_113
      obtain ⟨eqo_157, T_158, eph_159, end_160, P_161, hp_162, hnn_163, ht_164, Fp_165, Nd_166⟩ := id K_155
      obtain ⟨epo_167, ed_168, ek1_169, ek2_170, ek3_171, -, PF_172⟩ := id P_161
      have etk_173 := T_158.1
      refine s_Question_single_24 (fun z => absurd z (by decide)) (fun z_174 => ?_)
      refine s_Question_single_27 ?_
      have hl9 : p_148 = p + 1 := by have q1 : p_148 = (s.2.1 ++ [y_115]).length := X_156.2.2.1; have q2 := X.2.2.1; rw [List.length_append, List.length_singleton] at q1; omega
      have hl8 := X.2.2.2.2.1
      have hl7 := X.2.2.1
      refine x_callV (As := [.int (nI p), .int 0, .int co, .int 1]) (b := qo) (rest := []) (F1 := 2) (L1 := 62) (mc := 0) (ms := 0) d_Question_single_32 cV_Question_129 (g_groupH (u := p) (y := (1, s.2.1.length, s.2.1.length + 1, cc, 10)) K_155 A X_156 (by omega) (by show s.2.2.length < _; omega) hl7 (by show _ = s.2.1.length + 1; omega) rfl hco rfl (by omega) (by omega)) eqo_157 ⟨by decide, rfl⟩ ⟨by omega, by show 8 + (6 + 11) + 62 ≤ _; omega⟩ ⟨by omega, by omega⟩ (Nat.le_of_ble_eq_true rfl) (fun v_180 h_179 p_181 => ?_)
      obtain ⟨a_175, rfl, ha_176, D_177, fr_178⟩ := p_181
      have r_182 := r_147.trans fr_178
      refine x_le (xw_le_n (xw_le_n (xw_le_n (xw_le_n xw_le_e)))) ?_
      refine s_Question_single_35 (s0 := some a_175) ?_
      refine s_Question_single_39 (s0 := some a_175) ?_
      exact ⟨r_182, Or.inr ⟨_, _, a_175, gp_12y hk_108 hx_112, rfl, ha_176, by show (_ ++ [_]).length = _; rw [List.length_append]; rfl, D_177⟩⟩
set_option maxHeartbeats 400000 in
theorem g_isColumnH {G : xw_G} {F L : Nat} {h : xw_A} {c : Int32} (hF : 1 ≤ F) (hL : 20 ≤ L) :
    xw_Met G m_Shelf_isColumn F L 0 0 [.int c] h (fun v h' => (∃ b : Int32, v = some (.int b) ∧ ((b = 0 ∧ ¬ (c = 0 ∨ c = 1)) ∨ (b = 1 ∧ (c = 0 ∨ c = 1)))) ∧ h = h') (fun _ _ => False) := by
  refine xw_Met.of rfl (by decide) (Nat.le_of_ble_eq_true rfl) ?_
  refine s_Shelf_isColumn_0 (fun z_1 => ?_) (fun z_2 => ?_)
  · skip
    refine s_Shelf_isColumn_13 ?_
    refine s_Shelf_isColumn_14 rfl ?_
    exact ⟨⟨_, rfl, Or.inl ⟨rfl, fun q => absurd z_1 (col01.mpr q).1⟩⟩, rfl⟩
  · skip
    refine s_Shelf_isColumn_4 (fun z_3 => ?_) (fun z_4 => ?_)
    · skip
      refine s_Shelf_isColumn_13 ?_
      refine s_Shelf_isColumn_14 rfl ?_
      exact ⟨⟨_, rfl, Or.inl ⟨rfl, fun q => absurd z_3 (Int32.not_le.mpr (col01.mpr q).2)⟩⟩, rfl⟩
    · skip
      refine s_Shelf_isColumn_9 ?_
      refine s_Shelf_isColumn_14 rfl ?_
      exact ⟨⟨_, rfl, Or.inr ⟨rfl, col01.mp ⟨z_2, Int32.not_le.mp z_4⟩⟩⟩, rfl⟩
set_option maxHeartbeats 400000 in
theorem g_columnNamedH {G : xw_G} {F L : Nat} {h : xw_A} {po k1 k2 k3 d ln : Nat} {fd : Nat → Int32} (e_po : h po = some (.inr (3, [.ref k1, .ref k2, .ref k3, .ref d, .int (nI ln)]))) (e_d : h d = some (.inl (1, 96, .inl fd))) (hln : ln ≤ 96) {fk fs fe : Nat → Int32} (e_k1 : h k1 = some (.inl (0, 97, .inl fk))) (e_k2 : h k2 = some (.inl (0, 97, .inl fs))) (e_k3 : h k3 = some (.inl (0, 97, .inl fe))) {t pp : Nat} (hi : t < 97) (hk : fk t = nI (kdP fd ln pp)) (ha : fs t = nI (bl fd ln pp)) (hb : fe t = nI (skP fd ln pp)) (h3 : kdP fd ln pp = 3) (hF : 2 ≤ F) (hL : 40 ≤ L) :
    xw_Met G m_Parts_columnNamed F L 0 0 [.ref po, .int (nI t)] h (fun v h' => (∃ y : Int32, v = some (.int y) ∧ ((y = 0 ∧ skP fd ln pp = bl fd ln pp + 1 ∧ fd (bl fd ln pp) = 97) ∨ (y = 1 ∧ skP fd ln pp = bl fd ln pp + 1 ∧ fd (bl fd ln pp) = 98) ∨ (y = -1 ∧ ¬ (skP fd ln pp = bl fd ln pp + 1 ∧ (fd (bl fd ln pp) = 97 ∨ fd (bl fd ln pp) = 98))))) ∧ h = h') (fun _ _ => False) := by
  refine xw_Met.of rfl (by decide) (Nat.le_of_ble_eq_true rfl) ?_
  obtain ⟨hw1, hw2, -⟩ := kd_w (t := fd) (n := ln) (p := pp) (Or.inr h3)
  refine s_Parts_columnNamed_0 (kinds_a0 := some k1) (letters_a0 := some d) e_po e_k3 (vp_in_nI (by omega) (by omega)) e_k2 (vp_in_nI (by omega) (by omega)) (fun z_1 => ?_) (fun z_2 => ?_)
  · skip
    have hs1 : skP fd ln pp = bl fd ln pp + 1 := by rw [nI_clamp (by omega), ha, hb, pk_sub (by omega)] at z_1; have := (nI_eq (a := skP fd ln pp - bl fd ln pp) (b := 1) (by omega) (by decide)).mp z_1; omega
    refine s_Parts_columnNamed_19 (kinds_a0 := some k1) (ends_a0 := some k3) e_po e_k2 (vp_in_nI (by omega) (by omega)) e_d (by rw [nI_clamp (by omega), ha]; exact vp_in_nI (by omega) (by decide)) ?_
    rw [nI_clamp (show t < 2 ^ 31 by omega), ha, nI_clamp (show bl fd ln pp < 2 ^ 31 by omega)]
    refine x_callSN (As := [.int (fd (bl fd ln pp) - 97)]) (rest := []) (F1 := 1) (L1 := 20) (mc := 0) (ms := 0) d_Parts_columnNamed_35 cN_Parts_77 (g_isColumnH (by omega) (by omega)) ⟨by omega, by show 8 + (1 + 11) + 20 ≤ _; omega⟩ ⟨by omega, by omega⟩ (Nat.le_of_ble_eq_true rfl) (fun v_6 h_5 p_7 => ?_)
    obtain ⟨⟨b_3, rfl, hb_4⟩, rfl⟩ := p_7
    refine x_le (xw_le_n (xw_le_n (xw_le_s xw_le_e))) ?_
    refine s_Parts_columnNamed_38 (fun z_8 => ?_) (fun z_9 => ?_)
    · skip
      refine s_Parts_columnNamed_45 ?_
      refine s_Parts_columnNamed_46 ?_
      have hf_10 := (hb_4.resolve_right (fun q => absurd (q.1.symm.trans z_8) (by decide))).2
      exact ⟨⟨_, rfl, Or.inr (Or.inr ⟨rfl, fun q => hf_10 (q.2.imp sub97.1.mpr sub97.2.mpr)⟩)⟩, rfl⟩
    · skip
      refine s_Parts_columnNamed_41 ?_
      refine s_Parts_columnNamed_46 ?_
      have hf_11 := (hb_4.resolve_left (fun q => z_9 q.1)).2
      exact ⟨⟨_, rfl, hf_11.elim (fun q => Or.inl ⟨q, hs1, sub97.1.mp q⟩) (fun q => Or.inr (Or.inl ⟨q, hs1, sub97.2.mp q⟩))⟩, rfl⟩
  · skip
    refine s_Parts_columnNamed_17 ?_
    exact ⟨⟨_, rfl, Or.inr (Or.inr ⟨rfl, fun q => z_2 (by rw [nI_clamp (by omega), ha, hb, pk_sub (by omega), show skP fd ln pp - bl fd ln pp = 1 by omega]; rfl)⟩)⟩, rfl⟩
set_option maxHeartbeats 1000000 in
theorem lp_numberH {G : xw_G} {F L bc bs : Nat} {pr : Option Value → xw_A → Prop} {px : String → xw_A → Prop} {h : xw_A} {po k1 k2 k3 d ln : Nat} {fd : Nat → Int32} (e_po : h po = some (.inr (3, [.ref k1, .ref k2, .ref k3, .ref d, .int (nI ln)]))) (e_d : h d = some (.inl (1, 96, .inl fd))) (hln : ln ≤ 96) {fk fs fe : Nat → Int32} (e_k1 : h k1 = some (.inl (0, 97, .inl fk))) (e_k2 : h k2 = some (.inl (0, 97, .inl fs))) (e_k3 : h k3 = some (.inl (0, 97, .inl fe))) {t pp : Nat} (hi : t < 97) (hk : fk t = nI (kdP fd ln pp)) (ha : fs t = nI (bl fd ln pp)) (hb : fe t = nI (skP fd ln pp)) (h128 : ∀ j, j < ln → ∃ c, c < 128 ∧ fd j = nI c) (hw1 : bl fd ln pp < skP fd ln pp) (hw2 : skP fd ln pp ≤ ln) (hwd : ∀ j, bl fd ln pp ≤ j → j < skP fd ln pp → isW (fd j) = true) (kk0 : (∃ j, bl fd ln pp ≤ j ∧ j < skP fd ln pp ∧ dig (fd j) = false) → pr (some (.int (-1))) h) (kk : ∀ r : Int32, r = nI (nmV fd (bl fd ln pp) (skP fd ln pp - bl fd ln pp)) → (∀ j, bl fd ln pp ≤ j → j < skP fd ln pp → dig (fd j) = true ∧ (fd j).toNatClampNeg ≤ 57) → pr (some (.int r)) h) :
    ∀ (dd i : Nat) (r : Int32), i + dd = skP fd ln pp → (bl fd ln pp ≤ i ∧ r = nI (nmV fd (bl fd ln pp) (i - bl fd ln pp)) ∧ ∀ j, bl fd ln pp ≤ j → j < i → dig (fd j) = true ∧ (fd j).toNatClampNeg ≤ 57) → xw G m_Parts_number F L bc bs pr px 48 [some (.ref po), some (.int (nI t)), some (.int r), some (.int (nI i))] [] h := by
  intro dd
  induction dd with
  | zero =>
    intro i r hi hp
    obtain rfl : i = skP fd ln pp := by omega
    refine s_Parts_number_48 (kinds_a0 := some k1) (starts_a0 := some k2) (letters_a0 := some d) e_po e_k3 (vp_in_nI (by omega) (by omega)) (fun z_1 => ?_) (fun z => absurd (by rw [nI_clamp (by omega), hb]; exact nI_le (Nat.le_refl _) (by omega)) z)
    refine s_Parts_number_92 ?_
    exact kk _ hp.2.1 (fun j q1 q2 => hp.2.2 j q1 q2)
  | succ dd ih =>
    intro i r hi hp
    refine s_Parts_number_48 (kinds_a0 := some k1) (starts_a0 := some k2) (letters_a0 := some d) e_po e_k3 (vp_in_nI (by omega) (by omega)) (fun z => absurd z (by rw [nI_clamp (by omega), hb]; exact nI_ge (show i < skP fd ln pp by omega) (by omega))) (fun z_1 => ?_)
    refine s_Parts_number_58 (kinds_a0 := some k1) (starts_a0 := some k2) (ends_a0 := some k3) e_po e_d (vp_in_nI (by omega) (by omega)) (fun z_2 => ?_) (fun z_3 => ?_)
    · skip
      refine s_Parts_number_71 (kinds_a0 := some k1) (starts_a0 := some k2) (ends_a0 := some k3) e_po e_d (vp_in_nI (by omega) (by omega)) ?_
      simp only [nI_1]
      exact ih (i + 1) _ (by omega) (by rw [nI_clamp (show i < 2 ^ 31 by omega)] at z_2 ⊢; obtain ⟨c9, hc9, e9⟩ := h128 i (by omega); have d9 := dgI c9 hc9 (by rw [← e9]; exact hwd i hp.1 (by omega)) (by rw [← e9]; exact Int32.not_lt.mpr z_2); refine ⟨by omega, by rw [hp.2.1]; exact nm_step hp.1 e9 d9.2.1 d9.2.2.2, fun j q1 q2 => ?_⟩; by_cases q3 : j = i; (rw [q3, e9]; exact ⟨d9.1, by rw [d9.2.2.2]; exact d9.2.2.1⟩); (exact hp.2.2 j q1 (by omega)))
    · skip
      refine s_Parts_number_69 ?_
      rw [nI_clamp (show i < 2 ^ 31 by omega)] at z_3
      exact kk0 ⟨i, hp.1, by omega, dgN (Int32.not_le.mp z_3)⟩
set_option maxHeartbeats 400000 in
theorem g_numberH {G : xw_G} {F L : Nat} {h : xw_A} {po k1 k2 k3 d ln : Nat} {fd : Nat → Int32} (e_po : h po = some (.inr (3, [.ref k1, .ref k2, .ref k3, .ref d, .int (nI ln)]))) (e_d : h d = some (.inl (1, 96, .inl fd))) (hln : ln ≤ 96) {fk fs fe : Nat → Int32} (e_k1 : h k1 = some (.inl (0, 97, .inl fk))) (e_k2 : h k2 = some (.inl (0, 97, .inl fs))) (e_k3 : h k3 = some (.inl (0, 97, .inl fe))) {t pp : Nat} (hi : t < 97) (hk : fk t = nI (kdP fd ln pp)) (ha : fs t = nI (bl fd ln pp)) (hb : fe t = nI (skP fd ln pp)) (h128 : ∀ j, j < ln → ∃ c, c < 128 ∧ fd j = nI c) (hF : 1 ≤ F) (hL : 20 ≤ L) :
    xw_Met G m_Parts_number F L 0 0 [.ref po, .int (nI t)] h (fun v h' => (∃ y : Int32, v = some (.int y) ∧ ((y < 0 ∧ rdN fd ln pp = none) ∨ ∃ d9, rdN fd ln pp = some d9 ∧ y = nI d9 ∧ d9 < 100 ∧ (kdP fd ln pp = 2 ∨ kdP fd ln pp = 3))) ∧ h = h') (fun _ _ => False) := by
  refine xw_Met.of rfl (by decide) (Nat.le_of_ble_eq_true rfl) ?_
  refine s_Parts_number_0 (starts_a0 := some k2) (ends_a0 := some k3) (letters_a0 := some d) e_po e_k1 (vp_in_nI (by omega) (by omega)) (fun z_1 => ?_) (fun z_2 => ?_)
  · skip
    refine s_Parts_number_20 (kinds_a0 := some k1) (letters_a0 := some d) e_po e_k3 (vp_in_nI (by omega) (by omega)) e_k2 (vp_in_nI (by omega) (by omega)) (fun z_3 => ?_) (fun z_4 => ?_)
    · skip
      refine s_Parts_number_39 (kinds_a0 := some k1) (ends_a0 := some k3) (letters_a0 := some d) e_po e_k2 (vp_in_nI (by omega) (by omega)) ?_
      have hkd : kdP fd ln pp = 2 ∨ kdP fd ln pp = 3 := by rw [nI_clamp (by omega), hk] at z_1; exact Or.inl ((nI_eq (by have := kdP_le fd ln pp; omega) (by decide)).mp (z_1.trans (show (2 : Int32) = nI 2 from rfl)))
      obtain ⟨hw1, hw2, hwd⟩ := kd_w hkd
      have hl2 : skP fd ln pp - bl fd ln pp ≤ 2 := by rw [nI_clamp (by omega), ha, hb, pk_sub (by omega)] at z_3; exact (nI_leI (b := 2) (by omega) (by decide)).mp z_3
      rw [nI_clamp (by omega), ha]
      exact lp_numberH e_po e_d hln e_k1 e_k2 e_k3 hi hk ha hb h128 hw1 hw2 hwd (fun ⟨j, q1, q2, q3⟩ => ⟨⟨_, rfl, Or.inl ⟨by decide, rdN_d hl2 q1 q2 q3⟩⟩, rfl⟩) (fun r hr hd => ⟨⟨r, rfl, Or.inr ⟨_, rdN_y hkd hl2 hw1 (fun j q1 q2 => (hd j q1 q2).1), hr, nmV_lt _ hl2 (fun j hj => (hd _ (by omega) (by omega)).2), hkd⟩⟩, rfl⟩) (skP fd ln pp - bl fd ln pp) (bl fd ln pp) 0 (by omega) ⟨Nat.le_refl _, by rw [Nat.sub_self]; rfl, fun j q1 q2 => absurd q2 (by omega)⟩
    · skip
      refine s_Parts_number_37 ?_
      have hkd : kdP fd ln pp = 2 ∨ kdP fd ln pp = 3 := by rw [nI_clamp (by omega), hk] at z_1; exact Or.inl ((nI_eq (by have := kdP_le fd ln pp; omega) (by decide)).mp (z_1.trans (show (2 : Int32) = nI 2 from rfl)))
      obtain ⟨hw1, hw2, hwd⟩ := kd_w hkd
      exact ⟨⟨_, rfl, Or.inl ⟨by decide, rdN_l (Nat.lt_of_not_le (fun q => z_4 (by rw [nI_clamp (by omega), ha, hb, pk_sub (by omega)]; exact nI_le (b := 2) q (by decide))))⟩⟩, rfl⟩
  · skip
    refine s_Parts_number_10 (starts_a0 := some k2) (ends_a0 := some k3) (letters_a0 := some d) e_po e_k1 (vp_in_nI (by omega) (by omega)) (fun z_5 => ?_) (fun z_6 => ?_)
    · skip
      refine s_Parts_number_37 ?_
      exact ⟨⟨_, rfl, Or.inl ⟨by decide, rdN_k (fun q => z_2 (by rw [nI_clamp (by omega), hk, q]; rfl)) (fun q => z_5 (by rw [nI_clamp (by omega), hk, q]; rfl))⟩⟩, rfl⟩
    · skip
      refine s_Parts_number_20 (kinds_a0 := some k1) (letters_a0 := some d) e_po e_k3 (vp_in_nI (by omega) (by omega)) e_k2 (vp_in_nI (by omega) (by omega)) (fun z_7 => ?_) (fun z_8 => ?_)
      · skip
        refine s_Parts_number_39 (kinds_a0 := some k1) (ends_a0 := some k3) (letters_a0 := some d) e_po e_k2 (vp_in_nI (by omega) (by omega)) ?_
        have hkd : kdP fd ln pp = 2 ∨ kdP fd ln pp = 3 := by rw [nI_clamp (by omega), hk] at z_6; exact Or.inr ((nI_eq (by have := kdP_le fd ln pp; omega) (by decide)).mp (z_6.trans (show (3 : Int32) = nI 3 from rfl)))
        obtain ⟨hw1, hw2, hwd⟩ := kd_w hkd
        have hl2 : skP fd ln pp - bl fd ln pp ≤ 2 := by rw [nI_clamp (by omega), ha, hb, pk_sub (by omega)] at z_7; exact (nI_leI (b := 2) (by omega) (by decide)).mp z_7
        rw [nI_clamp (by omega), ha]
        exact lp_numberH e_po e_d hln e_k1 e_k2 e_k3 hi hk ha hb h128 hw1 hw2 hwd (fun ⟨j, q1, q2, q3⟩ => ⟨⟨_, rfl, Or.inl ⟨by decide, rdN_d hl2 q1 q2 q3⟩⟩, rfl⟩) (fun r hr hd => ⟨⟨r, rfl, Or.inr ⟨_, rdN_y hkd hl2 hw1 (fun j q1 q2 => (hd j q1 q2).1), hr, nmV_lt _ hl2 (fun j hj => (hd _ (by omega) (by omega)).2), hkd⟩⟩, rfl⟩) (skP fd ln pp - bl fd ln pp) (bl fd ln pp) 0 (by omega) ⟨Nat.le_refl _, by rw [Nat.sub_self]; rfl, fun j q1 q2 => absurd q2 (by omega)⟩
      · skip
        refine s_Parts_number_37 ?_
        have hkd : kdP fd ln pp = 2 ∨ kdP fd ln pp = 3 := by rw [nI_clamp (by omega), hk] at z_6; exact Or.inr ((nI_eq (by have := kdP_le fd ln pp; omega) (by decide)).mp (z_6.trans (show (3 : Int32) = nI 3 from rfl)))
        obtain ⟨hw1, hw2, hwd⟩ := kd_w hkd
        exact ⟨⟨_, rfl, Or.inl ⟨by decide, rdN_l (Nat.lt_of_not_le (fun q => z_8 (by rw [nI_clamp (by omega), ha, hb, pk_sub (by omega)]; exact nI_le (b := 2) q (by decide))))⟩⟩, rfl⟩
set_option maxHeartbeats 2000000 in
theorem lp_nearH {G : xw_G} {F L bc bs : Nat} {pr : Option Value → xw_A → Prop} {px : String → xw_A → Prop} {B : List Nat} {qo tk tl tz ph nd po k1 k2 k3 d ln c : Nat} {fk fs fe fd : Nat → Int32} {fp fn : Nat → Option Nat} {u : Nat} {co : Int32} {h0 : xw_A} {gr : List GRt} {nds : List NDt} {R : Option (Nat × List PHt)} (A : QuA B qo tk tl tz ph nd po k1 k2 k3 d fp fn) (h128 : ∀ j, j < ln → ∃ c, c < 128 ∧ fd j = nI c) (kk0 : ∀ (h : xw_A) (p nn n t : Nat) (wp : Int32) (f g : Nat → Int32), QuC qo tk tl tz ph nd po k1 k2 k3 d ln c fk fs fe fd fp fn p nn n t wp f g h → g 0 = 0 → FrO B h0 h → R = none → xw G m_Question_near F L bc bs pr px 56 [some (.ref qo), some (.int co), some (.int (nI u)), some (.int 0), none] [] h) (hF : 5 ≤ F) (hL : 110 ≤ L) (kk : ∀ (h : xw_A) (p nn n t : Nat) (wp : Int32) (f g : Nat → Int32) (pp : Nat) (phl : List PHt), QuC qo tk tl tz ph nd po k1 k2 k3 d ln c fk fs fe fd fp fn p nn n t wp f g h → QuT fd ln c fk fs fe fp fn p nn n t f g (pp, phl, gr) ([]) nds h → R = some (pp, phl) → FrO B h0 h → xw G m_Question_near F L bc bs pr px 56 [some (.ref qo), some (.int co), some (.int (nI u)), some (.int 1), none] [] h) :
    ∀ (dd i : Nat) (h : xw_A) (p : Nat) (nn : Nat) (n : Nat) (t : Nat) (wp : Int32) (f : Nat → Int32) (g : Nat → Int32) (pp : Nat) (phl : List PHt), i + dd = 96 → QuC qo tk tl tz ph nd po k1 k2 k3 d ln c fk fs fe fd fp fn p nn n t wp f g h → QuT fd ln c fk fs fe fp fn p nn n t f g (pp, phl, gr) ([]) nds h → rdPs fd ln dd pp phl = R → FrO B h0 h → xw G m_Question_near F L bc bs pr px 27 [some (.ref qo), some (.int co), some (.int (nI u)), some (.int 1), some (.int (nI i))] [] h := by
  intro dd
  induction dd with
  | zero =>
    intro i h p nn n t wp f g pp phl hi K X hR r0
    obtain rfl : i = 96 := by omega
    obtain ⟨e_qo, T, e_ph, e_nd, P, hp, hnn, ht, Fp, Nd⟩ := id K
    obtain ⟨e_po, e_d, e_k1, e_k2, e_k3, hln, PF⟩ := id P
    have e_tk := T.1
    have hc := PF.1
    refine s_Question_near_27 (fun z_1 => ?_) (fun z => absurd z (by decide))
    exact kk _ _ _ _ _ _ _ _ _ _ K X (by rw [← hR]; rfl) r0
  | succ dd ih =>
    intro i h p nn n t wp f g pp phl hi K X hR r0
    obtain ⟨e_qo, T, e_ph, e_nd, P, hp, hnn, ht, Fp, Nd⟩ := id K
    obtain ⟨e_po, e_d, e_k1, e_k2, e_k3, hln, PF⟩ := id P
    have e_tk := T.1
    have hc := PF.1
    refine s_Question_near_27 (fun z => absurd z (nI_ge (b := 96) (show i < 96 by omega) (by decide))) (fun z_1 => ?_)
    refine s_Question_near_34 (fun z => absurd z (by decide)) (fun z_2 => ?_)
    refine s_Question_near_38 ?_
    refine x_callV (As := []) (b := qo) (rest := []) (F1 := 2) (L1 := 40) (mc := 0) (ms := 0) d_Question_near_39 cV_Question_109 (g_beginsStringH K X (by omega) (by omega)) e_qo ⟨by decide, rfl⟩ ⟨by omega, by show 8 + (2 + 11) + 40 ≤ _; omega⟩ ⟨by omega, by omega⟩ (Nat.le_of_ble_eq_true rfl) (fun v_6 h_5 p_7 => ?_)
    obtain ⟨b_3, rfl, hb_4, rfl⟩ := p_7
    refine s_Question_near_42 (fun z_8 => ?_) (fun z_9 => ?_)
    · skip
      have hf_10 := (hb_4.resolve_right (fun q => absurd (q.1.symm.trans z_8) (by decide))).2
      exact kk _ _ _ _ _ _ _ _ _ _ K X (by rw [← hR]; exact ps_0 hf_10) r0
    · skip
      refine s_Question_near_45 ?_
      refine x_callV (As := []) (b := qo) (rest := []) (F1 := 4) (L1 := 88) (mc := 0) (ms := 0) d_Question_near_46 cV_Question_126 (g_readPhraseH K A X h128 (by omega) (by omega)) e_qo ⟨by decide, rfl⟩ ⟨by omega, by show 8 + (3 + 11) + 88 ≤ _; omega⟩ ⟨by omega, by omega⟩ (Nat.le_of_ble_eq_true rfl) (fun v_19 h_18 p_20 => ?_)
      rcases p_20 with ⟨fr_11, ⟨hx_12, rfl, E_13⟩ | ⟨p_16, y_17, hx_14, rfl, D_15⟩⟩
      · skip
        have r_21 := r0.trans fr_11
        obtain ⟨p_22, nn_23, n_24, t_25, wp_26, f_27, g_28, K_29, G_30⟩ := E_13
        obtain ⟨eqo_31, T_32, eph_33, end_34, P_35, hp_36, hnn_37, ht_38, Fp_39, Nd_40⟩ := id K_29
        obtain ⟨epo_41, ed_42, ek1_43, ek2_44, ek3_45, -, PF_46⟩ := id P_35
        have etk_47 := T_32.1
        refine s_Question_near_49 ?_
        have hf_48 := (hb_4.resolve_left (fun q => z_9 q.1)).2
        have hR_49 : R = none := by rw [← hR]; exact ps_n hf_48 hx_12
        refine s_Question_near_27 (fun z_50 => ?_) (fun z_51 => ?_)
        · skip
          exact kk0 _ _ _ _ _ _ _ _ K_29 G_30 r_21 hR_49
        · skip
          refine s_Question_near_34 (fun z_52 => ?_) (fun z => absurd z (by decide))
          exact kk0 _ _ _ _ _ _ _ _ K_29 G_30 r_21 hR_49
      · skip
        have r_53 := r0.trans fr_11
        obtain ⟨p_54, nn_55, n_56, t_57, wp_58, f_59, g_60, K_61, X_62⟩ := D_15
        obtain ⟨eqo_63, T_64, eph_65, end_66, P_67, hp_68, hnn_69, ht_70, Fp_71, Nd_72⟩ := id K_61
        obtain ⟨epo_73, ed_74, ek1_75, ek2_76, ek3_77, -, PF_78⟩ := id P_67
        have etk_79 := T_64.1
        refine s_Question_near_49 ?_
        have hf_80 := (hb_4.resolve_left (fun q => z_9 q.1)).2
        rw [nI_1]
        exact ih (i + 1) _ _ _ _ _ _ _ _ p_16 (phl ++ [y_17]) (by omega) K_61 X_62 (by rw [← hR]; exact (ps_y hf_80 hx_14).symm) r_53
set_option maxHeartbeats 4000000 in
theorem g_nearH {G : xw_G} {F L : Nat} {h : xw_A} {co : Int32} {cc : Nat} {B : List Nat} {qo tk tl tz ph nd po k1 k2 k3 d ln c : Nat} {fk fs fe fd : Nat → Int32} {fp fn : Nat → Option Nat} {p nn n t : Nat} {wp : Int32} {f g : Nat → Int32} (K : QuC qo tk tl tz ph nd po k1 k2 k3 d ln c fk fs fe fd fp fn p nn n t wp f g h) (A : QuA B qo tk tl tz ph nd po k1 k2 k3 d fp fn) {s : PSt} {nds : List NDt} (X : QuT fd ln c fk fs fe fp fn p nn n t f g s ([]) nds h) (h128 : ∀ j, j < ln → ∃ c, c < 128 ∧ fd j = nI c) (hco : co = nI cc) (hF : 5 ≤ F) (hL : 110 ≤ L) :
    xw_Met G m_Question_near F L 0 0 [.ref qo, .int co] h (fun v h' => QuG B qo tk tl tz ph nd po k1 k2 k3 d ln c fk fs fe fd fp fn s nds (nrG fd ln cc s) h v h') (fun _ _ => False) := by
  refine xw_Met.of rfl (by decide) (Nat.le_of_ble_eq_true rfl) ?_
  obtain ⟨e_qo, T, e_ph, e_nd, P, hp, hnn, ht, Fp, Nd⟩ := id K
  obtain ⟨e_po, e_d, e_k1, e_k2, e_k3, hln, PF⟩ := id P
  have e_tk := T.1
  have hc := PF.1
  have r0 : FrO B h h := FrO.rf
  refine s_Question_near_0 ?_
  refine x_callV (As := [.int 9]) (b := qo) (rest := []) (F1 := 2) (L1 := 40) (mc := 0) (ms := 0) d_Question_near_3 cV_Question_103 (g_takesH K X (v9 := 9) rfl (by decide) (by decide) (by omega) (by omega)) e_qo ⟨by decide, rfl⟩ ⟨by omega, by show 8 + (2 + 11) + 40 ≤ _; omega⟩ ⟨by omega, by omega⟩ (Nat.le_of_ble_eq_true rfl) (fun v_7 h_6 p_8 => ?_)
  obtain ⟨b_1, t_2, rfl, hb_3, K_4, fr_5⟩ := p_8
  have r_9 := r0.trans (fr_5.mono (suC A.1.1 suN))
  obtain ⟨eqo_10, T_11, eph_12, end_13, P_14, hp_15, hnn_16, ht_17, Fp_18, Nd_19⟩ := id K_4
  obtain ⟨epo_20, ed_21, ek1_22, ek2_23, ek3_24, -, PF_25⟩ := id P_14
  have etk_26 := T_11.1
  refine s_Question_near_6 (fun z_27 => ?_) (fun z_28 => ?_)
  · skip
    refine s_Question_near_14 (tokens_a0 := some tk) (phrases_a0 := some ph) (nodes_a0 := some nd) (parts_a0 := some po) (letters_a0 := some d) eqo_10 ?_
    have hf_29 := (hb_3.resolve_left (fun q => z_27 q.1)).2
    obtain ⟨hk_31, X_30⟩ := hf_29
    refine x_callV (As := []) (b := qo) (rest := []) (F1 := 4) (L1 := 88) (mc := 0) (ms := 0) d_Question_near_20 cV_Question_126 (g_readPhraseH K_4 A X_30 h128 (by omega) (by omega)) eqo_10 ⟨by decide, rfl⟩ ⟨by omega, by show 8 + (3 + 11) + 88 ≤ _; omega⟩ ⟨by omega, by omega⟩ (Nat.le_of_ble_eq_true rfl) (fun v_40 h_39 p_41 => ?_)
    rcases p_41 with ⟨fr_32, ⟨hx_33, rfl, E_34⟩ | ⟨p_37, y_38, hx_35, rfl, D_36⟩⟩
    · skip
      have r_42 := r_9.trans fr_32
      obtain ⟨p_43, nn_44, n_45, t_46, wp_47, f_48, g_49, K_50, G_51⟩ := E_34
      obtain ⟨eqo_52, T_53, eph_54, end_55, P_56, hp_57, hnn_58, ht_59, Fp_60, Nd_61⟩ := id K_50
      obtain ⟨epo_62, ed_63, ek1_64, ek2_65, ek3_66, -, PF_67⟩ := id P_56
      have etk_68 := T_53.1
      refine s_Question_near_23 ?_
      refine s_Question_near_27 (fun z => absurd z (by decide)) (fun z_69 => ?_)
      refine s_Question_near_34 (fun z_70 => ?_) (fun z => absurd z (by decide))
      refine s_Question_near_56 (fun z => absurd z (by decide)) (fun z_71 => ?_)
      refine s_Question_near_60 ?_
      exact ⟨r_42, Or.inl ⟨nr_n (nr_1 hk_31 hx_33), rfl, ⟨_, _, _, _, _, _, _, K_50, G_51⟩⟩⟩
    · skip
      have r_72 := r_9.trans fr_32
      obtain ⟨p_73, nn_74, n_75, t_76, wp_77, f_78, g_79, K_80, X_81⟩ := D_36
      obtain ⟨eqo_82, T_83, eph_84, end_85, P_86, hp_87, hnn_88, ht_89, Fp_90, Nd_91⟩ := id K_80
      obtain ⟨epo_92, ed_93, ek1_94, ek2_95, ek3_96, -, PF_97⟩ := id P_86
      have etk_98 := T_83.1
      refine s_Question_near_23 ?_
      refine lp_nearH (R := rdPs fd ln 96 p_37 (s.2.1 ++ [y_38])) A h128 (fun h_113 p_117 nn_118 n_119 t_120 wp_121 f_122 g_123 K_114 G9 fr_115 hR_116 => ?_) (by omega) (by omega) (fun h_99 p_100 nn_101 n_102 t_103 wp_104 f_105 g_106 pp_107 phl_108 K_109 X_110 hR_111 fr_112 => ?_) 96 0 _ _ _ _ _ _ _ _ p_37 (s.2.1 ++ [y_38]) rfl K_80 X_81 rfl FrO.rf
      · skip
        have r_124 := r_72.trans fr_115
        obtain ⟨eqo_125, T_126, eph_127, end_128, P_129, hp_130, hnn_131, ht_132, Fp_133, Nd_134⟩ := id K_114
        obtain ⟨epo_135, ed_136, ek1_137, ek2_138, ek3_139, -, PF_140⟩ := id P_129
        have etk_141 := T_126.1
        refine s_Question_near_56 (fun z => absurd z (by decide)) (fun z_142 => ?_)
        refine s_Question_near_60 ?_
        exact ⟨r_124, Or.inl ⟨nr_n (nr_2 hk_31 hx_35 hR_116), rfl, ⟨_, _, _, _, _, _, _, K_114, G9⟩⟩⟩
      · skip
        have r_143 := r_72.trans fr_112
        obtain ⟨eqo_144, T_145, eph_146, end_147, P_148, hp_149, hnn_150, ht_151, Fp_152, Nd_153⟩ := id K_109
        obtain ⟨epo_154, ed_155, ek1_156, ek2_157, ek3_158, -, PF_159⟩ := id P_148
        have etk_160 := T_145.1
        refine s_Question_near_56 (fun z_161 => ?_) (fun z => absurd z (by decide))
        refine s_Question_near_62 ?_
        refine x_callV (As := [.int 13]) (b := qo) (rest := []) (F1 := 2) (L1 := 40) (mc := 0) (ms := 0) d_Question_near_69 cV_Question_103 (g_takesH K_109 X_110 (v9 := 13) rfl (by decide) (by decide) (by omega) (by omega)) eqo_144 ⟨by decide, rfl⟩ ⟨by omega, by show 8 + (2 + 11) + 40 ≤ _; omega⟩ ⟨by omega, by omega⟩ (Nat.le_of_ble_eq_true rfl) (fun v_168 h_167 p_169 => ?_)
        obtain ⟨b_162, t_163, rfl, hb_164, K_165, fr_166⟩ := p_169
        have r_170 := r_143.trans (fr_166.mono (suC A.1.1 suN))
        obtain ⟨eqo_171, T_172, eph_173, end_174, P_175, hp_176, hnn_177, ht_178, Fp_179, Nd_180⟩ := id K_165
        obtain ⟨epo_181, ed_182, ek1_183, ek2_184, ek3_185, -, PF_186⟩ := id P_175
        have etk_187 := T_172.1
        refine s_Question_near_72 (fun z_188 => ?_) (fun z_189 => ?_)
        · skip
          refine s_Question_near_108 ?_
          have hf_190 := (hb_164.resolve_right (fun q => absurd (q.1.symm.trans z_188) (by decide))).2
          obtain ⟨hk_192, X_191⟩ := hf_190
          refine x_callV (As := [.int 10]) (b := qo) (rest := []) (F1 := 2) (L1 := 40) (mc := 0) (ms := 0) d_Question_near_111 cV_Question_103 (g_takesH K_165 X_191 (v9 := 10) rfl (by decide) (by decide) (by omega) (by omega)) eqo_171 ⟨by decide, rfl⟩ ⟨by omega, by show 8 + (2 + 11) + 40 ≤ _; omega⟩ ⟨by omega, by omega⟩ (Nat.le_of_ble_eq_true rfl) (fun v_199 h_198 p_200 => ?_)
          obtain ⟨b_193, t_194, rfl, hb_195, K_196, fr_197⟩ := p_200
          have r_201 := r_170.trans (fr_197.mono (suC A.1.1 suN))
          obtain ⟨eqo_202, T_203, eph_204, end_205, P_206, hp_207, hnn_208, ht_209, Fp_210, Nd_211⟩ := id K_196
          obtain ⟨epo_212, ed_213, ek1_214, ek2_215, ek3_216, -, PF_217⟩ := id P_206
          have etk_218 := T_203.1
          refine s_Question_near_114 (fun z_219 => ?_) (fun z_220 => ?_)
          · skip
            refine s_Question_near_129 ?_
            have hf_221 := (hb_195.resolve_right (fun q => absurd (q.1.symm.trans z_219) (by decide))).2
            obtain ⟨hk_223, X_222⟩ := hf_221
            refine x_callV (As := []) (b := qo) (rest := []) (F1 := 1) (L1 := 20) (mc := 0) (ms := 0) d_Question_near_130 cV_Question_73 (g_refuse K_196 (by omega) (by omega)) eqo_202 ⟨by decide, rfl⟩ ⟨by omega, by show 8 + (1 + 11) + 20 ≤ _; omega⟩ ⟨by omega, by omega⟩ (Nat.le_of_ble_eq_true rfl) (fun v_228 h_227 p_229 => ?_)
            obtain ⟨rfl, ⟨wp_224, K_225⟩, fr_226⟩ := p_229
            have r_230 := r_201.trans (fr_226.mono (suC A.1.1 suN))
            obtain ⟨eqo_231, T_232, eph_233, end_234, P_235, hp_236, hnn_237, ht_238, Fp_239, Nd_240⟩ := id K_225
            obtain ⟨epo_241, ed_242, ek1_243, ek2_244, ek3_245, -, PF_246⟩ := id P_235
            have etk_247 := T_232.1
            refine x_le (xw_le_n (xw_le_n (xw_le_n (xw_le_n (xw_le_n xw_le_e))))) ?_
            refine s_Question_near_133 (s0 := none) ?_
            exact ⟨r_230, Or.inl ⟨nr_n (nr_6 hk_31 hx_35 hR_111 hk_192 hk_223), rfl, ⟨_, _, _, _, _, _, _, K_225, X_222.g0⟩⟩⟩
          · skip
            refine s_Question_near_117 ?_
            have hf_248 := (hb_195.resolve_left (fun q => z_220 q.1)).2
            obtain ⟨hk_250, X_249⟩ := hf_248
            have hl9 : p_100 = phl_108.length := X_249.2.2.1
            have hl6 := ps_len hR_111
            rw [List.length_append, List.length_singleton] at hl6
            have hl8 := X.2.2.2.2.1
            have hl7 := X.2.2.1
            refine x_callV (As := [.int (nI p), .int 10, .int co, .int ((-1))]) (b := qo) (rest := []) (F1 := 2) (L1 := 62) (mc := 0) (ms := 0) d_Question_near_123 cV_Question_129 (g_groupH (u := p) (y := (2, s.2.1.length, phl_108.length, cc, 10)) K_196 A X_249 (by omega) (by show s.2.2.length < _; omega) hl7 hl9 rfl hco rfl (by omega) (by omega)) eqo_202 ⟨by decide, rfl⟩ ⟨by omega, by show 8 + (6 + 11) + 62 ≤ _; omega⟩ ⟨by omega, by omega⟩ (Nat.le_of_ble_eq_true rfl) (fun v_256 h_255 p_257 => ?_)
            obtain ⟨a_251, rfl, ha_252, D_253, fr_254⟩ := p_257
            have r_258 := r_201.trans fr_254
            refine x_le (xw_le_n (xw_le_n (xw_le_n (xw_le_n (xw_le_n xw_le_e))))) ?_
            refine s_Question_near_126 (s0 := some a_251) ?_
            refine s_Question_near_133 (s0 := some a_251) ?_
            exact ⟨r_258, Or.inr ⟨_, _, a_251, nr_y (nr_7 hk_31 hx_35 hR_111 hk_192 hk_250), rfl, ha_252, by show (_ ++ [_]).length = _; rw [List.length_append]; rfl, D_253⟩⟩
        · skip
          refine s_Question_near_75 (tokens_a0 := some tk) (phrases_a0 := some ph) (nodes_a0 := some nd) (parts_a0 := some po) (letters_a0 := some d) eqo_171 ?_
          have hf_259 := (hb_164.resolve_left (fun q => z_189 q.1)).2
          obtain ⟨hk_261, X_260⟩ := hf_259
          have hk_264 : fk t_163 = nI (kdP fd ln (skS fd ln (pp_107, phl_108, s.2.2)).1) := X_260.kd ht_178
          have ha_265 := (X_260.1.2.1 _ ht_178).2.1
          have hb_266 := (X_260.1.2.1 _ ht_178).2.2
          rw [← X_260.2.1] at ha_265 hb_266
          refine x_callV (As := [.int (nI t_163)]) (b := po) (rest := []) (F1 := 1) (L1 := 20) (mc := 0) (ms := 0) d_Question_near_83 cV_Question_133 (g_numberH (pp := (skS fd ln (pp_107, phl_108, s.2.2)).1) epo_181 ed_182 hln ek1_183 ek2_184 ek3_185 (by omega) hk_264 ha_265 hb_266 h128 (by omega) (by omega)) epo_181 ⟨by decide, rfl⟩ ⟨by omega, by show 8 + (4 + 11) + 20 ≤ _; omega⟩ ⟨by omega, by omega⟩ (Nat.le_of_ble_eq_true rfl) (fun v_274 h_273 p_275 => ?_)
          rcases p_275 with ⟨⟨y_262, rfl, ⟨hy_263, hN_267⟩ | ⟨d_268, hN_269, hy_270, hd_271, hk_272⟩⟩, rfl⟩
          · skip
            refine s_Question_near_86 (fun z => absurd z (Int32.not_le.mpr hy_263)) (fun z_276 => ?_)
            refine s_Question_near_93 ?_
            refine x_callV (As := []) (b := qo) (rest := []) (F1 := 1) (L1 := 20) (mc := 0) (ms := 0) d_Question_near_94 cV_Question_73 (g_refuse K_165 (by omega) (by omega)) eqo_171 ⟨by decide, rfl⟩ ⟨by omega, by show 8 + (1 + 11) + 20 ≤ _; omega⟩ ⟨by omega, by omega⟩ (Nat.le_of_ble_eq_true rfl) (fun v_281 h_280 p_282 => ?_)
            obtain ⟨rfl, ⟨wp_277, K_278⟩, fr_279⟩ := p_282
            have r_283 := r_170.trans (fr_279.mono (suC A.1.1 suN))
            obtain ⟨eqo_284, T_285, eph_286, end_287, P_288, hp_289, hnn_290, ht_291, Fp_292, Nd_293⟩ := id K_278
            obtain ⟨epo_294, ed_295, ek1_296, ek2_297, ek3_298, -, PF_299⟩ := id P_288
            have etk_300 := T_285.1
            refine x_le (xw_le_n (xw_le_n (xw_le_n (xw_le_n (xw_le_n xw_le_e))))) ?_
            refine s_Question_near_97 (s0 := none) ?_
            exact ⟨r_283, Or.inl ⟨nr_n (nr_3 hk_31 hx_35 hR_111 hk_261 hN_267), rfl, ⟨_, _, _, _, _, _, _, K_278, X_260.g0⟩⟩⟩
          · skip
            refine s_Question_near_86 (fun z_301 => ?_) (fun z => absurd (by rw [hy_270]; exact nI_pos' (by have := hd_271; omega)) z)
            refine s_Question_near_98 (tokens_a0 := some tk) (phrases_a0 := some ph) (nodes_a0 := some nd) (parts_a0 := some po) (letters_a0 := some d) eqo_171 ?_
            refine x_u1 (fun h_302 e_303 f_304 => ?_)
            have e_305 := (f_304 tk (xw_neC etk_187 eqo_171 (by simp))).trans etk_187
            have e_306 := (f_304 ph (xw_neC eph_173 eqo_171 (by simp))).trans eph_173
            have e_307 := (f_304 nd (xw_neC end_174 eqo_171 (by simp))).trans end_174
            have e_308 := (f_304 po (xw_neC epo_181 eqo_171 (by simp))).trans epo_181
            have e_309 := (f_304 d (xw_neC ed_182 eqo_171 (by simp))).trans ed_182
            have e_310 := (f_304 k1 (xw_neC ek1_183 eqo_171 (by simp))).trans ek1_183
            have e_311 := (f_304 k2 (xw_neC ek2_184 eqo_171 (by simp))).trans ek2_184
            have e_312 := (f_304 k3 (xw_neC ek3_185 eqo_171 (by simp))).trans ek3_185
            have r_313 := r_170.up A.1.1 f_304
            rw [nI_1] at e_303
            have hk_316 : ¬ fk t_163 = 0 ∧ ¬ fk t_163 = 1 := ⟨fun q => by have q2 : kdP fd ln (skS fd ln (pp_107, phl_108, s.2.2)).1 = 0 := (X_260.kv ht_178 (v := 0) (by decide)).mp q; have q3 := hk_272; omega, fun q => by have q2 : kdP fd ln (skS fd ln (pp_107, phl_108, s.2.2)).1 = 1 := (X_260.kv ht_178 (v := 1) (by decide)).mp q; have q3 := hk_272; omega⟩
            have X_315 := X_260.next.q K_165.1 (FrO.rf.up (by simp) f_304)
            have K_314 := K_165.q (FrO.rf.up (by simp) f_304) e_303 (PF_186.next ht_178 hk_316.1 hk_316.2)
            obtain ⟨eqo_317, T_318, eph_319, end_320, P_321, hp_322, hnn_323, ht_324, Fp_325, Nd_326⟩ := id K_314
            obtain ⟨epo_327, ed_328, ek1_329, ek2_330, ek3_331, -, PF_332⟩ := id P_321
            have etk_333 := T_318.1
            refine s_Question_near_108 ?_
            refine x_callV (As := [.int 10]) (b := qo) (rest := []) (F1 := 2) (L1 := 40) (mc := 0) (ms := 0) d_Question_near_111 cV_Question_103 (g_takesH K_314 X_315 (v9 := 10) rfl (by decide) (by decide) (by omega) (by omega)) eqo_317 ⟨by decide, rfl⟩ ⟨by omega, by show 8 + (2 + 11) + 40 ≤ _; omega⟩ ⟨by omega, by omega⟩ (Nat.le_of_ble_eq_true rfl) (fun v_340 h_339 p_341 => ?_)
            obtain ⟨b_334, t_335, rfl, hb_336, K_337, fr_338⟩ := p_341
            have r_342 := r_313.trans (fr_338.mono (suC A.1.1 suN))
            obtain ⟨eqo_343, T_344, eph_345, end_346, P_347, hp_348, hnn_349, ht_350, Fp_351, Nd_352⟩ := id K_337
            obtain ⟨epo_353, ed_354, ek1_355, ek2_356, ek3_357, -, PF_358⟩ := id P_347
            have etk_359 := T_344.1
            refine s_Question_near_114 (fun z_360 => ?_) (fun z_361 => ?_)
            · skip
              refine s_Question_near_129 ?_
              have hf_362 := (hb_336.resolve_right (fun q => absurd (q.1.symm.trans z_360) (by decide))).2
              obtain ⟨hk_364, X_363⟩ := hf_362
              refine x_callV (As := []) (b := qo) (rest := []) (F1 := 1) (L1 := 20) (mc := 0) (ms := 0) d_Question_near_130 cV_Question_73 (g_refuse K_337 (by omega) (by omega)) eqo_343 ⟨by decide, rfl⟩ ⟨by omega, by show 8 + (1 + 11) + 20 ≤ _; omega⟩ ⟨by omega, by omega⟩ (Nat.le_of_ble_eq_true rfl) (fun v_369 h_368 p_370 => ?_)
              obtain ⟨rfl, ⟨wp_365, K_366⟩, fr_367⟩ := p_370
              have r_371 := r_342.trans (fr_367.mono (suC A.1.1 suN))
              obtain ⟨eqo_372, T_373, eph_374, end_375, P_376, hp_377, hnn_378, ht_379, Fp_380, Nd_381⟩ := id K_366
              obtain ⟨epo_382, ed_383, ek1_384, ek2_385, ek3_386, -, PF_387⟩ := id P_376
              have etk_388 := T_373.1
              refine x_le (xw_le_n (xw_le_n (xw_le_n (xw_le_n (xw_le_n xw_le_e))))) ?_
              refine s_Question_near_133 (s0 := none) ?_
              exact ⟨r_371, Or.inl ⟨nr_n (nr_4 hk_31 hx_35 hR_111 hk_261 hN_269 hk_364), rfl, ⟨_, _, _, _, _, _, _, K_366, X_363.g0⟩⟩⟩
            · skip
              refine s_Question_near_117 ?_
              have hf_389 := (hb_336.resolve_left (fun q => z_361 q.1)).2
              obtain ⟨hk_391, X_390⟩ := hf_389
              have hl9 : p_100 = phl_108.length := X_390.2.2.1
              have hl6 := ps_len hR_111
              rw [List.length_append, List.length_singleton] at hl6
              have hl8 := X.2.2.2.2.1
              have hl7 := X.2.2.1
              refine x_callV (As := [.int (nI p), .int y_262, .int co, .int ((-1))]) (b := qo) (rest := []) (F1 := 2) (L1 := 62) (mc := 0) (ms := 0) d_Question_near_123 cV_Question_129 (g_groupH (u := p) (y := (2, s.2.1.length, phl_108.length, cc, d_268)) K_337 A X_390 (by omega) (by show s.2.2.length < _; omega) hl7 hl9 hy_270 hco rfl (by omega) (by omega)) eqo_343 ⟨by decide, rfl⟩ ⟨by omega, by show 8 + (6 + 11) + 62 ≤ _; omega⟩ ⟨by omega, by omega⟩ (Nat.le_of_ble_eq_true rfl) (fun v_397 h_396 p_398 => ?_)
              obtain ⟨a_392, rfl, ha_393, D_394, fr_395⟩ := p_398
              have r_399 := r_342.trans fr_395
              refine x_le (xw_le_n (xw_le_n (xw_le_n (xw_le_n (xw_le_n xw_le_e))))) ?_
              refine s_Question_near_126 (s0 := some a_392) ?_
              refine s_Question_near_133 (s0 := some a_392) ?_
              exact ⟨r_399, Or.inr ⟨_, _, a_392, nr_y (nr_5 hk_31 hx_35 hR_111 hk_261 hN_269 hk_391), rfl, ha_393, by show (_ ++ [_]).length = _; rw [List.length_append]; rfl, D_394⟩⟩
  · skip
    refine s_Question_near_9 ?_
    have hf_400 := (hb_3.resolve_right (fun q => absurd (q.1.symm.trans z_28) (by decide))).2
    obtain ⟨hk_402, X_401⟩ := hf_400
    refine x_callV (As := []) (b := qo) (rest := []) (F1 := 1) (L1 := 20) (mc := 0) (ms := 0) d_Question_near_10 cV_Question_73 (g_refuse K_4 (by omega) (by omega)) eqo_10 ⟨by decide, rfl⟩ ⟨by omega, by show 8 + (1 + 11) + 20 ≤ _; omega⟩ ⟨by omega, by omega⟩ (Nat.le_of_ble_eq_true rfl) (fun v_407 h_406 p_408 => ?_)
    obtain ⟨rfl, ⟨wp_403, K_404⟩, fr_405⟩ := p_408
    have r_409 := r_9.trans (fr_405.mono (suC A.1.1 suN))
    obtain ⟨eqo_410, T_411, eph_412, end_413, P_414, hp_415, hnn_416, ht_417, Fp_418, Nd_419⟩ := id K_404
    obtain ⟨epo_420, ed_421, ek1_422, ek2_423, ek3_424, -, PF_425⟩ := id P_414
    have etk_426 := T_411.1
    refine x_le (xw_le_n (xw_le_n (xw_le_n (xw_le_n (xw_le_n xw_le_e))))) ?_
    refine s_Question_near_13 (s0 := none) ?_
    exact ⟨r_409, Or.inl ⟨nr_n (nr_o hk_402), rfl, ⟨_, _, _, _, _, _, _, K_404, X_401.g0⟩⟩⟩
