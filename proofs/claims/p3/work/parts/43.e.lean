/-! the class in general states: by program (wip/tools/gen2.py) -/
set_option maxHeartbeats 1000000 in
theorem g_single {G : xw_G} {F L : Nat} {h : xw_A} {co : Int32} {B : List Nat} {qo tk tl tz ph nd po k1 k2 k3 d ln c : Nat} {fk fs fe fd : Nat → Int32} {fp fn : Nat → Option Nat} {p nn n t : Nat} {wp : Int32} {f g : Nat → Int32} (K : QuC qo tk tl tz ph nd po k1 k2 k3 d ln c fk fs fe fd fp fn p nn n t wp f g h) (A : QuA B qo tk tl tz ph nd po k1 k2 k3 d fp fn) (hF : 5 ≤ F) (hL : 110 ≤ L) :
    xw_Met G m_Question_single F L 0 0 [.ref qo, .int co] h (fun v h' => QuR B qo tk tl tz ph nd po k1 k2 k3 d ln c fk fs fe fd fp fn p nn n h v h') (fun _ _ => False) := by
  refine xw_Met.of rfl (by decide) (Nat.le_of_ble_eq_true rfl) ?_
  obtain ⟨e_qo, T, e_ph, e_nd, P, hp, hnn, ht, Fp, Nd⟩ := id K
  obtain ⟨e_po, e_d, e_k1, e_k2, e_k3, hln, PF⟩ := id P
  have e_tk := T.1
  have hc := PF.1
  have r0 : FrO B h h := FrO.rf
  refine s_Question_single_0 ?_
  refine x_callV (As := [.int 12]) (b := qo) (rest := []) (F1 := 2) (L1 := 40) (mc := 0) (ms := 0) d_Question_single_3 cV_Question_103 (g_takes K (by decide) (by decide) (by omega) (by omega)) e_qo ⟨by decide, rfl⟩ ⟨by omega, by show 8 + (2 + 11) + 40 ≤ _; omega⟩ ⟨by omega, by omega⟩ (Nat.le_of_ble_eq_true rfl) (fun v_7 h_6 p_8 => ?_)
  obtain ⟨b_1, t_2, rfl, hb_3, K_4, fr_5⟩ := p_8
  have r_9 := r0.trans (fr_5.mono (suC A.1.1 suN))
  obtain ⟨eqo_10, T_11, eph_12, end_13, P_14, hp_15, hnn_16, ht_17, Fp_18, Nd_19⟩ := id K_4
  obtain ⟨epo_20, ed_21, ek1_22, ek2_23, ek3_24, -, PF_25⟩ := id P_14
  have etk_26 := T_11.1
  refine s_Question_single_6 (fun z_27 => ?_) (fun z_28 => ?_)
  · skip
    refine s_Question_single_13 ?_
    refine s_Question_single_14 (tokens_a0 := some tk) (phrases_a0 := some ph) (nodes_a0 := some nd) (parts_a0 := some po) (letters_a0 := some d) eqo_10 ?_
    refine x_callV (As := []) (b := qo) (rest := []) (F1 := 4) (L1 := 88) (mc := 0) (ms := 0) d_Question_single_21 cV_Question_126 (g_readPhrase K_4 A (by omega) (by omega)) eqo_10 ⟨by decide, rfl⟩ ⟨by omega, by show 8 + (3 + 11) + 88 ≤ _; omega⟩ ⟨by omega, by omega⟩ (Nat.le_of_ble_eq_true rfl) (fun v_43 h_42 p_44 => ?_)
    obtain ⟨b_29, p_30, n_31, rfl, hb_32, hp_33, hn_34, S_35, fr_36⟩ := p_44
    have r_45 := r_9.trans fr_36
    obtain ⟨t_37, wp_38, f_39, g_40, K_41⟩ := S_35
    obtain ⟨eqo_46, T_47, eph_48, end_49, P_50, hp_51, hnn_52, ht_53, Fp_54, Nd_55⟩ := id K_41
    obtain ⟨epo_56, ed_57, ek1_58, ek2_59, ek3_60, -, PF_61⟩ := id P_50
    have etk_62 := T_47.1
    refine s_Question_single_24 (fun z_63 => ?_) (fun z_64 => ?_)
    · skip
      refine s_Question_single_38 ?_
      refine s_Question_single_39 (s0 := none) ?_
      exact ⟨none, p_30, nn, n_31, rfl, by omega, by omega, by omega, (fun a z => nomatch z), K_41.s, r_45⟩
    · skip
      refine s_Question_single_27 ?_
      refine x_callV (As := [.int (nI p), .int 0, .int co, .int (-1)]) (b := qo) (rest := []) (F1 := 3) (L1 := 62) (mc := 0) (ms := 0) d_Question_single_32 cV_Question_129 (g_group (u := p) K_41 A (by omega) (by omega) (by omega)) eqo_46 ⟨by decide, rfl⟩ ⟨by omega, by show 8 + (6 + 11) + 62 ≤ _; omega⟩ ⟨by omega, by omega⟩ (Nat.le_of_ble_eq_true rfl) (fun v_81 h_80 p_82 => ?_)
      obtain ⟨o_65, p_66, nn_67, n_68, rfl, hp_69, hn_70, hm_71, ho_72, S_73, fr_74⟩ := p_82
      have r_83 := r_45.trans fr_74
      obtain ⟨t_75, wp_76, f_77, g_78, K_79⟩ := S_73
      obtain ⟨eqo_84, T_85, eph_86, end_87, P_88, hp_89, hnn_90, ht_91, Fp_92, Nd_93⟩ := id K_79
      obtain ⟨epo_94, ed_95, ek1_96, ek2_97, ek3_98, -, PF_99⟩ := id P_88
      have etk_100 := T_85.1
      refine x_le (xw_le_n (xw_le_n (xw_le_n (xw_le_n xw_le_e)))) ?_
      refine s_Question_single_35 (s0 := o_65) ?_
      refine s_Question_single_39 (s0 := o_65) ?_
      exact ⟨o_65, p_66, nn_67, n_68, rfl, by omega, by omega, by omega, ho_72, K_79.s, r_83⟩
  · skip
    refine s_Question_single_9 ?_
    refine s_Question_single_14 (tokens_a0 := some tk) (phrases_a0 := some ph) (nodes_a0 := some nd) (parts_a0 := some po) (letters_a0 := some d) eqo_10 ?_
    refine x_callV (As := []) (b := qo) (rest := []) (F1 := 4) (L1 := 88) (mc := 0) (ms := 0) d_Question_single_21 cV_Question_126 (g_readPhrase K_4 A (by omega) (by omega)) eqo_10 ⟨by decide, rfl⟩ ⟨by omega, by show 8 + (3 + 11) + 88 ≤ _; omega⟩ ⟨by omega, by omega⟩ (Nat.le_of_ble_eq_true rfl) (fun v_115 h_114 p_116 => ?_)
    obtain ⟨b_101, p_102, n_103, rfl, hb_104, hp_105, hn_106, S_107, fr_108⟩ := p_116
    have r_117 := r_9.trans fr_108
    obtain ⟨t_109, wp_110, f_111, g_112, K_113⟩ := S_107
    obtain ⟨eqo_118, T_119, eph_120, end_121, P_122, hp_123, hnn_124, ht_125, Fp_126, Nd_127⟩ := id K_113
    obtain ⟨epo_128, ed_129, ek1_130, ek2_131, ek3_132, -, PF_133⟩ := id P_122
    have etk_134 := T_119.1
    refine s_Question_single_24 (fun z_135 => ?_) (fun z_136 => ?_)
    · skip
      refine s_Question_single_38 ?_
      refine s_Question_single_39 (s0 := none) ?_
      exact ⟨none, p_102, nn, n_103, rfl, by omega, by omega, by omega, (fun a z => nomatch z), K_113.s, r_117⟩
    · skip
      refine s_Question_single_27 ?_
      refine x_callV (As := [.int (nI p), .int 0, .int co, .int 1]) (b := qo) (rest := []) (F1 := 3) (L1 := 62) (mc := 0) (ms := 0) d_Question_single_32 cV_Question_129 (g_group (u := p) K_113 A (by omega) (by omega) (by omega)) eqo_118 ⟨by decide, rfl⟩ ⟨by omega, by show 8 + (6 + 11) + 62 ≤ _; omega⟩ ⟨by omega, by omega⟩ (Nat.le_of_ble_eq_true rfl) (fun v_153 h_152 p_154 => ?_)
      obtain ⟨o_137, p_138, nn_139, n_140, rfl, hp_141, hn_142, hm_143, ho_144, S_145, fr_146⟩ := p_154
      have r_155 := r_117.trans fr_146
      obtain ⟨t_147, wp_148, f_149, g_150, K_151⟩ := S_145
      obtain ⟨eqo_156, T_157, eph_158, end_159, P_160, hp_161, hnn_162, ht_163, Fp_164, Nd_165⟩ := id K_151
      obtain ⟨epo_166, ed_167, ek1_168, ek2_169, ek3_170, -, PF_171⟩ := id P_160
      have etk_172 := T_157.1
      refine x_le (xw_le_n (xw_le_n (xw_le_n (xw_le_n xw_le_e)))) ?_
      refine s_Question_single_35 (s0 := o_137) ?_
      refine s_Question_single_39 (s0 := o_137) ?_
      exact ⟨o_137, p_138, nn_139, n_140, rfl, by omega, by omega, by omega, ho_144, K_151.s, r_155⟩
set_option maxHeartbeats 2000000 in
theorem lp_near {G : xw_G} {F L bc bs : Nat} {pr : Option Value → xw_A → Prop} {px : String → xw_A → Prop} {B : List Nat} {qo tk tl tz ph nd po k1 k2 k3 d ln c : Nat} {fk fs fe fd : Nat → Int32} {fp fn : Nat → Option Nat} {nn u p0 n0 : Nat} {co : Int32} {h0 : xw_A} (A : QuA B qo tk tl tz ph nd po k1 k2 k3 d fp fn) (hF : 5 ≤ F) (hL : 110 ≤ L) (kk : ∀ (h : xw_A) (p n t : Nat) (wp : Int32) (f g : Nat → Int32) (b : Int32), QuC qo tk tl tz ph nd po k1 k2 k3 d ln c fk fs fe fd fp fn p nn n t wp f g h → p0 ≤ p → n0 ≤ n → FrO B h0 h → xw G m_Question_near F L bc bs pr px 56 [some (.ref qo), some (.int co), some (.int (nI u)), some (.int b), none] [] h) :
    ∀ (dd i : Nat) (h : xw_A) (p : Nat) (n : Nat) (t : Nat) (wp : Int32) (f : Nat → Int32) (g : Nat → Int32) (b : Int32), i + dd = 96 → QuC qo tk tl tz ph nd po k1 k2 k3 d ln c fk fs fe fd fp fn p nn n t wp f g h → p0 ≤ p → n0 ≤ n → FrO B h0 h → xw G m_Question_near F L bc bs pr px 27 [some (.ref qo), some (.int co), some (.int (nI u)), some (.int b), some (.int (nI i))] [] h := by
  intro dd
  induction dd with
  | zero =>
    intro i h p n t wp f g b hi K hp0 hn0 r0
    obtain rfl : i = 96 := by omega
    obtain ⟨e_qo, T, e_ph, e_nd, P, hp, hnn, ht, Fp, Nd⟩ := id K
    obtain ⟨e_po, e_d, e_k1, e_k2, e_k3, hln, PF⟩ := id P
    have e_tk := T.1
    have hc := PF.1
    refine s_Question_near_27 (fun z_1 => ?_) (fun z => absurd z (by decide))
    exact kk _ _ _ _ _ _ _ _ K (by omega) (by omega) r0
  | succ dd ih =>
    intro i h p n t wp f g b hi K hp0 hn0 r0
    obtain ⟨e_qo, T, e_ph, e_nd, P, hp, hnn, ht, Fp, Nd⟩ := id K
    obtain ⟨e_po, e_d, e_k1, e_k2, e_k3, hln, PF⟩ := id P
    have e_tk := T.1
    have hc := PF.1
    refine s_Question_near_27 (fun z => absurd z (nI_ge (b := 96) (show i < 96 by omega) (by decide))) (fun z_1 => ?_)
    refine s_Question_near_34 (fun z_2 => ?_) (fun z_3 => ?_)
    · skip
      exact kk _ _ _ _ _ _ _ _ K (by omega) (by omega) r0
    · skip
      refine s_Question_near_38 ?_
      refine x_callV (As := []) (b := qo) (rest := []) (F1 := 2) (L1 := 40) (mc := 0) (ms := 0) d_Question_near_39 cV_Question_109 (g_beginsString K (by omega) (by omega)) e_qo ⟨by decide, rfl⟩ ⟨by omega, by show 8 + (2 + 11) + 40 ≤ _; omega⟩ ⟨by omega, by omega⟩ (Nat.le_of_ble_eq_true rfl) (fun v_7 h_6 p_8 => ?_)
      obtain ⟨b_4, rfl, hb_5, rfl⟩ := p_8
      refine s_Question_near_42 (fun z_9 => ?_) (fun z_10 => ?_)
      · skip
        exact kk _ _ _ _ _ _ _ _ K (by omega) (by omega) r0
      · skip
        refine s_Question_near_45 ?_
        refine x_callV (As := []) (b := qo) (rest := []) (F1 := 4) (L1 := 88) (mc := 0) (ms := 0) d_Question_near_46 cV_Question_126 (g_readPhrase K A (by omega) (by omega)) e_qo ⟨by decide, rfl⟩ ⟨by omega, by show 8 + (3 + 11) + 88 ≤ _; omega⟩ ⟨by omega, by omega⟩ (Nat.le_of_ble_eq_true rfl) (fun v_25 h_24 p_26 => ?_)
        obtain ⟨b_11, p_12, n_13, rfl, hb_14, hp_15, hn_16, S_17, fr_18⟩ := p_26
        have r_27 := r0.trans fr_18
        obtain ⟨t_19, wp_20, f_21, g_22, K_23⟩ := S_17
        obtain ⟨eqo_28, T_29, eph_30, end_31, P_32, hp_33, hnn_34, ht_35, Fp_36, Nd_37⟩ := id K_23
        obtain ⟨epo_38, ed_39, ek1_40, ek2_41, ek3_42, -, PF_43⟩ := id P_32
        have etk_44 := T_29.1
        refine s_Question_near_49 ?_
        rw [nI_1]
        exact ih (i + 1) _ _ _ _ _ _ _ _ (by omega) K_23 (by omega) (by omega) r_27
set_option maxHeartbeats 2000000 in
theorem g_near {G : xw_G} {F L : Nat} {h : xw_A} {co : Int32} {B : List Nat} {qo tk tl tz ph nd po k1 k2 k3 d ln c : Nat} {fk fs fe fd : Nat → Int32} {fp fn : Nat → Option Nat} {p nn n t : Nat} {wp : Int32} {f g : Nat → Int32} (K : QuC qo tk tl tz ph nd po k1 k2 k3 d ln c fk fs fe fd fp fn p nn n t wp f g h) (A : QuA B qo tk tl tz ph nd po k1 k2 k3 d fp fn) (hF : 5 ≤ F) (hL : 110 ≤ L) :
    xw_Met G m_Question_near F L 0 0 [.ref qo, .int co] h (fun v h' => QuR B qo tk tl tz ph nd po k1 k2 k3 d ln c fk fs fe fd fp fn p nn n h v h') (fun _ _ => False) := by
  refine xw_Met.of rfl (by decide) (Nat.le_of_ble_eq_true rfl) ?_
  obtain ⟨e_qo, T, e_ph, e_nd, P, hp, hnn, ht, Fp, Nd⟩ := id K
  obtain ⟨e_po, e_d, e_k1, e_k2, e_k3, hln, PF⟩ := id P
  have e_tk := T.1
  have hc := PF.1
  have r0 : FrO B h h := FrO.rf
  refine s_Question_near_0 ?_
  refine x_callV (As := [.int 9]) (b := qo) (rest := []) (F1 := 2) (L1 := 40) (mc := 0) (ms := 0) d_Question_near_3 cV_Question_103 (g_takes K (by decide) (by decide) (by omega) (by omega)) e_qo ⟨by decide, rfl⟩ ⟨by omega, by show 8 + (2 + 11) + 40 ≤ _; omega⟩ ⟨by omega, by omega⟩ (Nat.le_of_ble_eq_true rfl) (fun v_7 h_6 p_8 => ?_)
  obtain ⟨b_1, t_2, rfl, hb_3, K_4, fr_5⟩ := p_8
  have r_9 := r0.trans (fr_5.mono (suC A.1.1 suN))
  obtain ⟨eqo_10, T_11, eph_12, end_13, P_14, hp_15, hnn_16, ht_17, Fp_18, Nd_19⟩ := id K_4
  obtain ⟨epo_20, ed_21, ek1_22, ek2_23, ek3_24, -, PF_25⟩ := id P_14
  have etk_26 := T_11.1
  refine s_Question_near_6 (fun z_27 => ?_) (fun z_28 => ?_)
  · skip
    refine s_Question_near_14 (tokens_a0 := some tk) (phrases_a0 := some ph) (nodes_a0 := some nd) (parts_a0 := some po) (letters_a0 := some d) eqo_10 ?_
    refine x_callV (As := []) (b := qo) (rest := []) (F1 := 4) (L1 := 88) (mc := 0) (ms := 0) d_Question_near_20 cV_Question_126 (g_readPhrase K_4 A (by omega) (by omega)) eqo_10 ⟨by decide, rfl⟩ ⟨by omega, by show 8 + (3 + 11) + 88 ≤ _; omega⟩ ⟨by omega, by omega⟩ (Nat.le_of_ble_eq_true rfl) (fun v_43 h_42 p_44 => ?_)
    obtain ⟨b_29, p_30, n_31, rfl, hb_32, hp_33, hn_34, S_35, fr_36⟩ := p_44
    have r_45 := r_9.trans fr_36
    obtain ⟨t_37, wp_38, f_39, g_40, K_41⟩ := S_35
    obtain ⟨eqo_46, T_47, eph_48, end_49, P_50, hp_51, hnn_52, ht_53, Fp_54, Nd_55⟩ := id K_41
    obtain ⟨epo_56, ed_57, ek1_58, ek2_59, ek3_60, -, PF_61⟩ := id P_50
    have etk_62 := T_47.1
    refine s_Question_near_23 ?_
    refine lp_near A (by omega) (by omega) (fun h_63 p_64 n_65 t_66 wp_67 f_68 g_69 b_70 K_71 hp_72 hn_73 fr_74 => ?_) 96 0 _ _ _ _ _ _ _ _ rfl K_41 (Nat.le_refl _) (Nat.le_refl _) FrO.rf
    have r_75 := r_45.trans fr_74
    obtain ⟨eqo_76, T_77, eph_78, end_79, P_80, hp_81, hnn_82, ht_83, Fp_84, Nd_85⟩ := id K_71
    obtain ⟨epo_86, ed_87, ek1_88, ek2_89, ek3_90, -, PF_91⟩ := id P_80
    have etk_92 := T_77.1
    refine s_Question_near_56 (fun z_93 => ?_) (fun z_94 => ?_)
    · skip
      refine s_Question_near_62 ?_
      refine x_callV (As := [.int 13]) (b := qo) (rest := []) (F1 := 2) (L1 := 40) (mc := 0) (ms := 0) d_Question_near_69 cV_Question_103 (g_takes K_71 (by decide) (by decide) (by omega) (by omega)) eqo_76 ⟨by decide, rfl⟩ ⟨by omega, by show 8 + (2 + 11) + 40 ≤ _; omega⟩ ⟨by omega, by omega⟩ (Nat.le_of_ble_eq_true rfl) (fun v_101 h_100 p_102 => ?_)
      obtain ⟨b_95, t_96, rfl, hb_97, K_98, fr_99⟩ := p_102
      have r_103 := r_75.trans (fr_99.mono (suC A.1.1 suN))
      obtain ⟨eqo_104, T_105, eph_106, end_107, P_108, hp_109, hnn_110, ht_111, Fp_112, Nd_113⟩ := id K_98
      obtain ⟨epo_114, ed_115, ek1_116, ek2_117, ek3_118, -, PF_119⟩ := id P_108
      have etk_120 := T_105.1
      refine s_Question_near_72 (fun z_121 => ?_) (fun z_122 => ?_)
      · skip
        refine s_Question_near_108 ?_
        refine x_callV (As := [.int 10]) (b := qo) (rest := []) (F1 := 2) (L1 := 40) (mc := 0) (ms := 0) d_Question_near_111 cV_Question_103 (g_takes K_98 (by decide) (by decide) (by omega) (by omega)) eqo_104 ⟨by decide, rfl⟩ ⟨by omega, by show 8 + (2 + 11) + 40 ≤ _; omega⟩ ⟨by omega, by omega⟩ (Nat.le_of_ble_eq_true rfl) (fun v_129 h_128 p_130 => ?_)
        obtain ⟨b_123, t_124, rfl, hb_125, K_126, fr_127⟩ := p_130
        have r_131 := r_103.trans (fr_127.mono (suC A.1.1 suN))
        obtain ⟨eqo_132, T_133, eph_134, end_135, P_136, hp_137, hnn_138, ht_139, Fp_140, Nd_141⟩ := id K_126
        obtain ⟨epo_142, ed_143, ek1_144, ek2_145, ek3_146, -, PF_147⟩ := id P_136
        have etk_148 := T_133.1
        refine s_Question_near_114 (fun z_149 => ?_) (fun z_150 => ?_)
        · skip
          refine s_Question_near_129 ?_
          refine x_callV (As := []) (b := qo) (rest := []) (F1 := 1) (L1 := 20) (mc := 0) (ms := 0) d_Question_near_130 cV_Question_73 (g_refuse K_126 (by omega) (by omega)) eqo_132 ⟨by decide, rfl⟩ ⟨by omega, by show 8 + (1 + 11) + 20 ≤ _; omega⟩ ⟨by omega, by omega⟩ (Nat.le_of_ble_eq_true rfl) (fun v_155 h_154 p_156 => ?_)
          obtain ⟨rfl, ⟨wp_151, K_152⟩, fr_153⟩ := p_156
          have r_157 := r_131.trans (fr_153.mono (suC A.1.1 suN))
          obtain ⟨eqo_158, T_159, eph_160, end_161, P_162, hp_163, hnn_164, ht_165, Fp_166, Nd_167⟩ := id K_152
          obtain ⟨epo_168, ed_169, ek1_170, ek2_171, ek3_172, -, PF_173⟩ := id P_162
          have etk_174 := T_159.1
          refine x_le (xw_le_n (xw_le_n (xw_le_n (xw_le_n (xw_le_n xw_le_e))))) ?_
          refine s_Question_near_133 (s0 := none) ?_
          exact ⟨none, p_64, nn, n_65, rfl, by omega, by omega, by omega, (fun a z => nomatch z), K_152.s, r_157⟩
        · skip
          refine s_Question_near_117 ?_
          refine x_callV (As := [.int (nI p), .int 10, .int co, .int ((-1))]) (b := qo) (rest := []) (F1 := 3) (L1 := 62) (mc := 0) (ms := 0) d_Question_near_123 cV_Question_129 (g_group (u := p) K_126 A (by omega) (by omega) (by omega)) eqo_132 ⟨by decide, rfl⟩ ⟨by omega, by show 8 + (6 + 11) + 62 ≤ _; omega⟩ ⟨by omega, by omega⟩ (Nat.le_of_ble_eq_true rfl) (fun v_191 h_190 p_192 => ?_)
          obtain ⟨o_175, p_176, nn_177, n_178, rfl, hp_179, hn_180, hm_181, ho_182, S_183, fr_184⟩ := p_192
          have r_193 := r_131.trans fr_184
          obtain ⟨t_185, wp_186, f_187, g_188, K_189⟩ := S_183
          obtain ⟨eqo_194, T_195, eph_196, end_197, P_198, hp_199, hnn_200, ht_201, Fp_202, Nd_203⟩ := id K_189
          obtain ⟨epo_204, ed_205, ek1_206, ek2_207, ek3_208, -, PF_209⟩ := id P_198
          have etk_210 := T_195.1
          refine x_le (xw_le_n (xw_le_n (xw_le_n (xw_le_n (xw_le_n xw_le_e))))) ?_
          refine s_Question_near_126 (s0 := o_175) ?_
          refine s_Question_near_133 (s0 := o_175) ?_
          exact ⟨o_175, p_176, nn_177, n_178, rfl, by omega, by omega, by omega, ho_182, K_189.s, r_193⟩
      · skip
        refine s_Question_near_75 (tokens_a0 := some tk) (phrases_a0 := some ph) (nodes_a0 := some nd) (parts_a0 := some po) (letters_a0 := some d) eqo_104 ?_
        obtain ⟨a_211, b_212, ha_213, hb_214, hab_215, hbl_216⟩ := PF_119.2.2.2.1 _ ht_111
        refine x_callV (As := [.int (nI t_96)]) (b := po) (rest := []) (F1 := 1) (L1 := 20) (mc := 0) (ms := 0) d_Question_near_83 cV_Question_133 (g_number epo_114 ed_115 hln ek1_116 ek2_117 ek3_118 (by omega) ha_213 hb_214 hab_215 hbl_216 (by omega) (by omega)) epo_114 ⟨by decide, rfl⟩ ⟨by omega, by show 8 + (4 + 11) + 20 ≤ _; omega⟩ ⟨by omega, by omega⟩ (Nat.le_of_ble_eq_true rfl) (fun v_220 h_219 p_221 => ?_)
        obtain ⟨⟨y_217, rfl, hy_218⟩, rfl⟩ := p_221
        refine s_Question_near_86 (fun z_222 => ?_) (fun z_223 => ?_)
        · skip
          refine s_Question_near_98 (tokens_a0 := some tk) (phrases_a0 := some ph) (nodes_a0 := some nd) (parts_a0 := some po) (letters_a0 := some d) eqo_104 ?_
          refine x_u1 (fun h_224 e_225 f_226 => ?_)
          have e_227 := (f_226 tk (xw_neC etk_120 eqo_104 (by simp))).trans etk_120
          have e_228 := (f_226 ph (xw_neC eph_106 eqo_104 (by simp))).trans eph_106
          have e_229 := (f_226 nd (xw_neC end_107 eqo_104 (by simp))).trans end_107
          have e_230 := (f_226 po (xw_neC epo_114 eqo_104 (by simp))).trans epo_114
          have e_231 := (f_226 d (xw_neC ed_115 eqo_104 (by simp))).trans ed_115
          have e_232 := (f_226 k1 (xw_neC ek1_116 eqo_104 (by simp))).trans ek1_116
          have e_233 := (f_226 k2 (xw_neC ek2_117 eqo_104 (by simp))).trans ek2_117
          have e_234 := (f_226 k3 (xw_neC ek3_118 eqo_104 (by simp))).trans ek3_118
          have r_235 := r_103.up A.1.1 f_226
          rw [nI_1] at e_225
          have hk_237 : ¬ fk t_96 = 0 ∧ ¬ fk t_96 = 1 := by rcases hy_218 with z | z | z <;> first | exact absurd z_222 (Int32.not_le.mpr z) | (rw [z]; decide)
          have K_236 := K_98.q (FrO.rf.up (by simp) f_226) e_225 (PF_119.next ht_111 hk_237.1 hk_237.2)
          obtain ⟨eqo_238, T_239, eph_240, end_241, P_242, hp_243, hnn_244, ht_245, Fp_246, Nd_247⟩ := id K_236
          obtain ⟨epo_248, ed_249, ek1_250, ek2_251, ek3_252, -, PF_253⟩ := id P_242
          have etk_254 := T_239.1
          refine s_Question_near_108 ?_
          refine x_callV (As := [.int 10]) (b := qo) (rest := []) (F1 := 2) (L1 := 40) (mc := 0) (ms := 0) d_Question_near_111 cV_Question_103 (g_takes K_236 (by decide) (by decide) (by omega) (by omega)) eqo_238 ⟨by decide, rfl⟩ ⟨by omega, by show 8 + (2 + 11) + 40 ≤ _; omega⟩ ⟨by omega, by omega⟩ (Nat.le_of_ble_eq_true rfl) (fun v_261 h_260 p_262 => ?_)
          obtain ⟨b_255, t_256, rfl, hb_257, K_258, fr_259⟩ := p_262
          have r_263 := r_235.trans (fr_259.mono (suC A.1.1 suN))
          obtain ⟨eqo_264, T_265, eph_266, end_267, P_268, hp_269, hnn_270, ht_271, Fp_272, Nd_273⟩ := id K_258
          obtain ⟨epo_274, ed_275, ek1_276, ek2_277, ek3_278, -, PF_279⟩ := id P_268
          have etk_280 := T_265.1
          refine s_Question_near_114 (fun z_281 => ?_) (fun z_282 => ?_)
          · skip
            refine s_Question_near_129 ?_
            refine x_callV (As := []) (b := qo) (rest := []) (F1 := 1) (L1 := 20) (mc := 0) (ms := 0) d_Question_near_130 cV_Question_73 (g_refuse K_258 (by omega) (by omega)) eqo_264 ⟨by decide, rfl⟩ ⟨by omega, by show 8 + (1 + 11) + 20 ≤ _; omega⟩ ⟨by omega, by omega⟩ (Nat.le_of_ble_eq_true rfl) (fun v_287 h_286 p_288 => ?_)
            obtain ⟨rfl, ⟨wp_283, K_284⟩, fr_285⟩ := p_288
            have r_289 := r_263.trans (fr_285.mono (suC A.1.1 suN))
            obtain ⟨eqo_290, T_291, eph_292, end_293, P_294, hp_295, hnn_296, ht_297, Fp_298, Nd_299⟩ := id K_284
            obtain ⟨epo_300, ed_301, ek1_302, ek2_303, ek3_304, -, PF_305⟩ := id P_294
            have etk_306 := T_291.1
            refine x_le (xw_le_n (xw_le_n (xw_le_n (xw_le_n (xw_le_n xw_le_e))))) ?_
            refine s_Question_near_133 (s0 := none) ?_
            exact ⟨none, p_64, nn, n_65, rfl, by omega, by omega, by omega, (fun a z => nomatch z), K_284.s, r_289⟩
          · skip
            refine s_Question_near_117 ?_
            refine x_callV (As := [.int (nI p), .int y_217, .int co, .int ((-1))]) (b := qo) (rest := []) (F1 := 3) (L1 := 62) (mc := 0) (ms := 0) d_Question_near_123 cV_Question_129 (g_group (u := p) K_258 A (by omega) (by omega) (by omega)) eqo_264 ⟨by decide, rfl⟩ ⟨by omega, by show 8 + (6 + 11) + 62 ≤ _; omega⟩ ⟨by omega, by omega⟩ (Nat.le_of_ble_eq_true rfl) (fun v_323 h_322 p_324 => ?_)
            obtain ⟨o_307, p_308, nn_309, n_310, rfl, hp_311, hn_312, hm_313, ho_314, S_315, fr_316⟩ := p_324
            have r_325 := r_263.trans fr_316
            obtain ⟨t_317, wp_318, f_319, g_320, K_321⟩ := S_315
            obtain ⟨eqo_326, T_327, eph_328, end_329, P_330, hp_331, hnn_332, ht_333, Fp_334, Nd_335⟩ := id K_321
            obtain ⟨epo_336, ed_337, ek1_338, ek2_339, ek3_340, -, PF_341⟩ := id P_330
            have etk_342 := T_327.1
            refine x_le (xw_le_n (xw_le_n (xw_le_n (xw_le_n (xw_le_n xw_le_e))))) ?_
            refine s_Question_near_126 (s0 := o_307) ?_
            refine s_Question_near_133 (s0 := o_307) ?_
            exact ⟨o_307, p_308, nn_309, n_310, rfl, by omega, by omega, by omega, ho_314, K_321.s, r_325⟩
        · skip
          refine s_Question_near_93 ?_
          refine x_callV (As := []) (b := qo) (rest := []) (F1 := 1) (L1 := 20) (mc := 0) (ms := 0) d_Question_near_94 cV_Question_73 (g_refuse K_98 (by omega) (by omega)) eqo_104 ⟨by decide, rfl⟩ ⟨by omega, by show 8 + (1 + 11) + 20 ≤ _; omega⟩ ⟨by omega, by omega⟩ (Nat.le_of_ble_eq_true rfl) (fun v_347 h_346 p_348 => ?_)
          obtain ⟨rfl, ⟨wp_343, K_344⟩, fr_345⟩ := p_348
          have r_349 := r_103.trans (fr_345.mono (suC A.1.1 suN))
          obtain ⟨eqo_350, T_351, eph_352, end_353, P_354, hp_355, hnn_356, ht_357, Fp_358, Nd_359⟩ := id K_344
          obtain ⟨epo_360, ed_361, ek1_362, ek2_363, ek3_364, -, PF_365⟩ := id P_354
          have etk_366 := T_351.1
          refine x_le (xw_le_n (xw_le_n (xw_le_n (xw_le_n (xw_le_n xw_le_e))))) ?_
          refine s_Question_near_97 (s0 := none) ?_
          exact ⟨none, p_64, nn, n_65, rfl, by omega, by omega, by omega, (fun a z => nomatch z), K_344.s, r_349⟩
    · skip
      refine s_Question_near_60 ?_
      exact ⟨none, p_64, nn, n_65, rfl, by omega, by omega, by omega, (fun a z => nomatch z), K_71.s, r_75⟩
  · skip
    refine s_Question_near_9 ?_
    refine x_callV (As := []) (b := qo) (rest := []) (F1 := 1) (L1 := 20) (mc := 0) (ms := 0) d_Question_near_10 cV_Question_73 (g_refuse K_4 (by omega) (by omega)) eqo_10 ⟨by decide, rfl⟩ ⟨by omega, by show 8 + (1 + 11) + 20 ≤ _; omega⟩ ⟨by omega, by omega⟩ (Nat.le_of_ble_eq_true rfl) (fun v_371 h_370 p_372 => ?_)
    obtain ⟨rfl, ⟨wp_367, K_368⟩, fr_369⟩ := p_372
    have r_373 := r_9.trans (fr_369.mono (suC A.1.1 suN))
    obtain ⟨eqo_374, T_375, eph_376, end_377, P_378, hp_379, hnn_380, ht_381, Fp_382, Nd_383⟩ := id K_368
    obtain ⟨epo_384, ed_385, ek1_386, ek2_387, ek3_388, -, PF_389⟩ := id P_378
    have etk_390 := T_375.1
    refine x_le (xw_le_n (xw_le_n (xw_le_n (xw_le_n (xw_le_n xw_le_e))))) ?_
    refine s_Question_near_13 (s0 := none) ?_
    exact ⟨none, p, nn, n, rfl, by omega, by omega, by omega, (fun a z => nomatch z), K_368.s, r_373⟩
set_option maxHeartbeats 1000000 in
theorem g_atom {G : xw_G} {F L : Nat} {h : xw_A} {F1 L1 : Nat} {co de : Int32} {B : List Nat} {qo tk tl tz ph nd po k1 k2 k3 d ln c : Nat} {fk fs fe fd : Nat → Int32} {fp fn : Nat → Option Nat} {p nn n t : Nat} {wp : Int32} {f g : Nat → Int32} (K : QuC qo tk tl tz ph nd po k1 k2 k3 d ln c fk fs fe fd fp fn p nn n t wp f g h) (A : QuA B qo tk tl tz ph nd po k1 k2 k3 d fp fn) (hdp : de < 8 → ∀ (h : xw_A) (p nn n : Nat), QuS qo tk tl tz ph nd po k1 k2 k3 d ln c fk fs fe fd fp fn p nn n h → xw_Met G m_Question_deeper F1 L1 0 0 [.ref qo, .int co, .int (de + 1)] h (fun v h' => QuR B qo tk tl tz ph nd po k1 k2 k3 d ln c fk fs fe fd fp fn p nn n h v h') (fun _ _ => False)) (hF1 : F1 + 1 ≤ F) (hL1 : L1 + 40 ≤ L) (hF : 6 ≤ F) (hL : 134 ≤ L) :
    xw_Met G m_Question_atom F L 0 0 [.ref qo, .int co, .int de] h (fun v h' => QuR B qo tk tl tz ph nd po k1 k2 k3 d ln c fk fs fe fd fp fn p nn n h v h') (fun _ _ => False) := by
  refine xw_Met.of rfl (by decide) (Nat.le_of_ble_eq_true rfl) ?_
  obtain ⟨e_qo, T, e_ph, e_nd, P, hp, hnn, ht, Fp, Nd⟩ := id K
  obtain ⟨e_po, e_d, e_k1, e_k2, e_k3, hln, PF⟩ := id P
  have e_tk := T.1
  have hc := PF.1
  have r0 : FrO B h h := FrO.rf
  refine s_Question_atom_0 ?_
  refine x_callV (As := []) (b := qo) (rest := []) (F1 := 2) (L1 := 40) (mc := 0) (ms := 0) d_Question_atom_1 cV_Question_106 (g_beginsDeeper K (by omega) (by omega)) e_qo ⟨by decide, rfl⟩ ⟨by omega, by show 8 + (2 + 11) + 40 ≤ _; omega⟩ ⟨by omega, by omega⟩ (Nat.le_of_ble_eq_true rfl) (fun v_4 h_3 p_5 => ?_)
  obtain ⟨b_1, rfl, hb_2, rfl⟩ := p_5
  refine s_Question_atom_4 (fun z_6 => ?_) (fun z_7 => ?_)
  · skip
    refine s_Question_atom_29 ?_
    refine x_callV (As := [.int 8]) (b := qo) (rest := []) (F1 := 2) (L1 := 40) (mc := 0) (ms := 0) d_Question_atom_32 cV_Question_103 (g_takes K (by decide) (by decide) (by omega) (by omega)) e_qo ⟨by decide, rfl⟩ ⟨by omega, by show 8 + (2 + 11) + 40 ≤ _; omega⟩ ⟨by omega, by omega⟩ (Nat.le_of_ble_eq_true rfl) (fun v_14 h_13 p_15 => ?_)
    obtain ⟨b_8, t_9, rfl, hb_10, K_11, fr_12⟩ := p_15
    have r_16 := r0.trans (fr_12.mono (suC A.1.1 suN))
    obtain ⟨eqo_17, T_18, eph_19, end_20, P_21, hp_22, hnn_23, ht_24, Fp_25, Nd_26⟩ := id K_11
    obtain ⟨epo_27, ed_28, ek1_29, ek2_30, ek3_31, -, PF_32⟩ := id P_21
    have etk_33 := T_18.1
    refine s_Question_atom_35 (fun z_34 => ?_) (fun z_35 => ?_)
    · skip
      refine s_Question_atom_46 ?_
      refine x_callV (As := [.int co]) (b := qo) (rest := []) (F1 := 5) (L1 := 110) (mc := 0) (ms := 0) d_Question_atom_48 cV_Question_119 (g_single K_11 A (by omega) (by omega)) eqo_17 ⟨by decide, rfl⟩ ⟨by omega, by show 8 + (4 + 11) + 110 ≤ _; omega⟩ ⟨by omega, by omega⟩ (Nat.le_of_ble_eq_true rfl) (fun v_52 h_51 p_53 => ?_)
      obtain ⟨o_36, p_37, nn_38, n_39, rfl, hp_40, hn_41, hm_42, ho_43, S_44, fr_45⟩ := p_53
      have r_54 := r_16.trans fr_45
      obtain ⟨t_46, wp_47, f_48, g_49, K_50⟩ := S_44
      obtain ⟨eqo_55, T_56, eph_57, end_58, P_59, hp_60, hnn_61, ht_62, Fp_63, Nd_64⟩ := id K_50
      obtain ⟨epo_65, ed_66, ek1_67, ek2_68, ek3_69, -, PF_70⟩ := id P_59
      have etk_71 := T_56.1
      refine x_le (xw_le_n (xw_le_n (xw_le_n xw_le_e))) ?_
      refine s_Question_atom_51 (s0 := o_36) ?_
      exact ⟨o_36, p_37, nn_38, n_39, rfl, by omega, by omega, by omega, ho_43, K_50.s, r_54⟩
    · skip
      refine s_Question_atom_38 ?_
      refine x_callV (As := [.int co]) (b := qo) (rest := []) (F1 := 5) (L1 := 110) (mc := 0) (ms := 0) d_Question_atom_40 cV_Question_115 (g_near K_11 A (by omega) (by omega)) eqo_17 ⟨by decide, rfl⟩ ⟨by omega, by show 8 + (5 + 11) + 110 ≤ _; omega⟩ ⟨by omega, by omega⟩ (Nat.le_of_ble_eq_true rfl) (fun v_88 h_87 p_89 => ?_)
      obtain ⟨o_72, p_73, nn_74, n_75, rfl, hp_76, hn_77, hm_78, ho_79, S_80, fr_81⟩ := p_89
      have r_90 := r_16.trans fr_81
      obtain ⟨t_82, wp_83, f_84, g_85, K_86⟩ := S_80
      obtain ⟨eqo_91, T_92, eph_93, end_94, P_95, hp_96, hnn_97, ht_98, Fp_99, Nd_100⟩ := id K_86
      obtain ⟨epo_101, ed_102, ek1_103, ek2_104, ek3_105, -, PF_106⟩ := id P_95
      have etk_107 := T_92.1
      refine x_le (xw_le_n (xw_le_n (xw_le_n xw_le_e))) ?_
      refine s_Question_atom_43 (s0 := o_72) ?_
      refine s_Question_atom_51 (s0 := o_72) ?_
      exact ⟨o_72, p_73, nn_74, n_75, rfl, by omega, by omega, by omega, ho_79, K_86.s, r_90⟩
  · skip
    refine s_Question_atom_7 (fun z_108 => ?_) (fun z_109 => ?_)
    · skip
      refine s_Question_atom_20 ?_
      refine x_callV (As := [.int co, .int (de + 1)]) (b := qo) (rest := []) (F1 := F1) (L1 := L1) (mc := 0) (ms := 0) d_Question_atom_25 cV_Question_112 (hdp z_108 _ _ _ _ K.s) e_qo ⟨by decide, rfl⟩ ⟨by omega, by show 8 + (6 + 11) + L1 ≤ _; omega⟩ ⟨by omega, by omega⟩ (Nat.le_of_ble_eq_true rfl) (fun v_126 h_125 p_127 => ?_)
      obtain ⟨o_110, p_111, nn_112, n_113, rfl, hp_114, hn_115, hm_116, ho_117, S_118, fr_119⟩ := p_127
      have r_128 := r0.trans fr_119
      obtain ⟨t_120, wp_121, f_122, g_123, K_124⟩ := S_118
      obtain ⟨eqo_129, T_130, eph_131, end_132, P_133, hp_134, hnn_135, ht_136, Fp_137, Nd_138⟩ := id K_124
      obtain ⟨epo_139, ed_140, ek1_141, ek2_142, ek3_143, -, PF_144⟩ := id P_133
      have etk_145 := T_130.1
      refine x_le (xw_le_n (xw_le_n (xw_le_n xw_le_e))) ?_
      refine s_Question_atom_28 (s0 := o_110) ?_
      exact ⟨o_110, p_111, nn_112, n_113, rfl, by omega, by omega, by omega, ho_117, K_124.s, r_128⟩
    · skip
      refine s_Question_atom_13 ?_
      refine x_callV (As := []) (b := qo) (rest := []) (F1 := 1) (L1 := 20) (mc := 0) (ms := 0) d_Question_atom_14 cV_Question_73 (g_refuse K (by omega) (by omega)) e_qo ⟨by decide, rfl⟩ ⟨by omega, by show 8 + (1 + 11) + 20 ≤ _; omega⟩ ⟨by omega, by omega⟩ (Nat.le_of_ble_eq_true rfl) (fun v_150 h_149 p_151 => ?_)
      obtain ⟨rfl, ⟨wp_146, K_147⟩, fr_148⟩ := p_151
      have r_152 := r0.trans (fr_148.mono (suC A.1.1 suN))
      obtain ⟨eqo_153, T_154, eph_155, end_156, P_157, hp_158, hnn_159, ht_160, Fp_161, Nd_162⟩ := id K_147
      obtain ⟨epo_163, ed_164, ek1_165, ek2_166, ek3_167, -, PF_168⟩ := id P_157
      have etk_169 := T_154.1
      refine x_le (xw_le_n (xw_le_n (xw_le_n xw_le_e))) ?_
      refine s_Question_atom_17 (s0 := none) ?_
      refine s_Question_atom_28 (s0 := none) ?_
      exact ⟨none, p, nn, n, rfl, by omega, by omega, by omega, (fun a z => nomatch z), K_147.s, r_152⟩
set_option maxHeartbeats 1000000 in
theorem g_deeper {G : xw_G} {F L : Nat} {h : xw_A} {F1 L1 F2 L2 : Nat} {co de : Int32} {B : List Nat} {qo tk tl tz ph nd po k1 k2 k3 d ln c : Nat} {fk fs fe fd : Nat → Int32} {fp fn : Nat → Option Nat} {p nn n t : Nat} {wp : Int32} {f g : Nat → Int32} (K : QuC qo tk tl tz ph nd po k1 k2 k3 d ln c fk fs fe fd fp fn p nn n t wp f g h) (A : QuA B qo tk tl tz ph nd po k1 k2 k3 d fp fn) (hj : ∀ (h : xw_A) (p nn n : Nat), QuS qo tk tl tz ph nd po k1 k2 k3 d ln c fk fs fe fd fp fn p nn n h → xw_Met G m_Question_joined F1 L1 0 0 [.ref qo, .int 5, .int co, .int de] h (fun v h' => QuR B qo tk tl tz ph nd po k1 k2 k3 d ln c fk fs fe fd fp fn p nn n h v h') (fun _ _ => False)) (hat : ∀ co : Int32, ∀ (h : xw_A) (p nn n : Nat), QuS qo tk tl tz ph nd po k1 k2 k3 d ln c fk fs fe fd fp fn p nn n h → xw_Met G m_Question_atom F2 L2 0 0 [.ref qo, .int co, .int de] h (fun v h' => QuR B qo tk tl tz ph nd po k1 k2 k3 d ln c fk fs fe fd fp fn p nn n h v h') (fun _ _ => False)) (hF1 : F1 + 1 ≤ F) (hL1 : L1 + 40 ≤ L) (hF2 : F2 + 1 ≤ F) (hL2 : L2 + 40 ≤ L) (hF : 3 ≤ F) (hL : 62 ≤ L) :
    xw_Met G m_Question_deeper F L 0 0 [.ref qo, .int co, .int de] h (fun v h' => QuR B qo tk tl tz ph nd po k1 k2 k3 d ln c fk fs fe fd fp fn p nn n h v h') (fun _ _ => False) := by
  refine xw_Met.of rfl (by decide) (Nat.le_of_ble_eq_true rfl) ?_
  obtain ⟨e_qo, T, e_ph, e_nd, P, hp, hnn, ht, Fp, Nd⟩ := id K
  obtain ⟨e_po, e_d, e_k1, e_k2, e_k3, hln, PF⟩ := id P
  have e_tk := T.1
  have hc := PF.1
  have r0 : FrO B h h := FrO.rf
  refine s_Question_deeper_0 ?_
  refine x_callV (As := [.int 9]) (b := qo) (rest := []) (F1 := 2) (L1 := 40) (mc := 0) (ms := 0) d_Question_deeper_3 cV_Question_103 (g_takes K (by decide) (by decide) (by omega) (by omega)) e_qo ⟨by decide, rfl⟩ ⟨by omega, by show 8 + (2 + 11) + 40 ≤ _; omega⟩ ⟨by omega, by omega⟩ (Nat.le_of_ble_eq_true rfl) (fun v_7 h_6 p_8 => ?_)
  obtain ⟨b_1, t_2, rfl, hb_3, K_4, fr_5⟩ := p_8
  have r_9 := r0.trans (fr_5.mono (suC A.1.1 suN))
  obtain ⟨eqo_10, T_11, eph_12, end_13, P_14, hp_15, hnn_16, ht_17, Fp_18, Nd_19⟩ := id K_4
  obtain ⟨epo_20, ed_21, ek1_22, ek2_23, ek3_24, -, PF_25⟩ := id P_14
  have etk_26 := T_11.1
  refine s_Question_deeper_6 (fun z_27 => ?_) (fun z_28 => ?_)
  · skip
    refine s_Question_deeper_39 ?_
    refine x_callV (As := [.int 11]) (b := qo) (rest := []) (F1 := 2) (L1 := 40) (mc := 0) (ms := 0) d_Question_deeper_42 cV_Question_103 (g_takes K_4 (by decide) (by decide) (by omega) (by omega)) eqo_10 ⟨by decide, rfl⟩ ⟨by omega, by show 8 + (2 + 11) + 40 ≤ _; omega⟩ ⟨by omega, by omega⟩ (Nat.le_of_ble_eq_true rfl) (fun v_35 h_34 p_36 => ?_)
    obtain ⟨b_29, t_30, rfl, hb_31, K_32, fr_33⟩ := p_36
    have r_37 := r_9.trans (fr_33.mono (suC A.1.1 suN))
    obtain ⟨eqo_38, T_39, eph_40, end_41, P_42, hp_43, hnn_44, ht_45, Fp_46, Nd_47⟩ := id K_32
    obtain ⟨epo_48, ed_49, ek1_50, ek2_51, ek3_52, -, PF_53⟩ := id P_42
    have etk_54 := T_39.1
    refine s_Question_deeper_45 ?_
    refine x_callV (As := []) (b := qo) (rest := []) (F1 := 1) (L1 := 20) (mc := 0) (ms := 0) d_Question_deeper_47 cV_Question_69 (g_kind K_32 (by omega) (by omega)) eqo_38 ⟨by decide, rfl⟩ ⟨by omega, by show 8 + (1 + 11) + 20 ≤ _; omega⟩ ⟨by omega, by omega⟩ (Nat.le_of_ble_eq_true rfl) (fun v_56 h_55 p_57 => ?_)
    obtain ⟨rfl, rfl⟩ := p_57
    refine s_Question_deeper_50 (fun z_58 => ?_) (fun z_59 => ?_)
    · skip
      refine s_Question_deeper_68 ?_
      refine s_Question_deeper_69 (fun z => absurd z (by decide)) (fun z_60 => ?_)
      refine s_Question_deeper_76 ?_
      refine x_callV (As := []) (b := qo) (rest := []) (F1 := 1) (L1 := 20) (mc := 0) (ms := 0) d_Question_deeper_77 cV_Question_73 (g_refuse K_32 (by omega) (by omega)) eqo_38 ⟨by decide, rfl⟩ ⟨by omega, by show 8 + (1 + 11) + 20 ≤ _; omega⟩ ⟨by omega, by omega⟩ (Nat.le_of_ble_eq_true rfl) (fun v_65 h_64 p_66 => ?_)
      obtain ⟨rfl, ⟨wp_61, K_62⟩, fr_63⟩ := p_66
      have r_67 := r_37.trans (fr_63.mono (suC A.1.1 suN))
      obtain ⟨eqo_68, T_69, eph_70, end_71, P_72, hp_73, hnn_74, ht_75, Fp_76, Nd_77⟩ := id K_62
      obtain ⟨epo_78, ed_79, ek1_80, ek2_81, ek3_82, -, PF_83⟩ := id P_72
      have etk_84 := T_69.1
      refine x_le (xw_le_n (xw_le_n (xw_le_n (xw_le_n (xw_le_n (xw_le_n xw_le_e)))))) ?_
      refine s_Question_deeper_80 (s0 := none) ?_
      exact ⟨none, p, nn, n, rfl, by omega, by omega, by omega, (fun a z => nomatch z), K_62.s, r_67⟩
    · skip
      refine s_Question_deeper_54 (tokens_a0 := some tk) (phrases_a0 := some ph) (nodes_a0 := some nd) (parts_a0 := some po) (letters_a0 := some d) eqo_38 ?_
      obtain ⟨a_85, b_86, ha_87, hb_88, hab_89, hbl_90⟩ := PF_53.2.2.2.1 _ ht_45
      refine x_callV (As := [.int (nI t_30)]) (b := po) (rest := []) (F1 := 2) (L1 := 40) (mc := 0) (ms := 0) d_Question_deeper_62 cV_Question_122 (g_columnNamed epo_48 ed_49 hln ek1_50 ek2_51 ek3_52 (by omega) ha_87 hb_88 hab_89 hbl_90 (by omega) (by omega)) epo_48 ⟨by decide, rfl⟩ ⟨by omega, by show 8 + (3 + 11) + 40 ≤ _; omega⟩ ⟨by omega, by omega⟩ (Nat.le_of_ble_eq_true rfl) (fun v_93 h_92 p_94 => ?_)
      obtain ⟨⟨y_91, rfl⟩, rfl⟩ := p_94
      refine s_Question_deeper_65 ?_
      refine s_Question_deeper_69 (fun z_95 => ?_) (fun z_96 => ?_)
      · skip
        refine s_Question_deeper_81 (fun z_97 => ?_) (fun z_98 => ?_)
        · skip
          refine s_Question_deeper_93 ?_
          refine s_Question_deeper_95 (tokens_a0 := some tk) (phrases_a0 := some ph) (nodes_a0 := some nd) (parts_a0 := some po) (letters_a0 := some d) eqo_38 ?_
          refine x_u1 (fun h_99 e_100 f_101 => ?_)
          have e_102 := (f_101 tk (xw_neC etk_54 eqo_38 (by simp))).trans etk_54
          have e_103 := (f_101 ph (xw_neC eph_40 eqo_38 (by simp))).trans eph_40
          have e_104 := (f_101 nd (xw_neC end_41 eqo_38 (by simp))).trans end_41
          have e_105 := (f_101 po (xw_neC epo_48 eqo_38 (by simp))).trans epo_48
          have e_106 := (f_101 d (xw_neC ed_49 eqo_38 (by simp))).trans ed_49
          have e_107 := (f_101 k1 (xw_neC ek1_50 eqo_38 (by simp))).trans ek1_50
          have e_108 := (f_101 k2 (xw_neC ek2_51 eqo_38 (by simp))).trans ek2_51
          have e_109 := (f_101 k3 (xw_neC ek3_52 eqo_38 (by simp))).trans ek3_52
          have r_110 := r_37.up A.1.1 f_101
          rw [show (2 : Int32) = nI 2 from rfl, nI_add] at e_100
          have K_111 := K_32.q (FrO.rf.up (by simp) f_101) e_100 (PF_53.next2 ht_45 z_59)
          obtain ⟨eqo_112, T_113, eph_114, end_115, P_116, hp_117, hnn_118, ht_119, Fp_120, Nd_121⟩ := id K_111
          obtain ⟨epo_122, ed_123, ek1_124, ek2_125, ek3_126, -, PF_127⟩ := id P_116
          have etk_128 := T_113.1
          refine x_callV (As := [.int (co &&& (1 <<< (y_91 &&& 31))), .int de]) (b := qo) (rest := []) (F1 := F2) (L1 := L2) (mc := 0) (ms := 0) d_Question_deeper_114 cV_Question_95 (hat _ _ _ _ _ K_111.s) eqo_112 ⟨by decide, rfl⟩ ⟨by omega, by show 8 + (3 + 11) + L2 ≤ _; omega⟩ ⟨by omega, by omega⟩ (Nat.le_of_ble_eq_true rfl) (fun v_145 h_144 p_146 => ?_)
          obtain ⟨o_129, p_130, nn_131, n_132, rfl, hp_133, hn_134, hm_135, ho_136, S_137, fr_138⟩ := p_146
          have r_147 := r_110.trans fr_138
          obtain ⟨t_139, wp_140, f_141, g_142, K_143⟩ := S_137
          obtain ⟨eqo_148, T_149, eph_150, end_151, P_152, hp_153, hnn_154, ht_155, Fp_156, Nd_157⟩ := id K_143
          obtain ⟨epo_158, ed_159, ek1_160, ek2_161, ek3_162, -, PF_163⟩ := id P_152
          have etk_164 := T_149.1
          refine x_le (xw_le_n (xw_le_n (xw_le_n (xw_le_n (xw_le_n (xw_le_n xw_le_e)))))) ?_
          refine s_Question_deeper_117 (s0 := o_129) ?_
          exact ⟨o_129, p_130, nn_131, n_132, rfl, by omega, by omega, by omega, ho_136, K_143.s, r_147⟩
        · skip
          refine s_Question_deeper_86 ?_
          refine s_Question_deeper_95 (tokens_a0 := some tk) (phrases_a0 := some ph) (nodes_a0 := some nd) (parts_a0 := some po) (letters_a0 := some d) eqo_38 ?_
          refine x_u1 (fun h_165 e_166 f_167 => ?_)
          have e_168 := (f_167 tk (xw_neC etk_54 eqo_38 (by simp))).trans etk_54
          have e_169 := (f_167 ph (xw_neC eph_40 eqo_38 (by simp))).trans eph_40
          have e_170 := (f_167 nd (xw_neC end_41 eqo_38 (by simp))).trans end_41
          have e_171 := (f_167 po (xw_neC epo_48 eqo_38 (by simp))).trans epo_48
          have e_172 := (f_167 d (xw_neC ed_49 eqo_38 (by simp))).trans ed_49
          have e_173 := (f_167 k1 (xw_neC ek1_50 eqo_38 (by simp))).trans ek1_50
          have e_174 := (f_167 k2 (xw_neC ek2_51 eqo_38 (by simp))).trans ek2_51
          have e_175 := (f_167 k3 (xw_neC ek3_52 eqo_38 (by simp))).trans ek3_52
          have r_176 := r_37.up A.1.1 f_167
          rw [show (2 : Int32) = nI 2 from rfl, nI_add] at e_166
          have K_177 := K_32.q (FrO.rf.up (by simp) f_167) e_166 (PF_53.next2 ht_45 z_59)
          obtain ⟨eqo_178, T_179, eph_180, end_181, P_182, hp_183, hnn_184, ht_185, Fp_186, Nd_187⟩ := id K_177
          obtain ⟨epo_188, ed_189, ek1_190, ek2_191, ek3_192, -, PF_193⟩ := id P_182
          have etk_194 := T_179.1
          refine x_callV (As := [.int (co &&& (1 <<< ((1 - y_91) &&& 31))), .int de]) (b := qo) (rest := []) (F1 := F2) (L1 := L2) (mc := 0) (ms := 0) d_Question_deeper_114 cV_Question_95 (hat _ _ _ _ _ K_177.s) eqo_178 ⟨by decide, rfl⟩ ⟨by omega, by show 8 + (3 + 11) + L2 ≤ _; omega⟩ ⟨by omega, by omega⟩ (Nat.le_of_ble_eq_true rfl) (fun v_211 h_210 p_212 => ?_)
          obtain ⟨o_195, p_196, nn_197, n_198, rfl, hp_199, hn_200, hm_201, ho_202, S_203, fr_204⟩ := p_212
          have r_213 := r_176.trans fr_204
          obtain ⟨t_205, wp_206, f_207, g_208, K_209⟩ := S_203
          obtain ⟨eqo_214, T_215, eph_216, end_217, P_218, hp_219, hnn_220, ht_221, Fp_222, Nd_223⟩ := id K_209
          obtain ⟨epo_224, ed_225, ek1_226, ek2_227, ek3_228, -, PF_229⟩ := id P_218
          have etk_230 := T_215.1
          refine x_le (xw_le_n (xw_le_n (xw_le_n (xw_le_n (xw_le_n (xw_le_n xw_le_e)))))) ?_
          refine s_Question_deeper_117 (s0 := o_195) ?_
          exact ⟨o_195, p_196, nn_197, n_198, rfl, by omega, by omega, by omega, ho_202, K_209.s, r_213⟩
      · skip
        refine s_Question_deeper_76 ?_
        refine x_callV (As := []) (b := qo) (rest := []) (F1 := 1) (L1 := 20) (mc := 0) (ms := 0) d_Question_deeper_77 cV_Question_73 (g_refuse K_32 (by omega) (by omega)) eqo_38 ⟨by decide, rfl⟩ ⟨by omega, by show 8 + (1 + 11) + 20 ≤ _; omega⟩ ⟨by omega, by omega⟩ (Nat.le_of_ble_eq_true rfl) (fun v_235 h_234 p_236 => ?_)
        obtain ⟨rfl, ⟨wp_231, K_232⟩, fr_233⟩ := p_236
        have r_237 := r_37.trans (fr_233.mono (suC A.1.1 suN))
        obtain ⟨eqo_238, T_239, eph_240, end_241, P_242, hp_243, hnn_244, ht_245, Fp_246, Nd_247⟩ := id K_232
        obtain ⟨epo_248, ed_249, ek1_250, ek2_251, ek3_252, -, PF_253⟩ := id P_242
        have etk_254 := T_239.1
        refine x_le (xw_le_n (xw_le_n (xw_le_n (xw_le_n (xw_le_n (xw_le_n xw_le_e)))))) ?_
        refine s_Question_deeper_80 (s0 := none) ?_
        exact ⟨none, p, nn, n, rfl, by omega, by omega, by omega, (fun a z => nomatch z), K_232.s, r_237⟩
  · skip
    refine s_Question_deeper_9 ?_
    refine x_callV (As := [.int 5, .int co, .int de]) (b := qo) (rest := []) (F1 := F1) (L1 := L1) (mc := 0) (ms := 0) d_Question_deeper_13 cV_Question_65 (hj _ _ _ _ K_4.s) eqo_10 ⟨by decide, rfl⟩ ⟨by omega, by show 8 + (7 + 11) + L1 ≤ _; omega⟩ ⟨by omega, by omega⟩ (Nat.le_of_ble_eq_true rfl) (fun v_271 h_270 p_272 => ?_)
    obtain ⟨o_255, p_256, nn_257, n_258, rfl, hp_259, hn_260, hm_261, ho_262, S_263, fr_264⟩ := p_272
    have r_273 := r_9.trans fr_264
    obtain ⟨t_265, wp_266, f_267, g_268, K_269⟩ := S_263
    obtain ⟨eqo_274, T_275, eph_276, end_277, P_278, hp_279, hnn_280, ht_281, Fp_282, Nd_283⟩ := id K_269
    obtain ⟨epo_284, ed_285, ek1_286, ek2_287, ek3_288, -, PF_289⟩ := id P_278
    have etk_290 := T_275.1
    refine x_le (xw_le_s (xw_le_n (xw_le_n (xw_le_n (xw_le_n (xw_le_n xw_le_e)))))) ?_
    refine s_Question_deeper_16 (s0 := o_255) (fun z_291 => ?_) (fun a_292 z_293 => ?_)
    · skip
      refine s_Question_deeper_30 (r3 := o_255) ?_
      refine s_Question_deeper_38 (s0 := o_255) ?_
      exact ⟨o_255, p_256, nn_257, n_258, rfl, by omega, by omega, by omega, ho_262, K_269.s, r_273⟩
    · skip
      refine s_Question_deeper_21 (r3 := o_255) ?_
      refine x_callV (As := [.int 10]) (b := qo) (rest := []) (F1 := 2) (L1 := 40) (mc := 0) (ms := 0) d_Question_deeper_24 cV_Question_103 (g_takes K_269 (by decide) (by decide) (by omega) (by omega)) eqo_274 ⟨by decide, rfl⟩ ⟨by omega, by show 8 + (2 + 11) + 40 ≤ _; omega⟩ ⟨by omega, by omega⟩ (Nat.le_of_ble_eq_true rfl) (fun v_300 h_299 p_301 => ?_)
      obtain ⟨b_294, t_295, rfl, hb_296, K_297, fr_298⟩ := p_301
      have r_302 := r_273.trans (fr_298.mono (suC A.1.1 suN))
      obtain ⟨eqo_303, T_304, eph_305, end_306, P_307, hp_308, hnn_309, ht_310, Fp_311, Nd_312⟩ := id K_297
      obtain ⟨epo_313, ed_314, ek1_315, ek2_316, ek3_317, -, PF_318⟩ := id P_307
      have etk_319 := T_304.1
      refine s_Question_deeper_27 (r3 := o_255) (fun z_320 => ?_) (fun z_321 => ?_)
      · skip
        refine s_Question_deeper_34 ?_
        refine x_callV (As := []) (b := qo) (rest := []) (F1 := 1) (L1 := 20) (mc := 0) (ms := 0) d_Question_deeper_35 cV_Question_73 (g_refuse K_297 (by omega) (by omega)) eqo_303 ⟨by decide, rfl⟩ ⟨by omega, by show 8 + (1 + 11) + 20 ≤ _; omega⟩ ⟨by omega, by omega⟩ (Nat.le_of_ble_eq_true rfl) (fun v_326 h_325 p_327 => ?_)
        obtain ⟨rfl, ⟨wp_322, K_323⟩, fr_324⟩ := p_327
        have r_328 := r_302.trans (fr_324.mono (suC A.1.1 suN))
        obtain ⟨eqo_329, T_330, eph_331, end_332, P_333, hp_334, hnn_335, ht_336, Fp_337, Nd_338⟩ := id K_323
        obtain ⟨epo_339, ed_340, ek1_341, ek2_342, ek3_343, -, PF_344⟩ := id P_333
        have etk_345 := T_330.1
        refine x_le (xw_le_n (xw_le_n (xw_le_n (xw_le_n (xw_le_n (xw_le_n xw_le_e)))))) ?_
        refine s_Question_deeper_38 (s0 := none) ?_
        exact ⟨none, p_256, nn_257, n_258, rfl, by omega, by omega, by omega, (fun a z => nomatch z), K_323.s, r_328⟩
      · skip
        refine s_Question_deeper_30 (r3 := o_255) ?_
        refine s_Question_deeper_38 (s0 := o_255) ?_
        exact ⟨o_255, p_256, nn_257, n_258, rfl, by omega, by omega, by omega, ho_262, K_297.s, r_302⟩
set_option maxHeartbeats 400000 in
theorem g_opA {G : xw_G} {F L F1 L1 : Nat} {h : xw_A} {co de : Int32} {B : List Nat} {qo tk tl tz ph nd po k1 k2 k3 d ln c : Nat} {fk fs fe fd : Nat → Int32} {fp fn : Nat → Option Nat} {p nn n : Nat} (A : QuA B qo tk tl tz ph nd po k1 k2 k3 d fp fn) (hm : ∀ (h : xw_A) (p nn n : Nat), QuS qo tk tl tz ph nd po k1 k2 k3 d ln c fk fs fe fd fp fn p nn n h → xw_Met G m_Question_atom F1 L1 0 0 [.ref qo, .int co, .int de] h (fun v h' => QuR B qo tk tl tz ph nd po k1 k2 k3 d ln c fk fs fe fd fp fn p nn n h v h') (fun _ _ => False)) (S : QuS qo tk tl tz ph nd po k1 k2 k3 d ln c fk fs fe fd fp fn p nn n h) (hF : F1 + 1 ≤ F) (hL : L1 + 40 ≤ L) :
    xw_Met G m_Question_operand F L 0 0 [.ref qo, .int 8, .int co, .int de] h (fun v h' => QuR B qo tk tl tz ph nd po k1 k2 k3 d ln c fk fs fe fd fp fn p nn n h v h') (fun _ _ => False) := by
  refine xw_Met.of rfl (by decide) (Nat.le_of_ble_eq_true rfl) ?_
  obtain ⟨t, wp, f, g, K⟩ := S
  have e_qo := K.1
  refine s_Question_operand_0 (fun z => absurd rfl z) (fun _ => ?_)
  refine s_Question_operand_6 ?_
  refine x_callV (As := [.int co, .int de]) (b := qo) (rest := []) (F1 := F1) (L1 := L1) (mc := 0) (ms := 0) d_Question_operand_9 cV_Question_95 (hm h p nn n K.s) e_qo ⟨by decide, rfl⟩ ⟨by omega, by show 8 + (3 + 11) + L1 ≤ _; omega⟩ ⟨by omega, by omega⟩ (Nat.le_of_ble_eq_true rfl) (fun v h1 q => ?_)
  obtain ⟨o, p', nn', n', rfl, R⟩ := q
  refine x_le (xw_le_n (xw_le_n (xw_le_n (xw_le_n xw_le_e)))) ?_
  refine s_Question_operand_12 (s0 := o) ?_
  refine s_Question_operand_24 (s0 := o) ?_
  exact ⟨o, p', nn', n', rfl, R⟩
set_option maxHeartbeats 400000 in
theorem g_opJ {G : xw_G} {F L F1 L1 : Nat} {h : xw_A} {x co de : Int32} {B : List Nat} {qo tk tl tz ph nd po k1 k2 k3 d ln c : Nat} {fk fs fe fd : Nat → Int32} {fp fn : Nat → Option Nat} {p nn n : Nat} (A : QuA B qo tk tl tz ph nd po k1 k2 k3 d fp fn) (hx : ¬ x = 8) (hm : ∀ (h : xw_A) (p nn n : Nat), QuS qo tk tl tz ph nd po k1 k2 k3 d ln c fk fs fe fd fp fn p nn n h → xw_Met G m_Question_joined F1 L1 0 0 [.ref qo, .int (x + 1), .int co, .int de] h (fun v h' => QuR B qo tk tl tz ph nd po k1 k2 k3 d ln c fk fs fe fd fp fn p nn n h v h') (fun _ _ => False)) (S : QuS qo tk tl tz ph nd po k1 k2 k3 d ln c fk fs fe fd fp fn p nn n h) (hF : F1 + 1 ≤ F) (hL : L1 + 40 ≤ L) :
    xw_Met G m_Question_operand F L 0 0 [.ref qo, .int x, .int co, .int de] h (fun v h' => QuR B qo tk tl tz ph nd po k1 k2 k3 d ln c fk fs fe fd fp fn p nn n h v h') (fun _ _ => False) := by
  refine xw_Met.of rfl (by decide) (Nat.le_of_ble_eq_true rfl) ?_
  obtain ⟨t, wp, f, g, K⟩ := S
  have e_qo := K.1
  refine s_Question_operand_0 (fun _ => ?_) (fun z => absurd z hx)
  refine s_Question_operand_15 ?_
  refine x_callV (As := [.int (x + 1), .int co, .int de]) (b := qo) (rest := []) (F1 := F1) (L1 := L1) (mc := 0) (ms := 0) d_Question_operand_21 cV_Question_65 (hm h p nn n K.s) e_qo ⟨by decide, rfl⟩ ⟨by omega, by show 8 + (7 + 11) + L1 ≤ _; omega⟩ ⟨by omega, by omega⟩ (Nat.le_of_ble_eq_true rfl) (fun v h1 q => ?_)
  obtain ⟨o, p', nn', n', rfl, R⟩ := q
  refine x_le (xw_le_n (xw_le_n (xw_le_n (xw_le_n xw_le_e)))) ?_
  refine s_Question_operand_24 (s0 := o) ?_
  exact ⟨o, p', nn', n', rfl, R⟩
set_option maxHeartbeats 2000000 in
theorem lp_joined {G : xw_G} {F L bc bs : Nat} {pr : Option Value → xw_A → Prop} {px : String → xw_A → Prop} {B : List Nat} {qo tk tl tz ph nd po k1 k2 k3 d ln c : Nat} {fk fs fe fd : Nat → Int32} {fp fn : Nat → Option Nat} {F1 L1 p0 nn0 n0 : Nat} {x co de : Int32} {h0 : xw_A} (A : QuA B qo tk tl tz ph nd po k1 k2 k3 d fp fn) (hx0 : ¬ x = 0) (hx1 : ¬ x = 1) (hop : ∀ (h : xw_A) (p nn n : Nat), QuS qo tk tl tz ph nd po k1 k2 k3 d ln c fk fs fe fd fp fn p nn n h → xw_Met G m_Question_operand F1 L1 0 0 [.ref qo, .int x, .int co, .int de] h (fun v h' => QuR B qo tk tl tz ph nd po k1 k2 k3 d ln c fk fs fe fd fp fn p nn n h v h') (fun _ _ => False)) (hF1 : F1 + 1 ≤ F) (hL1 : L1 + 40 ≤ L) (hF : 5 ≤ F) (hL : 103 ≤ L) (kk : ∀ (h : xw_A) (p nn n t : Nat) (wp : Int32) (f g : Nat → Int32) (o : Option Nat), QuC qo tk tl tz ph nd po k1 k2 k3 d ln c fk fs fe fd fp fn p nn n t wp f g h → (∀ a, o = some a → ∃ i, i < nn ∧ fn i = some a) → p0 ≤ p → nn0 ≤ nn → n0 ≤ n → FrO B h0 h → pr (some (va_rf o)) h) :
    ∀ (dd i : Nat) (h : xw_A) (p : Nat) (nn : Nat) (n : Nat) (t : Nat) (wp : Int32) (f : Nat → Int32) (g : Nat → Int32) (o : Option Nat), i + dd = 96 → QuC qo tk tl tz ph nd po k1 k2 k3 d ln c fk fs fe fd fp fn p nn n t wp f g h → (∀ a, o = some a → ∃ i, i < nn ∧ fn i = some a) → p0 ≤ p → nn0 ≤ nn → n0 ≤ n → FrO B h0 h → xw G m_Question_joined F L bc bs pr px 12 [some (.ref qo), some (.int x), some (.int co), some (.int de), some (va_rf o), some (.int (nI i)), none] [] h := by
  intro dd
  induction dd with
  | zero =>
    intro i h p nn n t wp f g o hi K ho hp0 hn0 hm0 r0
    obtain rfl : i = 96 := by omega
    obtain ⟨e_qo, T, e_ph, e_nd, P, hp, hnn, ht, Fp, Nd⟩ := id K
    obtain ⟨e_po, e_d, e_k1, e_k2, e_k3, hln, PF⟩ := id P
    have e_tk := T.1
    have hc := PF.1
    refine s_Question_joined_12 (r4 := o) (fun z_1 => ?_) (fun z => absurd z (by decide))
    refine s_Question_joined_67 (r4 := o) ?_
    exact kk _ _ _ _ _ _ _ _ _ K ho (by omega) (by omega) (by omega) r0
  | succ dd ih =>
    intro i h p nn n t wp f g o hi K ho hp0 hn0 hm0 r0
    obtain ⟨e_qo, T, e_ph, e_nd, P, hp, hnn, ht, Fp, Nd⟩ := id K
    obtain ⟨e_po, e_d, e_k1, e_k2, e_k3, hln, PF⟩ := id P
    have e_tk := T.1
    have hc := PF.1
    refine s_Question_joined_12 (r4 := o) (fun z => absurd z (nI_ge (b := 96) (show i < 96 by omega) (by decide))) (fun z_1 => ?_)
    refine s_Question_joined_19 (r4 := o) (fun z_2 => ?_) (fun a_3 z_4 => ?_)
    · skip
      refine s_Question_joined_67 (r4 := o) ?_
      exact kk _ _ _ _ _ _ _ _ _ K ho (by omega) (by omega) (by omega) r0
    · skip
      refine s_Question_joined_24 (r4 := o) ?_
      refine x_callV (As := [.int x]) (b := qo) (rest := []) (F1 := 4) (L1 := 82) (mc := 0) (ms := 0) d_Question_joined_26 cV_Question_87 (g_goesOn K hx0 hx1 (by omega) (by omega)) e_qo ⟨by decide, rfl⟩ ⟨by omega, by show 8 + (2 + 11) + 82 ≤ _; omega⟩ ⟨by omega, by omega⟩ (Nat.le_of_ble_eq_true rfl) (fun v_11 h_10 p_12 => ?_)
      obtain ⟨b_5, t_6, rfl, hb_7, K_8, fr_9⟩ := p_12
      have r_13 := r0.trans (fr_9.mono (suC A.1.1 suN))
      obtain ⟨eqo_14, T_15, eph_16, end_17, P_18, hp_19, hnn_20, ht_21, Fp_22, Nd_23⟩ := id K_8
      obtain ⟨epo_24, ed_25, ek1_26, ek2_27, ek3_28, -, PF_29⟩ := id P_18
      have etk_30 := T_15.1
      refine s_Question_joined_29 (r4 := o) (fun z_31 => ?_) (fun z_32 => ?_)
      · skip
        refine s_Question_joined_67 (r4 := o) ?_
        exact kk _ _ _ _ _ _ _ _ _ K_8 ho (by omega) (by omega) (by omega) r_13
      · skip
        refine s_Question_joined_32 (r4 := o) ?_
        refine x_callV (As := [.int x, .int co, .int de]) (b := qo) (rest := []) (F1 := F1) (L1 := L1) (mc := 0) (ms := 0) d_Question_joined_36 cV_Question_84 (hop _ _ _ _ K_8.s) eqo_14 ⟨by decide, rfl⟩ ⟨by omega, by show 8 + (4 + 11) + L1 ≤ _; omega⟩ ⟨by omega, by omega⟩ (Nat.le_of_ble_eq_true rfl) (fun v_49 h_48 p_50 => ?_)
        obtain ⟨o_33, p_34, nn_35, n_36, rfl, hp_37, hn_38, hm_39, ho_40, S_41, fr_42⟩ := p_50
        have r_51 := r_13.trans fr_42
        obtain ⟨t_43, wp_44, f_45, g_46, K_47⟩ := S_41
        obtain ⟨eqo_52, T_53, eph_54, end_55, P_56, hp_57, hnn_58, ht_59, Fp_60, Nd_61⟩ := id K_47
        obtain ⟨epo_62, ed_63, ek1_64, ek2_65, ek3_66, -, PF_67⟩ := id P_56
        have etk_68 := T_53.1
        refine s_Question_joined_39 (r4 := o) (s0 := o_33) (fun z_69 => ?_) (fun a_70 z_71 => ?_)
        · skip
          refine s_Question_joined_46 ?_
          refine s_Question_joined_59 (s0 := none) ?_
          rw [nI_1]
          exact ih (i + 1) _ _ _ _ _ _ _ _ none (by omega) K_47 (fun a z => nomatch z) (by omega) (by omega) (by omega) r_51
        · skip
          refine s_Question_joined_50 (r4 := o) (r6 := o_33) ?_
          obtain ⟨i1, hi1, hf1⟩ := ho _ z_4
          obtain ⟨i2, hi2, hf2⟩ := ho_40 _ z_71
          subst z_4
          subst z_71
          refine x_callV (As := [.int x, .ref a_3, .ref a_70]) (b := qo) (rest := []) (F1 := 3) (L1 := 62) (mc := 0) (ms := 0) d_Question_joined_56 cV_Question_91 (g_join K_47 A hx0 (show i1 < _ by omega) hf1 hi2 hf2 (by omega) (by omega)) eqo_52 ⟨by decide, rfl⟩ ⟨by omega, by show 8 + (5 + 11) + 62 ≤ _; omega⟩ ⟨by omega, by omega⟩ (Nat.le_of_ble_eq_true rfl) (fun v_88 h_87 p_89 => ?_)
          obtain ⟨o_72, p_73, nn_74, n_75, rfl, hp_76, hn_77, hm_78, ho_79, S_80, fr_81⟩ := p_89
          have r_90 := r_51.trans fr_81
          obtain ⟨t_82, wp_83, f_84, g_85, K_86⟩ := S_80
          obtain ⟨eqo_91, T_92, eph_93, end_94, P_95, hp_96, hnn_97, ht_98, Fp_99, Nd_100⟩ := id K_86
          obtain ⟨epo_101, ed_102, ek1_103, ek2_104, ek3_105, -, PF_106⟩ := id P_95
          have etk_107 := T_92.1
          refine x_le (xw_le_s (xw_le_s (xw_le_s (xw_le_s (xw_le_n (xw_le_s (xw_le_n xw_le_e))))))) ?_
          refine s_Question_joined_59 (s0 := o_72) ?_
          rw [nI_1]
          exact ih (i + 1) _ _ _ _ _ _ _ _ o_72 (by omega) K_86 ho_79 (by omega) (by omega) (by omega) r_90
set_option maxHeartbeats 400000 in
theorem g_joined {G : xw_G} {F L F1 L1 : Nat} {h : xw_A} {x co de : Int32} {B : List Nat} {qo tk tl tz ph nd po k1 k2 k3 d ln c : Nat} {fk fs fe fd : Nat → Int32} {fp fn : Nat → Option Nat} {p nn n : Nat} (A : QuA B qo tk tl tz ph nd po k1 k2 k3 d fp fn) (hx0 : ¬ x = 0) (hx1 : ¬ x = 1) (hop : ∀ (h : xw_A) (p nn n : Nat), QuS qo tk tl tz ph nd po k1 k2 k3 d ln c fk fs fe fd fp fn p nn n h → xw_Met G m_Question_operand F1 L1 0 0 [.ref qo, .int x, .int co, .int de] h (fun v h' => QuR B qo tk tl tz ph nd po k1 k2 k3 d ln c fk fs fe fd fp fn p nn n h v h') (fun _ _ => False)) (S : QuS qo tk tl tz ph nd po k1 k2 k3 d ln c fk fs fe fd fp fn p nn n h) (hF : 5 ≤ F) (hL : 103 ≤ L) (hF1 : F1 + 1 ≤ F) (hL1 : L1 + 40 ≤ L) :
    xw_Met G m_Question_joined F L 0 0 [.ref qo, .int x, .int co, .int de] h (fun v h' => QuR B qo tk tl tz ph nd po k1 k2 k3 d ln c fk fs fe fd fp fn p nn n h v h') (fun _ _ => False) := by
  refine xw_Met.of rfl (by decide) (Nat.le_of_ble_eq_true rfl) ?_
  obtain ⟨t, wp, f, g, K⟩ := id S
  have e_qo := K.1
  refine s_Question_joined_0 ?_
  refine x_callV (As := [.int x, .int co, .int de]) (b := qo) (rest := []) (F1 := F1) (L1 := L1) (mc := 0) (ms := 0) d_Question_joined_4 cV_Question_84 (hop _ _ _ _ S) e_qo ⟨by decide, rfl⟩ ⟨by omega, by show 8 + (4 + 11) + L1 ≤ _; omega⟩ ⟨by omega, by omega⟩ (Nat.le_of_ble_eq_true rfl) (fun v h1 q => ?_)
  obtain ⟨o, p', nn', n', rfl, a1, a2, a3, ho, S2, fr⟩ := q
  obtain ⟨t2, wp2, f2, g2, K2⟩ := S2
  refine s_Question_joined_7 (s0 := o) ?_
  exact lp_joined (h0 := h) A hx0 hx1 hop hF1 hL1 hF hL (fun h9 p9 nn9 n9 t9 wp9 f9 g9 o9 K9 ho9 b1 b2 b3 r9 => ⟨o9, p9, nn9, n9, rfl, b1, b2, b3, ho9, K9.s, r9⟩) 96 0 _ _ _ _ _ _ _ _ o rfl K2 ho a1 a2 a3 fr
set_option maxHeartbeats 400000 in
theorem g_j5 {G : xw_G} {F0 L0 : Nat} {de : Int32} {B : List Nat} {qo tk tl tz ph nd po k1 k2 k3 d ln c : Nat} {fk fs fe fd : Nat → Int32} {fp fn : Nat → Option Nat} (A : QuA B qo tk tl tz ph nd po k1 k2 k3 d fp fn) (hF0 : 6 ≤ F0) (hL0 : 134 ≤ L0) (hat : ∀ co : Int32, ∀ (h : xw_A) (p nn n : Nat), QuS qo tk tl tz ph nd po k1 k2 k3 d ln c fk fs fe fd fp fn p nn n h → xw_Met G m_Question_atom F0 L0 0 0 [.ref qo, .int co, .int de] h (fun v h' => QuR B qo tk tl tz ph nd po k1 k2 k3 d ln c fk fs fe fd fp fn p nn n h v h') (fun _ _ => False)) :
    ∀ co : Int32, ∀ (h : xw_A) (p nn n : Nat), QuS qo tk tl tz ph nd po k1 k2 k3 d ln c fk fs fe fd fp fn p nn n h → xw_Met G m_Question_joined (F0 + 8) (L0 + 320) 0 0 [.ref qo, .int 5, .int co, .int de] h (fun v h' => QuR B qo tk tl tz ph nd po k1 k2 k3 d ln c fk fs fe fd fp fn p nn n h v h') (fun _ _ => False) := by
  have o8 : ∀ co : Int32, ∀ (h : xw_A) (p nn n : Nat), QuS qo tk tl tz ph nd po k1 k2 k3 d ln c fk fs fe fd fp fn p nn n h → xw_Met G m_Question_operand (F0 + 1) (L0 + 40) 0 0 [.ref qo, .int 8, .int co, .int de] h (fun v h' => QuR B qo tk tl tz ph nd po k1 k2 k3 d ln c fk fs fe fd fp fn p nn n h v h') (fun _ _ => False) := fun co h p nn n S => g_opA A (hat co) S (by omega) (by omega)
  have j8 : ∀ co : Int32, ∀ (h : xw_A) (p nn n : Nat), QuS qo tk tl tz ph nd po k1 k2 k3 d ln c fk fs fe fd fp fn p nn n h → xw_Met G m_Question_joined (F0 + 2) (L0 + 80) 0 0 [.ref qo, .int 8, .int co, .int de] h (fun v h' => QuR B qo tk tl tz ph nd po k1 k2 k3 d ln c fk fs fe fd fp fn p nn n h v h') (fun _ _ => False) := fun co h p nn n S => g_joined A (by decide) (by decide) (o8 co) S (by omega) (by omega) (by omega) (by omega)
  have o7 : ∀ co : Int32, ∀ (h : xw_A) (p nn n : Nat), QuS qo tk tl tz ph nd po k1 k2 k3 d ln c fk fs fe fd fp fn p nn n h → xw_Met G m_Question_operand (F0 + 3) (L0 + 120) 0 0 [.ref qo, .int 7, .int co, .int de] h (fun v h' => QuR B qo tk tl tz ph nd po k1 k2 k3 d ln c fk fs fe fd fp fn p nn n h v h') (fun _ _ => False) := fun co h p nn n S => g_opJ A (x := 7) (by decide) (j8 co) S (by omega) (by omega)
  have j7 : ∀ co : Int32, ∀ (h : xw_A) (p nn n : Nat), QuS qo tk tl tz ph nd po k1 k2 k3 d ln c fk fs fe fd fp fn p nn n h → xw_Met G m_Question_joined (F0 + 4) (L0 + 160) 0 0 [.ref qo, .int 7, .int co, .int de] h (fun v h' => QuR B qo tk tl tz ph nd po k1 k2 k3 d ln c fk fs fe fd fp fn p nn n h v h') (fun _ _ => False) := fun co h p nn n S => g_joined A (by decide) (by decide) (o7 co) S (by omega) (by omega) (by omega) (by omega)
  have o6 : ∀ co : Int32, ∀ (h : xw_A) (p nn n : Nat), QuS qo tk tl tz ph nd po k1 k2 k3 d ln c fk fs fe fd fp fn p nn n h → xw_Met G m_Question_operand (F0 + 5) (L0 + 200) 0 0 [.ref qo, .int 6, .int co, .int de] h (fun v h' => QuR B qo tk tl tz ph nd po k1 k2 k3 d ln c fk fs fe fd fp fn p nn n h v h') (fun _ _ => False) := fun co h p nn n S => g_opJ A (x := 6) (by decide) (j7 co) S (by omega) (by omega)
  have j6 : ∀ co : Int32, ∀ (h : xw_A) (p nn n : Nat), QuS qo tk tl tz ph nd po k1 k2 k3 d ln c fk fs fe fd fp fn p nn n h → xw_Met G m_Question_joined (F0 + 6) (L0 + 240) 0 0 [.ref qo, .int 6, .int co, .int de] h (fun v h' => QuR B qo tk tl tz ph nd po k1 k2 k3 d ln c fk fs fe fd fp fn p nn n h v h') (fun _ _ => False) := fun co h p nn n S => g_joined A (by decide) (by decide) (o6 co) S (by omega) (by omega) (by omega) (by omega)
  have o5 : ∀ co : Int32, ∀ (h : xw_A) (p nn n : Nat), QuS qo tk tl tz ph nd po k1 k2 k3 d ln c fk fs fe fd fp fn p nn n h → xw_Met G m_Question_operand (F0 + 7) (L0 + 280) 0 0 [.ref qo, .int 5, .int co, .int de] h (fun v h' => QuR B qo tk tl tz ph nd po k1 k2 k3 d ln c fk fs fe fd fp fn p nn n h v h') (fun _ _ => False) := fun co h p nn n S => g_opJ A (x := 5) (by decide) (j6 co) S (by omega) (by omega)
  have j5 : ∀ co : Int32, ∀ (h : xw_A) (p nn n : Nat), QuS qo tk tl tz ph nd po k1 k2 k3 d ln c fk fs fe fd fp fn p nn n h → xw_Met G m_Question_joined (F0 + 8) (L0 + 320) 0 0 [.ref qo, .int 5, .int co, .int de] h (fun v h' => QuR B qo tk tl tz ph nd po k1 k2 k3 d ln c fk fs fe fd fp fn p nn n h v h') (fun _ _ => False) := fun co h p nn n S => g_joined A (by decide) (by decide) (o5 co) S (by omega) (by omega) (by omega) (by omega)
  exact j5
set_option maxHeartbeats 400000 in
theorem g_atomN {G : xw_G} {B : List Nat} {qo tk tl tz ph nd po k1 k2 k3 d ln c : Nat} {fk fs fe fd : Nat → Int32} {fp fn : Nat → Option Nat} (A : QuA B qo tk tl tz ph nd po k1 k2 k3 d fp fn) : ∀ (dp : Nat), dp ≤ 8 → ∀ co : Int32, ∀ (h : xw_A) (p nn n : Nat), QuS qo tk tl tz ph nd po k1 k2 k3 d ln c fk fs fe fd fp fn p nn n h → xw_Met G m_Question_atom (6 + 10 * dp) (134 + 400 * dp) 0 0 [.ref qo, .int co, .int (nI (8 - dp))] h (fun v h' => QuR B qo tk tl tz ph nd po k1 k2 k3 d ln c fk fs fe fd fp fn p nn n h v h') (fun _ _ => False) := by
  intro dp
  induction dp with
  | zero =>
    intro _ co h p nn n S
    obtain ⟨t, wp, f, g, K⟩ := S
    exact g_atom (F1 := 0) (L1 := 0) K A (fun z => absurd z (by decide)) (by omega) (by omega) (by omega) (by omega)
  | succ dp ih =>
    intro hd co h p nn n S
    obtain ⟨t, wp, f, g, K⟩ := S
    have hat := ih (by omega)
    have e : nI (8 - (dp + 1)) + 1 = nI (8 - dp) := by
      rw [nI_1]
      congr 1
      omega
    refine g_atom (F1 := 6 + 10 * dp + 9) (L1 := 134 + 400 * dp + 360) K A (fun _ => ?_) (by omega) (by omega) (by omega) (by omega)
    rw [e]
    intro h p nn n S
    obtain ⟨t, wp, f, g, K⟩ := S
    exact g_deeper K A (g_j5 A (by omega) (by omega) hat co) hat (by omega) (by omega) (by omega) (by omega) (by omega) (by omega)
theorem g_top {G : xw_G} {B : List Nat} {qo tk tl tz ph nd po k1 k2 k3 d ln c : Nat} {fk fs fe fd : Nat → Int32} {fp fn : Nat → Option Nat} (A : QuA B qo tk tl tz ph nd po k1 k2 k3 d fp fn) : ∀ co : Int32, ∀ (h : xw_A) (p nn n : Nat), QuS qo tk tl tz ph nd po k1 k2 k3 d ln c fk fs fe fd fp fn p nn n h → xw_Met G m_Question_joined 94 3654 0 0 [.ref qo, .int 5, .int co, .int 0] h (fun v h' => QuR B qo tk tl tz ph nd po k1 k2 k3 d ln c fk fs fe fd fp fn p nn n h v h') (fun _ _ => False) := g_j5 (F0 := 86) (L0 := 3334) A (by omega) (by omega) (g_atomN A 8 (Nat.le_refl _))
set_option maxHeartbeats 2000000 in
theorem g_read {G : xw_G} {F L : Nat} {h : xw_A} {B : List Nat} {qo tk tl tz ph nd po k1 k2 k3 d ln : Nat} {fd : Nat → Int32} {fp fn : Nat → Option Nat} (A : QuA B qo tk tl tz ph nd po k1 k2 k3 d fp fn) (QI : QuI qo tk tl tz ph nd po k1 k2 k3 fp fn h) (e_d : h d = some (.inl (1, 96, .inl fd))) (hln : ln ≤ 96) (nk : k1 ≠ k2 ∧ k1 ≠ k3 ∧ k2 ≠ k3) (hF : 95 ≤ F) (hL : 3680 ≤ L) :
    xw_Met G m_Question_read F L 0 0 [.ref qo, .ref d, .int (nI ln)] h (fun v h' => ∃ (b : Int32) (p nn n c : Nat) (fk fs fe : Nat → Int32), v = some (.int b) ∧ QuS qo tk tl tz ph nd po k1 k2 k3 d ln c fk fs fe fd fp fn p nn n h' ∧ FrO (po :: k1 :: k2 :: k3 :: B) h h') (fun _ _ => False) := by
  refine xw_Met.of rfl (by decide) (Nat.le_of_ble_eq_true rfl) ?_
  obtain ⟨pA, nA, wA, tA, x0, dq, dq2, n0, f, g, fk0, fs0, fe0, e_qo, T, e_ph, e_nd, Fp, Nd, e_po, e_k1, e_k2, e_k3⟩ := QI
  refine s_Question_read_0 (tokens_a0 := some tk) (phrases_a0 := some ph) (nodes_a0 := some nd) (parts_a0 := some po) (letters_a0 := dq2) e_qo ?_
  refine x_callV (As := [.ref d, .int (nI ln)]) (b := po) (rest := []) (F1 := 8) (L1 := 250) (mc := 0) (ms := 0) d_Question_read_6 cV_Question_41 (g_split e_po e_d hln e_k1 e_k2 e_k3 nk (by omega) (by omega)) e_po ⟨by decide, rfl⟩ ⟨by omega, by show 8 + (5 + 11) + 250 ≤ _; omega⟩ ⟨by omega, by omega⟩ (Nat.le_of_ble_eq_true rfl) (fun v_2 h_1 p_3 => ?_)
  obtain ⟨rfl, ⟨c, fk, fs, fe, P⟩, fr1⟩ := p_3
  have n4 : ∀ {q : Nat} {e : xw_C}, h q = some e → (∀ vs, e ≠ .inr (3, vs)) → (∀ x, e ≠ .inl (0, 97, x)) → q ∉ [po, k1, k2, k3] := fun he n1 n2 => by simp only [List.mem_cons, List.not_mem_nil, or_false, not_or]; exact ⟨xw_neC he e_po (n1 _), xw_neC he e_k1 (n2 _), xw_neC he e_k2 (n2 _), xw_neC he e_k3 (n2 _)⟩
  have E0 := fr1 qo _ (n4 e_qo (by simp) (by simp)) e_qo
  have T1 := T.frq fr1 ⟨n4 T.1 (by simp) (by simp), n4 T.2.1 (by simp) (by simp), n4 T.2.2.1 (by simp) (by simp)⟩
  have E1 := fr1 ph _ (n4 e_ph (by simp) (by simp)) e_ph
  have E2 := fr1 nd _ (n4 e_nd (by simp) (by simp)) e_nd
  have F1_ := Fp.fr fr1 (fun a x y b ha => n4 ha (by simp) (by simp)) (Nat.le_refl _)
  have N1_ := Nd.fr fr1 (fun a vs ha => n4 ha (by simp) (by simp)) (Nat.le_refl _)
  refine x_le (xw_le_s (xw_le_s (xw_le_n (xw_le_n xw_le_e)))) ?_
  refine s_Question_read_9 (phrases_a0 := some ph) (nodes_a0 := some nd) (parts_a0 := some po) (letters_a0 := dq2) (letters_tokens_a0 := some tl) (starts_tokens_a0 := some tz) E0 T1.1 ?_
  rw [xw_up_up]
  refine x_u3 (fun h2 e2 f2 h3 e3 f3 h4 e4 f4 => ?_)
  refine s_Question_read_32 (tokens_a0 := some tk) (phrases_a0 := some ph) (nodes_a0 := some nd) (parts_a0 := some po) (letters_a0 := some d) e4 ?_
  rw [xw_up_up]
  refine x_u1 (fun h5 e5 f5 => ?_)
  have rq : FrO [qo, tk] h_1 h5 := (((FrO.rf.up (by simp) f2).up (by simp) f3).up (by simp) f4).up (by simp) f5
  have nqt : tk ≠ qo := xw_neC T1.1 E0 (by simp)
  have n2 : ∀ {q : Nat} {e : xw_C}, h_1 q = some e → (∀ vs, e ≠ .inr (5, vs)) → (∀ vs, e ≠ .inr (9, vs)) → q ∉ [qo, tk] := fun he m1 m2 => by simp only [List.mem_cons, List.not_mem_nil, or_false, not_or]; exact ⟨xw_neC he E0 (m1 _), xw_neC he T1.1 (m2 _)⟩
  have et : h5 tk = some (.inr (9, [.ref tl, .ref tz, .int (nI 0)])) := (f5 _ nqt).trans ((f4 _ nqt).trans e3)
  have T5 : TokC tk tl tz 96 49 0 f g h5 := ⟨et, rq tl _ (n2 T1.2.1 (by simp) (by simp)) T1.2.1, rq tz _ (n2 T1.2.2.1 (by simp) (by simp)) T1.2.2.1, by decide, by decide, by decide, by obtain ⟨G0, g1, g2⟩ := T1.2.2.2.2.2.2; exact ⟨G0, fun i hi => g1 i (by omega), fun i hi => absurd hi (Nat.not_lt_zero _)⟩⟩
  have K5 : QuC qo tk tl tz ph nd po k1 k2 k3 d ln c fk fs fe fd fp fn 0 0 0 0 (-1) f g h5 := ⟨e5, T5, rq ph _ (n2 E1 (by simp) (by simp)) E1, rq nd _ (n2 E2 (by simp) (by simp)) E2, P.fr rq ⟨n2 P.1 (by simp) (by simp), n2 P.2.1 (by simp) (by simp), n2 P.2.2.1 (by simp) (by simp), n2 P.2.2.2.1 (by simp) (by simp), n2 P.2.2.2.2.1 (by simp) (by simp)⟩, by decide, by decide, Nat.zero_le _, F1_.fr rq (fun a x y b ha => n2 ha (by simp) (by simp)) (Nat.le_refl _), N1_.fr rq (fun a vs ha => n2 ha (by simp) (by simp)) (Nat.le_refl _)⟩
  have hc := P.2.2.2.2.2.2.1
  have rA : FrO (po :: k1 :: k2 :: k3 :: B) h h5 := (fr1.mono (by simp)).trans (rq.mono (fun a ha => (fun a ha => List.mem_cons_of_mem _ (List.mem_cons_of_mem _ (List.mem_cons_of_mem _ (List.mem_cons_of_mem _ ha)))) a (suC A.1.1 (suC A.1.2.1 suN) a ha)))
  have r5 : FrO B h5 h5 := FrO.rf
  obtain ⟨eqo_4, T_5, eph_6, end_7, P_8, hp_9, hnn_10, ht_11, Fp_12, Nd_13⟩ := id K5
  obtain ⟨epo_14, ed_15, ek1_16, ek2_17, ek3_18, -, PF_19⟩ := id P_8
  have etk_20 := T_5.1
  refine x_callV (As := [.int 5, .int 3, .int 0]) (b := qo) (rest := []) (F1 := 94) (L1 := 3654) (mc := 0) (ms := 0) d_Question_read_46 cV_Question_65 (g_top A 3 _ _ _ _ K5.s) eqo_4 ⟨by decide, rfl⟩ ⟨by omega, by show 8 + (7 + 11) + 3654 ≤ _; omega⟩ ⟨by omega, by omega⟩ (Nat.le_of_ble_eq_true rfl) (fun v_37 h_36 p_38 => ?_)
  obtain ⟨o_21, p_22, nn_23, n_24, rfl, hp_25, hn_26, hm_27, ho_28, S_29, fr_30⟩ := p_38
  have r_39 := r5.trans fr_30
  obtain ⟨t_31, wp_32, f_33, g_34, K_35⟩ := S_29
  obtain ⟨eqo_40, T_41, eph_42, end_43, P_44, hp_45, hnn_46, ht_47, Fp_48, Nd_49⟩ := id K_35
  obtain ⟨epo_50, ed_51, ek1_52, ek2_53, ek3_54, -, PF_55⟩ := id P_44
  have etk_56 := T_41.1
  refine s_Question_read_49 (s0 := o_21) (fun z_57 => ?_) (fun a_58 z_59 => ?_)
  · skip
    refine s_Question_read_66 (r3 := o_21) (fun z_60 => ?_) (fun _ z => nomatch (z_57.symm.trans z))
    refine s_Question_read_74 ?_
    refine s_Question_read_75 rfl ?_
    exact ⟨0, p_22, nn_23, n_24, c, fk, fs, fe, rfl, K_35.s, rA.trans (r_39.mono (fun a ha => List.mem_cons_of_mem _ (List.mem_cons_of_mem _ (List.mem_cons_of_mem _ (List.mem_cons_of_mem _ ha)))))⟩
  · skip
    refine s_Question_read_54 (r3 := o_21) ?_
    refine x_callV (As := []) (b := qo) (rest := []) (F1 := 1) (L1 := 20) (mc := 0) (ms := 0) d_Question_read_55 cV_Question_69 (g_kind K_35 (by omega) (by omega)) eqo_40 ⟨by decide, rfl⟩ ⟨by omega, by show 8 + (1 + 11) + 20 ≤ _; omega⟩ ⟨by omega, by omega⟩ (Nat.le_of_ble_eq_true rfl) (fun v_62 h_61 p_63 => ?_)
    obtain ⟨rfl, rfl⟩ := p_63
    refine s_Question_read_58 (r3 := o_21) (fun z_64 => ?_) (fun z_65 => ?_)
    · skip
      refine s_Question_read_66 (r3 := o_21) (fun z => nomatch (z_59.symm.trans z)) (fun a_66 z_67 => ?_)
      refine s_Question_read_70 ?_
      refine s_Question_read_75 rfl ?_
      exact ⟨1, p_22, nn_23, n_24, c, fk, fs, fe, rfl, K_35.s, rA.trans (r_39.mono (fun a ha => List.mem_cons_of_mem _ (List.mem_cons_of_mem _ (List.mem_cons_of_mem _ (List.mem_cons_of_mem _ ha)))))⟩
    · skip
      refine s_Question_read_61 ?_
      refine x_callV (As := []) (b := qo) (rest := []) (F1 := 1) (L1 := 20) (mc := 0) (ms := 0) d_Question_read_62 cV_Question_73 (g_refuse K_35 (by omega) (by omega)) eqo_40 ⟨by decide, rfl⟩ ⟨by omega, by show 8 + (1 + 11) + 20 ≤ _; omega⟩ ⟨by omega, by omega⟩ (Nat.le_of_ble_eq_true rfl) (fun v_72 h_71 p_73 => ?_)
      obtain ⟨rfl, ⟨wp_68, K_69⟩, fr_70⟩ := p_73
      have r_74 := r_39.trans (fr_70.mono (suC A.1.1 suN))
      obtain ⟨eqo_75, T_76, eph_77, end_78, P_79, hp_80, hnn_81, ht_82, Fp_83, Nd_84⟩ := id K_69
      obtain ⟨epo_85, ed_86, ek1_87, ek2_88, ek3_89, -, PF_90⟩ := id P_79
      have etk_91 := T_76.1
      refine x_le (xw_le_n (xw_le_n (xw_le_n (xw_le_n xw_le_e)))) ?_
      refine s_Question_read_65 (s0 := none) ?_
      refine s_Question_read_66 (r3 := none) (fun z_92 => ?_) (fun _ z => absurd z (by simp))
      refine s_Question_read_74 ?_
      refine s_Question_read_75 rfl ?_
      exact ⟨0, p_22, nn_23, n_24, c, fk, fs, fe, rfl, K_69.s, rA.trans (r_74.mono (fun a ha => List.mem_cons_of_mem _ (List.mem_cons_of_mem _ (List.mem_cons_of_mem _ (List.mem_cons_of_mem _ ha)))))⟩
