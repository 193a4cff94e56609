set_option maxHeartbeats 4000000 in
theorem g_deeperH {G : xw_G} {F L : Nat} {h : xw_A} {F1 L1 F2 L2 f0 cc dp : Nat} {co de : Int32} {B : List Nat} {qo tk tl tz ph nd po k1 k2 k3 d ln c : Nat} {fk fs fe fd : Nat → Int32} {fp fn : Nat → Option Nat} {p nn n t : Nat} {wp : Int32} {f g : Nat → Int32} (K : QuC qo tk tl tz ph nd po k1 k2 k3 d ln c fk fs fe fd fp fn p nn n t wp f g h) (A : QuA B qo tk tl tz ph nd po k1 k2 k3 d fp fn) {s : PSt} {nds : List NDt} (X : QuT fd ln c fk fs fe fp fn p nn n t f g s ([]) nds h) (h128 : ∀ j, j < ln → ∃ c, c < 128 ∧ fd j = nI c) (hco : co = nI cc) (hcc : cc ≤ 3) (hj : ∀ (h : xw_A) (s : PSt) (nds : List NDt), QuD qo tk tl tz ph nd po k1 k2 k3 d ln c fk fs fe fd fp fn s [] nds h → xw_Met G m_Question_joined F1 L1 0 0 [.ref qo, .int 5, .int co, .int de] h (fun v h' => QuN B qo tk tl tz ph nd po k1 k2 k3 d ln c fk fs fe fd fp fn s nds (j1T fd ln f0 cc dp s) h v h') (fun _ _ => False)) (hat : ∀ cc, cc ≤ 3 → ∀ (h : xw_A) (s : PSt) (nds : List NDt), QuD qo tk tl tz ph nd po k1 k2 k3 d ln c fk fs fe fd fp fn s [] nds h → xw_Met G m_Question_atom F2 L2 0 0 [.ref qo, .int (nI cc), .int de] h (fun v h' => QuN B qo tk tl tz ph nd po k1 k2 k3 d ln c fk fs fe fd fp fn s nds (aT fd ln f0 cc dp s) h v h') (fun _ _ => False)) (hF1 : F1 + 1 ≤ F) (hL1 : L1 + 40 ≤ L) (hF2 : F2 + 1 ≤ F) (hL2 : L2 + 40 ≤ L) (hF : 3 ≤ F) (hL : 62 ≤ L) :
    xw_Met G m_Question_deeper F L 0 0 [.ref qo, .int co, .int de] h (fun v h' => QuN B qo tk tl tz ph nd po k1 k2 k3 d ln c fk fs fe fd fp fn s nds (dpF fd ln f0 cc dp s) h v h') (fun _ _ => False) := by
  refine xw_Met.of rfl (by decide) (Nat.le_of_ble_eq_true rfl) ?_
  obtain ⟨e_qo, T, e_ph, e_nd, P, hp, hnn, ht, Fp, Nd⟩ := id K
  obtain ⟨e_po, e_d, e_k1, e_k2, e_k3, hln, PF⟩ := id P
  have e_tk := T.1
  have hc := PF.1
  have r0 : FrO B h h := FrO.rf
  refine s_Question_deeper_0 ?_
  refine x_callV (As := [.int 9]) (b := qo) (rest := []) (F1 := 2) (L1 := 40) (mc := 0) (ms := 0) d_Question_deeper_3 cV_Question_103 (g_takesH K X (v9 := 9) rfl (by decide) (by decide) (by omega) (by omega)) e_qo ⟨by decide, rfl⟩ ⟨by omega, by show 8 + (2 + 11) + 40 ≤ _; omega⟩ ⟨by omega, by omega⟩ (Nat.le_of_ble_eq_true rfl) (fun v_7 h_6 p_8 => ?_)
  obtain ⟨b_1, t_2, rfl, hb_3, K_4, fr_5⟩ := p_8
  have r_9 := r0.trans (fr_5.mono (suC A.1.1 suN))
  obtain ⟨eqo_10, T_11, eph_12, end_13, P_14, hp_15, hnn_16, ht_17, Fp_18, Nd_19⟩ := id K_4
  obtain ⟨epo_20, ed_21, ek1_22, ek2_23, ek3_24, -, PF_25⟩ := id P_14
  have etk_26 := T_11.1
  refine s_Question_deeper_6 (fun z_27 => ?_) (fun z_28 => ?_)
  · skip
    refine s_Question_deeper_39 ?_
    have hf_29 := (hb_3.resolve_right (fun q => absurd (q.1.symm.trans z_27) (by decide))).2
    obtain ⟨hk_31, X_30⟩ := hf_29
    refine x_callV (As := [.int 11]) (b := qo) (rest := []) (F1 := 2) (L1 := 40) (mc := 0) (ms := 0) d_Question_deeper_42 cV_Question_103 (g_takesH K_4 X_30 (v9 := 11) rfl (by decide) (by decide) (by omega) (by omega)) eqo_10 ⟨by decide, rfl⟩ ⟨by omega, by show 8 + (2 + 11) + 40 ≤ _; omega⟩ ⟨by omega, by omega⟩ (Nat.le_of_ble_eq_true rfl) (fun v_38 h_37 p_39 => ?_)
    obtain ⟨b_32, t_33, rfl, hb_34, K_35, fr_36⟩ := p_39
    have r_40 := r_9.trans (fr_36.mono (suC A.1.1 suN))
    obtain ⟨eqo_41, T_42, eph_43, end_44, P_45, hp_46, hnn_47, ht_48, Fp_49, Nd_50⟩ := id K_35
    obtain ⟨epo_51, ed_52, ek1_53, ek2_54, ek3_55, -, PF_56⟩ := id P_45
    have etk_57 := T_42.1
    rcases hb_34 with ⟨rfl, hb_340⟩ | ⟨rfl, hb_341⟩
    · skip
      obtain ⟨hk_59, X_58⟩ := hb_340
      refine s_Question_deeper_45 ?_
      refine x_callV (As := []) (b := qo) (rest := []) (F1 := 1) (L1 := 20) (mc := 0) (ms := 0) d_Question_deeper_47 cV_Question_69 (g_kind K_35 (by omega) (by omega)) eqo_41 ⟨by decide, rfl⟩ ⟨by omega, by show 8 + (1 + 11) + 20 ≤ _; omega⟩ ⟨by omega, by omega⟩ (Nat.le_of_ble_eq_true rfl) (fun v_61 h_60 p_62 => ?_)
      obtain ⟨rfl, rfl⟩ := p_62
      refine s_Question_deeper_50 (fun z_63 => ?_) (fun z_64 => ?_)
      · skip
        refine s_Question_deeper_68 ?_
        refine s_Question_deeper_69 (fun z => absurd z (by decide)) (fun z_65 => ?_)
        refine s_Question_deeper_76 ?_
        refine x_callV (As := []) (b := qo) (rest := []) (F1 := 1) (L1 := 20) (mc := 0) (ms := 0) d_Question_deeper_77 cV_Question_73 (g_refuse K_35 (by omega) (by omega)) eqo_41 ⟨by decide, rfl⟩ ⟨by omega, by show 8 + (1 + 11) + 20 ≤ _; omega⟩ ⟨by omega, by omega⟩ (Nat.le_of_ble_eq_true rfl) (fun v_70 h_69 p_71 => ?_)
        obtain ⟨rfl, ⟨wp_66, K_67⟩, fr_68⟩ := p_71
        have r_72 := r_40.trans (fr_68.mono (suC A.1.1 suN))
        obtain ⟨eqo_73, T_74, eph_75, end_76, P_77, hp_78, hnn_79, ht_80, Fp_81, Nd_82⟩ := id K_67
        obtain ⟨epo_83, ed_84, ek1_85, ek2_86, ek3_87, -, PF_88⟩ := id P_77
        have etk_89 := T_74.1
        refine x_le (xw_le_n (xw_le_n (xw_le_n (xw_le_n (xw_le_n (xw_le_n xw_le_e)))))) ?_
        refine s_Question_deeper_80 (s0 := none) ?_
        exact ⟨r_72, Or.inl ⟨dp_0n hk_31 hk_59 (flN_n (fun q => z_63 ((X_58.kv ht_48 (v := 3) (by decide)).mpr q))), rfl, ⟨_, _, _, _, _, _, _, K_67, X_58.g0⟩⟩⟩
      · skip
        refine s_Question_deeper_54 (tokens_a0 := some tk) (phrases_a0 := some ph) (nodes_a0 := some nd) (parts_a0 := some po) (letters_a0 := some d) eqo_41 ?_
        have hk_90 : fk t_33 = nI (kdP fd ln s.1) := X_58.kd ht_48
        have ha_91 := (X_58.1.2.1 _ ht_48).2.1
        have hb_92 := (X_58.1.2.1 _ ht_48).2.2
        rw [← X_58.2.1] at ha_91 hb_92
        have h3_93 : kdP fd ln s.1 = 3 := (X_58.kv ht_48 (v := 3) (by decide)).mp z_64
        refine x_callV (As := [.int (nI t_33)]) (b := po) (rest := []) (F1 := 2) (L1 := 40) (mc := 0) (ms := 0) d_Question_deeper_62 cV_Question_122 (g_columnNamedH (pp := s.1) epo_51 ed_52 hln ek1_53 ek2_54 ek3_55 (by omega) hk_90 ha_91 hb_92 h3_93 (by omega) (by omega)) epo_51 ⟨by decide, rfl⟩ ⟨by omega, by show 8 + (3 + 11) + 40 ≤ _; omega⟩ ⟨by omega, by omega⟩ (Nat.le_of_ble_eq_true rfl) (fun v_95 h_94 p_96 => ?_)
        rcases p_96 with ⟨⟨y_97, rfl, ⟨rfl, c_98, c_99⟩ | ⟨rfl, c_98, c_99⟩ | ⟨rfl, c_98⟩⟩, rfl⟩
        · skip
          refine s_Question_deeper_65 ?_
          refine s_Question_deeper_69 (fun z_100 => ?_) (fun z => absurd z (by decide))
          refine s_Question_deeper_81 (fun z_101 => ?_) (fun z => absurd z (by decide))
          refine s_Question_deeper_93 ?_
          refine s_Question_deeper_95 (tokens_a0 := some tk) (phrases_a0 := some ph) (nodes_a0 := some nd) (parts_a0 := some po) (letters_a0 := some d) eqo_41 ?_
          refine x_u1 (fun h_102 e_103 f_104 => ?_)
          have e_105 := (f_104 tk (xw_neC etk_57 eqo_41 (by simp))).trans etk_57
          have e_106 := (f_104 ph (xw_neC eph_43 eqo_41 (by simp))).trans eph_43
          have e_107 := (f_104 nd (xw_neC end_44 eqo_41 (by simp))).trans end_44
          have e_108 := (f_104 po (xw_neC epo_51 eqo_41 (by simp))).trans epo_51
          have e_109 := (f_104 d (xw_neC ed_52 eqo_41 (by simp))).trans ed_52
          have e_110 := (f_104 k1 (xw_neC ek1_53 eqo_41 (by simp))).trans ek1_53
          have e_111 := (f_104 k2 (xw_neC ek2_54 eqo_41 (by simp))).trans ek2_54
          have e_112 := (f_104 k3 (xw_neC ek3_55 eqo_41 (by simp))).trans ek3_55
          have r_113 := r_40.up A.1.1 f_104
          rw [show (2 : Int32) = nI 2 from rfl, nI_add] at e_103
          have X_115 := X_58.next.next.q K_35.1 (FrO.rf.up (by simp) f_104)
          have K_114 := K_35.q (FrO.rf.up (by simp) f_104) e_103 (PF_56.next2 ht_48 z_64)
          obtain ⟨eqo_116, T_117, eph_118, end_119, P_120, hp_121, hnn_122, ht_123, Fp_124, Nd_125⟩ := id K_114
          obtain ⟨epo_126, ed_127, ek1_128, ek2_129, ek3_130, -, PF_131⟩ := id P_120
          have etk_132 := T_117.1
          rw [hco, an1 cc hcc]
          refine x_callV (As := [.int (nI (cc &&& 1)), .int de]) (b := qo) (rest := []) (F1 := F2) (L1 := L2) (mc := 0) (ms := 0) d_Question_deeper_114 cV_Question_95 (hat (cc &&& 1) (and3 hcc) _ _ _ ⟨_, _, _, _, _, _, _, K_114, X_115⟩) eqo_116 ⟨by decide, rfl⟩ ⟨by omega, by show 8 + (3 + 11) + L2 ≤ _; omega⟩ ⟨by omega, by omega⟩ (Nat.le_of_ble_eq_true rfl) (fun v_145 h_144 p_146 => ?_)
          rcases p_146 with ⟨fr_133, ⟨hx_134, rfl, E_135⟩ | ⟨s_136, e_137, a_138, hx_139, rfl, he_140, ha_141, hc_142, D_143⟩⟩
          · skip
            have r_147 := r_113.trans fr_133
            obtain ⟨p_148, nn_149, n_150, t_151, wp_152, f_153, g_154, K_155, G_156⟩ := E_135
            obtain ⟨eqo_157, T_158, eph_159, end_160, P_161, hp_162, hnn_163, ht_164, Fp_165, Nd_166⟩ := id K_155
            obtain ⟨epo_167, ed_168, ek1_169, ek2_170, ek3_171, -, PF_172⟩ := id P_161
            have etk_173 := T_158.1
            refine x_le (xw_le_n (xw_le_n (xw_le_n (xw_le_n (xw_le_n (xw_le_n xw_le_e)))))) ?_
            refine s_Question_deeper_117 (s0 := none) ?_
            have e99 := dp_0y (f := f0) (c := cc) (d := dp) hk_31 hk_59 (flN_a h3_93 c_98 c_99)
            exact ⟨r_147, Or.inl ⟨e99.trans hx_134, rfl, ⟨_, _, _, _, _, _, _, K_155, G_156⟩⟩⟩
          · skip
            have r_174 := r_113.trans fr_133
            obtain ⟨p_175, nn_176, n_177, t_178, wp_179, f_180, g_181, K_182, X_183⟩ := D_143
            obtain ⟨eqo_184, T_185, eph_186, end_187, P_188, hp_189, hnn_190, ht_191, Fp_192, Nd_193⟩ := id K_182
            obtain ⟨epo_194, ed_195, ek1_196, ek2_197, ek3_198, -, PF_199⟩ := id P_188
            have etk_200 := T_185.1
            refine x_le (xw_le_n (xw_le_n (xw_le_n (xw_le_n (xw_le_n (xw_le_n xw_le_e)))))) ?_
            refine s_Question_deeper_117 (s0 := some a_138) ?_
            have e99 := dp_0y (f := f0) (c := cc) (d := dp) hk_31 hk_59 (flN_a h3_93 c_98 c_99)
            exact ⟨r_174, Or.inr ⟨_, e_137, a_138, e99.trans hx_139, rfl, he_140, ha_141, hc_142, ⟨_, _, _, _, _, _, _, K_182, X_183⟩⟩⟩
        · skip
          refine s_Question_deeper_65 ?_
          refine s_Question_deeper_69 (fun z_201 => ?_) (fun z => absurd z (by decide))
          refine s_Question_deeper_81 (fun z_202 => ?_) (fun z => absurd z (by decide))
          refine s_Question_deeper_93 ?_
          refine s_Question_deeper_95 (tokens_a0 := some tk) (phrases_a0 := some ph) (nodes_a0 := some nd) (parts_a0 := some po) (letters_a0 := some d) eqo_41 ?_
          refine x_u1 (fun h_203 e_204 f_205 => ?_)
          have e_206 := (f_205 tk (xw_neC etk_57 eqo_41 (by simp))).trans etk_57
          have e_207 := (f_205 ph (xw_neC eph_43 eqo_41 (by simp))).trans eph_43
          have e_208 := (f_205 nd (xw_neC end_44 eqo_41 (by simp))).trans end_44
          have e_209 := (f_205 po (xw_neC epo_51 eqo_41 (by simp))).trans epo_51
          have e_210 := (f_205 d (xw_neC ed_52 eqo_41 (by simp))).trans ed_52
          have e_211 := (f_205 k1 (xw_neC ek1_53 eqo_41 (by simp))).trans ek1_53
          have e_212 := (f_205 k2 (xw_neC ek2_54 eqo_41 (by simp))).trans ek2_54
          have e_213 := (f_205 k3 (xw_neC ek3_55 eqo_41 (by simp))).trans ek3_55
          have r_214 := r_40.up A.1.1 f_205
          rw [show (2 : Int32) = nI 2 from rfl, nI_add] at e_204
          have X_216 := X_58.next.next.q K_35.1 (FrO.rf.up (by simp) f_205)
          have K_215 := K_35.q (FrO.rf.up (by simp) f_205) e_204 (PF_56.next2 ht_48 z_64)
          obtain ⟨eqo_217, T_218, eph_219, end_220, P_221, hp_222, hnn_223, ht_224, Fp_225, Nd_226⟩ := id K_215
          obtain ⟨epo_227, ed_228, ek1_229, ek2_230, ek3_231, -, PF_232⟩ := id P_221
          have etk_233 := T_218.1
          rw [hco, an2 cc hcc]
          refine x_callV (As := [.int (nI (cc &&& 2)), .int de]) (b := qo) (rest := []) (F1 := F2) (L1 := L2) (mc := 0) (ms := 0) d_Question_deeper_114 cV_Question_95 (hat (cc &&& 2) (and3 hcc) _ _ _ ⟨_, _, _, _, _, _, _, K_215, X_216⟩) eqo_217 ⟨by decide, rfl⟩ ⟨by omega, by show 8 + (3 + 11) + L2 ≤ _; omega⟩ ⟨by omega, by omega⟩ (Nat.le_of_ble_eq_true rfl) (fun v_246 h_245 p_247 => ?_)
          rcases p_247 with ⟨fr_234, ⟨hx_235, rfl, E_236⟩ | ⟨s_237, e_238, a_239, hx_240, rfl, he_241, ha_242, hc_243, D_244⟩⟩
          · skip
            have r_248 := r_214.trans fr_234
            obtain ⟨p_249, nn_250, n_251, t_252, wp_253, f_254, g_255, K_256, G_257⟩ := E_236
            obtain ⟨eqo_258, T_259, eph_260, end_261, P_262, hp_263, hnn_264, ht_265, Fp_266, Nd_267⟩ := id K_256
            obtain ⟨epo_268, ed_269, ek1_270, ek2_271, ek3_272, -, PF_273⟩ := id P_262
            have etk_274 := T_259.1
            refine x_le (xw_le_n (xw_le_n (xw_le_n (xw_le_n (xw_le_n (xw_le_n xw_le_e)))))) ?_
            refine s_Question_deeper_117 (s0 := none) ?_
            have e99 := dp_0y (f := f0) (c := cc) (d := dp) hk_31 hk_59 (flN_b h3_93 c_98 c_99)
            exact ⟨r_248, Or.inl ⟨e99.trans hx_235, rfl, ⟨_, _, _, _, _, _, _, K_256, G_257⟩⟩⟩
          · skip
            have r_275 := r_214.trans fr_234
            obtain ⟨p_276, nn_277, n_278, t_279, wp_280, f_281, g_282, K_283, X_284⟩ := D_244
            obtain ⟨eqo_285, T_286, eph_287, end_288, P_289, hp_290, hnn_291, ht_292, Fp_293, Nd_294⟩ := id K_283
            obtain ⟨epo_295, ed_296, ek1_297, ek2_298, ek3_299, -, PF_300⟩ := id P_289
            have etk_301 := T_286.1
            refine x_le (xw_le_n (xw_le_n (xw_le_n (xw_le_n (xw_le_n (xw_le_n xw_le_e)))))) ?_
            refine s_Question_deeper_117 (s0 := some a_239) ?_
            have e99 := dp_0y (f := f0) (c := cc) (d := dp) hk_31 hk_59 (flN_b h3_93 c_98 c_99)
            exact ⟨r_275, Or.inr ⟨_, e_238, a_239, e99.trans hx_240, rfl, he_241, ha_242, hc_243, ⟨_, _, _, _, _, _, _, K_283, X_284⟩⟩⟩
        · skip
          refine s_Question_deeper_65 ?_
          refine s_Question_deeper_69 (fun z => absurd z (by decide)) (fun z_302 => ?_)
          refine s_Question_deeper_76 ?_
          refine x_callV (As := []) (b := qo) (rest := []) (F1 := 1) (L1 := 20) (mc := 0) (ms := 0) d_Question_deeper_77 cV_Question_73 (g_refuse K_35 (by omega) (by omega)) eqo_41 ⟨by decide, rfl⟩ ⟨by omega, by show 8 + (1 + 11) + 20 ≤ _; omega⟩ ⟨by omega, by omega⟩ (Nat.le_of_ble_eq_true rfl) (fun v_307 h_306 p_308 => ?_)
          obtain ⟨rfl, ⟨wp_303, K_304⟩, fr_305⟩ := p_308
          have r_309 := r_40.trans (fr_305.mono (suC A.1.1 suN))
          obtain ⟨eqo_310, T_311, eph_312, end_313, P_314, hp_315, hnn_316, ht_317, Fp_318, Nd_319⟩ := id K_304
          obtain ⟨epo_320, ed_321, ek1_322, ek2_323, ek3_324, -, PF_325⟩ := id P_314
          have etk_326 := T_311.1
          refine x_le (xw_le_n (xw_le_n (xw_le_n (xw_le_n (xw_le_n (xw_le_n xw_le_e)))))) ?_
          refine s_Question_deeper_80 (s0 := none) ?_
          exact ⟨r_309, Or.inl ⟨dp_0n hk_31 hk_59 (flN_c c_98), rfl, ⟨_, _, _, _, _, _, _, K_304, X_58.g0⟩⟩⟩
    · skip
      obtain ⟨hk_328, X_327⟩ := hb_341
      refine s_Question_deeper_45 ?_
      refine x_callV (As := []) (b := qo) (rest := []) (F1 := 1) (L1 := 20) (mc := 0) (ms := 0) d_Question_deeper_47 cV_Question_69 (g_kind K_35 (by omega) (by omega)) eqo_41 ⟨by decide, rfl⟩ ⟨by omega, by show 8 + (1 + 11) + 20 ≤ _; omega⟩ ⟨by omega, by omega⟩ (Nat.le_of_ble_eq_true rfl) (fun v_330 h_329 p_331 => ?_)
      obtain ⟨rfl, rfl⟩ := p_331
      refine s_Question_deeper_50 (fun z_332 => ?_) (fun z_333 => ?_)
      · skip
        refine s_Question_deeper_68 ?_
        refine s_Question_deeper_69 (fun z => absurd z (by decide)) (fun z_334 => ?_)
        refine s_Question_deeper_76 ?_
        refine x_callV (As := []) (b := qo) (rest := []) (F1 := 1) (L1 := 20) (mc := 0) (ms := 0) d_Question_deeper_77 cV_Question_73 (g_refuse K_35 (by omega) (by omega)) eqo_41 ⟨by decide, rfl⟩ ⟨by omega, by show 8 + (1 + 11) + 20 ≤ _; omega⟩ ⟨by omega, by omega⟩ (Nat.le_of_ble_eq_true rfl) (fun v_339 h_338 p_340 => ?_)
        obtain ⟨rfl, ⟨wp_335, K_336⟩, fr_337⟩ := p_340
        have r_341 := r_40.trans (fr_337.mono (suC A.1.1 suN))
        obtain ⟨eqo_342, T_343, eph_344, end_345, P_346, hp_347, hnn_348, ht_349, Fp_350, Nd_351⟩ := id K_336
        obtain ⟨epo_352, ed_353, ek1_354, ek2_355, ek3_356, -, PF_357⟩ := id P_346
        have etk_358 := T_343.1
        refine x_le (xw_le_n (xw_le_n (xw_le_n (xw_le_n (xw_le_n (xw_le_n xw_le_e)))))) ?_
        refine s_Question_deeper_80 (s0 := none) ?_
        exact ⟨r_341, Or.inl ⟨dp_1n hk_328 (flN_n (fun q => z_332 ((X_327.kv ht_48 (v := 3) (by decide)).mpr q))), rfl, ⟨_, _, _, _, _, _, _, K_336, X_327.g0⟩⟩⟩
      · skip
        refine s_Question_deeper_54 (tokens_a0 := some tk) (phrases_a0 := some ph) (nodes_a0 := some nd) (parts_a0 := some po) (letters_a0 := some d) eqo_41 ?_
        have hk_359 : fk t_33 = nI (kdP fd ln (skS fd ln s).1) := X_327.kd ht_48
        have ha_360 := (X_327.1.2.1 _ ht_48).2.1
        have hb_361 := (X_327.1.2.1 _ ht_48).2.2
        rw [← X_327.2.1] at ha_360 hb_361
        have h3_362 : kdP fd ln (skS fd ln s).1 = 3 := (X_327.kv ht_48 (v := 3) (by decide)).mp z_333
        refine x_callV (As := [.int (nI t_33)]) (b := po) (rest := []) (F1 := 2) (L1 := 40) (mc := 0) (ms := 0) d_Question_deeper_62 cV_Question_122 (g_columnNamedH (pp := (skS fd ln s).1) epo_51 ed_52 hln ek1_53 ek2_54 ek3_55 (by omega) hk_359 ha_360 hb_361 h3_362 (by omega) (by omega)) epo_51 ⟨by decide, rfl⟩ ⟨by omega, by show 8 + (3 + 11) + 40 ≤ _; omega⟩ ⟨by omega, by omega⟩ (Nat.le_of_ble_eq_true rfl) (fun v_364 h_363 p_365 => ?_)
        rcases p_365 with ⟨⟨y_366, rfl, ⟨rfl, c_367, c_368⟩ | ⟨rfl, c_367, c_368⟩ | ⟨rfl, c_367⟩⟩, rfl⟩
        · skip
          refine s_Question_deeper_65 ?_
          refine s_Question_deeper_69 (fun z_369 => ?_) (fun z => absurd z (by decide))
          refine s_Question_deeper_81 (fun z => absurd z (by decide)) (fun z_370 => ?_)
          refine s_Question_deeper_86 ?_
          refine s_Question_deeper_95 (tokens_a0 := some tk) (phrases_a0 := some ph) (nodes_a0 := some nd) (parts_a0 := some po) (letters_a0 := some d) eqo_41 ?_
          refine x_u1 (fun h_371 e_372 f_373 => ?_)
          have e_374 := (f_373 tk (xw_neC etk_57 eqo_41 (by simp))).trans etk_57
          have e_375 := (f_373 ph (xw_neC eph_43 eqo_41 (by simp))).trans eph_43
          have e_376 := (f_373 nd (xw_neC end_44 eqo_41 (by simp))).trans end_44
          have e_377 := (f_373 po (xw_neC epo_51 eqo_41 (by simp))).trans epo_51
          have e_378 := (f_373 d (xw_neC ed_52 eqo_41 (by simp))).trans ed_52
          have e_379 := (f_373 k1 (xw_neC ek1_53 eqo_41 (by simp))).trans ek1_53
          have e_380 := (f_373 k2 (xw_neC ek2_54 eqo_41 (by simp))).trans ek2_54
          have e_381 := (f_373 k3 (xw_neC ek3_55 eqo_41 (by simp))).trans ek3_55
          have r_382 := r_40.up A.1.1 f_373
          rw [show (2 : Int32) = nI 2 from rfl, nI_add] at e_372
          have X_384 := X_327.next.next.q K_35.1 (FrO.rf.up (by simp) f_373)
          have K_383 := K_35.q (FrO.rf.up (by simp) f_373) e_372 (PF_56.next2 ht_48 z_333)
          obtain ⟨eqo_385, T_386, eph_387, end_388, P_389, hp_390, hnn_391, ht_392, Fp_393, Nd_394⟩ := id K_383
          obtain ⟨epo_395, ed_396, ek1_397, ek2_398, ek3_399, -, PF_400⟩ := id P_389
          have etk_401 := T_386.1
          rw [hco, an2' cc hcc]
          refine x_callV (As := [.int (nI (cc &&& 2)), .int de]) (b := qo) (rest := []) (F1 := F2) (L1 := L2) (mc := 0) (ms := 0) d_Question_deeper_114 cV_Question_95 (hat (cc &&& 2) (and3 hcc) _ _ _ ⟨_, _, _, _, _, _, _, K_383, X_384⟩) eqo_385 ⟨by decide, rfl⟩ ⟨by omega, by show 8 + (3 + 11) + L2 ≤ _; omega⟩ ⟨by omega, by omega⟩ (Nat.le_of_ble_eq_true rfl) (fun v_414 h_413 p_415 => ?_)
          rcases p_415 with ⟨fr_402, ⟨hx_403, rfl, E_404⟩ | ⟨s_405, e_406, a_407, hx_408, rfl, he_409, ha_410, hc_411, D_412⟩⟩
          · skip
            have r_416 := r_382.trans fr_402
            obtain ⟨p_417, nn_418, n_419, t_420, wp_421, f_422, g_423, K_424, G_425⟩ := E_404
            obtain ⟨eqo_426, T_427, eph_428, end_429, P_430, hp_431, hnn_432, ht_433, Fp_434, Nd_435⟩ := id K_424
            obtain ⟨epo_436, ed_437, ek1_438, ek2_439, ek3_440, -, PF_441⟩ := id P_430
            have etk_442 := T_427.1
            refine x_le (xw_le_n (xw_le_n (xw_le_n (xw_le_n (xw_le_n (xw_le_n xw_le_e)))))) ?_
            refine s_Question_deeper_117 (s0 := none) ?_
            have e99 := dp_1y (f := f0) (c := cc) (d := dp) hk_328 (flN_a h3_362 c_367 c_368)
            exact ⟨r_416, Or.inl ⟨e99.trans hx_403, rfl, ⟨_, _, _, _, _, _, _, K_424, G_425⟩⟩⟩
          · skip
            have r_443 := r_382.trans fr_402
            obtain ⟨p_444, nn_445, n_446, t_447, wp_448, f_449, g_450, K_451, X_452⟩ := D_412
            obtain ⟨eqo_453, T_454, eph_455, end_456, P_457, hp_458, hnn_459, ht_460, Fp_461, Nd_462⟩ := id K_451
            obtain ⟨epo_463, ed_464, ek1_465, ek2_466, ek3_467, -, PF_468⟩ := id P_457
            have etk_469 := T_454.1
            refine x_le (xw_le_n (xw_le_n (xw_le_n (xw_le_n (xw_le_n (xw_le_n xw_le_e)))))) ?_
            refine s_Question_deeper_117 (s0 := some a_407) ?_
            have e99 := dp_1y (f := f0) (c := cc) (d := dp) hk_328 (flN_a h3_362 c_367 c_368)
            exact ⟨r_443, Or.inr ⟨_, e_406, a_407, e99.trans hx_408, rfl, he_409, ha_410, hc_411, ⟨_, _, _, _, _, _, _, K_451, X_452⟩⟩⟩
        · skip
          refine s_Question_deeper_65 ?_
          refine s_Question_deeper_69 (fun z_470 => ?_) (fun z => absurd z (by decide))
          refine s_Question_deeper_81 (fun z => absurd z (by decide)) (fun z_471 => ?_)
          refine s_Question_deeper_86 ?_
          refine s_Question_deeper_95 (tokens_a0 := some tk) (phrases_a0 := some ph) (nodes_a0 := some nd) (parts_a0 := some po) (letters_a0 := some d) eqo_41 ?_
          refine x_u1 (fun h_472 e_473 f_474 => ?_)
          have e_475 := (f_474 tk (xw_neC etk_57 eqo_41 (by simp))).trans etk_57
          have e_476 := (f_474 ph (xw_neC eph_43 eqo_41 (by simp))).trans eph_43
          have e_477 := (f_474 nd (xw_neC end_44 eqo_41 (by simp))).trans end_44
          have e_478 := (f_474 po (xw_neC epo_51 eqo_41 (by simp))).trans epo_51
          have e_479 := (f_474 d (xw_neC ed_52 eqo_41 (by simp))).trans ed_52
          have e_480 := (f_474 k1 (xw_neC ek1_53 eqo_41 (by simp))).trans ek1_53
          have e_481 := (f_474 k2 (xw_neC ek2_54 eqo_41 (by simp))).trans ek2_54
          have e_482 := (f_474 k3 (xw_neC ek3_55 eqo_41 (by simp))).trans ek3_55
          have r_483 := r_40.up A.1.1 f_474
          rw [show (2 : Int32) = nI 2 from rfl, nI_add] at e_473
          have X_485 := X_327.next.next.q K_35.1 (FrO.rf.up (by simp) f_474)
          have K_484 := K_35.q (FrO.rf.up (by simp) f_474) e_473 (PF_56.next2 ht_48 z_333)
          obtain ⟨eqo_486, T_487, eph_488, end_489, P_490, hp_491, hnn_492, ht_493, Fp_494, Nd_495⟩ := id K_484
          obtain ⟨epo_496, ed_497, ek1_498, ek2_499, ek3_500, -, PF_501⟩ := id P_490
          have etk_502 := T_487.1
          rw [hco, an1' cc hcc]
          refine x_callV (As := [.int (nI (cc &&& 1)), .int de]) (b := qo) (rest := []) (F1 := F2) (L1 := L2) (mc := 0) (ms := 0) d_Question_deeper_114 cV_Question_95 (hat (cc &&& 1) (and3 hcc) _ _ _ ⟨_, _, _, _, _, _, _, K_484, X_485⟩) eqo_486 ⟨by decide, rfl⟩ ⟨by omega, by show 8 + (3 + 11) + L2 ≤ _; omega⟩ ⟨by omega, by omega⟩ (Nat.le_of_ble_eq_true rfl) (fun v_515 h_514 p_516 => ?_)
          rcases p_516 with ⟨fr_503, ⟨hx_504, rfl, E_505⟩ | ⟨s_506, e_507, a_508, hx_509, rfl, he_510, ha_511, hc_512, D_513⟩⟩
          · skip
            have r_517 := r_483.trans fr_503
            obtain ⟨p_518, nn_519, n_520, t_521, wp_522, f_523, g_524, K_525, G_526⟩ := E_505
            obtain ⟨eqo_527, T_528, eph_529, end_530, P_531, hp_532, hnn_533, ht_534, Fp_535, Nd_536⟩ := id K_525
            obtain ⟨epo_537, ed_538, ek1_539, ek2_540, ek3_541, -, PF_542⟩ := id P_531
            have etk_543 := T_528.1
            refine x_le (xw_le_n (xw_le_n (xw_le_n (xw_le_n (xw_le_n (xw_le_n xw_le_e)))))) ?_
            refine s_Question_deeper_117 (s0 := none) ?_
            have e99 := dp_1y (f := f0) (c := cc) (d := dp) hk_328 (flN_b h3_362 c_367 c_368)
            exact ⟨r_517, Or.inl ⟨e99.trans hx_504, rfl, ⟨_, _, _, _, _, _, _, K_525, G_526⟩⟩⟩
          · skip
            have r_544 := r_483.trans fr_503
            obtain ⟨p_545, nn_546, n_547, t_548, wp_549, f_550, g_551, K_552, X_553⟩ := D_513
            obtain ⟨eqo_554, T_555, eph_556, end_557, P_558, hp_559, hnn_560, ht_561, Fp_562, Nd_563⟩ := id K_552
            obtain ⟨epo_564, ed_565, ek1_566, ek2_567, ek3_568, -, PF_569⟩ := id P_558
            have etk_570 := T_555.1
            refine x_le (xw_le_n (xw_le_n (xw_le_n (xw_le_n (xw_le_n (xw_le_n xw_le_e)))))) ?_
            refine s_Question_deeper_117 (s0 := some a_508) ?_
            have e99 := dp_1y (f := f0) (c := cc) (d := dp) hk_328 (flN_b h3_362 c_367 c_368)
            exact ⟨r_544, Or.inr ⟨_, e_507, a_508, e99.trans hx_509, rfl, he_510, ha_511, hc_512, ⟨_, _, _, _, _, _, _, K_552, X_553⟩⟩⟩
        · skip
          refine s_Question_deeper_65 ?_
          refine s_Question_deeper_69 (fun z => absurd z (by decide)) (fun z_571 => ?_)
          refine s_Question_deeper_76 ?_
          refine x_callV (As := []) (b := qo) (rest := []) (F1 := 1) (L1 := 20) (mc := 0) (ms := 0) d_Question_deeper_77 cV_Question_73 (g_refuse K_35 (by omega) (by omega)) eqo_41 ⟨by decide, rfl⟩ ⟨by omega, by show 8 + (1 + 11) + 20 ≤ _; omega⟩ ⟨by omega, by omega⟩ (Nat.le_of_ble_eq_true rfl) (fun v_576 h_575 p_577 => ?_)
          obtain ⟨rfl, ⟨wp_572, K_573⟩, fr_574⟩ := p_577
          have r_578 := r_40.trans (fr_574.mono (suC A.1.1 suN))
          obtain ⟨eqo_579, T_580, eph_581, end_582, P_583, hp_584, hnn_585, ht_586, Fp_587, Nd_588⟩ := id K_573
          obtain ⟨epo_589, ed_590, ek1_591, ek2_592, ek3_593, -, PF_594⟩ := id P_583
          have etk_595 := T_580.1
          refine x_le (xw_le_n (xw_le_n (xw_le_n (xw_le_n (xw_le_n (xw_le_n xw_le_e)))))) ?_
          refine s_Question_deeper_80 (s0 := none) ?_
          exact ⟨r_578, Or.inl ⟨dp_1n hk_328 (flN_c c_367), rfl, ⟨_, _, _, _, _, _, _, K_573, X_327.g0⟩⟩⟩
  · skip
    refine s_Question_deeper_9 ?_
    have hf_596 := (hb_3.resolve_left (fun q => z_28 q.1)).2
    obtain ⟨hk_598, X_597⟩ := hf_596
    refine x_callV (As := [.int 5, .int co, .int de]) (b := qo) (rest := []) (F1 := F1) (L1 := L1) (mc := 0) (ms := 0) d_Question_deeper_13 cV_Question_65 (hj _ _ _ ⟨_, _, _, _, _, _, _, K_4, X_597⟩) eqo_10 ⟨by decide, rfl⟩ ⟨by omega, by show 8 + (7 + 11) + L1 ≤ _; omega⟩ ⟨by omega, by omega⟩ (Nat.le_of_ble_eq_true rfl) (fun v_611 h_610 p_612 => ?_)
    rcases p_612 with ⟨fr_599, ⟨hx_600, rfl, E_601⟩ | ⟨s_602, e_603, a_604, hx_605, rfl, he_606, ha_607, hc_608, D_609⟩⟩
    · skip
      have r_613 := r_9.trans fr_599
      obtain ⟨p_614, nn_615, n_616, t_617, wp_618, f_619, g_620, K_621, G_622⟩ := E_601
      obtain ⟨eqo_623, T_624, eph_625, end_626, P_627, hp_628, hnn_629, ht_630, Fp_631, Nd_632⟩ := id K_621
      obtain ⟨epo_633, ed_634, ek1_635, ek2_636, ek3_637, -, PF_638⟩ := id P_627
      have etk_639 := T_624.1
      refine x_le (xw_le_s (xw_le_n (xw_le_n (xw_le_n (xw_le_n (xw_le_n xw_le_e)))))) ?_
      refine s_Question_deeper_16 (s0 := none) (fun z_640 => ?_) (fun _ z => absurd z (by simp))
      refine s_Question_deeper_30 (r3 := none) ?_
      refine s_Question_deeper_38 (s0 := none) ?_
      exact ⟨r_613, Or.inl ⟨dp_jn hk_598 hx_600, rfl, ⟨_, _, _, _, _, _, _, K_621, G_622⟩⟩⟩
    · skip
      have r_641 := r_9.trans fr_599
      obtain ⟨p_642, nn_643, n_644, t_645, wp_646, f_647, g_648, K_649, X_650⟩ := D_609
      obtain ⟨eqo_651, T_652, eph_653, end_654, P_655, hp_656, hnn_657, ht_658, Fp_659, Nd_660⟩ := id K_649
      obtain ⟨epo_661, ed_662, ek1_663, ek2_664, ek3_665, -, PF_666⟩ := id P_655
      have etk_667 := T_652.1
      refine x_le (xw_le_s (xw_le_n (xw_le_n (xw_le_n (xw_le_n (xw_le_n xw_le_e)))))) ?_
      refine s_Question_deeper_16 (s0 := some a_604) (fun z => absurd z (by simp)) (fun a_668 z_669 => ?_)
      refine s_Question_deeper_21 (r3 := some a_604) ?_
      refine x_callV (As := [.int 10]) (b := qo) (rest := []) (F1 := 2) (L1 := 40) (mc := 0) (ms := 0) d_Question_deeper_24 cV_Question_103 (g_takesH K_649 X_650 (v9 := 10) rfl (by decide) (by decide) (by omega) (by omega)) eqo_651 ⟨by decide, rfl⟩ ⟨by omega, by show 8 + (2 + 11) + 40 ≤ _; omega⟩ ⟨by omega, by omega⟩ (Nat.le_of_ble_eq_true rfl) (fun v_676 h_675 p_677 => ?_)
      obtain ⟨b_670, t_671, rfl, hb_672, K_673, fr_674⟩ := p_677
      have r_678 := r_641.trans (fr_674.mono (suC A.1.1 suN))
      obtain ⟨eqo_679, T_680, eph_681, end_682, P_683, hp_684, hnn_685, ht_686, Fp_687, Nd_688⟩ := id K_673
      obtain ⟨epo_689, ed_690, ek1_691, ek2_692, ek3_693, -, PF_694⟩ := id P_683
      have etk_695 := T_680.1
      refine s_Question_deeper_27 (r3 := some a_604) (fun z_696 => ?_) (fun z_697 => ?_)
      · skip
        refine s_Question_deeper_34 ?_
        have hf_698 := (hb_672.resolve_right (fun q => absurd (q.1.symm.trans z_696) (by decide))).2
        obtain ⟨hk_700, X_699⟩ := hf_698
        refine x_callV (As := []) (b := qo) (rest := []) (F1 := 1) (L1 := 20) (mc := 0) (ms := 0) d_Question_deeper_35 cV_Question_73 (g_refuse K_673 (by omega) (by omega)) eqo_679 ⟨by decide, rfl⟩ ⟨by omega, by show 8 + (1 + 11) + 20 ≤ _; omega⟩ ⟨by omega, by omega⟩ (Nat.le_of_ble_eq_true rfl) (fun v_705 h_704 p_706 => ?_)
        obtain ⟨rfl, ⟨wp_701, K_702⟩, fr_703⟩ := p_706
        have r_707 := r_678.trans (fr_703.mono (suC A.1.1 suN))
        obtain ⟨eqo_708, T_709, eph_710, end_711, P_712, hp_713, hnn_714, ht_715, Fp_716, Nd_717⟩ := id K_702
        obtain ⟨epo_718, ed_719, ek1_720, ek2_721, ek3_722, -, PF_723⟩ := id P_712
        have etk_724 := T_709.1
        refine x_le (xw_le_n (xw_le_n (xw_le_n (xw_le_n (xw_le_n (xw_le_n xw_le_e)))))) ?_
        refine s_Question_deeper_38 (s0 := none) ?_
        exact ⟨r_707, Or.inl ⟨dp_jc hk_598 hx_605 hk_700, rfl, ⟨_, _, _, _, _, _, _, K_702, X_699.g0⟩⟩⟩
      · skip
        refine s_Question_deeper_30 (r3 := some a_604) ?_
        refine s_Question_deeper_38 (s0 := some a_604) ?_
        have hf_725 := (hb_672.resolve_left (fun q => z_697 q.1)).2
        obtain ⟨hk_727, X_726⟩ := hf_725
        exact ⟨r_678, Or.inr ⟨_, e_603, a_604, dp_jy hk_598 hx_605 hk_727, rfl, he_606, ha_607, hc_608, ⟨_, _, _, _, _, _, _, K_673, X_726⟩⟩⟩
set_option maxHeartbeats 2000000 in
theorem g_atomH {G : xw_G} {F L : Nat} {h : xw_A} {F1 L1 f0 cc dp : Nat} {co de : Int32} {B : List Nat} {qo tk tl tz ph nd po k1 k2 k3 d ln c : Nat} {fk fs fe fd : Nat → Int32} {fp fn : Nat → Option Nat} {p nn n t : Nat} {wp : Int32} {f g : Nat → Int32} (K : QuC qo tk tl tz ph nd po k1 k2 k3 d ln c fk fs fe fd fp fn p nn n t wp f g h) (A : QuA B qo tk tl tz ph nd po k1 k2 k3 d fp fn) {s : PSt} {nds : List NDt} (X : QuT fd ln c fk fs fe fp fn p nn n t f g s ([]) nds h) (h128 : ∀ j, j < ln → ∃ c, c < 128 ∧ fd j = nI c) (hco : co = nI cc) (hde : de = nI dp) (hd8 : dp ≤ 8) (hdp : dp < 8 → ∀ (h : xw_A) (s : PSt) (nds : List NDt), QuD qo tk tl tz ph nd po k1 k2 k3 d ln c fk fs fe fd fp fn s [] nds h → xw_Met G m_Question_deeper F1 L1 0 0 [.ref qo, .int co, .int (nI (dp + 1))] h (fun v h' => QuN B qo tk tl tz ph nd po k1 k2 k3 d ln c fk fs fe fd fp fn s nds (dpF fd ln f0 cc (dp + 1) s) h v h') (fun _ _ => False)) (hF1 : F1 + 1 ≤ F) (hL1 : L1 + 40 ≤ L) (hF : 6 ≤ F) (hL : 134 ≤ L) :
    xw_Met G m_Question_atom F L 0 0 [.ref qo, .int co, .int de] h (fun v h' => QuN B qo tk tl tz ph nd po k1 k2 k3 d ln c fk fs fe fd fp fn s nds (aT fd ln (f0 + 1) cc dp s) h v h') (fun _ _ => False) := by
  refine xw_Met.of rfl (by decide) (Nat.le_of_ble_eq_true rfl) ?_
  obtain ⟨e_qo, T, e_ph, e_nd, P, hp, hnn, ht, Fp, Nd⟩ := id K
  obtain ⟨e_po, e_d, e_k1, e_k2, e_k3, hln, PF⟩ := id P
  have e_tk := T.1
  have hc := PF.1
  have r0 : FrO B h h := FrO.rf
  refine s_Question_atom_0 ?_
  refine x_callV (As := []) (b := qo) (rest := []) (F1 := 2) (L1 := 40) (mc := 0) (ms := 0) d_Question_atom_1 cV_Question_106 (g_beginsDeeperH K X (by omega) (by omega)) e_qo ⟨by decide, rfl⟩ ⟨by omega, by show 8 + (2 + 11) + 40 ≤ _; omega⟩ ⟨by omega, by omega⟩ (Nat.le_of_ble_eq_true rfl) (fun v_4 h_3 p_5 => ?_)
  obtain ⟨b_1, rfl, hb_2, rfl⟩ := p_5
  refine s_Question_atom_4 (fun z_6 => ?_) (fun z_7 => ?_)
  · skip
    have hf_8 := (hb_2.resolve_right (fun q => absurd (q.1.symm.trans z_6) (by decide))).2
    refine s_Question_atom_29 ?_
    refine x_callV (As := [.int 8]) (b := qo) (rest := []) (F1 := 2) (L1 := 40) (mc := 0) (ms := 0) d_Question_atom_32 cV_Question_103 (g_takesH K X (v9 := 8) rfl (by decide) (by decide) (by omega) (by omega)) e_qo ⟨by decide, rfl⟩ ⟨by omega, by show 8 + (2 + 11) + 40 ≤ _; omega⟩ ⟨by omega, by omega⟩ (Nat.le_of_ble_eq_true rfl) (fun v_15 h_14 p_16 => ?_)
    obtain ⟨b_9, t_10, rfl, hb_11, K_12, fr_13⟩ := p_16
    have r_17 := r0.trans (fr_13.mono (suC A.1.1 suN))
    obtain ⟨eqo_18, T_19, eph_20, end_21, P_22, hp_23, hnn_24, ht_25, Fp_26, Nd_27⟩ := id K_12
    obtain ⟨epo_28, ed_29, ek1_30, ek2_31, ek3_32, -, PF_33⟩ := id P_22
    have etk_34 := T_19.1
    refine s_Question_atom_35 (fun z_35 => ?_) (fun z_36 => ?_)
    · skip
      refine s_Question_atom_46 ?_
      have hf_37 := (hb_11.resolve_right (fun q => absurd (q.1.symm.trans z_35) (by decide))).2
      obtain ⟨hk_39, X_38⟩ := hf_37
      refine x_callV (As := [.int co]) (b := qo) (rest := []) (F1 := 5) (L1 := 110) (mc := 0) (ms := 0) d_Question_atom_48 cV_Question_119 (g_singleH K_12 A X_38 h128 hco hk_39 (by omega) (by omega)) eqo_18 ⟨by decide, rfl⟩ ⟨by omega, by show 8 + (4 + 11) + 110 ≤ _; omega⟩ ⟨by omega, by omega⟩ (Nat.le_of_ble_eq_true rfl) (fun v_42 h_41 P_40 => ?_)
      obtain ⟨o_43, ho_44⟩ := P_40.val
      subst ho_44
      refine x_le (xw_le_n (xw_le_n (xw_le_n xw_le_e))) ?_
      refine s_Question_atom_51 (s0 := o_43) ?_
      exact (QuG.to P_40 r_17 rfl rfl).n (fun q => at_gn hf_8 q) (fun s2 i q => at_gy hf_8 q)
    · skip
      refine s_Question_atom_38 ?_
      have hf_45 := (hb_11.resolve_left (fun q => z_36 q.1)).2
      obtain ⟨hk_47, X_46⟩ := hf_45
      refine x_callV (As := [.int co]) (b := qo) (rest := []) (F1 := 5) (L1 := 110) (mc := 0) (ms := 0) d_Question_atom_40 cV_Question_115 (g_nearH K_12 A X_46 h128 hco (by omega) (by omega)) eqo_18 ⟨by decide, rfl⟩ ⟨by omega, by show 8 + (5 + 11) + 110 ≤ _; omega⟩ ⟨by omega, by omega⟩ (Nat.le_of_ble_eq_true rfl) (fun v_50 h_49 P_48 => ?_)
      obtain ⟨o_51, ho_52⟩ := P_48.val
      subst ho_52
      refine x_le (xw_le_n (xw_le_n (xw_le_n xw_le_e))) ?_
      refine s_Question_atom_43 (s0 := o_51) ?_
      refine s_Question_atom_51 (s0 := o_51) ?_
      exact (QuG.to P_48 r_17 (gp_8 hk_47) rfl).n (fun q => at_gn hf_8 q) (fun s2 i q => at_gy hf_8 q)
  · skip
    refine s_Question_atom_7 (fun z_53 => ?_) (fun z_54 => ?_)
    · skip
      have hf_55 := (hb_2.resolve_left (fun q => z_7 q.1)).2
      have h8 : dp < 8 := (nI_ltI (b := 8) (by omega) (by decide)).mp (by rw [← hde]; exact z_53)
      refine s_Question_atom_20 ?_
      rw [hde, nI_1]
      refine x_callV (As := [.int co, .int (nI (dp + 1))]) (b := qo) (rest := []) (F1 := F1) (L1 := L1) (mc := 0) (ms := 0) d_Question_atom_25 cV_Question_112 (hdp h8 _ _ _ ⟨_, _, _, _, _, _, _, K, X⟩) e_qo ⟨by decide, rfl⟩ ⟨by omega, by show 8 + (6 + 11) + L1 ≤ _; omega⟩ ⟨by omega, by omega⟩ (Nat.le_of_ble_eq_true rfl) (fun v_58 h_57 P_56 => ?_)
      obtain ⟨o_60, ho_61⟩ := P_56.val
      subst ho_61
      refine x_le (xw_le_n (xw_le_n (xw_le_n xw_le_e))) ?_
      refine s_Question_atom_28 (s0 := o_60) ?_
      exact QuN.to P_56 r0 (at_d hf_55 h8) rfl
    · skip
      have hf_62 := (hb_2.resolve_left (fun q => z_7 q.1)).2
      refine s_Question_atom_13 ?_
      refine x_callV (As := []) (b := qo) (rest := []) (F1 := 1) (L1 := 20) (mc := 0) (ms := 0) d_Question_atom_14 cV_Question_73 (g_refuse K (by omega) (by omega)) e_qo ⟨by decide, rfl⟩ ⟨by omega, by show 8 + (1 + 11) + 20 ≤ _; omega⟩ ⟨by omega, by omega⟩ (Nat.le_of_ble_eq_true rfl) (fun v_67 h_66 p_68 => ?_)
      obtain ⟨rfl, ⟨wp_63, K_64⟩, fr_65⟩ := p_68
      have r_69 := r0.trans (fr_65.mono (suC A.1.1 suN))
      obtain ⟨eqo_70, T_71, eph_72, end_73, P_74, hp_75, hnn_76, ht_77, Fp_78, Nd_79⟩ := id K_64
      obtain ⟨epo_80, ed_81, ek1_82, ek2_83, ek3_84, -, PF_85⟩ := id P_74
      have etk_86 := T_71.1
      refine x_le (xw_le_n (xw_le_n (xw_le_n xw_le_e))) ?_
      refine s_Question_atom_17 (s0 := none) ?_
      refine s_Question_atom_28 (s0 := none) ?_
      exact ⟨r_69, Or.inl ⟨at_8 hf_62 (Nat.le_of_not_lt (fun q => z_54 (by rw [hde]; exact nI_lt (b := 8) q (by decide)))), rfl, ⟨_, _, _, _, _, _, _, K_64, X.g0⟩⟩⟩
set_option maxHeartbeats 400000 in
theorem g_opAH {G : xw_G} {F L F1 L1 : Nat} {h : xw_A} {co de : Int32} {B : List Nat} {qo tk tl tz ph nd po k1 k2 k3 d ln c : Nat} {fk fs fe fd : Nat → Int32} {fp fn : Nat → Option Nat} {xf : PSt → Option (PSt × List EV)} (hm : ∀ (h : xw_A) (s : PSt) (nds : List NDt), QuD qo tk tl tz ph nd po k1 k2 k3 d ln c fk fs fe fd fp fn s [] nds h → xw_Met G m_Question_atom F1 L1 0 0 [.ref qo, .int co, .int de] h (fun v h' => QuN B qo tk tl tz ph nd po k1 k2 k3 d ln c fk fs fe fd fp fn s nds (xf s) h v h') (fun _ _ => False)) {s : PSt} {nds : List NDt} (S : QuD qo tk tl tz ph nd po k1 k2 k3 d ln c fk fs fe fd fp fn s [] nds h) (hF : F1 + 1 ≤ F) (hL : L1 + 40 ≤ L) :
    xw_Met G m_Question_operand F L 0 0 [.ref qo, .int 8, .int co, .int de] h (fun v h' => QuN B qo tk tl tz ph nd po k1 k2 k3 d ln c fk fs fe fd fp fn s nds (xf s) h v h') (fun _ _ => False) := by
  refine xw_Met.of rfl (by decide) (Nat.le_of_ble_eq_true rfl) ?_
  obtain ⟨p, nn, n, t, wp, f, g, K, X⟩ := id S
  have e_qo := K.1
  refine s_Question_operand_0 (fun z => absurd rfl z) (fun _ => ?_)
  refine s_Question_operand_6 ?_
  refine x_callV (As := [.int co, .int de]) (b := qo) (rest := []) (F1 := F1) (L1 := L1) (mc := 0) (ms := 0) d_Question_operand_9 cV_Question_95 (hm h s nds S) e_qo ⟨by decide, rfl⟩ ⟨by omega, by show 8 + (3 + 11) + L1 ≤ _; omega⟩ ⟨by omega, by omega⟩ (Nat.le_of_ble_eq_true rfl) (fun v h1 q => ?_)
  obtain ⟨o, ho⟩ := q.val
  subst ho
  refine x_le (xw_le_n (xw_le_n (xw_le_n (xw_le_n xw_le_e)))) ?_
  refine s_Question_operand_12 (s0 := o) ?_
  refine s_Question_operand_24 (s0 := o) ?_
  exact q
set_option maxHeartbeats 400000 in
theorem g_opJH {G : xw_G} {F L F1 L1 : Nat} {h : xw_A} {x co de : Int32} {B : List Nat} {qo tk tl tz ph nd po k1 k2 k3 d ln c : Nat} {fk fs fe fd : Nat → Int32} {fp fn : Nat → Option Nat} {xf : PSt → Option (PSt × List EV)} (hx : ¬ x = 8) (hm : ∀ (h : xw_A) (s : PSt) (nds : List NDt), QuD qo tk tl tz ph nd po k1 k2 k3 d ln c fk fs fe fd fp fn s [] nds h → xw_Met G m_Question_joined F1 L1 0 0 [.ref qo, .int (x + 1), .int co, .int de] h (fun v h' => QuN B qo tk tl tz ph nd po k1 k2 k3 d ln c fk fs fe fd fp fn s nds (xf s) h v h') (fun _ _ => False)) {s : PSt} {nds : List NDt} (S : QuD qo tk tl tz ph nd po k1 k2 k3 d ln c fk fs fe fd fp fn s [] nds h) (hF : F1 + 1 ≤ F) (hL : L1 + 40 ≤ L) :
    xw_Met G m_Question_operand F L 0 0 [.ref qo, .int x, .int co, .int de] h (fun v h' => QuN B qo tk tl tz ph nd po k1 k2 k3 d ln c fk fs fe fd fp fn s nds (xf s) h v h') (fun _ _ => False) := by
  refine xw_Met.of rfl (by decide) (Nat.le_of_ble_eq_true rfl) ?_
  obtain ⟨p, nn, n, t, wp, f, g, K, X⟩ := id S
  have e_qo := K.1
  refine s_Question_operand_0 (fun _ => ?_) (fun z => absurd z hx)
  refine s_Question_operand_15 ?_
  refine x_callV (As := [.int (x + 1), .int co, .int de]) (b := qo) (rest := []) (F1 := F1) (L1 := L1) (mc := 0) (ms := 0) d_Question_operand_21 cV_Question_65 (hm h s nds S) e_qo ⟨by decide, rfl⟩ ⟨by omega, by show 8 + (7 + 11) + L1 ≤ _; omega⟩ ⟨by omega, by omega⟩ (Nat.le_of_ble_eq_true rfl) (fun v h1 q => ?_)
  obtain ⟨o, ho⟩ := q.val
  subst ho
  refine x_le (xw_le_n (xw_le_n (xw_le_n (xw_le_n xw_le_e)))) ?_
  refine s_Question_operand_24 (s0 := o) ?_
  exact q
set_option maxHeartbeats 4000000 in
theorem lp_joinedH {G : xw_G} {F L bc bs : Nat} {pr : Option Value → xw_A → Prop} {px : String → xw_A → Prop} {B : List Nat} {qo tk tl tz ph nd po k1 k2 k3 d ln c : Nat} {fk fs fe fd : Nat → Int32} {fp fn : Nat → Option Nat} {F1 L1 rk g0 : Nat} {x co de : Int32} {h0 : xw_A} {nds0 : List NDt} {xf : PSt → Option (PSt × List EV)} {R : Option (PSt × List EV)} (A : QuA B qo tk tl tz ph nd po k1 k2 k3 d fp fn) (hx : x = nI (rk + 4)) (hr1 : 1 ≤ rk) (hr4 : rk ≤ 4) (hop : ∀ (h : xw_A) (s : PSt) (nds : List NDt), QuD qo tk tl tz ph nd po k1 k2 k3 d ln c fk fs fe fd fp fn s [] nds h → xw_Met G m_Question_operand F1 L1 0 0 [.ref qo, .int x, .int co, .int de] h (fun v h' => QuN B qo tk tl tz ph nd po k1 k2 k3 d ln c fk fs fe fd fp fn s nds (xf s) h v h') (fun _ _ => False)) (hLK : LKX xf) (hn0 : nds0.length ≤ 2 * g0) (kk0 : ∀ h : xw_A, QuZ qo tk tl tz ph nd po k1 k2 k3 d ln c fk fs fe fd fp fn h → FrO B h0 h → R = none → pr (some .null) h) (hF1 : F1 + 1 ≤ F) (hL1 : L1 + 40 ≤ L) (hF : 5 ≤ F) (hL : 103 ≤ L) (kk : ∀ (h : xw_A) (p nn n t : Nat) (wp : Int32) (f g : Nat → Int32) (s : PSt) (e : List EV) (a : Nat), QuC qo tk tl tz ph nd po k1 k2 k3 d ln c fk fs fe fd fp fn p nn n t wp f g h → QuT fd ln c fk fs fe fp fn p nn n t f g s ([]) (nds0 ++ lks e nds0.length []) h → fn (nds0.length + e.length - 1) = some a → LkE e → e.length + 1 + 2 * g0 ≤ 2 * s.2.2.length → R = some (s, e) → FrO B h0 h → pr (some (.ref a)) h) :
    ∀ (dd i : Nat) (h : xw_A) (p : Nat) (nn : Nat) (n : Nat) (t : Nat) (wp : Int32) (f : Nat → Int32) (g : Nat → Int32) (s : PSt) (e : List EV) (a : Nat), i + dd = 96 → QuC qo tk tl tz ph nd po k1 k2 k3 d ln c fk fs fe fd fp fn p nn n t wp f g h → QuT fd ln c fk fs fe fp fn p nn n t f g s ([]) (nds0 ++ lks e nds0.length []) h → fn (nds0.length + e.length - 1) = some a → LkE e → e.length + 1 + 2 * g0 ≤ 2 * s.2.2.length → lpJ (kdS fd ln) (skS fd ln) xf rk dd s e = R → FrO B h0 h → xw G m_Question_joined F L bc bs pr px 12 [some (.ref qo), some (.int x), some (.int co), some (.int de), some (.ref a), some (.int (nI i)), none] [] h := by
  intro dd
  induction dd with
  | zero =>
    intro i h p nn n t wp f g s e a hi K X ha LK hcn hR r0
    obtain rfl : i = 96 := by omega
    obtain ⟨e_qo, T, e_ph, e_nd, P, hp, hnn, ht, Fp, Nd⟩ := id K
    obtain ⟨e_po, e_d, e_k1, e_k2, e_k3, hln, PF⟩ := id P
    have e_tk := T.1
    have hc := PF.1
    refine s_Question_joined_12 (r4 := some a) (fun z_1 => ?_) (fun z => absurd z (by decide))
    refine s_Question_joined_67 (r4 := some a) ?_
    exact kk _ _ _ _ _ _ _ _ s e a K X ha LK hcn (by rw [← hR]; rfl) r0
  | succ dd ih =>
    intro i h p nn n t wp f g s e a hi K X ha LK hcn hR r0
    obtain ⟨e_qo, T, e_ph, e_nd, P, hp, hnn, ht, Fp, Nd⟩ := id K
    obtain ⟨e_po, e_d, e_k1, e_k2, e_k3, hln, PF⟩ := id P
    have e_tk := T.1
    have hc := PF.1
    refine s_Question_joined_12 (r4 := some a) (fun z => absurd z (nI_ge (b := 96) (show i < 96 by omega) (by decide))) (fun z_1 => ?_)
    refine s_Question_joined_19 (r4 := some a) (fun z => absurd z (by simp)) (fun a_2 z_3 => ?_)
    refine s_Question_joined_24 (r4 := some a) ?_
    refine x_callV (As := [.int x]) (b := qo) (rest := []) (F1 := 4) (L1 := 82) (mc := 0) (ms := 0) d_Question_joined_26 cV_Question_87 (g_goesOnH K X hx hr1 hr4 (by omega) (by omega)) e_qo ⟨by decide, rfl⟩ ⟨by omega, by show 8 + (2 + 11) + 82 ≤ _; omega⟩ ⟨by omega, by omega⟩ (Nat.le_of_ble_eq_true rfl) (fun v_10 h_9 p_11 => ?_)
    obtain ⟨b_4, t_5, rfl, hb_6, K_7, fr_8⟩ := p_11
    have r_12 := r0.trans (fr_8.mono (suC A.1.1 suN))
    obtain ⟨eqo_13, T_14, eph_15, end_16, P_17, hp_18, hnn_19, ht_20, Fp_21, Nd_22⟩ := id K_7
    obtain ⟨epo_23, ed_24, ek1_25, ek2_26, ek3_27, -, PF_28⟩ := id P_17
    have etk_29 := T_14.1
    refine s_Question_joined_29 (r4 := some a) (fun z_30 => ?_) (fun z_31 => ?_)
    · skip
      refine s_Question_joined_67 (r4 := some a) ?_
      have hf_32 := (hb_6.resolve_right (fun q => absurd (q.1.symm.trans z_30) (by decide))).2
      obtain ⟨hk_34, X_33⟩ := hf_32
      exact kk _ _ _ _ _ _ _ _ s e a K_7 X_33 ha LK hcn (by rw [← hR]; exact lj_n hk_34) r_12
    · skip
      refine s_Question_joined_32 (r4 := some a) ?_
      have hf_35 := (hb_6.resolve_left (fun q => z_31 q.1)).2
      obtain ⟨hk_37, X_36⟩ := hf_35
      refine x_callV (As := [.int x, .int co, .int de]) (b := qo) (rest := []) (F1 := F1) (L1 := L1) (mc := 0) (ms := 0) d_Question_joined_36 cV_Question_84 (hop _ _ _ ⟨_, _, _, _, _, _, _, K_7, X_36⟩) eqo_13 ⟨by decide, rfl⟩ ⟨by omega, by show 8 + (4 + 11) + L1 ≤ _; omega⟩ ⟨by omega, by omega⟩ (Nat.le_of_ble_eq_true rfl) (fun v_50 h_49 p_51 => ?_)
      rcases p_51 with ⟨fr_38, ⟨hx_39, rfl, E_40⟩ | ⟨s_41, e_42, a_43, hx_44, rfl, he_45, ha_46, hc_47, D_48⟩⟩
      · skip
        have r_52 := r_12.trans fr_38
        obtain ⟨p_53, nn_54, n_55, t_56, wp_57, f_58, g_59, K_60, G_61⟩ := E_40
        obtain ⟨eqo_62, T_63, eph_64, end_65, P_66, hp_67, hnn_68, ht_69, Fp_70, Nd_71⟩ := id K_60
        obtain ⟨epo_72, ed_73, ek1_74, ek2_75, ek3_76, -, PF_77⟩ := id P_66
        have etk_78 := T_63.1
        refine s_Question_joined_39 (r4 := some a) (s0 := none) (fun z_79 => ?_) (fun _ z => absurd z (by simp))
        refine s_Question_joined_46 ?_
        refine s_Question_joined_59 (s0 := none) ?_
        have hR_80 : R = none := by rw [← hR]; exact lj_x hk_37 hx_39
        refine s_Question_joined_12 (r4 := none) (fun z_81 => ?_) (fun z_82 => ?_)
        · skip
          refine s_Question_joined_67 (r4 := none) ?_
          exact kk0 _ ⟨_, _, _, _, _, _, _, K_60, G_61⟩ r_52 hR_80
        · skip
          refine s_Question_joined_19 (r4 := none) (fun z_83 => ?_) (fun _ z => absurd z (by simp))
          refine s_Question_joined_67 (r4 := none) ?_
          exact kk0 _ ⟨_, _, _, _, _, _, _, K_60, G_61⟩ r_52 hR_80
      · skip
        have r_84 := r_12.trans fr_38
        obtain ⟨p_85, nn_86, n_87, t_88, wp_89, f_90, g_91, K_92, X_93⟩ := D_48
        obtain ⟨eqo_94, T_95, eph_96, end_97, P_98, hp_99, hnn_100, ht_101, Fp_102, Nd_103⟩ := id K_92
        obtain ⟨epo_104, ed_105, ek1_106, ek2_107, ek3_108, -, PF_109⟩ := id P_98
        have etk_110 := T_95.1
        refine s_Question_joined_39 (r4 := some a) (s0 := some a_43) (fun z => absurd z (by simp)) (fun a_111 z_112 => ?_)
        refine s_Question_joined_50 (r4 := some a) (r6 := some a_43) ?_
        have hlen : (nds0 ++ lks e nds0.length []).length = nds0.length + e.length := by rw [List.length_append, lks_len]
        have hnn9 : nn_86 = nds0.length + e.length + e_42.length := by have q1 := X_93.2.2.2.1; rw [List.length_append, lks_len, hlen] at q1; exact q1
        have hf9 : fn (nds0.length + e.length + e_42.length - 1) = some a_43 := by rw [← hlen]; exact ha_46
        have hc9 : e_42.length + 1 + 2 * s.2.2.length ≤ 2 * s_41.2.2.length := by have q1 := hc_47; rw [ifS] at q1; exact q1
        have he9 := LK.1.1
        refine x_callV (As := [.int x, .ref a, .ref a_43]) (b := qo) (rest := []) (F1 := 2) (L1 := 62) (mc := 0) (ms := 0) d_Question_joined_56 cV_Question_91 (g_joinH (rk := rk) (i1 := nds0.length + e.length - 1) (i2 := nds0.length + e.length + e_42.length - 1) K_92 A X_93 hx hr1 hr4 (by omega) ha (by omega) hf9 (by omega) (by omega) (by omega)) eqo_94 ⟨by decide, rfl⟩ ⟨by omega, by show 8 + (5 + 11) + 62 ≤ _; omega⟩ ⟨by omega, by omega⟩ (Nat.le_of_ble_eq_true rfl) (fun v_118 h_117 p_119 => ?_)
        obtain ⟨a_113, rfl, ha_114, D_115, fr_116⟩ := p_119
        have r_120 := r_84.trans fr_116
        obtain ⟨p_121, nn_122, n_123, t_124, wp_125, f_126, g_127, K_128, X_129⟩ := D_115
        obtain ⟨eqo_130, T_131, eph_132, end_133, P_134, hp_135, hnn_136, ht_137, Fp_138, Nd_139⟩ := id K_128
        obtain ⟨epo_140, ed_141, ek1_142, ek2_143, ek3_144, -, PF_145⟩ := id P_134
        have etk_146 := T_131.1
        have LK_148 := hLK _ _ _ hx_44
        have X_147 := X_129
        rw [hlen, List.append_assoc, List.append_assoc, ← List.append_assoc (lks e nds0.length []), ← LkE.lks hr1 LK LK_148] at X_147
        refine x_le (xw_le_s (xw_le_s (xw_le_s (xw_le_s (xw_le_n (xw_le_s (xw_le_n xw_le_e))))))) ?_
        refine s_Question_joined_59 (s0 := some a_113) ?_
        rw [nI_1]
        exact ih (i + 1) _ _ _ _ _ _ _ _ s_41 (e ++ e_42 ++ [(rk, 0)]) a_113 (by omega) K_128 X_147 (by rw [← ha_114]; congr 1; rw [List.length_append, List.length_append, List.length_append, List.length_append, lks_len, lks_len, List.length_singleton]; omega) (LK.join hr1 LK_148) (by rw [List.length_append, List.length_append, List.length_singleton]; omega) (by rw [← hR]; exact (lj_y hk_37 hx_44).symm) r_120
set_option maxHeartbeats 1000000 in
theorem g_joinedH {G : xw_G} {F L F1 L1 rk : Nat} {h : xw_A} {x co de : Int32} {B : List Nat} {qo tk tl tz ph nd po k1 k2 k3 d ln c : Nat} {fk fs fe fd : Nat → Int32} {fp fn : Nat → Option Nat} {xf : PSt → Option (PSt × List EV)} (A : QuA B qo tk tl tz ph nd po k1 k2 k3 d fp fn) (hx : x = nI (rk + 4)) (hr1 : 1 ≤ rk) (hr4 : rk ≤ 4) (hop : ∀ (h : xw_A) (s : PSt) (nds : List NDt), QuD qo tk tl tz ph nd po k1 k2 k3 d ln c fk fs fe fd fp fn s [] nds h → xw_Met G m_Question_operand F1 L1 0 0 [.ref qo, .int x, .int co, .int de] h (fun v h' => QuN B qo tk tl tz ph nd po k1 k2 k3 d ln c fk fs fe fd fp fn s nds (xf s) h v h') (fun _ _ => False)) (hLK : LKX xf) {s : PSt} {nds : List NDt} (S : QuD qo tk tl tz ph nd po k1 k2 k3 d ln c fk fs fe fd fp fn s [] nds h) (hF : 5 ≤ F) (hL : 103 ≤ L) (hF1 : F1 + 1 ≤ F) (hL1 : L1 + 40 ≤ L) :
    xw_Met G m_Question_joined F L 0 0 [.ref qo, .int x, .int co, .int de] h (fun v h' => QuN B qo tk tl tz ph nd po k1 k2 k3 d ln c fk fs fe fd fp fn s nds (jnX (kdS fd ln) (skS fd ln) xf rk 96 s) h v h') (fun _ _ => False) := by
  refine xw_Met.of rfl (by decide) (Nat.le_of_ble_eq_true rfl) ?_
  obtain ⟨p, nn, n, t, wp, f, g, K, X⟩ := id S
  have e_qo := K.1
  have hnl : nds.length ≤ 2 * s.2.2.length := by rw [← X.2.2.2.1]; exact X.2.2.2.2.2.1
  refine s_Question_joined_0 ?_
  refine x_callV (As := [.int x, .int co, .int de]) (b := qo) (rest := []) (F1 := F1) (L1 := L1) (mc := 0) (ms := 0) d_Question_joined_4 cV_Question_84 (hop _ _ _ S) e_qo ⟨by decide, rfl⟩ ⟨by omega, by show 8 + (4 + 11) + L1 ≤ _; omega⟩ ⟨by omega, by omega⟩ (Nat.le_of_ble_eq_true rfl) (fun v h1 q => ?_)
  rcases q with ⟨fr, ⟨hx9, rfl, E⟩ | ⟨s', e, a, hx9, rfl, he, ha, hc, D⟩⟩
  · refine s_Question_joined_7 (s0 := none) ?_
    refine s_Question_joined_12 (r4 := none) (fun z => absurd z (by decide)) (fun _ => ?_)
    refine s_Question_joined_19 (r4 := none) (fun _ => ?_) (fun a9 z => nomatch z)
    refine s_Question_joined_67 (r4 := none) ?_
    exact ⟨fr, Or.inl ⟨jx_n hx9, rfl, E⟩⟩
  · obtain ⟨p2, nn2, n2, t2, wp2, f2, g2, K2, X2⟩ := D
    refine s_Question_joined_7 (s0 := some a) ?_
    exact lp_joinedH (h0 := h) (g0 := s.2.2.length) A hx hr1 hr4 hop hLK hnl (fun h9 E9 r9 q9 => ⟨r9, Or.inl ⟨(jx_y hx9).trans q9, rfl, E9⟩⟩) hF1 hL1 hF hL (fun h9 p9 nn9 n9 t9 wp9 f9 g9 s9 e9 a9 K9 X9 ha9 LK9 hc9 q9 r9 => ⟨r9, Or.inr ⟨s9, e9, a9, (jx_y hx9).trans q9, rfl, LK9.1.1, ha9, hc9, ⟨_, _, _, _, _, _, _, K9, X9⟩⟩⟩) 96 0 _ _ _ _ _ _ _ _ s' e a rfl K2 X2 ha (hLK _ _ _ hx9) hc rfl fr
set_option maxHeartbeats 1000000 in
theorem g_j5H {G : xw_G} {F0 L0 f0 dp : Nat} {de : Int32} {B : List Nat} {qo tk tl tz ph nd po k1 k2 k3 d ln c : Nat} {fk fs fe fd : Nat → Int32} {fp fn : Nat → Option Nat} (A : QuA B qo tk tl tz ph nd po k1 k2 k3 d fp fn) (hF0 : 6 ≤ F0) (hL0 : 134 ≤ L0) (hat : ∀ cc, cc ≤ 3 → ∀ (h : xw_A) (s : PSt) (nds : List NDt), QuD qo tk tl tz ph nd po k1 k2 k3 d ln c fk fs fe fd fp fn s [] nds h → xw_Met G m_Question_atom F0 L0 0 0 [.ref qo, .int (nI cc), .int de] h (fun v h' => QuN B qo tk tl tz ph nd po k1 k2 k3 d ln c fk fs fe fd fp fn s nds (aT fd ln f0 cc dp s) h v h') (fun _ _ => False)) :
    ∀ cc, cc ≤ 3 → ∀ (h : xw_A) (s : PSt) (nds : List NDt), QuD qo tk tl tz ph nd po k1 k2 k3 d ln c fk fs fe fd fp fn s [] nds h → xw_Met G m_Question_joined (F0 + 8) (L0 + 320) 0 0 [.ref qo, .int 5, .int (nI cc), .int de] h (fun v h' => QuN B qo tk tl tz ph nd po k1 k2 k3 d ln c fk fs fe fd fp fn s nds (j1T fd ln f0 cc dp s) h v h') (fun _ _ => False) := by
  have l8 : ∀ cc, LKX (aT fd ln f0 cc dp) := fun cc => dp_LK.2
  have o8 : ∀ cc, cc ≤ 3 → ∀ (h : xw_A) (s : PSt) (nds : List NDt), QuD qo tk tl tz ph nd po k1 k2 k3 d ln c fk fs fe fd fp fn s [] nds h → xw_Met G m_Question_operand (F0 + 1) (L0 + 40) 0 0 [.ref qo, .int 8, .int (nI cc), .int de] h (fun v h' => QuN B qo tk tl tz ph nd po k1 k2 k3 d ln c fk fs fe fd fp fn s nds ((aT fd ln f0 cc dp) s) h v h') (fun _ _ => False) := fun cc hcc h s nds S => g_opAH (xf := (aT fd ln f0 cc dp)) (hat cc hcc) S (by omega) (by omega)
  have j8 : ∀ cc, cc ≤ 3 → ∀ (h : xw_A) (s : PSt) (nds : List NDt), QuD qo tk tl tz ph nd po k1 k2 k3 d ln c fk fs fe fd fp fn s [] nds h → xw_Met G m_Question_joined (F0 + 2) (L0 + 80) 0 0 [.ref qo, .int 8, .int (nI cc), .int de] h (fun v h' => QuN B qo tk tl tz ph nd po k1 k2 k3 d ln c fk fs fe fd fp fn s nds (jnX (kdS fd ln) (skS fd ln) (aT fd ln f0 cc dp) 4 96 s) h v h') (fun _ _ => False) := fun cc hcc h s nds S => g_joinedH (rk := 4) (xf := (aT fd ln f0 cc dp)) A rfl (by decide) (by decide) (o8 cc hcc) (l8 cc) S (by omega) (by omega) (by omega) (by omega)
  have l7 : ∀ cc, LKX (jnX (kdS fd ln) (skS fd ln) (aT fd ln f0 cc dp) 4 96) := fun cc => jn_LK _ _ (by decide) (l8 cc)
  have o7 : ∀ cc, cc ≤ 3 → ∀ (h : xw_A) (s : PSt) (nds : List NDt), QuD qo tk tl tz ph nd po k1 k2 k3 d ln c fk fs fe fd fp fn s [] nds h → xw_Met G m_Question_operand (F0 + 3) (L0 + 120) 0 0 [.ref qo, .int 7, .int (nI cc), .int de] h (fun v h' => QuN B qo tk tl tz ph nd po k1 k2 k3 d ln c fk fs fe fd fp fn s nds ((jnX (kdS fd ln) (skS fd ln) (aT fd ln f0 cc dp) 4 96) s) h v h') (fun _ _ => False) := fun cc hcc h s nds S => g_opJH (x := 7) (xf := (jnX (kdS fd ln) (skS fd ln) (aT fd ln f0 cc dp) 4 96)) (by decide) (j8 cc hcc) S (by omega) (by omega)
  have j7 : ∀ cc, cc ≤ 3 → ∀ (h : xw_A) (s : PSt) (nds : List NDt), QuD qo tk tl tz ph nd po k1 k2 k3 d ln c fk fs fe fd fp fn s [] nds h → xw_Met G m_Question_joined (F0 + 4) (L0 + 160) 0 0 [.ref qo, .int 7, .int (nI cc), .int de] h (fun v h' => QuN B qo tk tl tz ph nd po k1 k2 k3 d ln c fk fs fe fd fp fn s nds (jnX (kdS fd ln) (skS fd ln) (jnX (kdS fd ln) (skS fd ln) (aT fd ln f0 cc dp) 4 96) 3 96 s) h v h') (fun _ _ => False) := fun cc hcc h s nds S => g_joinedH (rk := 3) (xf := (jnX (kdS fd ln) (skS fd ln) (aT fd ln f0 cc dp) 4 96)) A rfl (by decide) (by decide) (o7 cc hcc) (l7 cc) S (by omega) (by omega) (by omega) (by omega)
  have l6 : ∀ cc, LKX (jnX (kdS fd ln) (skS fd ln) (jnX (kdS fd ln) (skS fd ln) (aT fd ln f0 cc dp) 4 96) 3 96) := fun cc => jn_LK _ _ (by decide) (l7 cc)
  have o6 : ∀ cc, cc ≤ 3 → ∀ (h : xw_A) (s : PSt) (nds : List NDt), QuD qo tk tl tz ph nd po k1 k2 k3 d ln c fk fs fe fd fp fn s [] nds h → xw_Met G m_Question_operand (F0 + 5) (L0 + 200) 0 0 [.ref qo, .int 6, .int (nI cc), .int de] h (fun v h' => QuN B qo tk tl tz ph nd po k1 k2 k3 d ln c fk fs fe fd fp fn s nds ((jnX (kdS fd ln) (skS fd ln) (jnX (kdS fd ln) (skS fd ln) (aT fd ln f0 cc dp) 4 96) 3 96) s) h v h') (fun _ _ => False) := fun cc hcc h s nds S => g_opJH (x := 6) (xf := (jnX (kdS fd ln) (skS fd ln) (jnX (kdS fd ln) (skS fd ln) (aT fd ln f0 cc dp) 4 96) 3 96)) (by decide) (j7 cc hcc) S (by omega) (by omega)
  have j6 : ∀ cc, cc ≤ 3 → ∀ (h : xw_A) (s : PSt) (nds : List NDt), QuD qo tk tl tz ph nd po k1 k2 k3 d ln c fk fs fe fd fp fn s [] nds h → xw_Met G m_Question_joined (F0 + 6) (L0 + 240) 0 0 [.ref qo, .int 6, .int (nI cc), .int de] h (fun v h' => QuN B qo tk tl tz ph nd po k1 k2 k3 d ln c fk fs fe fd fp fn s nds (jnX (kdS fd ln) (skS fd ln) (jnX (kdS fd ln) (skS fd ln) (jnX (kdS fd ln) (skS fd ln) (aT fd ln f0 cc dp) 4 96) 3 96) 2 96 s) h v h') (fun _ _ => False) := fun cc hcc h s nds S => g_joinedH (rk := 2) (xf := (jnX (kdS fd ln) (skS fd ln) (jnX (kdS fd ln) (skS fd ln) (aT fd ln f0 cc dp) 4 96) 3 96)) A rfl (by decide) (by decide) (o6 cc hcc) (l6 cc) S (by omega) (by omega) (by omega) (by omega)
  have l5 : ∀ cc, LKX (jnX (kdS fd ln) (skS fd ln) (jnX (kdS fd ln) (skS fd ln) (jnX (kdS fd ln) (skS fd ln) (aT fd ln f0 cc dp) 4 96) 3 96) 2 96) := fun cc => jn_LK _ _ (by decide) (l6 cc)
  have o5 : ∀ cc, cc ≤ 3 → ∀ (h : xw_A) (s : PSt) (nds : List NDt), QuD qo tk tl tz ph nd po k1 k2 k3 d ln c fk fs fe fd fp fn s [] nds h → xw_Met G m_Question_operand (F0 + 7) (L0 + 280) 0 0 [.ref qo, .int 5, .int (nI cc), .int de] h (fun v h' => QuN B qo tk tl tz ph nd po k1 k2 k3 d ln c fk fs fe fd fp fn s nds ((jnX (kdS fd ln) (skS fd ln) (jnX (kdS fd ln) (skS fd ln) (jnX (kdS fd ln) (skS fd ln) (aT fd ln f0 cc dp) 4 96) 3 96) 2 96) s) h v h') (fun _ _ => False) := fun cc hcc h s nds S => g_opJH (x := 5) (xf := (jnX (kdS fd ln) (skS fd ln) (jnX (kdS fd ln) (skS fd ln) (jnX (kdS fd ln) (skS fd ln) (aT fd ln f0 cc dp) 4 96) 3 96) 2 96)) (by decide) (j6 cc hcc) S (by omega) (by omega)
  have j5 : ∀ cc, cc ≤ 3 → ∀ (h : xw_A) (s : PSt) (nds : List NDt), QuD qo tk tl tz ph nd po k1 k2 k3 d ln c fk fs fe fd fp fn s [] nds h → xw_Met G m_Question_joined (F0 + 8) (L0 + 320) 0 0 [.ref qo, .int 5, .int (nI cc), .int de] h (fun v h' => QuN B qo tk tl tz ph nd po k1 k2 k3 d ln c fk fs fe fd fp fn s nds (jnX (kdS fd ln) (skS fd ln) (jnX (kdS fd ln) (skS fd ln) (jnX (kdS fd ln) (skS fd ln) (jnX (kdS fd ln) (skS fd ln) (aT fd ln f0 cc dp) 4 96) 3 96) 2 96) 1 96 s) h v h') (fun _ _ => False) := fun cc hcc h s nds S => g_joinedH (rk := 1) (xf := (jnX (kdS fd ln) (skS fd ln) (jnX (kdS fd ln) (skS fd ln) (jnX (kdS fd ln) (skS fd ln) (aT fd ln f0 cc dp) 4 96) 3 96) 2 96)) A rfl (by decide) (by decide) (o5 cc hcc) (l5 cc) S (by omega) (by omega) (by omega) (by omega)
  exact j5
set_option maxHeartbeats 1000000 in
theorem g_atomNH {G : xw_G} {B : List Nat} {qo tk tl tz ph nd po k1 k2 k3 d ln c : Nat} {fk fs fe fd : Nat → Int32} {fp fn : Nat → Option Nat} (A : QuA B qo tk tl tz ph nd po k1 k2 k3 d fp fn) (h128 : ∀ j, j < ln → ∃ c, c < 128 ∧ fd j = nI c) : ∀ (dp : Nat), dp ≤ 8 → ∀ cc, cc ≤ 3 → ∀ (h : xw_A) (s : PSt) (nds : List NDt), QuD qo tk tl tz ph nd po k1 k2 k3 d ln c fk fs fe fd fp fn s [] nds h → xw_Met G m_Question_atom (6 + 10 * dp) (134 + 400 * dp) 0 0 [.ref qo, .int (nI cc), .int (nI (8 - dp))] h (fun v h' => QuN B qo tk tl tz ph nd po k1 k2 k3 d ln c fk fs fe fd fp fn s nds (aT fd ln (dp + 1) cc (8 - dp) s) h v h') (fun _ _ => False) := by
  intro dp
  induction dp with
  | zero =>
    intro _ cc hcc h s nds S
    obtain ⟨p, nn, n, t, wp, f, g, K, X⟩ := S
    exact g_atomH (F1 := 0) (L1 := 0) K A X h128 rfl rfl (Nat.le_refl _) (fun z => absurd z (by decide)) (by omega) (by omega) (by omega) (by omega)
  | succ dp ih =>
    intro hd cc hcc h s nds S
    obtain ⟨p, nn, n, t, wp, f, g, K, X⟩ := S
    have hat := ih (by omega)
    have e : 8 - (dp + 1) + 1 = 8 - dp := by omega
    refine g_atomH (F1 := 6 + 10 * dp + 9) (L1 := 134 + 400 * dp + 360) K A X h128 rfl rfl (by omega) (fun _ => ?_) (by omega) (by omega) (by omega) (by omega)
    rw [e]
    intro h s nds S
    obtain ⟨p, nn, n, t, wp, f, g, K, X⟩ := S
    exact g_deeperH K A X h128 rfl hcc (g_j5H A (by omega) (by omega) hat cc hcc) hat (by omega) (by omega) (by omega) (by omega) (by omega) (by omega)
theorem g_topH {G : xw_G} {B : List Nat} {qo tk tl tz ph nd po k1 k2 k3 d ln c : Nat} {fk fs fe fd : Nat → Int32} {fp fn : Nat → Option Nat} (A : QuA B qo tk tl tz ph nd po k1 k2 k3 d fp fn) (h128 : ∀ j, j < ln → ∃ c, c < 128 ∧ fd j = nI c) : ∀ cc, cc ≤ 3 → ∀ (h : xw_A) (s : PSt) (nds : List NDt), QuD qo tk tl tz ph nd po k1 k2 k3 d ln c fk fs fe fd fp fn s [] nds h → xw_Met G m_Question_joined 94 3654 0 0 [.ref qo, .int 5, .int (nI cc), .int 0] h (fun v h' => QuN B qo tk tl tz ph nd po k1 k2 k3 d ln c fk fs fe fd fp fn s nds (j1T fd ln 9 cc 0 s) h v h') (fun _ _ => False) := g_j5H (F0 := 86) (L0 := 3334) A (by omega) (by omega) (g_atomNH A h128 8 (Nat.le_refl _))
set_option maxHeartbeats 2000000 in
theorem g_readH {G : xw_G} {F L : Nat} {h : xw_A} {B : List Nat} {qo tk tl tz ph nd po k1 k2 k3 d ln : Nat} {fd : Nat → Int32} {fp fn : Nat → Option Nat} (A : QuA B qo tk tl tz ph nd po k1 k2 k3 d fp fn) (QI : QuI qo tk tl tz ph nd po k1 k2 k3 fp fn h) (e_d : h d = some (.inl (1, 96, .inl fd))) (hln : ln ≤ 96) (nk : k1 ≠ k2 ∧ k1 ≠ k3 ∧ k2 ≠ k3) (Z : Z0 tz h) (h128 : ∀ j, j < ln → ∃ c, c < 128 ∧ fd j = nI c) (hF : 95 ≤ F) (hL : 3680 ≤ L) :
    xw_Met G m_Question_read F L 0 0 [.ref qo, .ref d, .int (nI ln)] h (fun v h' => ∃ (b : Int32) (c : Nat) (fk fs fe : Nat → Int32), v = some (.int b) ∧ FrO (po :: k1 :: k2 :: k3 :: B) h h' ∧ ((b = 0 ∧ resJ (kdS fd ln) (j1T fd ln 9 3 0 (0, [], [])) = none ∧ QuZ qo tk tl tz ph nd po k1 k2 k3 d ln c fk fs fe fd fp fn h') ∨ (b = 1 ∧ ∃ (s' : PSt) (e : List EV), resJ (kdS fd ln) (j1T fd ln 9 3 0 (0, [], [])) = some (s', e) ∧ j1T fd ln 9 3 0 (0, [], []) = some (s', e) ∧ LkE e ∧ QuD qo tk tl tz ph nd po k1 k2 k3 d ln c fk fs fe fd fp fn s' [] ([] ++ lks e ([] : List NDt).length []) h'))) (fun _ _ => False) := by
  refine xw_Met.of rfl (by decide) (Nat.le_of_ble_eq_true rfl) ?_
  obtain ⟨pA, nA, wA, tA, x0, dq, dq2, n0, f, g, fk0, fs0, fe0, e_qo, T, e_ph, e_nd, Fp, Nd, e_po, e_k1, e_k2, e_k3⟩ := QI
  refine s_Question_read_0 (tokens_a0 := some tk) (phrases_a0 := some ph) (nodes_a0 := some nd) (parts_a0 := some po) (letters_a0 := dq2) e_qo ?_
  refine x_callV (As := [.ref d, .int (nI ln)]) (b := po) (rest := []) (F1 := 8) (L1 := 250) (mc := 0) (ms := 0) d_Question_read_6 cV_Question_41 (g_splitH e_po e_d hln e_k1 e_k2 e_k3 nk h128 (by omega) (by omega)) e_po ⟨by decide, rfl⟩ ⟨by omega, by show 8 + (5 + 11) + 250 ≤ _; omega⟩ ⟨by omega, by omega⟩ (Nat.le_of_ble_eq_true rfl) (fun v_2 h_1 p_3 => ?_)
  obtain ⟨rfl, ⟨c, fk, fs, fe, P, LF⟩, fr1⟩ := p_3
  have n4 : ∀ {q : Nat} {e : xw_C}, h q = some e → (∀ vs, e ≠ .inr (3, vs)) → (∀ x, e ≠ .inl (0, 97, x)) → q ∉ [po, k1, k2, k3] := fun he n1 n2 => by simp only [List.mem_cons, List.not_mem_nil, or_false, not_or]; exact ⟨xw_neC he e_po (n1 _), xw_neC he e_k1 (n2 _), xw_neC he e_k2 (n2 _), xw_neC he e_k3 (n2 _)⟩
  have E0 := fr1 qo _ (n4 e_qo (by simp) (by simp)) e_qo
  have T1 := T.frq fr1 ⟨n4 T.1 (by simp) (by simp), n4 T.2.1 (by simp) (by simp), n4 T.2.2.1 (by simp) (by simp)⟩
  have E1 := fr1 ph _ (n4 e_ph (by simp) (by simp)) e_ph
  have E2 := fr1 nd _ (n4 e_nd (by simp) (by simp)) e_nd
  have F1_ := Fp.fr fr1 (fun a x y b ha => n4 ha (by simp) (by simp)) (Nat.le_refl _)
  have N1_ := Nd.fr fr1 (fun a vs ha => n4 ha (by simp) (by simp)) (Nat.le_refl _)
  refine x_le (xw_le_s (xw_le_s (xw_le_n (xw_le_n xw_le_e)))) ?_
  refine s_Question_read_9 (phrases_a0 := some ph) (nodes_a0 := some nd) (parts_a0 := some po) (letters_a0 := dq2) (letters_tokens_a0 := some tl) (starts_tokens_a0 := some tz) E0 T1.1 ?_
  rw [xw_up_up]
  refine x_u3 (fun h2 e2 f2 h3 e3 f3 h4 e4 f4 => ?_)
  refine s_Question_read_32 (tokens_a0 := some tk) (phrases_a0 := some ph) (nodes_a0 := some nd) (parts_a0 := some po) (letters_a0 := some d) e4 ?_
  rw [xw_up_up]
  refine x_u1 (fun h5 e5 f5 => ?_)
  have rq : FrO [qo, tk] h_1 h5 := (((FrO.rf.up (by simp) f2).up (by simp) f3).up (by simp) f4).up (by simp) f5
  have nqt : tk ≠ qo := xw_neC T1.1 E0 (by simp)
  have n2 : ∀ {q : Nat} {e : xw_C}, h_1 q = some e → (∀ vs, e ≠ .inr (5, vs)) → (∀ vs, e ≠ .inr (9, vs)) → q ∉ [qo, tk] := fun he m1 m2 => by simp only [List.mem_cons, List.not_mem_nil, or_false, not_or]; exact ⟨xw_neC he E0 (m1 _), xw_neC he T1.1 (m2 _)⟩
  have et : h5 tk = some (.inr (9, [.ref tl, .ref tz, .int (nI 0)])) := (f5 _ nqt).trans ((f4 _ nqt).trans e3)
  have T5 : TokC tk tl tz 96 49 0 f g h5 := ⟨et, rq tl _ (n2 T1.2.1 (by simp) (by simp)) T1.2.1, rq tz _ (n2 T1.2.2.1 (by simp) (by simp)) T1.2.2.1, by decide, by decide, by decide, by obtain ⟨G0, g1, g2⟩ := T1.2.2.2.2.2.2; exact ⟨G0, fun i hi => g1 i (by omega), fun i hi => absurd hi (Nat.not_lt_zero _)⟩⟩
  have K5 : QuC qo tk tl tz ph nd po k1 k2 k3 d ln c fk fs fe fd fp fn 0 0 0 0 (-1) f g h5 := ⟨e5, T5, rq ph _ (n2 E1 (by simp) (by simp)) E1, rq nd _ (n2 E2 (by simp) (by simp)) E2, P.fr rq ⟨n2 P.1 (by simp) (by simp), n2 P.2.1 (by simp) (by simp), n2 P.2.2.1 (by simp) (by simp), n2 P.2.2.2.1 (by simp) (by simp), n2 P.2.2.2.2.1 (by simp) (by simp)⟩, by decide, by decide, Nat.zero_le _, F1_.fr rq (fun a x y b ha => n2 ha (by simp) (by simp)) (Nat.le_refl _), N1_.fr rq (fun a vs ha => n2 ha (by simp) (by simp)) (Nat.le_refl _)⟩
  have hc := P.2.2.2.2.2.2.1
  obtain ⟨g9, hg9, hz9⟩ := Z
  have GZ : g 0 = 0 := by rw [T.2.2.1] at hg9; cases hg9; exact hz9
  have G0 : g 0 = nI 0 := GZ.trans nI_0.symm
  have X5 : QuT fd ln c fk fs fe fp fn 0 0 0 0 f g (0, [], []) [] [] h5 := ⟨LF, rfl, rfl, rfl, Nat.le_refl _, Nat.le_refl _, ⟨0, ⟨rfl, fun _ => 0, rfl, fun s hs => by rw [show s = 0 by omega]; exact G0, fun s hs => absurd hs (Nat.not_lt_zero _), rfl, fun s w hw => by cases hw⟩, Nat.zero_le _⟩, Nat.zero_le _, (fun i x hx => by cases hx), fun i x hx => by cases hx⟩
  have rA : FrO (po :: k1 :: k2 :: k3 :: B) h h5 := (fr1.mono (by simp)).trans (rq.mono (fun a ha => (fun a ha => List.mem_cons_of_mem _ (List.mem_cons_of_mem _ (List.mem_cons_of_mem _ (List.mem_cons_of_mem _ ha)))) a (suC A.1.1 (suC A.1.2.1 suN) a ha)))
  have r5 : FrO B h5 h5 := FrO.rf
  obtain ⟨eqo_4, T_5, eph_6, end_7, P_8, hp_9, hnn_10, ht_11, Fp_12, Nd_13⟩ := id K5
  obtain ⟨epo_14, ed_15, ek1_16, ek2_17, ek3_18, -, PF_19⟩ := id P_8
  have etk_20 := T_5.1
  refine x_callV (As := [.int 5, .int 3, .int 0]) (b := qo) (rest := []) (F1 := 94) (L1 := 3654) (mc := 0) (ms := 0) d_Question_read_46 cV_Question_65 (g_topH A h128 3 (by decide) _ _ _ ⟨_, _, _, _, _, _, _, K5, X5⟩) eqo_4 ⟨by decide, rfl⟩ ⟨by omega, by show 8 + (7 + 11) + 3654 ≤ _; omega⟩ ⟨by omega, by omega⟩ (Nat.le_of_ble_eq_true rfl) (fun v_33 h_32 p_34 => ?_)
  rcases p_34 with ⟨fr_21, ⟨hx_22, rfl, E_23⟩ | ⟨s_24, e_25, a_26, hx_27, rfl, he_28, ha_29, hc_30, D_31⟩⟩
  · skip
    have r_35 := r5.trans fr_21
    obtain ⟨p_36, nn_37, n_38, t_39, wp_40, f_41, g_42, K_43, G_44⟩ := E_23
    obtain ⟨eqo_45, T_46, eph_47, end_48, P_49, hp_50, hnn_51, ht_52, Fp_53, Nd_54⟩ := id K_43
    obtain ⟨epo_55, ed_56, ek1_57, ek2_58, ek3_59, -, PF_60⟩ := id P_49
    have etk_61 := T_46.1
    refine s_Question_read_49 (s0 := none) (fun z_62 => ?_) (fun _ z => absurd z (by simp))
    refine s_Question_read_66 (r3 := none) (fun z_63 => ?_) (fun _ z => absurd z (by simp))
    refine s_Question_read_74 ?_
    refine s_Question_read_75 rfl ?_
    exact ⟨0, c, fk, fs, fe, rfl, rA.trans (r_35.mono (fun a ha => List.mem_cons_of_mem _ (List.mem_cons_of_mem _ (List.mem_cons_of_mem _ (List.mem_cons_of_mem _ ha))))), Or.inl ⟨rfl, rj_n hx_22, ⟨_, _, _, _, _, _, _, K_43, G_44⟩⟩⟩
  · skip
    have r_64 := r5.trans fr_21
    obtain ⟨p_65, nn_66, n_67, t_68, wp_69, f_70, g_71, K_72, X_73⟩ := D_31
    obtain ⟨eqo_74, T_75, eph_76, end_77, P_78, hp_79, hnn_80, ht_81, Fp_82, Nd_83⟩ := id K_72
    obtain ⟨epo_84, ed_85, ek1_86, ek2_87, ek3_88, -, PF_89⟩ := id P_78
    have etk_90 := T_75.1
    refine s_Question_read_49 (s0 := some a_26) (fun z => absurd z (by simp)) (fun a_91 z_92 => ?_)
    refine s_Question_read_54 (r3 := some a_26) ?_
    refine x_callV (As := []) (b := qo) (rest := []) (F1 := 1) (L1 := 20) (mc := 0) (ms := 0) d_Question_read_55 cV_Question_69 (g_kind K_72 (by omega) (by omega)) eqo_74 ⟨by decide, rfl⟩ ⟨by omega, by show 8 + (1 + 11) + 20 ≤ _; omega⟩ ⟨by omega, by omega⟩ (Nat.le_of_ble_eq_true rfl) (fun v_94 h_93 p_95 => ?_)
    obtain ⟨rfl, rfl⟩ := p_95
    refine s_Question_read_58 (r3 := some a_26) (fun z_96 => ?_) (fun z_97 => ?_)
    · skip
      refine s_Question_read_66 (r3 := some a_26) (fun z => absurd z (by simp)) (fun a_98 z_99 => ?_)
      refine s_Question_read_70 ?_
      refine s_Question_read_75 rfl ?_
      exact ⟨1, c, fk, fs, fe, rfl, rA.trans (r_64.mono (fun a ha => List.mem_cons_of_mem _ (List.mem_cons_of_mem _ (List.mem_cons_of_mem _ (List.mem_cons_of_mem _ ha))))), Or.inr ⟨rfl, s_24, e_25, rj_0 hx_27 ((X_73.kv ht_81 (v := 0) (by decide)).mp z_96), hx_27, dp_LK.1 _ _ _ hx_27, ⟨_, _, _, _, _, _, _, K_72, X_73⟩⟩⟩
    · skip
      refine s_Question_read_61 ?_
      refine x_callV (As := []) (b := qo) (rest := []) (F1 := 1) (L1 := 20) (mc := 0) (ms := 0) d_Question_read_62 cV_Question_73 (g_refuse K_72 (by omega) (by omega)) eqo_74 ⟨by decide, rfl⟩ ⟨by omega, by show 8 + (1 + 11) + 20 ≤ _; omega⟩ ⟨by omega, by omega⟩ (Nat.le_of_ble_eq_true rfl) (fun v_104 h_103 p_105 => ?_)
      obtain ⟨rfl, ⟨wp_100, K_101⟩, fr_102⟩ := p_105
      have r_106 := r_64.trans (fr_102.mono (suC A.1.1 suN))
      obtain ⟨eqo_107, T_108, eph_109, end_110, P_111, hp_112, hnn_113, ht_114, Fp_115, Nd_116⟩ := id K_101
      obtain ⟨epo_117, ed_118, ek1_119, ek2_120, ek3_121, -, PF_122⟩ := id P_111
      have etk_123 := T_108.1
      refine x_le (xw_le_n (xw_le_n (xw_le_n (xw_le_n xw_le_e)))) ?_
      refine s_Question_read_65 (s0 := none) ?_
      refine s_Question_read_66 (r3 := none) (fun z_124 => ?_) (fun _ z => absurd z (by simp))
      refine s_Question_read_74 ?_
      refine s_Question_read_75 rfl ?_
      exact ⟨0, c, fk, fs, fe, rfl, rA.trans (r_106.mono (fun a ha => List.mem_cons_of_mem _ (List.mem_cons_of_mem _ (List.mem_cons_of_mem _ (List.mem_cons_of_mem _ ha))))), Or.inl ⟨rfl, rj_1 hx_27 (fun q => z_97 ((X_73.kv ht_81 (v := 0) (by decide)).mpr q)), ⟨_, _, _, _, _, _, _, K_101, X_73.g0⟩⟩⟩
