/-! the reference in general states: by program (wip/tools/gen3.py, gen4.py, gen5.py) -/
set_option maxHeartbeats 4000000 in
theorem f_phrase {G : xw_G} {F L : Nat} {h : xw_A} {x y p t asz : Nat} {kd bd : Int32} {fa c1 c2 ca cs : Nat → Int32} {asked_ firstToken_ starred_ tokenAt_ tokenSize_ : Nat} {m : Nat} {fs : List Value} (l : fs.length = 62) (e : h m = some (.inr (11, fs))) (g_at : fs[(28 : Nat)]? = some (.int (nI x))) (g_kind : fs[(29 : Nat)]? = some (.int kd)) (g_from : fs[(30 : Nat)]? = some (.int (nI x))) (g_to : fs[(31 : Nat)]? = some (.int (nI y))) (g_bad : fs[(33 : Nat)]? = some (.int bd)) (g_phrases : fs[(34 : Nat)]? = some (.int (nI p))) (g_tokens : fs[(35 : Nat)]? = some (.int (nI t))) (g_askedSize : fs[(11 : Nat)]? = some (.int (nI asz))) (g_asked : fs[(4 : Nat)]? = some (.ref asked_)) (e_asked : h asked_ = some (.inl (0, 96, .inl (fa)))) (g_firstToken : fs[(41 : Nat)]? = some (.ref firstToken_)) (e_firstToken : h firstToken_ = some (.inl (0, 13, .inl (c1)))) (g_starred : fs[(42 : Nat)]? = some (.ref starred_)) (e_starred : h starred_ = some (.inl (0, 13, .inl (c2)))) (g_tokenAt : fs[(43 : Nat)]? = some (.ref tokenAt_)) (e_tokenAt : h tokenAt_ = some (.inl (0, 60, .inl (ca)))) (g_tokenSize : fs[(44 : Nat)]? = some (.ref tokenSize_)) (e_tokenSize : h tokenSize_ = some (.inl (0, 60, .inl (cs)))) (n_firstToken_starred : firstToken_ ≠ starred_) (n_tokenAt_tokenSize : tokenAt_ ≠ tokenSize_) (hasz : asz ≤ 96) (PT : PtO fa asz x y kd) (J : JO fa asz t x) (TK : TkO ca cs t x) (hbd : bd < 0) (hp12 : p ≤ 12) (hF : 5 ≤ F) (hL : 107 ≤ L) :
    xw_Met G m_Model_phrase F L 0 0 [.ref m] h (fun v h' => v = none ∧ PhP m firstToken_ starred_ tokenAt_ tokenSize_ fs fa asz x p t c1 h h') (fun _ _ => False) := by
  refine xw_Met.of rfl (by decide) (Nat.le_of_ble_eq_true rfl) ?_
  have hxy0 := PT.1
  have hy97 := PT.2.1
  have ga0 : ∀ i : Nat, i ∉ [28, 29, 30, 31, 33, 34, 35] → fs[i]? = fs[i]? := fun _ _ => rfl
  have r0 : FrO [m, firstToken_, starred_, tokenAt_, tokenSize_] h h := FrO.rf
  refine s_Model_phrase_0 ?_
  refine x_callV (As := []) (b := m) (rest := [.ref m]) (F1 := 3) (L1 := 61) (mc := 0) (ms := 0) d_Model_phrase_2 cV_Model_244 (f_isString l e g_kind g_to g_askedSize g_asked e_asked PT.2.1 hasz (by omega) (by omega)) e ⟨by decide, rfl⟩ ⟨by omega, by show 8 + (1 + 11) + 61 ≤ _; omega⟩ ⟨by omega, by omega⟩ (Nat.le_of_ble_eq_true rfl) (fun v_4 h_3 p_5 => ?_)
  obtain ⟨⟨c_1, rfl, hc_2⟩, rfl⟩ := p_5
  refine s_Model_phrase_5 (fun z_6 => ?_) (fun z_7 => ?_)
  · skip
    refine s_Model_phrase_17 ?_
    refine s_Model_phrase_22 l e g_from ?_
    refine x_callV (As := [.int 1, .int (nI x)]) (b := m) (rest := []) (F1 := 1) (L1 := 20) (mc := 0) (ms := 0) d_Model_phrase_26 cV_Model_250 (f_wrongs (k := x) l e g_bad (by omega) (by omega) (by omega)) e ⟨by decide, rfl⟩ ⟨by omega, by show 8 + (3 + 11) + 20 ≤ _; omega⟩ ⟨by omega, by omega⟩ (Nat.le_of_ble_eq_true rfl) (fun v_18 h_17 p_19 => ?_)
    obtain ⟨rfl, bd_8, fs_9, hw_10, hk_11, l_12, e_13, g_14, ga_15, r_16⟩ := p_19
    have e_20 := r_16 asked_ _ (by simp only [List.mem_cons, List.not_mem_nil, or_false, not_or]; exact (xw_neC e_asked e (by simp))) e_asked
    have e_21 := r_16 firstToken_ _ (by simp only [List.mem_cons, List.not_mem_nil, or_false, not_or]; exact (xw_neC e_firstToken e (by simp))) e_firstToken
    have e_22 := r_16 starred_ _ (by simp only [List.mem_cons, List.not_mem_nil, or_false, not_or]; exact (xw_neC e_starred e (by simp))) e_starred
    have e_23 := r_16 tokenAt_ _ (by simp only [List.mem_cons, List.not_mem_nil, or_false, not_or]; exact (xw_neC e_tokenAt e (by simp))) e_tokenAt
    have e_24 := r_16 tokenSize_ _ (by simp only [List.mem_cons, List.not_mem_nil, or_false, not_or]; exact (xw_neC e_tokenSize e (by simp))) e_tokenSize
    have r_25 := r0.trans (r_16.mono (by simp))
    have g_26 : fs_9[(28 : Nat)]? = some (.int (nI x)) := (ga_15 28 (by decide)).trans g_at
    have g_27 : fs_9[(29 : Nat)]? = some (.int kd) := (ga_15 29 (by decide)).trans g_kind
    have g_28 : fs_9[(30 : Nat)]? = some (.int (nI x)) := (ga_15 30 (by decide)).trans g_from
    have g_29 : fs_9[(31 : Nat)]? = some (.int (nI y)) := (ga_15 31 (by decide)).trans g_to
    have g_30 : fs_9[(34 : Nat)]? = some (.int (nI p)) := (ga_15 34 (by decide)).trans g_phrases
    have g_31 : fs_9[(35 : Nat)]? = some (.int (nI t)) := (ga_15 35 (by decide)).trans g_tokens
    have g_32 : fs_9[(11 : Nat)]? = some (.int (nI asz)) := (ga_15 11 (by decide)).trans g_askedSize
    have g_33 : fs_9[(4 : Nat)]? = some (.ref asked_) := (ga_15 4 (by decide)).trans g_asked
    have g_34 : fs_9[(41 : Nat)]? = some (.ref firstToken_) := (ga_15 41 (by decide)).trans g_firstToken
    have g_35 : fs_9[(42 : Nat)]? = some (.ref starred_) := (ga_15 42 (by decide)).trans g_starred
    have g_36 : fs_9[(43 : Nat)]? = some (.ref tokenAt_) := (ga_15 43 (by decide)).trans g_tokenAt
    have g_37 : fs_9[(44 : Nat)]? = some (.ref tokenSize_) := (ga_15 44 (by decide)).trans g_tokenSize
    have ga_38 : ∀ i : Nat, i ∉ [28, 29, 30, 31, 33, 34, 35] → fs_9[i]? = fs[i]? := fun i hi => (ga_15 i (fun z => hi (by simp only [List.mem_cons, List.not_mem_nil, or_false] at z ⊢; omega))).trans (ga0 i hi)
    refine s_Model_phrase_29 l_12 e_13 g_14 (fun z => absurd (hw_10 z).1 (by decide)) (fun z_39 => ?_)
    refine s_Model_phrase_36 ?_
    exact ⟨rfl, _, _, p, _, _, _, _, _, _, _, _, PT, J, TK, by omega, by omega, by omega, by omega, fun q => absurd q z_39, l_12, e_13, g_26, g_27, g_28, g_29, g_14, g_30, g_31, ga_38, e_21, e_22, e_23, e_24, r_25⟩
  · skip
    refine s_Model_phrase_8 l e g_phrases (fun z_40 => ?_) (fun z_41 => ?_)
    · skip
      refine s_Model_phrase_21 ?_
      refine s_Model_phrase_22 l e g_from ?_
      refine x_callV (As := [.int 0, .int (nI x)]) (b := m) (rest := []) (F1 := 1) (L1 := 20) (mc := 0) (ms := 0) d_Model_phrase_26 cV_Model_250 (f_wrongs (k := x) l e g_bad (by omega) (by omega) (by omega)) e ⟨by decide, rfl⟩ ⟨by omega, by show 8 + (3 + 11) + 20 ≤ _; omega⟩ ⟨by omega, by omega⟩ (Nat.le_of_ble_eq_true rfl) (fun v_52 h_51 p_53 => ?_)
      obtain ⟨rfl, bd_42, fs_43, hw_44, hk_45, l_46, e_47, g_48, ga_49, r_50⟩ := p_53
      have e_54 := r_50 asked_ _ (by simp only [List.mem_cons, List.not_mem_nil, or_false, not_or]; exact (xw_neC e_asked e (by simp))) e_asked
      have e_55 := r_50 firstToken_ _ (by simp only [List.mem_cons, List.not_mem_nil, or_false, not_or]; exact (xw_neC e_firstToken e (by simp))) e_firstToken
      have e_56 := r_50 starred_ _ (by simp only [List.mem_cons, List.not_mem_nil, or_false, not_or]; exact (xw_neC e_starred e (by simp))) e_starred
      have e_57 := r_50 tokenAt_ _ (by simp only [List.mem_cons, List.not_mem_nil, or_false, not_or]; exact (xw_neC e_tokenAt e (by simp))) e_tokenAt
      have e_58 := r_50 tokenSize_ _ (by simp only [List.mem_cons, List.not_mem_nil, or_false, not_or]; exact (xw_neC e_tokenSize e (by simp))) e_tokenSize
      have r_59 := r0.trans (r_50.mono (by simp))
      have g_60 : fs_43[(28 : Nat)]? = some (.int (nI x)) := (ga_49 28 (by decide)).trans g_at
      have g_61 : fs_43[(29 : Nat)]? = some (.int kd) := (ga_49 29 (by decide)).trans g_kind
      have g_62 : fs_43[(30 : Nat)]? = some (.int (nI x)) := (ga_49 30 (by decide)).trans g_from
      have g_63 : fs_43[(31 : Nat)]? = some (.int (nI y)) := (ga_49 31 (by decide)).trans g_to
      have g_64 : fs_43[(34 : Nat)]? = some (.int (nI p)) := (ga_49 34 (by decide)).trans g_phrases
      have g_65 : fs_43[(35 : Nat)]? = some (.int (nI t)) := (ga_49 35 (by decide)).trans g_tokens
      have g_66 : fs_43[(11 : Nat)]? = some (.int (nI asz)) := (ga_49 11 (by decide)).trans g_askedSize
      have g_67 : fs_43[(4 : Nat)]? = some (.ref asked_) := (ga_49 4 (by decide)).trans g_asked
      have g_68 : fs_43[(41 : Nat)]? = some (.ref firstToken_) := (ga_49 41 (by decide)).trans g_firstToken
      have g_69 : fs_43[(42 : Nat)]? = some (.ref starred_) := (ga_49 42 (by decide)).trans g_starred
      have g_70 : fs_43[(43 : Nat)]? = some (.ref tokenAt_) := (ga_49 43 (by decide)).trans g_tokenAt
      have g_71 : fs_43[(44 : Nat)]? = some (.ref tokenSize_) := (ga_49 44 (by decide)).trans g_tokenSize
      have ga_72 : ∀ i : Nat, i ∉ [28, 29, 30, 31, 33, 34, 35] → fs_43[i]? = fs[i]? := fun i hi => (ga_49 i (fun z => hi (by simp only [List.mem_cons, List.not_mem_nil, or_false] at z ⊢; omega))).trans (ga0 i hi)
      refine s_Model_phrase_29 l_46 e_47 g_48 (fun z_73 => ?_) (fun z_74 => ?_)
      · skip
        have hpl : p < 12 := Nat.lt_of_le_of_ne hp12 (fun q => z_40 (by rw [q]; rfl))
        refine s_Model_phrase_37 l_46 e_47 g_68 g_64 g_65 e_55 (vp_in_nI (by omega) (by omega)) g_69 e_56 (vp_in_nI (by omega) (by omega)) (Ne.symm n_firstToken_starred) ?_
        refine x_u3 (fun h_75 e_76 f_77 h_78 e_79 f_80 h_81 e_82 f_83 => ?_)
        have e_84 := (f_77 asked_ (xw_neC e_54 e_55 (by simp))).trans e_54
        have e_85 := (f_77 starred_ (Ne.symm n_firstToken_starred)).trans e_56
        have e_86 := (f_77 tokenAt_ (xw_neC e_57 e_55 (by simp))).trans e_57
        have e_87 := (f_77 tokenSize_ (xw_neC e_58 e_55 (by simp))).trans e_58
        have e_88 := (f_77 m (xw_neC e_47 e_55 (by simp))).trans e_47
        have r_89 := r_59.up (by simp) f_77
        have e_90 := (f_80 asked_ (xw_neC e_84 e_85 (by simp))).trans e_84
        have e_91 := (f_80 firstToken_ n_firstToken_starred).trans e_76
        have e_92 := (f_80 tokenAt_ (xw_neC e_86 e_85 (by simp))).trans e_86
        have e_93 := (f_80 tokenSize_ (xw_neC e_87 e_85 (by simp))).trans e_87
        have e_94 := (f_80 m (xw_neC e_88 e_85 (by simp))).trans e_88
        have r_95 := r_89.up (by simp) f_80
        have e_96 := (f_83 asked_ (xw_neC e_90 e_94 (by simp))).trans e_90
        have e_97 := (f_83 firstToken_ (xw_neC e_91 e_94 (by simp))).trans e_91
        have e_98 := (f_83 starred_ (xw_neC e_79 e_94 (by simp))).trans e_79
        have e_99 := (f_83 tokenAt_ (xw_neC e_92 e_94 (by simp))).trans e_92
        have e_100 := (f_83 tokenSize_ (xw_neC e_93 e_94 (by simp))).trans e_93
        have r_101 := r_95.up (by simp) f_83
        obtain ⟨fs_102, z_103⟩ : ∃ z, z = fs_43.set 34 (.int ((nI p) + 1)) := ⟨_, rfl⟩
        rw [← z_103] at e_82
        have l_104 : fs_102.length = 62 := by rw [z_103]; simp only [List.length_set]; exact l_46
        have g_105 : fs_102[(4 : Nat)]? = some (.ref asked_) := by rw [z_103]; exact (xw_gn (by decide) g_67)
        have g_106 : fs_102[(11 : Nat)]? = some (.int (nI asz)) := by rw [z_103]; exact (xw_gn (by decide) g_66)
        have g_107 : fs_102[(28 : Nat)]? = some (.int (nI x)) := by rw [z_103]; exact (xw_gn (by decide) g_60)
        have g_108 : fs_102[(29 : Nat)]? = some (.int kd) := by rw [z_103]; exact (xw_gn (by decide) g_61)
        have g_109 : fs_102[(30 : Nat)]? = some (.int (nI x)) := by rw [z_103]; exact (xw_gn (by decide) g_62)
        have g_110 : fs_102[(31 : Nat)]? = some (.int (nI y)) := by rw [z_103]; exact (xw_gn (by decide) g_63)
        have g_111 : fs_102[(33 : Nat)]? = some (.int bd_42) := by rw [z_103]; exact (xw_gn (by decide) g_48)
        have g_112 : fs_102[(34 : Nat)]? = some (.int ((nI p) + 1)) := by rw [z_103]; exact (xw_gs (by simp [l_46]))
        have g_113 : fs_102[(35 : Nat)]? = some (.int (nI t)) := by rw [z_103]; exact (xw_gn (by decide) g_65)
        have g_114 : fs_102[(41 : Nat)]? = some (.ref firstToken_) := by rw [z_103]; exact (xw_gn (by decide) g_68)
        have g_115 : fs_102[(42 : Nat)]? = some (.ref starred_) := by rw [z_103]; exact (xw_gn (by decide) g_69)
        have g_116 : fs_102[(43 : Nat)]? = some (.ref tokenAt_) := by rw [z_103]; exact (xw_gn (by decide) g_70)
        have g_117 : fs_102[(44 : Nat)]? = some (.ref tokenSize_) := by rw [z_103]; exact (xw_gn (by decide) g_71)
        have ga_118 : ∀ i : Nat, i ∉ [28, 29, 30, 31, 33, 34, 35] → fs_102[i]? = fs[i]? := fun i hi => by rw [z_103]; exact xw_gn (fun z => hi (by rw [z]; simp)) (ga_72 i hi)
        clear z_103
        rw [nI_1] at g_112
        rw [nI_clamp (show p < 2 ^ 31 by omega)] at e_97
        have hk_133 := (hc_2.resolve_left z_7).2
        refine x_callV (As := []) (b := m) (rest := []) (F1 := 3) (L1 := 62) (mc := 0) (ms := 0) d_Model_phrase_71 cV_Model_254 (f_takeTokens l_104 e_82 g_109 g_110 g_113 g_106 g_105 e_96 g_116 e_99 g_117 e_100 n_tokenAt_tokenSize hasz PT hk_133 J TK (by omega) (by omega)) e_82 ⟨by decide, rfl⟩ ⟨by omega, by show 8 + (2 + 11) + 62 ≤ _; omega⟩ ⟨by omega, by omega⟩ (Nat.le_of_ble_eq_true rfl) (fun v_135 h_134 p_136 => ?_)
        obtain ⟨rfl, t_119, ca_120, cs_121, fs_122, ht_123, J_124, TK_125, l_126, e_127, g_128, ga_129, e_130, e_131, r_132⟩ := p_136
        have e_137 := r_132 asked_ _ (by simp only [List.mem_cons, List.not_mem_nil, or_false, not_or]; exact ⟨(xw_neC e_96 e_82 (by simp)), (xw_neC e_96 e_99 (by simp)), (xw_neC e_96 e_100 (by simp))⟩) e_96
        have e_138 := r_132 firstToken_ _ (by simp only [List.mem_cons, List.not_mem_nil, or_false, not_or]; exact ⟨(xw_neC e_97 e_82 (by simp)), (xw_neC e_97 e_99 (by simp)), (xw_neC e_97 e_100 (by simp))⟩) e_97
        have e_139 := r_132 starred_ _ (by simp only [List.mem_cons, List.not_mem_nil, or_false, not_or]; exact ⟨(xw_neC e_98 e_82 (by simp)), (xw_neC e_98 e_99 (by simp)), (xw_neC e_98 e_100 (by simp))⟩) e_98
        have r_140 := r_101.trans (r_132.mono (by simp))
        have g_141 : fs_122[(4 : Nat)]? = some (.ref asked_) := (ga_129 4 (by decide)).trans g_105
        have g_142 : fs_122[(11 : Nat)]? = some (.int (nI asz)) := (ga_129 11 (by decide)).trans g_106
        have g_143 : fs_122[(28 : Nat)]? = some (.int (nI x)) := (ga_129 28 (by decide)).trans g_107
        have g_144 : fs_122[(29 : Nat)]? = some (.int kd) := (ga_129 29 (by decide)).trans g_108
        have g_145 : fs_122[(30 : Nat)]? = some (.int (nI x)) := (ga_129 30 (by decide)).trans g_109
        have g_146 : fs_122[(31 : Nat)]? = some (.int (nI y)) := (ga_129 31 (by decide)).trans g_110
        have g_147 : fs_122[(33 : Nat)]? = some (.int bd_42) := (ga_129 33 (by decide)).trans g_111
        have g_148 : fs_122[(34 : Nat)]? = some (.int (nI (p + 1))) := (ga_129 34 (by decide)).trans g_112
        have g_149 : fs_122[(41 : Nat)]? = some (.ref firstToken_) := (ga_129 41 (by decide)).trans g_114
        have g_150 : fs_122[(42 : Nat)]? = some (.ref starred_) := (ga_129 42 (by decide)).trans g_115
        have g_151 : fs_122[(43 : Nat)]? = some (.ref tokenAt_) := (ga_129 43 (by decide)).trans g_116
        have g_152 : fs_122[(44 : Nat)]? = some (.ref tokenSize_) := (ga_129 44 (by decide)).trans g_117
        have ga_153 : ∀ i : Nat, i ∉ [28, 29, 30, 31, 33, 34, 35] → fs_122[i]? = fs[i]? := fun i hi => (ga_129 i (fun z => hi (by simp only [List.mem_cons, List.not_mem_nil, or_false] at z ⊢; omega))).trans (ga_118 i hi)
        refine s_Model_phrase_74 ?_
        refine x_callV (As := []) (b := m) (rest := []) (F1 := 4) (L1 := 87) (mc := 0) (ms := 0) d_Model_phrase_75 cV_Model_257 (f_next (x0 := y) l_126 e_127 g_143 g_144 g_145 g_146 g_142 g_141 e_137 PT.2.1 hasz (by omega) (by omega)) e_127 ⟨by decide, rfl⟩ ⟨by omega, by show 8 + (1 + 11) + 87 ≤ _; omega⟩ ⟨by omega, by omega⟩ (Nat.le_of_ble_eq_true rfl) (fun v_169 h_168 p_170 => ?_)
        obtain ⟨rfl, x_154, y_155, kd_156, fs_157, hx_158, PT_159, l_160, e_161, g_162, g_163, g_164, g_165, ga_166, r_167⟩ := p_170
        have e_171 := r_167 asked_ _ (by simp only [List.mem_cons, List.not_mem_nil, or_false, not_or]; exact (xw_neC e_137 e_127 (by simp))) e_137
        have e_172 := r_167 firstToken_ _ (by simp only [List.mem_cons, List.not_mem_nil, or_false, not_or]; exact (xw_neC e_138 e_127 (by simp))) e_138
        have e_173 := r_167 starred_ _ (by simp only [List.mem_cons, List.not_mem_nil, or_false, not_or]; exact (xw_neC e_139 e_127 (by simp))) e_139
        have e_174 := r_167 tokenAt_ _ (by simp only [List.mem_cons, List.not_mem_nil, or_false, not_or]; exact (xw_neC e_130 e_127 (by simp))) e_130
        have e_175 := r_167 tokenSize_ _ (by simp only [List.mem_cons, List.not_mem_nil, or_false, not_or]; exact (xw_neC e_131 e_127 (by simp))) e_131
        have r_176 := r_140.trans (r_167.mono (by simp))
        have g_177 : fs_157[(4 : Nat)]? = some (.ref asked_) := (ga_166 4 (by decide)).trans g_141
        have g_178 : fs_157[(11 : Nat)]? = some (.int (nI asz)) := (ga_166 11 (by decide)).trans g_142
        have g_179 : fs_157[(33 : Nat)]? = some (.int bd_42) := (ga_166 33 (by decide)).trans g_147
        have g_180 : fs_157[(34 : Nat)]? = some (.int (nI (p + 1))) := (ga_166 34 (by decide)).trans g_148
        have g_181 : fs_157[(41 : Nat)]? = some (.ref firstToken_) := (ga_166 41 (by decide)).trans g_149
        have g_182 : fs_157[(42 : Nat)]? = some (.ref starred_) := (ga_166 42 (by decide)).trans g_150
        have g_183 : fs_157[(43 : Nat)]? = some (.ref tokenAt_) := (ga_166 43 (by decide)).trans g_151
        have g_184 : fs_157[(44 : Nat)]? = some (.ref tokenSize_) := (ga_166 44 (by decide)).trans g_152
        have g_185 : fs_157[(35 : Nat)]? = some (.int (nI t_119)) := (ga_166 35 (by decide)).trans g_128
        have ga_186 : ∀ i : Nat, i ∉ [28, 29, 30, 31, 33, 34, 35] → fs_157[i]? = fs[i]? := fun i hi => (ga_166 i (fun z => hi (by simp only [List.mem_cons, List.not_mem_nil, or_false] at z ⊢; omega))).trans (ga_153 i hi)
        have J_187 := J_124.mono hx_158
        have TK_188 := TK_125.mono hx_158
        have hm_189 := Nat.le_trans PT.1 hx_158
        have hb_190 := Nat.le_trans PT_159.1 PT_159.2.1
        have hpr := Nat.lt_of_lt_of_le (PT.2.2.1 (by rcases hk_133 with q | q <;> (rw [q]; decide))) hx_158
        refine lp_ph (gs := fs_157) (h0 := h_168) (x0 := x_154) (t0 := t_119) g_177 g_178 g_183 g_184 e_171 ⟨(xw_neC e_171 e_161 (by simp)), (xw_neC e_171 e_174 (by simp)), (xw_neC e_171 e_175 (by simp))⟩ n_tokenAt_tokenSize hasz (by omega) (by omega) ⟨fun h9 i9 y9 kd9 bd9 t9 ca9 cs9 fs9 l9 e9 ga_ gb_ gc_ gd_ ge_ gf_ ga9 ea9 es9 PT9 J9 TK9 hbd9 hx9 ht9 r9 => ?_, fun h9 i9 y9 kd9 bd9 t9 ca9 cs9 fs9 l9 e9 ga_ gb_ gc_ gd_ ge_ gf_ ga9 ea9 es9 PT9 J9 TK9 hbd9 hx9 ht9 r9 => ?_⟩ 98 x_154 _ _ _ _ _ _ _ _ (by omega) (by omega) l_160 e_161 g_162 g_163 g_164 g_165 g_179 g_185 (fun _ _ => rfl) e_174 e_175 PT_159 J_187 TK_188 z_73 (Nat.le_refl _) (Nat.le_refl _) FrO.rf
        · skip
          have e_191 := r9 asked_ _ (by simp only [List.mem_cons, List.not_mem_nil, or_false, not_or]; exact ⟨(xw_neC e_171 e_161 (by simp)), (xw_neC e_171 e_174 (by simp)), (xw_neC e_171 e_175 (by simp))⟩) e_171
          have e_192 := r9 firstToken_ _ (by simp only [List.mem_cons, List.not_mem_nil, or_false, not_or]; exact ⟨(xw_neC e_172 e_161 (by simp)), (xw_neC e_172 e_174 (by simp)), (xw_neC e_172 e_175 (by simp))⟩) e_172
          have e_193 := r9 starred_ _ (by simp only [List.mem_cons, List.not_mem_nil, or_false, not_or]; exact ⟨(xw_neC e_173 e_161 (by simp)), (xw_neC e_173 e_174 (by simp)), (xw_neC e_173 e_175 (by simp))⟩) e_173
          have r_194 := r_176.trans (r9.mono (by simp))
          have g_195 : fs9[(4 : Nat)]? = some (.ref asked_) := (ga9 4 (by decide)).trans g_177
          have g_196 : fs9[(11 : Nat)]? = some (.int (nI asz)) := (ga9 11 (by decide)).trans g_178
          have g_197 : fs9[(34 : Nat)]? = some (.int (nI (p + 1))) := (ga9 34 (by decide)).trans g_180
          have g_198 : fs9[(41 : Nat)]? = some (.ref firstToken_) := (ga9 41 (by decide)).trans g_181
          have g_199 : fs9[(42 : Nat)]? = some (.ref starred_) := (ga9 42 (by decide)).trans g_182
          have g_200 : fs9[(43 : Nat)]? = some (.ref tokenAt_) := (ga9 43 (by decide)).trans g_183
          have g_201 : fs9[(44 : Nat)]? = some (.ref tokenSize_) := (ga9 44 (by decide)).trans g_184
          have ga_202 : ∀ i : Nat, i ∉ [28, 29, 30, 31, 33, 34, 35] → fs9[i]? = fs[i]? := fun i hi => (ga9 i (fun z => hi (by simp only [List.mem_cons, List.not_mem_nil, or_false] at z ⊢; omega))).trans (ga_186 i hi)
          have hb9 := Nat.le_trans PT9.1 PT9.2.1
          refine s_Model_phrase_137 l9 e9 gb_ (fun z_203 => ?_) (fun z_204 => ?_)
          · skip
            refine s_Model_phrase_162 l9 e9 g_198 g_197 gf_ e_192 (vp_in_nI (by omega) (by omega)) ?_
            obtain ⟨h_205, z_208⟩ : ∃ z, z = xw_up h9 firstToken_ (.inl (0, 13, .inl (upd (upd c1 p (nI t)) ((nI (p + 1))).toNatClampNeg (nI t9)))) := ⟨_, rfl⟩
            rw [← z_208]
            have e_206 : h_205 firstToken_ = some (.inl (0, 13, .inl (upd (upd c1 p (nI t)) ((nI (p + 1))).toNatClampNeg (nI t9)))) := by rw [z_208]; exact xw_up_s _ _ _
            have f_207 : ∀ q, q ≠ firstToken_ → h_205 q = h9 q := fun q hq => by rw [z_208]; exact xw_up_n _ _ hq
            clear z_208
            have e_209 := (f_207 asked_ (xw_neC e_191 e_192 (by simp))).trans e_191
            have e_210 := (f_207 starred_ (Ne.symm n_firstToken_starred)).trans e_193
            have e_211 := (f_207 tokenAt_ (xw_neC ea9 e_192 (by simp))).trans ea9
            have e_212 := (f_207 tokenSize_ (xw_neC es9 e_192 (by simp))).trans es9
            have e_213 := (f_207 m (xw_neC e9 e_192 (by simp))).trans e9
            have r_214 := r_194.up (by simp) f_207
            rw [nI_clamp (show p + 1 < 2 ^ 31 by omega)] at e_206
            exact ⟨rfl, _, _, (p + 1), _, _, _, _, _, _, _, _, PT9, J9, TK9, by omega, by omega, by omega, by omega, fun _ => ⟨by omega, rfl, by rw [pk_un (by omega), pk_us], pk_us, fun k hk => by rw [pk_un (by omega), pk_un (by omega)]⟩, l9, e_213, ga_, gb_, gc_, gd_, ge_, g_197, gf_, ga_202, e_206, e_210, e_211, e_212, r_214⟩
          · skip
            refine s_Model_phrase_146 l9 e9 g_199 g_197 e_193 (by rw [nI_pred]; exact vp_in_nI (by omega) (by decide)) ?_
            refine x_u1 (fun h_215 e_216 f_217 => ?_)
            have e_218 := (f_217 asked_ (xw_neC e_191 e_193 (by simp))).trans e_191
            have e_219 := (f_217 firstToken_ n_firstToken_starred).trans e_192
            have e_220 := (f_217 tokenAt_ (xw_neC ea9 e_193 (by simp))).trans ea9
            have e_221 := (f_217 tokenSize_ (xw_neC es9 e_193 (by simp))).trans es9
            have e_222 := (f_217 m (xw_neC e9 e_193 (by simp))).trans e9
            have r_223 := r_194.up (by simp) f_217
            refine x_callV (As := []) (b := m) (rest := []) (F1 := 4) (L1 := 87) (mc := 0) (ms := 0) d_Model_phrase_159 cV_Model_257 (f_next (x0 := y9) l9 e_222 ga_ gb_ gc_ gd_ g_196 g_195 e_218 PT9.2.1 hasz (by omega) (by omega)) e_222 ⟨by decide, rfl⟩ ⟨by omega, by show 8 + (1 + 11) + 87 ≤ _; omega⟩ ⟨by omega, by omega⟩ (Nat.le_of_ble_eq_true rfl) (fun v_239 h_238 p_240 => ?_)
            obtain ⟨rfl, x_224, y_225, kd_226, fs_227, hx_228, PT_229, l_230, e_231, g_232, g_233, g_234, g_235, ga_236, r_237⟩ := p_240
            have e_241 := r_237 asked_ _ (by simp only [List.mem_cons, List.not_mem_nil, or_false, not_or]; exact (xw_neC e_218 e_222 (by simp))) e_218
            have e_242 := r_237 firstToken_ _ (by simp only [List.mem_cons, List.not_mem_nil, or_false, not_or]; exact (xw_neC e_219 e_222 (by simp))) e_219
            have e_243 := r_237 starred_ _ (by simp only [List.mem_cons, List.not_mem_nil, or_false, not_or]; exact (xw_neC e_216 e_222 (by simp))) e_216
            have e_244 := r_237 tokenAt_ _ (by simp only [List.mem_cons, List.not_mem_nil, or_false, not_or]; exact (xw_neC e_220 e_222 (by simp))) e_220
            have e_245 := r_237 tokenSize_ _ (by simp only [List.mem_cons, List.not_mem_nil, or_false, not_or]; exact (xw_neC e_221 e_222 (by simp))) e_221
            have r_246 := r_223.trans (r_237.mono (by simp))
            have g_247 : fs_227[(4 : Nat)]? = some (.ref asked_) := (ga_236 4 (by decide)).trans g_195
            have g_248 : fs_227[(11 : Nat)]? = some (.int (nI asz)) := (ga_236 11 (by decide)).trans g_196
            have g_249 : fs_227[(34 : Nat)]? = some (.int (nI (p + 1))) := (ga_236 34 (by decide)).trans g_197
            have g_250 : fs_227[(41 : Nat)]? = some (.ref firstToken_) := (ga_236 41 (by decide)).trans g_198
            have g_251 : fs_227[(42 : Nat)]? = some (.ref starred_) := (ga_236 42 (by decide)).trans g_199
            have g_252 : fs_227[(43 : Nat)]? = some (.ref tokenAt_) := (ga_236 43 (by decide)).trans g_200
            have g_253 : fs_227[(44 : Nat)]? = some (.ref tokenSize_) := (ga_236 44 (by decide)).trans g_201
            have g_254 : fs_227[(33 : Nat)]? = some (.int bd9) := (ga_236 33 (by decide)).trans ge_
            have g_255 : fs_227[(35 : Nat)]? = some (.int (nI t9)) := (ga_236 35 (by decide)).trans gf_
            have ga_256 : ∀ i : Nat, i ∉ [28, 29, 30, 31, 33, 34, 35] → fs_227[i]? = fs[i]? := fun i hi => (ga_236 i (fun z => hi (by simp only [List.mem_cons, List.not_mem_nil, or_false] at z ⊢; omega))).trans (ga_202 i hi)
            have J_257 := J9.mono (Nat.le_trans PT9.1 hx_228)
            have TK_258 := TK9.mono (Nat.le_trans PT9.1 hx_228)
            have hm_259 := Nat.le_trans PT9.1 hx_228
            have hb_260 := Nat.le_trans PT_229.1 PT_229.2.1
            refine s_Model_phrase_162 l_230 e_231 g_250 g_249 g_255 e_242 (vp_in_nI (by omega) (by omega)) ?_
            obtain ⟨h_261, z_264⟩ : ∃ z, z = xw_up h_238 firstToken_ (.inl (0, 13, .inl (upd (upd c1 p (nI t)) ((nI (p + 1))).toNatClampNeg (nI t9)))) := ⟨_, rfl⟩
            rw [← z_264]
            have e_262 : h_261 firstToken_ = some (.inl (0, 13, .inl (upd (upd c1 p (nI t)) ((nI (p + 1))).toNatClampNeg (nI t9)))) := by rw [z_264]; exact xw_up_s _ _ _
            have f_263 : ∀ q, q ≠ firstToken_ → h_261 q = h_238 q := fun q hq => by rw [z_264]; exact xw_up_n _ _ hq
            clear z_264
            have e_265 := (f_263 asked_ (xw_neC e_241 e_242 (by simp))).trans e_241
            have e_266 := (f_263 starred_ (Ne.symm n_firstToken_starred)).trans e_243
            have e_267 := (f_263 tokenAt_ (xw_neC e_244 e_242 (by simp))).trans e_244
            have e_268 := (f_263 tokenSize_ (xw_neC e_245 e_242 (by simp))).trans e_245
            have e_269 := (f_263 m (xw_neC e_231 e_242 (by simp))).trans e_231
            have r_270 := r_246.up (by simp) f_263
            rw [nI_clamp (show p + 1 < 2 ^ 31 by omega)] at e_262
            exact ⟨rfl, _, _, (p + 1), _, _, _, _, _, _, _, _, PT_229, J_257, TK_258, by omega, by omega, by omega, by omega, fun _ => ⟨by omega, rfl, by rw [pk_un (by omega), pk_us], pk_us, fun k hk => by rw [pk_un (by omega), pk_un (by omega)]⟩, l_230, e_269, g_232, g_233, g_234, g_235, g_254, g_249, g_255, ga_256, e_262, e_266, e_267, e_268, r_270⟩
        · skip
          have e_271 := r9 asked_ _ (by simp only [List.mem_cons, List.not_mem_nil, or_false, not_or]; exact ⟨(xw_neC e_171 e_161 (by simp)), (xw_neC e_171 e_174 (by simp)), (xw_neC e_171 e_175 (by simp))⟩) e_171
          have e_272 := r9 firstToken_ _ (by simp only [List.mem_cons, List.not_mem_nil, or_false, not_or]; exact ⟨(xw_neC e_172 e_161 (by simp)), (xw_neC e_172 e_174 (by simp)), (xw_neC e_172 e_175 (by simp))⟩) e_172
          have e_273 := r9 starred_ _ (by simp only [List.mem_cons, List.not_mem_nil, or_false, not_or]; exact ⟨(xw_neC e_173 e_161 (by simp)), (xw_neC e_173 e_174 (by simp)), (xw_neC e_173 e_175 (by simp))⟩) e_173
          have r_274 := r_176.trans (r9.mono (by simp))
          have g_275 : fs9[(4 : Nat)]? = some (.ref asked_) := (ga9 4 (by decide)).trans g_177
          have g_276 : fs9[(11 : Nat)]? = some (.int (nI asz)) := (ga9 11 (by decide)).trans g_178
          have g_277 : fs9[(34 : Nat)]? = some (.int (nI (p + 1))) := (ga9 34 (by decide)).trans g_180
          have g_278 : fs9[(41 : Nat)]? = some (.ref firstToken_) := (ga9 41 (by decide)).trans g_181
          have g_279 : fs9[(42 : Nat)]? = some (.ref starred_) := (ga9 42 (by decide)).trans g_182
          have g_280 : fs9[(43 : Nat)]? = some (.ref tokenAt_) := (ga9 43 (by decide)).trans g_183
          have g_281 : fs9[(44 : Nat)]? = some (.ref tokenSize_) := (ga9 44 (by decide)).trans g_184
          have ga_282 : ∀ i : Nat, i ∉ [28, 29, 30, 31, 33, 34, 35] → fs9[i]? = fs[i]? := fun i hi => (ga9 i (fun z => hi (by simp only [List.mem_cons, List.not_mem_nil, or_false] at z ⊢; omega))).trans (ga_186 i hi)
          have hb9 := Nat.le_trans PT9.1 PT9.2.1
          exact ⟨rfl, _, _, (p + 1), _, _, _, _, _, _, _, _, PT9, J9, TK9, by omega, by omega, by omega, by omega, fun q => absurd q hbd9, l9, e9, ga_, gb_, gc_, gd_, ge_, g_277, gf_, ga_282, e_272, e_273, ea9, es9, r_274⟩
      · skip
        refine s_Model_phrase_36 ?_
        exact ⟨rfl, _, _, p, _, _, _, _, _, _, _, _, PT, J, TK, by omega, by omega, by omega, by omega, fun q => absurd q z_74, l_46, e_47, g_60, g_61, g_62, g_63, g_48, g_64, g_65, ga_72, e_55, e_56, e_57, e_58, r_59⟩
    · skip
      refine s_Model_phrase_17 ?_
      refine s_Model_phrase_22 l e g_from ?_
      refine x_callV (As := [.int 1, .int (nI x)]) (b := m) (rest := []) (F1 := 1) (L1 := 20) (mc := 0) (ms := 0) d_Model_phrase_26 cV_Model_250 (f_wrongs (k := x) l e g_bad (by omega) (by omega) (by omega)) e ⟨by decide, rfl⟩ ⟨by omega, by show 8 + (3 + 11) + 20 ≤ _; omega⟩ ⟨by omega, by omega⟩ (Nat.le_of_ble_eq_true rfl) (fun v_293 h_292 p_294 => ?_)
      obtain ⟨rfl, bd_283, fs_284, hw_285, hk_286, l_287, e_288, g_289, ga_290, r_291⟩ := p_294
      have e_295 := r_291 asked_ _ (by simp only [List.mem_cons, List.not_mem_nil, or_false, not_or]; exact (xw_neC e_asked e (by simp))) e_asked
      have e_296 := r_291 firstToken_ _ (by simp only [List.mem_cons, List.not_mem_nil, or_false, not_or]; exact (xw_neC e_firstToken e (by simp))) e_firstToken
      have e_297 := r_291 starred_ _ (by simp only [List.mem_cons, List.not_mem_nil, or_false, not_or]; exact (xw_neC e_starred e (by simp))) e_starred
      have e_298 := r_291 tokenAt_ _ (by simp only [List.mem_cons, List.not_mem_nil, or_false, not_or]; exact (xw_neC e_tokenAt e (by simp))) e_tokenAt
      have e_299 := r_291 tokenSize_ _ (by simp only [List.mem_cons, List.not_mem_nil, or_false, not_or]; exact (xw_neC e_tokenSize e (by simp))) e_tokenSize
      have r_300 := r0.trans (r_291.mono (by simp))
      have g_301 : fs_284[(28 : Nat)]? = some (.int (nI x)) := (ga_290 28 (by decide)).trans g_at
      have g_302 : fs_284[(29 : Nat)]? = some (.int kd) := (ga_290 29 (by decide)).trans g_kind
      have g_303 : fs_284[(30 : Nat)]? = some (.int (nI x)) := (ga_290 30 (by decide)).trans g_from
      have g_304 : fs_284[(31 : Nat)]? = some (.int (nI y)) := (ga_290 31 (by decide)).trans g_to
      have g_305 : fs_284[(34 : Nat)]? = some (.int (nI p)) := (ga_290 34 (by decide)).trans g_phrases
      have g_306 : fs_284[(35 : Nat)]? = some (.int (nI t)) := (ga_290 35 (by decide)).trans g_tokens
      have g_307 : fs_284[(11 : Nat)]? = some (.int (nI asz)) := (ga_290 11 (by decide)).trans g_askedSize
      have g_308 : fs_284[(4 : Nat)]? = some (.ref asked_) := (ga_290 4 (by decide)).trans g_asked
      have g_309 : fs_284[(41 : Nat)]? = some (.ref firstToken_) := (ga_290 41 (by decide)).trans g_firstToken
      have g_310 : fs_284[(42 : Nat)]? = some (.ref starred_) := (ga_290 42 (by decide)).trans g_starred
      have g_311 : fs_284[(43 : Nat)]? = some (.ref tokenAt_) := (ga_290 43 (by decide)).trans g_tokenAt
      have g_312 : fs_284[(44 : Nat)]? = some (.ref tokenSize_) := (ga_290 44 (by decide)).trans g_tokenSize
      have ga_313 : ∀ i : Nat, i ∉ [28, 29, 30, 31, 33, 34, 35] → fs_284[i]? = fs[i]? := fun i hi => (ga_290 i (fun z => hi (by simp only [List.mem_cons, List.not_mem_nil, or_false] at z ⊢; omega))).trans (ga0 i hi)
      refine s_Model_phrase_29 l_287 e_288 g_289 (fun z => absurd (hw_285 z).1 (by decide)) (fun z_314 => ?_)
      refine s_Model_phrase_36 ?_
      exact ⟨rfl, _, _, p, _, _, _, _, _, _, _, _, PT, J, TK, by omega, by omega, by omega, by omega, fun q => absurd q z_314, l_287, e_288, g_301, g_302, g_303, g_304, g_289, g_305, g_306, ga_313, e_296, e_297, e_298, e_299, r_300⟩
