/-! the reference in general states: by program (wip/tools/gen5.py, gen6.py, gen7.py) -/
theorem FiP.pre {m top_ masks_ : Nat} {fs fs1 : List Value} {fa : Nat → Int32} {asz x x1 n : Nat} {ct : Nat → Int32} {h h1 h2 : xw_A} (hga : ∀ i : Nat, i ∉ [28, 29, 30, 31] → fs1[i]? = fs[i]?) (r : FrO [m] h h1) (hx : x ≤ x1) (q : FiP m top_ masks_ fs1 fa asz x1 n ct h1 h2) (hs : x < x1) : FiP m top_ masks_ fs fa asz x n ct h h2 := by
  obtain ⟨x', y', n', kd', bd', mk', ct', cm', fs', a1, a2, a3, a4, a5, a6, a7, a8, a9, b1, b2, b3, b4, b5, b6, b7, b8⟩ := q
  exact ⟨x', y', n', kd', bd', mk', ct', cm', fs', a1, by omega, fun z => ⟨by omega, (a3 z).2⟩, a4, a5, a6, a7, a8, a9, b1, b2, b3, b4, fun i hi => (b5 i hi).trans (hga i (fun z => hi (by simp only [List.mem_cons, List.not_mem_nil, or_false] at z ⊢; omega))), b6, b7, (r.mono (by simp)).trans b8⟩
set_option maxHeartbeats 8000000 in
theorem f_filterB {G : xw_G} {F L bc bs : Nat} {pr : Option Value → xw_A → Prop} {px : String → xw_A → Prop} {h : xw_A} {x y t n asz : Nat} {kd bd mk : Int32} {fa ca cs ct cm : Nat → Int32} {asked_ top_ masks_ : Nat} {m : Nat} {fs : List Value} (l : fs.length = 62) (e : h m = some (.inr (11, fs))) (g_at : fs[(28 : Nat)]? = some (.int (nI x))) (g_kind : fs[(29 : Nat)]? = some (.int kd)) (g_from : fs[(30 : Nat)]? = some (.int (nI x))) (g_to : fs[(31 : Nat)]? = some (.int (nI y))) (g_bad : fs[(33 : Nat)]? = some (.int bd)) (g_tops : fs[(38 : Nat)]? = some (.int (nI n))) (g_mask : fs[(39 : Nat)]? = some (.int mk)) (g_askedSize : fs[(11 : Nat)]? = some (.int (nI asz))) (g_asked : fs[(4 : Nat)]? = some (.ref asked_)) (e_asked : h asked_ = some (.inl (0, 96, .inl (fa)))) (g_top : fs[(51 : Nat)]? = some (.ref top_)) (e_top : h top_ = some (.inl (0, 60, .inl (ct)))) (g_masks : fs[(52 : Nat)]? = some (.ref masks_)) (e_masks : h masks_ = some (.inl (0, 60, .inl (cm)))) (n_top_masks : top_ ≠ masks_) {x0 : Nat} {a nt : Int32} (hasz : asz ≤ 96) (PT : PtO fa asz x y kd) (J : JO fa asz t x) (TK : TkO ca cs t x) (hbd : bd < 0) (hn : n < 60) (hx0 : x0 ≤ 97) (hD8 : cntD ct n ≤ 8) (hF : 5 ≤ F) (hL : 107 ≤ L) (kk : ∀ (h' : xw_A) (x' y' n' : Nat) (kd' bd' mk' : Int32) (ct' cm' : Nat → Int32) (fs' : List Value), PtO fa asz x' y' kd' → x ≤ x' → (bd' < 0 → ¬ kd = 0 → x < x') → (bd' < 0 → n' = n + 1 ∧ ct' = upd ct n 6 ∧ cntD ct n ≤ 7) → (¬ bd' < 0 → n' = n ∧ ct' = ct) → fs'.length = 62 → h' m = some (.inr (11, fs')) → fs'[(28 : Nat)]? = some (.int (nI x')) → fs'[(29 : Nat)]? = some (.int kd') → fs'[(30 : Nat)]? = some (.int (nI x')) → fs'[(31 : Nat)]? = some (.int (nI y')) → fs'[(33 : Nat)]? = some (.int bd') → fs'[(38 : Nat)]? = some (.int (nI n')) → fs'[(39 : Nat)]? = some (.int mk') → (∀ i : Nat, i ∉ [28, 29, 30, 31, 33, 38, 39] → fs'[i]? = fs[i]?) → h' top_ = some (.inl (0, 60, .inl ct')) → h' masks_ = some (.inl (0, 60, .inl cm')) → FrO [m, top_, masks_] h h' → pr none h') : xw G m_Model_filter F L bc bs pr px 90 [some (.ref m), some (.int (nI x0)), some (.int nt), none] [.int a, .ref m] h := by
  have hxy0 := PT.1
  have hy97 := PT.2.1
  have ga0 : ∀ i : Nat, i ∉ [28, 29, 30, 31, 33, 38, 39] → fs[i]? = fs[i]? := fun _ _ => rfl
  have r0 : FrO [m, top_, masks_] h h := FrO.rf
  refine s_Model_filter_90 l e g_from ?_
  refine x_callV (As := [.int a, .int (nI x)]) (b := m) (rest := []) (F1 := 1) (L1 := 20) (mc := 0) (ms := 0) d_Model_filter_94 cV_Model_250 (f_wrongs (k := x) l e g_bad (by omega) (by omega) (by omega)) e ⟨by decide, rfl⟩ ⟨by omega, by show 8 + (3 + 11) + 20 ≤ _; omega⟩ ⟨by omega, by omega⟩ (Nat.le_of_ble_eq_true rfl) (fun v_11 h_10 p_12 => ?_)
  obtain ⟨rfl, bd_1, fs_2, hw_3, hk_4, l_5, e_6, g_7, ga_8, r_9⟩ := p_12
  have e_13 := r_9 asked_ _ (by simp only [List.mem_cons, List.not_mem_nil, or_false, not_or]; exact (xw_neC e_asked e (by simp))) e_asked
  have e_14 := r_9 top_ _ (by simp only [List.mem_cons, List.not_mem_nil, or_false, not_or]; exact (xw_neC e_top e (by simp))) e_top
  have e_15 := r_9 masks_ _ (by simp only [List.mem_cons, List.not_mem_nil, or_false, not_or]; exact (xw_neC e_masks e (by simp))) e_masks
  have r_16 := r0.trans (r_9.mono (by simp))
  have g_17 : fs_2[(28 : Nat)]? = some (.int (nI x)) := (ga_8 28 (by decide)).trans g_at
  have g_18 : fs_2[(29 : Nat)]? = some (.int kd) := (ga_8 29 (by decide)).trans g_kind
  have g_19 : fs_2[(30 : Nat)]? = some (.int (nI x)) := (ga_8 30 (by decide)).trans g_from
  have g_20 : fs_2[(31 : Nat)]? = some (.int (nI y)) := (ga_8 31 (by decide)).trans g_to
  have g_21 : fs_2[(38 : Nat)]? = some (.int (nI n)) := (ga_8 38 (by decide)).trans g_tops
  have g_22 : fs_2[(39 : Nat)]? = some (.int mk) := (ga_8 39 (by decide)).trans g_mask
  have g_23 : fs_2[(11 : Nat)]? = some (.int (nI asz)) := (ga_8 11 (by decide)).trans g_askedSize
  have g_24 : fs_2[(4 : Nat)]? = some (.ref asked_) := (ga_8 4 (by decide)).trans g_asked
  have g_25 : fs_2[(51 : Nat)]? = some (.ref top_) := (ga_8 51 (by decide)).trans g_top
  have g_26 : fs_2[(52 : Nat)]? = some (.ref masks_) := (ga_8 52 (by decide)).trans g_masks
  have ga_27 : ∀ i : Nat, i ∉ [28, 29, 30, 31, 33, 38, 39] → fs_2[i]? = fs[i]? := fun i hi => (ga_8 i (fun z => hi (by simp only [List.mem_cons, List.not_mem_nil, or_false] at z ⊢; omega))).trans (ga0 i hi)
  refine s_Model_filter_97 ?_
  refine x_callV (As := []) (b := m) (rest := [.ref m]) (F1 := 1) (L1 := 20) (mc := 0) (ms := 0) d_Model_filter_99 cV_Model_288 (f_depth l_5 e_6 g_21 g_25 e_14 (by omega) (by omega) (by omega)) e_6 ⟨by decide, rfl⟩ ⟨by omega, by show 8 + (3 + 11) + 20 ≤ _; omega⟩ ⟨by omega, by omega⟩ (Nat.le_of_ble_eq_true rfl) (fun v_29 h_28 p_30 => ?_)
  obtain ⟨rfl, rfl⟩ := p_30
  refine s_Model_filter_102 (fun z_31 => ?_) (fun z_32 => ?_)
  · skip
    refine s_Model_filter_111 ?_
    refine s_Model_filter_112 ?_
    refine x_callV (As := [.int 0, .int (nI x0)]) (b := m) (rest := []) (F1 := 1) (L1 := 20) (mc := 0) (ms := 0) d_Model_filter_113 cV_Model_250 (f_wrongs (k := x0) l_5 e_6 g_7 (by omega) (by omega) (by omega)) e_6 ⟨by decide, rfl⟩ ⟨by omega, by show 8 + (3 + 11) + 20 ≤ _; omega⟩ ⟨by omega, by omega⟩ (Nat.le_of_ble_eq_true rfl) (fun v_43 h_42 p_44 => ?_)
    obtain ⟨rfl, bd_33, fs_34, hw_35, hk_36, l_37, e_38, g_39, ga_40, r_41⟩ := p_44
    have e_45 := r_41 asked_ _ (by simp only [List.mem_cons, List.not_mem_nil, or_false, not_or]; exact (xw_neC e_13 e_6 (by simp))) e_13
    have e_46 := r_41 top_ _ (by simp only [List.mem_cons, List.not_mem_nil, or_false, not_or]; exact (xw_neC e_14 e_6 (by simp))) e_14
    have e_47 := r_41 masks_ _ (by simp only [List.mem_cons, List.not_mem_nil, or_false, not_or]; exact (xw_neC e_15 e_6 (by simp))) e_15
    have r_48 := r_16.trans (r_41.mono (by simp))
    have g_49 : fs_34[(28 : Nat)]? = some (.int (nI x)) := (ga_40 28 (by decide)).trans g_17
    have g_50 : fs_34[(29 : Nat)]? = some (.int kd) := (ga_40 29 (by decide)).trans g_18
    have g_51 : fs_34[(30 : Nat)]? = some (.int (nI x)) := (ga_40 30 (by decide)).trans g_19
    have g_52 : fs_34[(31 : Nat)]? = some (.int (nI y)) := (ga_40 31 (by decide)).trans g_20
    have g_53 : fs_34[(38 : Nat)]? = some (.int (nI n)) := (ga_40 38 (by decide)).trans g_21
    have g_54 : fs_34[(39 : Nat)]? = some (.int mk) := (ga_40 39 (by decide)).trans g_22
    have g_55 : fs_34[(11 : Nat)]? = some (.int (nI asz)) := (ga_40 11 (by decide)).trans g_23
    have g_56 : fs_34[(4 : Nat)]? = some (.ref asked_) := (ga_40 4 (by decide)).trans g_24
    have g_57 : fs_34[(51 : Nat)]? = some (.ref top_) := (ga_40 51 (by decide)).trans g_25
    have g_58 : fs_34[(52 : Nat)]? = some (.ref masks_) := (ga_40 52 (by decide)).trans g_26
    have ga_59 : ∀ i : Nat, i ∉ [28, 29, 30, 31, 33, 38, 39] → fs_34[i]? = fs[i]? := fun i hi => (ga_40 i (fun z => hi (by simp only [List.mem_cons, List.not_mem_nil, or_false] at z ⊢; omega))).trans (ga_27 i hi)
    refine x_le (xw_le_s (xw_le_n (xw_le_s (xw_le_n xw_le_e)))) ?_
    refine s_Model_filter_116 l_37 e_38 g_39 (fun z_60 => ?_) (fun z_61 => ?_)
    · skip
      have hD7 : cntD ct n ≤ 7 := by have q9 : ¬ cntD ct n = 8 := fun q => z_31 (by rw [q]; rfl); omega
      refine s_Model_filter_124 ?_
      refine x_callV (As := [.int 6]) (b := m) (rest := []) (F1 := 1) (L1 := 20) (mc := 0) (ms := 0) d_Model_filter_127 cV_Model_285 (f_pushes (n := n) l_37 e_38 g_53 g_54 g_57 e_46 g_58 e_47 n_top_masks (by omega) (by omega) (by omega)) e_38 ⟨by decide, rfl⟩ ⟨by omega, by show 8 + (2 + 11) + 20 ≤ _; omega⟩ ⟨by omega, by omega⟩ (Nat.le_of_ble_eq_true rfl) (fun v_72 h_71 p_73 => ?_)
      obtain ⟨rfl, cm_62, fs_63, l_64, e_65, g_66, ga_67, e_68, e_69, r_70⟩ := p_73
      have e_74 := r_70 asked_ _ (by simp only [List.mem_cons, List.not_mem_nil, or_false, not_or]; exact ⟨(xw_neC e_45 e_38 (by simp)), (xw_neC e_45 e_46 (by simp)), (xw_neC e_45 e_47 (by simp))⟩) e_45
      have r_75 := r_48.trans (r_70.mono (by simp))
      have g_76 : fs_63[(28 : Nat)]? = some (.int (nI x)) := (ga_67 28 (by decide)).trans g_49
      have g_77 : fs_63[(29 : Nat)]? = some (.int kd) := (ga_67 29 (by decide)).trans g_50
      have g_78 : fs_63[(30 : Nat)]? = some (.int (nI x)) := (ga_67 30 (by decide)).trans g_51
      have g_79 : fs_63[(31 : Nat)]? = some (.int (nI y)) := (ga_67 31 (by decide)).trans g_52
      have g_80 : fs_63[(39 : Nat)]? = some (.int mk) := (ga_67 39 (by decide)).trans g_54
      have g_81 : fs_63[(11 : Nat)]? = some (.int (nI asz)) := (ga_67 11 (by decide)).trans g_55
      have g_82 : fs_63[(4 : Nat)]? = some (.ref asked_) := (ga_67 4 (by decide)).trans g_56
      have g_83 : fs_63[(51 : Nat)]? = some (.ref top_) := (ga_67 51 (by decide)).trans g_57
      have g_84 : fs_63[(52 : Nat)]? = some (.ref masks_) := (ga_67 52 (by decide)).trans g_58
      have g_85 : fs_63[(33 : Nat)]? = some (.int bd_33) := (ga_67 33 (by decide)).trans g_39
      have ga_86 : ∀ i : Nat, i ∉ [28, 29, 30, 31, 33, 38, 39] → fs_63[i]? = fs[i]? := fun i hi => (ga_67 i (fun z => hi (by simp only [List.mem_cons, List.not_mem_nil, or_false] at z ⊢; omega))).trans (ga_59 i hi)
      refine s_Model_filter_130 l_64 e_65 g_80 g_78 ?_
      refine x_callV (As := [.int (nI x)]) (b := m) (rest := [.int mk, .ref m]) (F1 := 1) (L1 := 20) (mc := 0) (ms := 0) d_Model_filter_140 cV_Model_221 (f_q (x := x) l_64 e_65 g_81 g_82 e_74 (by omega) (by omega) (by omega) (by omega)) e_65 ⟨by decide, rfl⟩ ⟨by omega, by show 8 + (2 + 11) + 20 ≤ _; omega⟩ ⟨by omega, by omega⟩ (Nat.le_of_ble_eq_true rfl) (fun v_88 h_87 p_89 => ?_)
      obtain ⟨rfl, rfl⟩ := p_89
      refine s_Model_filter_143 (fun z_90 => ?_) (fun z_91 => ?_)
      · skip
        refine s_Model_filter_152 ?_
        refine s_Model_filter_153 (fun z_92 => ?_) (fun z_93 => ?_)
        · skip
          refine s_Model_filter_161 ?_
          refine s_Model_filter_162 l_64 e_65 ?_
          refine x_u1 (fun h_94 e_95 f_96 => ?_)
          have e_97 := (f_96 asked_ (xw_neC e_74 e_65 (by simp))).trans e_74
          have e_98 := (f_96 top_ (xw_neC e_68 e_65 (by simp))).trans e_68
          have e_99 := (f_96 masks_ (xw_neC e_69 e_65 (by simp))).trans e_69
          have r_100 := r_75.up (by simp) f_96
          obtain ⟨fs_101, z_102⟩ : ∃ z, z = fs_63.set 39 (.int (mk &&& 2)) := ⟨_, rfl⟩
          rw [← z_102] at e_95
          have l_103 : fs_101.length = 62 := by rw [z_102]; simp only [List.length_set]; exact l_64
          have g_104 : fs_101[(4 : Nat)]? = some (.ref asked_) := by rw [z_102]; exact (xw_gn (by decide) g_82)
          have g_105 : fs_101[(11 : Nat)]? = some (.int (nI asz)) := by rw [z_102]; exact (xw_gn (by decide) g_81)
          have g_106 : fs_101[(28 : Nat)]? = some (.int (nI x)) := by rw [z_102]; exact (xw_gn (by decide) g_76)
          have g_107 : fs_101[(29 : Nat)]? = some (.int kd) := by rw [z_102]; exact (xw_gn (by decide) g_77)
          have g_108 : fs_101[(30 : Nat)]? = some (.int (nI x)) := by rw [z_102]; exact (xw_gn (by decide) g_78)
          have g_109 : fs_101[(31 : Nat)]? = some (.int (nI y)) := by rw [z_102]; exact (xw_gn (by decide) g_79)
          have g_110 : fs_101[(33 : Nat)]? = some (.int bd_33) := by rw [z_102]; exact (xw_gn (by decide) g_85)
          have g_111 : fs_101[(38 : Nat)]? = some (.int (nI (n + 1))) := by rw [z_102]; exact (xw_gn (by decide) g_66)
          have g_112 : fs_101[(39 : Nat)]? = some (.int (mk &&& 2)) := by rw [z_102]; exact (xw_gs (by simp [l_64]))
          have g_113 : fs_101[(51 : Nat)]? = some (.ref top_) := by rw [z_102]; exact (xw_gn (by decide) g_83)
          have g_114 : fs_101[(52 : Nat)]? = some (.ref masks_) := by rw [z_102]; exact (xw_gn (by decide) g_84)
          have ga_115 : ∀ i : Nat, i ∉ [28, 29, 30, 31, 33, 38, 39] → fs_101[i]? = fs[i]? := fun i hi => by rw [z_102]; exact xw_gn (fun z => hi (by rw [z]; simp)) (ga_86 i hi)
          clear z_102
          refine x_callV (As := []) (b := m) (rest := []) (F1 := 4) (L1 := 87) (mc := 0) (ms := 0) d_Model_filter_167 cV_Model_257 (f_next (x0 := y) l_103 e_95 g_106 g_107 g_108 g_109 g_105 g_104 e_97 PT.2.1 hasz (by omega) (by omega)) e_95 ⟨by decide, rfl⟩ ⟨by omega, by show 8 + (1 + 11) + 87 ≤ _; omega⟩ ⟨by omega, by omega⟩ (Nat.le_of_ble_eq_true rfl) (fun v_131 h_130 p_132 => ?_)
          obtain ⟨rfl, x_116, y_117, kd_118, fs_119, hx_120, PT_121, l_122, e_123, g_124, g_125, g_126, g_127, ga_128, r_129⟩ := p_132
          have e_133 := r_129 asked_ _ (by simp only [List.mem_cons, List.not_mem_nil, or_false, not_or]; exact (xw_neC e_97 e_95 (by simp))) e_97
          have e_134 := r_129 top_ _ (by simp only [List.mem_cons, List.not_mem_nil, or_false, not_or]; exact (xw_neC e_98 e_95 (by simp))) e_98
          have e_135 := r_129 masks_ _ (by simp only [List.mem_cons, List.not_mem_nil, or_false, not_or]; exact (xw_neC e_99 e_95 (by simp))) e_99
          have r_136 := r_100.trans (r_129.mono (by simp))
          have g_137 : fs_119[(4 : Nat)]? = some (.ref asked_) := (ga_128 4 (by decide)).trans g_104
          have g_138 : fs_119[(11 : Nat)]? = some (.int (nI asz)) := (ga_128 11 (by decide)).trans g_105
          have g_139 : fs_119[(33 : Nat)]? = some (.int bd_33) := (ga_128 33 (by decide)).trans g_110
          have g_140 : fs_119[(38 : Nat)]? = some (.int (nI (n + 1))) := (ga_128 38 (by decide)).trans g_111
          have g_141 : fs_119[(39 : Nat)]? = some (.int (mk &&& 2)) := (ga_128 39 (by decide)).trans g_112
          have g_142 : fs_119[(51 : Nat)]? = some (.ref top_) := (ga_128 51 (by decide)).trans g_113
          have g_143 : fs_119[(52 : Nat)]? = some (.ref masks_) := (ga_128 52 (by decide)).trans g_114
          have ga_144 : ∀ i : Nat, i ∉ [28, 29, 30, 31, 33, 38, 39] → fs_119[i]? = fs[i]? := fun i hi => (ga_128 i (fun z => hi (by simp only [List.mem_cons, List.not_mem_nil, or_false] at z ⊢; omega))).trans (ga_115 i hi)
          have J_145 := J.mono (Nat.le_trans PT.1 hx_120)
          have TK_146 := TK.mono (Nat.le_trans PT.1 hx_120)
          have hm_147 := Nat.le_trans PT.1 hx_120
          have hb_148 := Nat.le_trans PT_121.1 PT_121.2.1
          refine s_Model_filter_170 ?_
          refine x_callV (As := []) (b := m) (rest := []) (F1 := 4) (L1 := 87) (mc := 0) (ms := 0) d_Model_filter_171 cV_Model_257 (f_next (x0 := y_117) l_122 e_123 g_124 g_125 g_126 g_127 g_138 g_137 e_133 PT_121.2.1 hasz (by omega) (by omega)) e_123 ⟨by decide, rfl⟩ ⟨by omega, by show 8 + (1 + 11) + 87 ≤ _; omega⟩ ⟨by omega, by omega⟩ (Nat.le_of_ble_eq_true rfl) (fun v_164 h_163 p_165 => ?_)
          obtain ⟨rfl, x_149, y_150, kd_151, fs_152, hx_153, PT_154, l_155, e_156, g_157, g_158, g_159, g_160, ga_161, r_162⟩ := p_165
          have e_166 := r_162 asked_ _ (by simp only [List.mem_cons, List.not_mem_nil, or_false, not_or]; exact (xw_neC e_133 e_123 (by simp))) e_133
          have e_167 := r_162 top_ _ (by simp only [List.mem_cons, List.not_mem_nil, or_false, not_or]; exact (xw_neC e_134 e_123 (by simp))) e_134
          have e_168 := r_162 masks_ _ (by simp only [List.mem_cons, List.not_mem_nil, or_false, not_or]; exact (xw_neC e_135 e_123 (by simp))) e_135
          have r_169 := r_136.trans (r_162.mono (by simp))
          have g_170 : fs_152[(4 : Nat)]? = some (.ref asked_) := (ga_161 4 (by decide)).trans g_137
          have g_171 : fs_152[(11 : Nat)]? = some (.int (nI asz)) := (ga_161 11 (by decide)).trans g_138
          have g_172 : fs_152[(33 : Nat)]? = some (.int bd_33) := (ga_161 33 (by decide)).trans g_139
          have g_173 : fs_152[(38 : Nat)]? = some (.int (nI (n + 1))) := (ga_161 38 (by decide)).trans g_140
          have g_174 : fs_152[(39 : Nat)]? = some (.int (mk &&& 2)) := (ga_161 39 (by decide)).trans g_141
          have g_175 : fs_152[(51 : Nat)]? = some (.ref top_) := (ga_161 51 (by decide)).trans g_142
          have g_176 : fs_152[(52 : Nat)]? = some (.ref masks_) := (ga_161 52 (by decide)).trans g_143
          have ga_177 : ∀ i : Nat, i ∉ [28, 29, 30, 31, 33, 38, 39] → fs_152[i]? = fs[i]? := fun i hi => (ga_161 i (fun z => hi (by simp only [List.mem_cons, List.not_mem_nil, or_false] at z ⊢; omega))).trans (ga_144 i hi)
          have J_178 := J_145.mono (Nat.le_trans PT_121.1 hx_153)
          have TK_179 := TK_146.mono (Nat.le_trans PT_121.1 hx_153)
          have hm_180 := Nat.le_trans PT_121.1 hx_153
          have hb_181 := Nat.le_trans PT_154.1 PT_154.2.1
          refine x_le (xw_le_n (xw_le_n (xw_le_n (xw_le_n xw_le_e)))) ?_
          refine s_Model_filter_174 ?_
          have hbz : a = 0 := (hw_3 (by rw [← (hw_35 z_60).2]; exact z_60)).1
          have hpr := fun q => Nat.lt_of_lt_of_le (PT.2.2.1 q) hx_120
          exact kk _ _ _ (n + 1) _ _ _ _ _ _ PT_154 (by omega) (fun _ q => by have := hpr q; omega) (fun _ => ⟨rfl, rfl, hD7⟩) (fun q => absurd z_60 q) l_155 e_156 g_157 g_158 g_159 g_160 g_172 g_173 g_174 ga_177 e_167 e_168 r_169
        · skip
          refine s_Model_filter_157 ?_
          refine s_Model_filter_162 l_64 e_65 ?_
          refine x_u1 (fun h_182 e_183 f_184 => ?_)
          have e_185 := (f_184 asked_ (xw_neC e_74 e_65 (by simp))).trans e_74
          have e_186 := (f_184 top_ (xw_neC e_68 e_65 (by simp))).trans e_68
          have e_187 := (f_184 masks_ (xw_neC e_69 e_65 (by simp))).trans e_69
          have r_188 := r_75.up (by simp) f_184
          obtain ⟨fs_189, z_190⟩ : ∃ z, z = fs_63.set 39 (.int (mk &&& 1)) := ⟨_, rfl⟩
          rw [← z_190] at e_183
          have l_191 : fs_189.length = 62 := by rw [z_190]; simp only [List.length_set]; exact l_64
          have g_192 : fs_189[(4 : Nat)]? = some (.ref asked_) := by rw [z_190]; exact (xw_gn (by decide) g_82)
          have g_193 : fs_189[(11 : Nat)]? = some (.int (nI asz)) := by rw [z_190]; exact (xw_gn (by decide) g_81)
          have g_194 : fs_189[(28 : Nat)]? = some (.int (nI x)) := by rw [z_190]; exact (xw_gn (by decide) g_76)
          have g_195 : fs_189[(29 : Nat)]? = some (.int kd) := by rw [z_190]; exact (xw_gn (by decide) g_77)
          have g_196 : fs_189[(30 : Nat)]? = some (.int (nI x)) := by rw [z_190]; exact (xw_gn (by decide) g_78)
          have g_197 : fs_189[(31 : Nat)]? = some (.int (nI y)) := by rw [z_190]; exact (xw_gn (by decide) g_79)
          have g_198 : fs_189[(33 : Nat)]? = some (.int bd_33) := by rw [z_190]; exact (xw_gn (by decide) g_85)
          have g_199 : fs_189[(38 : Nat)]? = some (.int (nI (n + 1))) := by rw [z_190]; exact (xw_gn (by decide) g_66)
          have g_200 : fs_189[(39 : Nat)]? = some (.int (mk &&& 1)) := by rw [z_190]; exact (xw_gs (by simp [l_64]))
          have g_201 : fs_189[(51 : Nat)]? = some (.ref top_) := by rw [z_190]; exact (xw_gn (by decide) g_83)
          have g_202 : fs_189[(52 : Nat)]? = some (.ref masks_) := by rw [z_190]; exact (xw_gn (by decide) g_84)
          have ga_203 : ∀ i : Nat, i ∉ [28, 29, 30, 31, 33, 38, 39] → fs_189[i]? = fs[i]? := fun i hi => by rw [z_190]; exact xw_gn (fun z => hi (by rw [z]; simp)) (ga_86 i hi)
          clear z_190
          refine x_callV (As := []) (b := m) (rest := []) (F1 := 4) (L1 := 87) (mc := 0) (ms := 0) d_Model_filter_167 cV_Model_257 (f_next (x0 := y) l_191 e_183 g_194 g_195 g_196 g_197 g_193 g_192 e_185 PT.2.1 hasz (by omega) (by omega)) e_183 ⟨by decide, rfl⟩ ⟨by omega, by show 8 + (1 + 11) + 87 ≤ _; omega⟩ ⟨by omega, by omega⟩ (Nat.le_of_ble_eq_true rfl) (fun v_219 h_218 p_220 => ?_)
          obtain ⟨rfl, x_204, y_205, kd_206, fs_207, hx_208, PT_209, l_210, e_211, g_212, g_213, g_214, g_215, ga_216, r_217⟩ := p_220
          have e_221 := r_217 asked_ _ (by simp only [List.mem_cons, List.not_mem_nil, or_false, not_or]; exact (xw_neC e_185 e_183 (by simp))) e_185
          have e_222 := r_217 top_ _ (by simp only [List.mem_cons, List.not_mem_nil, or_false, not_or]; exact (xw_neC e_186 e_183 (by simp))) e_186
          have e_223 := r_217 masks_ _ (by simp only [List.mem_cons, List.not_mem_nil, or_false, not_or]; exact (xw_neC e_187 e_183 (by simp))) e_187
          have r_224 := r_188.trans (r_217.mono (by simp))
          have g_225 : fs_207[(4 : Nat)]? = some (.ref asked_) := (ga_216 4 (by decide)).trans g_192
          have g_226 : fs_207[(11 : Nat)]? = some (.int (nI asz)) := (ga_216 11 (by decide)).trans g_193
          have g_227 : fs_207[(33 : Nat)]? = some (.int bd_33) := (ga_216 33 (by decide)).trans g_198
          have g_228 : fs_207[(38 : Nat)]? = some (.int (nI (n + 1))) := (ga_216 38 (by decide)).trans g_199
          have g_229 : fs_207[(39 : Nat)]? = some (.int (mk &&& 1)) := (ga_216 39 (by decide)).trans g_200
          have g_230 : fs_207[(51 : Nat)]? = some (.ref top_) := (ga_216 51 (by decide)).trans g_201
          have g_231 : fs_207[(52 : Nat)]? = some (.ref masks_) := (ga_216 52 (by decide)).trans g_202
          have ga_232 : ∀ i : Nat, i ∉ [28, 29, 30, 31, 33, 38, 39] → fs_207[i]? = fs[i]? := fun i hi => (ga_216 i (fun z => hi (by simp only [List.mem_cons, List.not_mem_nil, or_false] at z ⊢; omega))).trans (ga_203 i hi)
          have J_233 := J.mono (Nat.le_trans PT.1 hx_208)
          have TK_234 := TK.mono (Nat.le_trans PT.1 hx_208)
          have hm_235 := Nat.le_trans PT.1 hx_208
          have hb_236 := Nat.le_trans PT_209.1 PT_209.2.1
          refine s_Model_filter_170 ?_
          refine x_callV (As := []) (b := m) (rest := []) (F1 := 4) (L1 := 87) (mc := 0) (ms := 0) d_Model_filter_171 cV_Model_257 (f_next (x0 := y_205) l_210 e_211 g_212 g_213 g_214 g_215 g_226 g_225 e_221 PT_209.2.1 hasz (by omega) (by omega)) e_211 ⟨by decide, rfl⟩ ⟨by omega, by show 8 + (1 + 11) + 87 ≤ _; omega⟩ ⟨by omega, by omega⟩ (Nat.le_of_ble_eq_true rfl) (fun v_252 h_251 p_253 => ?_)
          obtain ⟨rfl, x_237, y_238, kd_239, fs_240, hx_241, PT_242, l_243, e_244, g_245, g_246, g_247, g_248, ga_249, r_250⟩ := p_253
          have e_254 := r_250 asked_ _ (by simp only [List.mem_cons, List.not_mem_nil, or_false, not_or]; exact (xw_neC e_221 e_211 (by simp))) e_221
          have e_255 := r_250 top_ _ (by simp only [List.mem_cons, List.not_mem_nil, or_false, not_or]; exact (xw_neC e_222 e_211 (by simp))) e_222
          have e_256 := r_250 masks_ _ (by simp only [List.mem_cons, List.not_mem_nil, or_false, not_or]; exact (xw_neC e_223 e_211 (by simp))) e_223
          have r_257 := r_224.trans (r_250.mono (by simp))
          have g_258 : fs_240[(4 : Nat)]? = some (.ref asked_) := (ga_249 4 (by decide)).trans g_225
          have g_259 : fs_240[(11 : Nat)]? = some (.int (nI asz)) := (ga_249 11 (by decide)).trans g_226
          have g_260 : fs_240[(33 : Nat)]? = some (.int bd_33) := (ga_249 33 (by decide)).trans g_227
          have g_261 : fs_240[(38 : Nat)]? = some (.int (nI (n + 1))) := (ga_249 38 (by decide)).trans g_228
          have g_262 : fs_240[(39 : Nat)]? = some (.int (mk &&& 1)) := (ga_249 39 (by decide)).trans g_229
          have g_263 : fs_240[(51 : Nat)]? = some (.ref top_) := (ga_249 51 (by decide)).trans g_230
          have g_264 : fs_240[(52 : Nat)]? = some (.ref masks_) := (ga_249 52 (by decide)).trans g_231
          have ga_265 : ∀ i : Nat, i ∉ [28, 29, 30, 31, 33, 38, 39] → fs_240[i]? = fs[i]? := fun i hi => (ga_249 i (fun z => hi (by simp only [List.mem_cons, List.not_mem_nil, or_false] at z ⊢; omega))).trans (ga_232 i hi)
          have J_266 := J_233.mono (Nat.le_trans PT_209.1 hx_241)
          have TK_267 := TK_234.mono (Nat.le_trans PT_209.1 hx_241)
          have hm_268 := Nat.le_trans PT_209.1 hx_241
          have hb_269 := Nat.le_trans PT_242.1 PT_242.2.1
          refine x_le (xw_le_n (xw_le_n (xw_le_n (xw_le_n xw_le_e)))) ?_
          refine s_Model_filter_174 ?_
          have hbz : a = 0 := (hw_3 (by rw [← (hw_35 z_60).2]; exact z_60)).1
          have hpr := fun q => Nat.lt_of_lt_of_le (PT.2.2.1 q) hx_208
          exact kk _ _ _ (n + 1) _ _ _ _ _ _ PT_242 (by omega) (fun _ q => by have := hpr q; omega) (fun _ => ⟨rfl, rfl, hD7⟩) (fun q => absurd z_60 q) l_243 e_244 g_245 g_246 g_247 g_248 g_260 g_261 g_262 ga_265 e_255 e_256 r_257
      · skip
        refine s_Model_filter_148 ?_
        refine s_Model_filter_153 (fun z_270 => ?_) (fun z_271 => ?_)
        · skip
          refine s_Model_filter_161 ?_
          refine s_Model_filter_162 l_64 e_65 ?_
          refine x_u1 (fun h_272 e_273 f_274 => ?_)
          have e_275 := (f_274 asked_ (xw_neC e_74 e_65 (by simp))).trans e_74
          have e_276 := (f_274 top_ (xw_neC e_68 e_65 (by simp))).trans e_68
          have e_277 := (f_274 masks_ (xw_neC e_69 e_65 (by simp))).trans e_69
          have r_278 := r_75.up (by simp) f_274
          obtain ⟨fs_279, z_280⟩ : ∃ z, z = fs_63.set 39 (.int (mk &&& 2)) := ⟨_, rfl⟩
          rw [← z_280] at e_273
          have l_281 : fs_279.length = 62 := by rw [z_280]; simp only [List.length_set]; exact l_64
          have g_282 : fs_279[(4 : Nat)]? = some (.ref asked_) := by rw [z_280]; exact (xw_gn (by decide) g_82)
          have g_283 : fs_279[(11 : Nat)]? = some (.int (nI asz)) := by rw [z_280]; exact (xw_gn (by decide) g_81)
          have g_284 : fs_279[(28 : Nat)]? = some (.int (nI x)) := by rw [z_280]; exact (xw_gn (by decide) g_76)
          have g_285 : fs_279[(29 : Nat)]? = some (.int kd) := by rw [z_280]; exact (xw_gn (by decide) g_77)
          have g_286 : fs_279[(30 : Nat)]? = some (.int (nI x)) := by rw [z_280]; exact (xw_gn (by decide) g_78)
          have g_287 : fs_279[(31 : Nat)]? = some (.int (nI y)) := by rw [z_280]; exact (xw_gn (by decide) g_79)
          have g_288 : fs_279[(33 : Nat)]? = some (.int bd_33) := by rw [z_280]; exact (xw_gn (by decide) g_85)
          have g_289 : fs_279[(38 : Nat)]? = some (.int (nI (n + 1))) := by rw [z_280]; exact (xw_gn (by decide) g_66)
          have g_290 : fs_279[(39 : Nat)]? = some (.int (mk &&& 2)) := by rw [z_280]; exact (xw_gs (by simp [l_64]))
          have g_291 : fs_279[(51 : Nat)]? = some (.ref top_) := by rw [z_280]; exact (xw_gn (by decide) g_83)
          have g_292 : fs_279[(52 : Nat)]? = some (.ref masks_) := by rw [z_280]; exact (xw_gn (by decide) g_84)
          have ga_293 : ∀ i : Nat, i ∉ [28, 29, 30, 31, 33, 38, 39] → fs_279[i]? = fs[i]? := fun i hi => by rw [z_280]; exact xw_gn (fun z => hi (by rw [z]; simp)) (ga_86 i hi)
          clear z_280
          refine x_callV (As := []) (b := m) (rest := []) (F1 := 4) (L1 := 87) (mc := 0) (ms := 0) d_Model_filter_167 cV_Model_257 (f_next (x0 := y) l_281 e_273 g_284 g_285 g_286 g_287 g_283 g_282 e_275 PT.2.1 hasz (by omega) (by omega)) e_273 ⟨by decide, rfl⟩ ⟨by omega, by show 8 + (1 + 11) + 87 ≤ _; omega⟩ ⟨by omega, by omega⟩ (Nat.le_of_ble_eq_true rfl) (fun v_309 h_308 p_310 => ?_)
          obtain ⟨rfl, x_294, y_295, kd_296, fs_297, hx_298, PT_299, l_300, e_301, g_302, g_303, g_304, g_305, ga_306, r_307⟩ := p_310
          have e_311 := r_307 asked_ _ (by simp only [List.mem_cons, List.not_mem_nil, or_false, not_or]; exact (xw_neC e_275 e_273 (by simp))) e_275
          have e_312 := r_307 top_ _ (by simp only [List.mem_cons, List.not_mem_nil, or_false, not_or]; exact (xw_neC e_276 e_273 (by simp))) e_276
          have e_313 := r_307 masks_ _ (by simp only [List.mem_cons, List.not_mem_nil, or_false, not_or]; exact (xw_neC e_277 e_273 (by simp))) e_277
          have r_314 := r_278.trans (r_307.mono (by simp))
          have g_315 : fs_297[(4 : Nat)]? = some (.ref asked_) := (ga_306 4 (by decide)).trans g_282
          have g_316 : fs_297[(11 : Nat)]? = some (.int (nI asz)) := (ga_306 11 (by decide)).trans g_283
          have g_317 : fs_297[(33 : Nat)]? = some (.int bd_33) := (ga_306 33 (by decide)).trans g_288
          have g_318 : fs_297[(38 : Nat)]? = some (.int (nI (n + 1))) := (ga_306 38 (by decide)).trans g_289
          have g_319 : fs_297[(39 : Nat)]? = some (.int (mk &&& 2)) := (ga_306 39 (by decide)).trans g_290
          have g_320 : fs_297[(51 : Nat)]? = some (.ref top_) := (ga_306 51 (by decide)).trans g_291
          have g_321 : fs_297[(52 : Nat)]? = some (.ref masks_) := (ga_306 52 (by decide)).trans g_292
          have ga_322 : ∀ i : Nat, i ∉ [28, 29, 30, 31, 33, 38, 39] → fs_297[i]? = fs[i]? := fun i hi => (ga_306 i (fun z => hi (by simp only [List.mem_cons, List.not_mem_nil, or_false] at z ⊢; omega))).trans (ga_293 i hi)
          have J_323 := J.mono (Nat.le_trans PT.1 hx_298)
          have TK_324 := TK.mono (Nat.le_trans PT.1 hx_298)
          have hm_325 := Nat.le_trans PT.1 hx_298
          have hb_326 := Nat.le_trans PT_299.1 PT_299.2.1
          refine s_Model_filter_170 ?_
          refine x_callV (As := []) (b := m) (rest := []) (F1 := 4) (L1 := 87) (mc := 0) (ms := 0) d_Model_filter_171 cV_Model_257 (f_next (x0 := y_295) l_300 e_301 g_302 g_303 g_304 g_305 g_316 g_315 e_311 PT_299.2.1 hasz (by omega) (by omega)) e_301 ⟨by decide, rfl⟩ ⟨by omega, by show 8 + (1 + 11) + 87 ≤ _; omega⟩ ⟨by omega, by omega⟩ (Nat.le_of_ble_eq_true rfl) (fun v_342 h_341 p_343 => ?_)
          obtain ⟨rfl, x_327, y_328, kd_329, fs_330, hx_331, PT_332, l_333, e_334, g_335, g_336, g_337, g_338, ga_339, r_340⟩ := p_343
          have e_344 := r_340 asked_ _ (by simp only [List.mem_cons, List.not_mem_nil, or_false, not_or]; exact (xw_neC e_311 e_301 (by simp))) e_311
          have e_345 := r_340 top_ _ (by simp only [List.mem_cons, List.not_mem_nil, or_false, not_or]; exact (xw_neC e_312 e_301 (by simp))) e_312
          have e_346 := r_340 masks_ _ (by simp only [List.mem_cons, List.not_mem_nil, or_false, not_or]; exact (xw_neC e_313 e_301 (by simp))) e_313
          have r_347 := r_314.trans (r_340.mono (by simp))
          have g_348 : fs_330[(4 : Nat)]? = some (.ref asked_) := (ga_339 4 (by decide)).trans g_315
          have g_349 : fs_330[(11 : Nat)]? = some (.int (nI asz)) := (ga_339 11 (by decide)).trans g_316
          have g_350 : fs_330[(33 : Nat)]? = some (.int bd_33) := (ga_339 33 (by decide)).trans g_317
          have g_351 : fs_330[(38 : Nat)]? = some (.int (nI (n + 1))) := (ga_339 38 (by decide)).trans g_318
          have g_352 : fs_330[(39 : Nat)]? = some (.int (mk &&& 2)) := (ga_339 39 (by decide)).trans g_319
          have g_353 : fs_330[(51 : Nat)]? = some (.ref top_) := (ga_339 51 (by decide)).trans g_320
          have g_354 : fs_330[(52 : Nat)]? = some (.ref masks_) := (ga_339 52 (by decide)).trans g_321
          have ga_355 : ∀ i : Nat, i ∉ [28, 29, 30, 31, 33, 38, 39] → fs_330[i]? = fs[i]? := fun i hi => (ga_339 i (fun z => hi (by simp only [List.mem_cons, List.not_mem_nil, or_false] at z ⊢; omega))).trans (ga_322 i hi)
          have J_356 := J_323.mono (Nat.le_trans PT_299.1 hx_331)
          have TK_357 := TK_324.mono (Nat.le_trans PT_299.1 hx_331)
          have hm_358 := Nat.le_trans PT_299.1 hx_331
          have hb_359 := Nat.le_trans PT_332.1 PT_332.2.1
          refine x_le (xw_le_n (xw_le_n (xw_le_n (xw_le_n xw_le_e)))) ?_
          refine s_Model_filter_174 ?_
          have hbz : a = 0 := (hw_3 (by rw [← (hw_35 z_60).2]; exact z_60)).1
          have hpr := fun q => Nat.lt_of_lt_of_le (PT.2.2.1 q) hx_298
          exact kk _ _ _ (n + 1) _ _ _ _ _ _ PT_332 (by omega) (fun _ q => by have := hpr q; omega) (fun _ => ⟨rfl, rfl, hD7⟩) (fun q => absurd z_60 q) l_333 e_334 g_335 g_336 g_337 g_338 g_350 g_351 g_352 ga_355 e_345 e_346 r_347
        · skip
          refine s_Model_filter_157 ?_
          refine s_Model_filter_162 l_64 e_65 ?_
          refine x_u1 (fun h_360 e_361 f_362 => ?_)
          have e_363 := (f_362 asked_ (xw_neC e_74 e_65 (by simp))).trans e_74
          have e_364 := (f_362 top_ (xw_neC e_68 e_65 (by simp))).trans e_68
          have e_365 := (f_362 masks_ (xw_neC e_69 e_65 (by simp))).trans e_69
          have r_366 := r_75.up (by simp) f_362
          obtain ⟨fs_367, z_368⟩ : ∃ z, z = fs_63.set 39 (.int (mk &&& 1)) := ⟨_, rfl⟩
          rw [← z_368] at e_361
          have l_369 : fs_367.length = 62 := by rw [z_368]; simp only [List.length_set]; exact l_64
          have g_370 : fs_367[(4 : Nat)]? = some (.ref asked_) := by rw [z_368]; exact (xw_gn (by decide) g_82)
          have g_371 : fs_367[(11 : Nat)]? = some (.int (nI asz)) := by rw [z_368]; exact (xw_gn (by decide) g_81)
          have g_372 : fs_367[(28 : Nat)]? = some (.int (nI x)) := by rw [z_368]; exact (xw_gn (by decide) g_76)
          have g_373 : fs_367[(29 : Nat)]? = some (.int kd) := by rw [z_368]; exact (xw_gn (by decide) g_77)
          have g_374 : fs_367[(30 : Nat)]? = some (.int (nI x)) := by rw [z_368]; exact (xw_gn (by decide) g_78)
          have g_375 : fs_367[(31 : Nat)]? = some (.int (nI y)) := by rw [z_368]; exact (xw_gn (by decide) g_79)
          have g_376 : fs_367[(33 : Nat)]? = some (.int bd_33) := by rw [z_368]; exact (xw_gn (by decide) g_85)
          have g_377 : fs_367[(38 : Nat)]? = some (.int (nI (n + 1))) := by rw [z_368]; exact (xw_gn (by decide) g_66)
          have g_378 : fs_367[(39 : Nat)]? = some (.int (mk &&& 1)) := by rw [z_368]; exact (xw_gs (by simp [l_64]))
          have g_379 : fs_367[(51 : Nat)]? = some (.ref top_) := by rw [z_368]; exact (xw_gn (by decide) g_83)
          have g_380 : fs_367[(52 : Nat)]? = some (.ref masks_) := by rw [z_368]; exact (xw_gn (by decide) g_84)
          have ga_381 : ∀ i : Nat, i ∉ [28, 29, 30, 31, 33, 38, 39] → fs_367[i]? = fs[i]? := fun i hi => by rw [z_368]; exact xw_gn (fun z => hi (by rw [z]; simp)) (ga_86 i hi)
          clear z_368
          refine x_callV (As := []) (b := m) (rest := []) (F1 := 4) (L1 := 87) (mc := 0) (ms := 0) d_Model_filter_167 cV_Model_257 (f_next (x0 := y) l_369 e_361 g_372 g_373 g_374 g_375 g_371 g_370 e_363 PT.2.1 hasz (by omega) (by omega)) e_361 ⟨by decide, rfl⟩ ⟨by omega, by show 8 + (1 + 11) + 87 ≤ _; omega⟩ ⟨by omega, by omega⟩ (Nat.le_of_ble_eq_true rfl) (fun v_397 h_396 p_398 => ?_)
          obtain ⟨rfl, x_382, y_383, kd_384, fs_385, hx_386, PT_387, l_388, e_389, g_390, g_391, g_392, g_393, ga_394, r_395⟩ := p_398
          have e_399 := r_395 asked_ _ (by simp only [List.mem_cons, List.not_mem_nil, or_false, not_or]; exact (xw_neC e_363 e_361 (by simp))) e_363
          have e_400 := r_395 top_ _ (by simp only [List.mem_cons, List.not_mem_nil, or_false, not_or]; exact (xw_neC e_364 e_361 (by simp))) e_364
          have e_401 := r_395 masks_ _ (by simp only [List.mem_cons, List.not_mem_nil, or_false, not_or]; exact (xw_neC e_365 e_361 (by simp))) e_365
          have r_402 := r_366.trans (r_395.mono (by simp))
          have g_403 : fs_385[(4 : Nat)]? = some (.ref asked_) := (ga_394 4 (by decide)).trans g_370
          have g_404 : fs_385[(11 : Nat)]? = some (.int (nI asz)) := (ga_394 11 (by decide)).trans g_371
          have g_405 : fs_385[(33 : Nat)]? = some (.int bd_33) := (ga_394 33 (by decide)).trans g_376
          have g_406 : fs_385[(38 : Nat)]? = some (.int (nI (n + 1))) := (ga_394 38 (by decide)).trans g_377
          have g_407 : fs_385[(39 : Nat)]? = some (.int (mk &&& 1)) := (ga_394 39 (by decide)).trans g_378
          have g_408 : fs_385[(51 : Nat)]? = some (.ref top_) := (ga_394 51 (by decide)).trans g_379
          have g_409 : fs_385[(52 : Nat)]? = some (.ref masks_) := (ga_394 52 (by decide)).trans g_380
          have ga_410 : ∀ i : Nat, i ∉ [28, 29, 30, 31, 33, 38, 39] → fs_385[i]? = fs[i]? := fun i hi => (ga_394 i (fun z => hi (by simp only [List.mem_cons, List.not_mem_nil, or_false] at z ⊢; omega))).trans (ga_381 i hi)
          have J_411 := J.mono (Nat.le_trans PT.1 hx_386)
          have TK_412 := TK.mono (Nat.le_trans PT.1 hx_386)
          have hm_413 := Nat.le_trans PT.1 hx_386
          have hb_414 := Nat.le_trans PT_387.1 PT_387.2.1
          refine s_Model_filter_170 ?_
          refine x_callV (As := []) (b := m) (rest := []) (F1 := 4) (L1 := 87) (mc := 0) (ms := 0) d_Model_filter_171 cV_Model_257 (f_next (x0 := y_383) l_388 e_389 g_390 g_391 g_392 g_393 g_404 g_403 e_399 PT_387.2.1 hasz (by omega) (by omega)) e_389 ⟨by decide, rfl⟩ ⟨by omega, by show 8 + (1 + 11) + 87 ≤ _; omega⟩ ⟨by omega, by omega⟩ (Nat.le_of_ble_eq_true rfl) (fun v_430 h_429 p_431 => ?_)
          obtain ⟨rfl, x_415, y_416, kd_417, fs_418, hx_419, PT_420, l_421, e_422, g_423, g_424, g_425, g_426, ga_427, r_428⟩ := p_431
          have e_432 := r_428 asked_ _ (by simp only [List.mem_cons, List.not_mem_nil, or_false, not_or]; exact (xw_neC e_399 e_389 (by simp))) e_399
          have e_433 := r_428 top_ _ (by simp only [List.mem_cons, List.not_mem_nil, or_false, not_or]; exact (xw_neC e_400 e_389 (by simp))) e_400
          have e_434 := r_428 masks_ _ (by simp only [List.mem_cons, List.not_mem_nil, or_false, not_or]; exact (xw_neC e_401 e_389 (by simp))) e_401
          have r_435 := r_402.trans (r_428.mono (by simp))
          have g_436 : fs_418[(4 : Nat)]? = some (.ref asked_) := (ga_427 4 (by decide)).trans g_403
          have g_437 : fs_418[(11 : Nat)]? = some (.int (nI asz)) := (ga_427 11 (by decide)).trans g_404
          have g_438 : fs_418[(33 : Nat)]? = some (.int bd_33) := (ga_427 33 (by decide)).trans g_405
          have g_439 : fs_418[(38 : Nat)]? = some (.int (nI (n + 1))) := (ga_427 38 (by decide)).trans g_406
          have g_440 : fs_418[(39 : Nat)]? = some (.int (mk &&& 1)) := (ga_427 39 (by decide)).trans g_407
          have g_441 : fs_418[(51 : Nat)]? = some (.ref top_) := (ga_427 51 (by decide)).trans g_408
          have g_442 : fs_418[(52 : Nat)]? = some (.ref masks_) := (ga_427 52 (by decide)).trans g_409
          have ga_443 : ∀ i : Nat, i ∉ [28, 29, 30, 31, 33, 38, 39] → fs_418[i]? = fs[i]? := fun i hi => (ga_427 i (fun z => hi (by simp only [List.mem_cons, List.not_mem_nil, or_false] at z ⊢; omega))).trans (ga_410 i hi)
          have J_444 := J_411.mono (Nat.le_trans PT_387.1 hx_419)
          have TK_445 := TK_412.mono (Nat.le_trans PT_387.1 hx_419)
          have hm_446 := Nat.le_trans PT_387.1 hx_419
          have hb_447 := Nat.le_trans PT_420.1 PT_420.2.1
          refine x_le (xw_le_n (xw_le_n (xw_le_n (xw_le_n xw_le_e)))) ?_
          refine s_Model_filter_174 ?_
          have hbz : a = 0 := (hw_3 (by rw [← (hw_35 z_60).2]; exact z_60)).1
          have hpr := fun q => Nat.lt_of_lt_of_le (PT.2.2.1 q) hx_386
          exact kk _ _ _ (n + 1) _ _ _ _ _ _ PT_420 (by omega) (fun _ q => by have := hpr q; omega) (fun _ => ⟨rfl, rfl, hD7⟩) (fun q => absurd z_60 q) l_421 e_422 g_423 g_424 g_425 g_426 g_438 g_439 g_440 ga_443 e_433 e_434 r_435
    · skip
      refine s_Model_filter_123 ?_
      exact kk _ _ _ n _ _ _ _ _ _ PT (by omega) (fun q => absurd q z_61) (fun q => absurd q z_61) (fun _ => ⟨rfl, rfl⟩) l_37 e_38 g_49 g_50 g_51 g_52 g_39 g_53 g_54 ga_59 e_46 e_47 r_48
  · skip
    refine s_Model_filter_107 ?_
    refine s_Model_filter_112 ?_
    refine x_callV (As := [.int 1, .int (nI x0)]) (b := m) (rest := []) (F1 := 1) (L1 := 20) (mc := 0) (ms := 0) d_Model_filter_113 cV_Model_250 (f_wrongs (k := x0) l_5 e_6 g_7 (by omega) (by omega) (by omega)) e_6 ⟨by decide, rfl⟩ ⟨by omega, by show 8 + (3 + 11) + 20 ≤ _; omega⟩ ⟨by omega, by omega⟩ (Nat.le_of_ble_eq_true rfl) (fun v_458 h_457 p_459 => ?_)
    obtain ⟨rfl, bd_448, fs_449, hw_450, hk_451, l_452, e_453, g_454, ga_455, r_456⟩ := p_459
    have e_460 := r_456 asked_ _ (by simp only [List.mem_cons, List.not_mem_nil, or_false, not_or]; exact (xw_neC e_13 e_6 (by simp))) e_13
    have e_461 := r_456 top_ _ (by simp only [List.mem_cons, List.not_mem_nil, or_false, not_or]; exact (xw_neC e_14 e_6 (by simp))) e_14
    have e_462 := r_456 masks_ _ (by simp only [List.mem_cons, List.not_mem_nil, or_false, not_or]; exact (xw_neC e_15 e_6 (by simp))) e_15
    have r_463 := r_16.trans (r_456.mono (by simp))
    have g_464 : fs_449[(28 : Nat)]? = some (.int (nI x)) := (ga_455 28 (by decide)).trans g_17
    have g_465 : fs_449[(29 : Nat)]? = some (.int kd) := (ga_455 29 (by decide)).trans g_18
    have g_466 : fs_449[(30 : Nat)]? = some (.int (nI x)) := (ga_455 30 (by decide)).trans g_19
    have g_467 : fs_449[(31 : Nat)]? = some (.int (nI y)) := (ga_455 31 (by decide)).trans g_20
    have g_468 : fs_449[(38 : Nat)]? = some (.int (nI n)) := (ga_455 38 (by decide)).trans g_21
    have g_469 : fs_449[(39 : Nat)]? = some (.int mk) := (ga_455 39 (by decide)).trans g_22
    have g_470 : fs_449[(11 : Nat)]? = some (.int (nI asz)) := (ga_455 11 (by decide)).trans g_23
    have g_471 : fs_449[(4 : Nat)]? = some (.ref asked_) := (ga_455 4 (by decide)).trans g_24
    have g_472 : fs_449[(51 : Nat)]? = some (.ref top_) := (ga_455 51 (by decide)).trans g_25
    have g_473 : fs_449[(52 : Nat)]? = some (.ref masks_) := (ga_455 52 (by decide)).trans g_26
    have ga_474 : ∀ i : Nat, i ∉ [28, 29, 30, 31, 33, 38, 39] → fs_449[i]? = fs[i]? := fun i hi => (ga_455 i (fun z => hi (by simp only [List.mem_cons, List.not_mem_nil, or_false] at z ⊢; omega))).trans (ga_27 i hi)
    refine x_le (xw_le_s (xw_le_n (xw_le_s (xw_le_n xw_le_e)))) ?_
    refine s_Model_filter_116 l_452 e_453 g_454 (fun z => absurd (hw_450 z).1 (by decide)) (fun z_475 => ?_)
    refine s_Model_filter_123 ?_
    exact kk _ _ _ n _ _ _ _ _ _ PT (by omega) (fun q => absurd q z_475) (fun q => absurd q z_475) (fun _ => ⟨rfl, rfl⟩) l_452 e_453 g_464 g_465 g_466 g_467 g_454 g_468 g_469 ga_474 e_461 e_462 r_463
set_option maxHeartbeats 8000000 in
theorem f_filter {G : xw_G} {F L : Nat} {h : xw_A} {x y t n asz : Nat} {kd bd mk : Int32} {fa ca cs ct cm : Nat → Int32} {asked_ top_ masks_ : Nat} {m : Nat} {fs : List Value} (l : fs.length = 62) (e : h m = some (.inr (11, fs))) (g_at : fs[(28 : Nat)]? = some (.int (nI x))) (g_kind : fs[(29 : Nat)]? = some (.int kd)) (g_from : fs[(30 : Nat)]? = some (.int (nI x))) (g_to : fs[(31 : Nat)]? = some (.int (nI y))) (g_bad : fs[(33 : Nat)]? = some (.int bd)) (g_tops : fs[(38 : Nat)]? = some (.int (nI n))) (g_mask : fs[(39 : Nat)]? = some (.int mk)) (g_askedSize : fs[(11 : Nat)]? = some (.int (nI asz))) (g_asked : fs[(4 : Nat)]? = some (.ref asked_)) (e_asked : h asked_ = some (.inl (0, 96, .inl (fa)))) (g_top : fs[(51 : Nat)]? = some (.ref top_)) (e_top : h top_ = some (.inl (0, 60, .inl (ct)))) (g_masks : fs[(52 : Nat)]? = some (.ref masks_)) (e_masks : h masks_ = some (.inl (0, 60, .inl (cm)))) (n_top_masks : top_ ≠ masks_) (hasz : asz ≤ 96) (PT : PtO fa asz x y kd) (J : JO fa asz t x) (TK : TkO ca cs t x) (hbd : bd < 0) (hn : n < 60) (hk0 : ¬ kd = 0) (hD8 : cntD ct n ≤ 8) (hF : 5 ≤ F) (hL : 107 ≤ L) :
    xw_Met G m_Model_filter F L 0 0 [.ref m] h (fun v h' => v = none ∧ FiP m top_ masks_ fs fa asz x n ct h h') (fun _ _ => False) := by
  refine xw_Met.of rfl (by decide) (Nat.le_of_ble_eq_true rfl) ?_
  have hxy0 := PT.1
  have hy97 := PT.2.1
  have ga0 : ∀ i : Nat, i ∉ [28, 29, 30, 31, 33, 38, 39] → fs[i]? = fs[i]? := fun _ _ => rfl
  have r0 : FrO [m, top_, masks_] h h := FrO.rf
  refine s_Model_filter_0 l e g_from g_kind (fun z_1 => ?_) (fun z_2 => ?_)
  · skip
    refine s_Model_filter_18 ?_
    refine s_Model_filter_19 (fun z_3 => ?_) (fun z => absurd z (by decide))
    refine s_Model_filter_28 ?_
    refine x_callV (As := []) (b := m) (rest := []) (F1 := 2) (L1 := 41) (mc := 0) (ms := 0) d_Model_filter_29 cV_Model_237 (f_isFilter l e g_kind g_to g_askedSize g_asked e_asked PT.2.1 hasz (by omega) (by omega)) e ⟨by decide, rfl⟩ ⟨by omega, by show 8 + (1 + 11) + 41 ≤ _; omega⟩ ⟨by omega, by omega⟩ (Nat.le_of_ble_eq_true rfl) (fun v_7 h_6 p_8 => ?_)
    obtain ⟨⟨c_4, rfl, hc_5⟩, rfl⟩ := p_8
    refine s_Model_filter_32 (fun z_9 => ?_) (fun z_10 => ?_)
    · skip
      refine s_Model_filter_78 ?_
      refine s_Model_filter_79 (fun z => absurd z (by decide)) (fun z_11 => ?_)
      refine s_Model_filter_85 ?_
      exact f_filterB (x0 := x) l e g_at g_kind g_from g_to g_bad g_tops g_mask g_askedSize g_asked e_asked g_top e_top g_masks e_masks n_top_masks hasz PT J TK hbd hn (by omega) hD8 (by omega) (by omega)  (fun h' x' y' n' kd' bd' mk' ct' cm' fs' k1 k2 k3 k4 k5 k6 k7 k8 k9 l1 l2 l3 l4 l5 l6 l7 l8 l9 => ⟨rfl, x', y', n', kd', bd', mk', ct', cm', fs', k1, k2, fun q => ⟨k3 q hk0, k4 q⟩, k5, k6, k7, k8, k9, l1, l2, l3, l4, l5, l6, l7, l8, l9⟩)
    · skip
      refine s_Model_filter_35 l e g_to g_from (fun z_12 => ?_) (fun z_13 => ?_)
      · skip
        refine s_Model_filter_78 ?_
        refine s_Model_filter_79 (fun z => absurd z (by decide)) (fun z_14 => ?_)
        refine s_Model_filter_85 ?_
        exact f_filterB (x0 := x) l e g_at g_kind g_from g_to g_bad g_tops g_mask g_askedSize g_asked e_asked g_top e_top g_masks e_masks n_top_masks hasz PT J TK hbd hn (by omega) hD8 (by omega) (by omega)  (fun h' x' y' n' kd' bd' mk' ct' cm' fs' k1 k2 k3 k4 k5 k6 k7 k8 k9 l1 l2 l3 l4 l5 l6 l7 l8 l9 => ⟨rfl, x', y', n', kd', bd', mk', ct', cm', fs', k1, k2, fun q => ⟨k3 q hk0, k4 q⟩, k5, k6, k7, k8, k9, l1, l2, l3, l4, l5, l6, l7, l8, l9⟩)
      · skip
        refine s_Model_filter_48 l e g_from ?_
        refine x_callV (As := [.int (nI x)]) (b := m) (rest := []) (F1 := 1) (L1 := 20) (mc := 0) (ms := 0) d_Model_filter_53 cV_Model_221 (f_q (x := x) l e g_askedSize g_asked e_asked (by omega) (by omega) (by omega) (by omega)) e ⟨by decide, rfl⟩ ⟨by omega, by show 8 + (2 + 11) + 20 ≤ _; omega⟩ ⟨by omega, by omega⟩ (Nat.le_of_ble_eq_true rfl) (fun v_16 h_15 p_17 => ?_)
        obtain ⟨rfl, rfl⟩ := p_17
        refine s_Model_filter_56 (fun z_18 => ?_) (fun z_19 => ?_)
        · skip
          refine s_Model_filter_74 ?_
          refine s_Model_filter_79 (fun z_20 => ?_) (fun z => absurd z (by decide))
          refine s_Model_filter_89 ?_
          exact f_filterB (x0 := x) l e g_at g_kind g_from g_to g_bad g_tops g_mask g_askedSize g_asked e_asked g_top e_top g_masks e_masks n_top_masks hasz PT J TK hbd hn (by omega) hD8 (by omega) (by omega)  (fun h' x' y' n' kd' bd' mk' ct' cm' fs' k1 k2 k3 k4 k5 k6 k7 k8 k9 l1 l2 l3 l4 l5 l6 l7 l8 l9 => ⟨rfl, x', y', n', kd', bd', mk', ct', cm', fs', k1, k2, fun q => ⟨k3 q hk0, k4 q⟩, k5, k6, k7, k8, k9, l1, l2, l3, l4, l5, l6, l7, l8, l9⟩)
        · skip
          refine s_Model_filter_61 l e g_from ?_
          refine x_callV (As := [.int (nI x)]) (b := m) (rest := []) (F1 := 1) (L1 := 20) (mc := 0) (ms := 0) d_Model_filter_66 cV_Model_221 (f_q (x := x) l e g_askedSize g_asked e_asked (by omega) (by omega) (by omega) (by omega)) e ⟨by decide, rfl⟩ ⟨by omega, by show 8 + (2 + 11) + 20 ≤ _; omega⟩ ⟨by omega, by omega⟩ (Nat.le_of_ble_eq_true rfl) (fun v_22 h_21 p_23 => ?_)
          obtain ⟨rfl, rfl⟩ := p_23
          refine s_Model_filter_69 (fun z_24 => ?_) (fun z_25 => ?_)
          · skip
            refine s_Model_filter_78 ?_
            refine s_Model_filter_79 (fun z => absurd z (by decide)) (fun z_26 => ?_)
            refine s_Model_filter_85 ?_
            exact f_filterB (x0 := x) l e g_at g_kind g_from g_to g_bad g_tops g_mask g_askedSize g_asked e_asked g_top e_top g_masks e_masks n_top_masks hasz PT J TK hbd hn (by omega) hD8 (by omega) (by omega)  (fun h' x' y' n' kd' bd' mk' ct' cm' fs' k1 k2 k3 k4 k5 k6 k7 k8 k9 l1 l2 l3 l4 l5 l6 l7 l8 l9 => ⟨rfl, x', y', n', kd', bd', mk', ct', cm', fs', k1, k2, fun q => ⟨k3 q hk0, k4 q⟩, k5, k6, k7, k8, k9, l1, l2, l3, l4, l5, l6, l7, l8, l9⟩)
          · skip
            refine s_Model_filter_74 ?_
            refine s_Model_filter_79 (fun z_27 => ?_) (fun z => absurd z (by decide))
            refine s_Model_filter_89 ?_
            exact f_filterB (x0 := x) l e g_at g_kind g_from g_to g_bad g_tops g_mask g_askedSize g_asked e_asked g_top e_top g_masks e_masks n_top_masks hasz PT J TK hbd hn (by omega) hD8 (by omega) (by omega)  (fun h' x' y' n' kd' bd' mk' ct' cm' fs' k1 k2 k3 k4 k5 k6 k7 k8 k9 l1 l2 l3 l4 l5 l6 l7 l8 l9 => ⟨rfl, x', y', n', kd', bd', mk', ct', cm', fs', k1, k2, fun q => ⟨k3 q hk0, k4 q⟩, k5, k6, k7, k8, k9, l1, l2, l3, l4, l5, l6, l7, l8, l9⟩)
  · skip
    refine s_Model_filter_14 ?_
    refine s_Model_filter_19 (fun z => absurd z (by decide)) (fun z_28 => ?_)
    refine s_Model_filter_24 ?_
    refine x_callV (As := []) (b := m) (rest := []) (F1 := 4) (L1 := 87) (mc := 0) (ms := 0) d_Model_filter_25 cV_Model_257 (f_next (x0 := y) l e g_at g_kind g_from g_to g_askedSize g_asked e_asked PT.2.1 hasz (by omega) (by omega)) e ⟨by decide, rfl⟩ ⟨by omega, by show 8 + (1 + 11) + 87 ≤ _; omega⟩ ⟨by omega, by omega⟩ (Nat.le_of_ble_eq_true rfl) (fun v_44 h_43 p_45 => ?_)
    obtain ⟨rfl, x_29, y_30, kd_31, fs_32, hx_33, PT_34, l_35, e_36, g_37, g_38, g_39, g_40, ga_41, r_42⟩ := p_45
    have e_46 := r_42 asked_ _ (by simp only [List.mem_cons, List.not_mem_nil, or_false, not_or]; exact (xw_neC e_asked e (by simp))) e_asked
    have e_47 := r_42 top_ _ (by simp only [List.mem_cons, List.not_mem_nil, or_false, not_or]; exact (xw_neC e_top e (by simp))) e_top
    have e_48 := r_42 masks_ _ (by simp only [List.mem_cons, List.not_mem_nil, or_false, not_or]; exact (xw_neC e_masks e (by simp))) e_masks
    have r_49 := r0.trans (r_42.mono (by simp))
    have g_50 : fs_32[(33 : Nat)]? = some (.int bd) := (ga_41 33 (by decide)).trans g_bad
    have g_51 : fs_32[(38 : Nat)]? = some (.int (nI n)) := (ga_41 38 (by decide)).trans g_tops
    have g_52 : fs_32[(39 : Nat)]? = some (.int mk) := (ga_41 39 (by decide)).trans g_mask
    have g_53 : fs_32[(11 : Nat)]? = some (.int (nI asz)) := (ga_41 11 (by decide)).trans g_askedSize
    have g_54 : fs_32[(4 : Nat)]? = some (.ref asked_) := (ga_41 4 (by decide)).trans g_asked
    have g_55 : fs_32[(51 : Nat)]? = some (.ref top_) := (ga_41 51 (by decide)).trans g_top
    have g_56 : fs_32[(52 : Nat)]? = some (.ref masks_) := (ga_41 52 (by decide)).trans g_masks
    have ga_57 : ∀ i : Nat, i ∉ [28, 29, 30, 31, 33, 38, 39] → fs_32[i]? = fs[i]? := fun i hi => (ga_41 i (fun z => hi (by simp only [List.mem_cons, List.not_mem_nil, or_false] at z ⊢; omega))).trans (ga0 i hi)
    have J_58 := J.mono (Nat.le_trans PT.1 hx_33)
    have TK_59 := TK.mono (Nat.le_trans PT.1 hx_33)
    have hm_60 := Nat.le_trans PT.1 hx_33
    have hb_61 := Nat.le_trans PT_34.1 PT_34.2.1
    refine s_Model_filter_28 ?_
    refine x_callV (As := []) (b := m) (rest := []) (F1 := 2) (L1 := 41) (mc := 0) (ms := 0) d_Model_filter_29 cV_Model_237 (f_isFilter l_35 e_36 g_38 g_40 g_53 g_54 e_46 PT_34.2.1 hasz (by omega) (by omega)) e_36 ⟨by decide, rfl⟩ ⟨by omega, by show 8 + (1 + 11) + 41 ≤ _; omega⟩ ⟨by omega, by omega⟩ (Nat.le_of_ble_eq_true rfl) (fun v_65 h_64 p_66 => ?_)
    obtain ⟨⟨c_62, rfl, hc_63⟩, rfl⟩ := p_66
    refine s_Model_filter_32 (fun z_67 => ?_) (fun z_68 => ?_)
    · skip
      refine s_Model_filter_78 ?_
      refine s_Model_filter_79 (fun z => absurd z (by decide)) (fun z_69 => ?_)
      refine s_Model_filter_85 ?_
      have hpr := Nat.lt_of_lt_of_le (PT.2.2.1 hk0) hx_33
      exact f_filterB (x0 := x) l_35 e_36 g_37 g_38 g_39 g_40 g_50 g_51 g_52 g_53 g_54 e_46 g_55 e_47 g_56 e_48 n_top_masks hasz PT_34 J_58 TK_59 hbd hn (by omega) hD8 (by omega) (by omega)  (fun h' x' y' n' kd' bd' mk' ct' cm' fs' k1 k2 k3 k4 k5 k6 k7 k8 k9 l1 l2 l3 l4 l5 l6 l7 l8 l9 => ⟨rfl, x', y', n', kd', bd', mk', ct', cm', fs', k1, by omega, fun q => ⟨by omega, k4 q⟩, k5, k6, k7, k8, k9, l1, l2, l3, l4, l5, fun i hi => (l6 i hi).trans (ga_57 i hi), l7, l8, r_49.trans l9⟩)
    · skip
      refine s_Model_filter_35 l_35 e_36 g_40 g_39 (fun z_70 => ?_) (fun z_71 => ?_)
      · skip
        refine s_Model_filter_78 ?_
        refine s_Model_filter_79 (fun z => absurd z (by decide)) (fun z_72 => ?_)
        refine s_Model_filter_85 ?_
        have hpr := Nat.lt_of_lt_of_le (PT.2.2.1 hk0) hx_33
        exact f_filterB (x0 := x) l_35 e_36 g_37 g_38 g_39 g_40 g_50 g_51 g_52 g_53 g_54 e_46 g_55 e_47 g_56 e_48 n_top_masks hasz PT_34 J_58 TK_59 hbd hn (by omega) hD8 (by omega) (by omega)  (fun h' x' y' n' kd' bd' mk' ct' cm' fs' k1 k2 k3 k4 k5 k6 k7 k8 k9 l1 l2 l3 l4 l5 l6 l7 l8 l9 => ⟨rfl, x', y', n', kd', bd', mk', ct', cm', fs', k1, by omega, fun q => ⟨by omega, k4 q⟩, k5, k6, k7, k8, k9, l1, l2, l3, l4, l5, fun i hi => (l6 i hi).trans (ga_57 i hi), l7, l8, r_49.trans l9⟩)
      · skip
        refine s_Model_filter_48 l_35 e_36 g_39 ?_
        refine x_callV (As := [.int (nI x_29)]) (b := m) (rest := []) (F1 := 1) (L1 := 20) (mc := 0) (ms := 0) d_Model_filter_53 cV_Model_221 (f_q (x := x_29) l_35 e_36 g_53 g_54 e_46 (by omega) (by omega) (by omega) (by omega)) e_36 ⟨by decide, rfl⟩ ⟨by omega, by show 8 + (2 + 11) + 20 ≤ _; omega⟩ ⟨by omega, by omega⟩ (Nat.le_of_ble_eq_true rfl) (fun v_74 h_73 p_75 => ?_)
        obtain ⟨rfl, rfl⟩ := p_75
        refine s_Model_filter_56 (fun z_76 => ?_) (fun z_77 => ?_)
        · skip
          refine s_Model_filter_74 ?_
          refine s_Model_filter_79 (fun z_78 => ?_) (fun z => absurd z (by decide))
          refine s_Model_filter_89 ?_
          have hpr := Nat.lt_of_lt_of_le (PT.2.2.1 hk0) hx_33
          exact f_filterB (x0 := x) l_35 e_36 g_37 g_38 g_39 g_40 g_50 g_51 g_52 g_53 g_54 e_46 g_55 e_47 g_56 e_48 n_top_masks hasz PT_34 J_58 TK_59 hbd hn (by omega) hD8 (by omega) (by omega)  (fun h' x' y' n' kd' bd' mk' ct' cm' fs' k1 k2 k3 k4 k5 k6 k7 k8 k9 l1 l2 l3 l4 l5 l6 l7 l8 l9 => ⟨rfl, x', y', n', kd', bd', mk', ct', cm', fs', k1, by omega, fun q => ⟨by omega, k4 q⟩, k5, k6, k7, k8, k9, l1, l2, l3, l4, l5, fun i hi => (l6 i hi).trans (ga_57 i hi), l7, l8, r_49.trans l9⟩)
        · skip
          refine s_Model_filter_61 l_35 e_36 g_39 ?_
          refine x_callV (As := [.int (nI x_29)]) (b := m) (rest := []) (F1 := 1) (L1 := 20) (mc := 0) (ms := 0) d_Model_filter_66 cV_Model_221 (f_q (x := x_29) l_35 e_36 g_53 g_54 e_46 (by omega) (by omega) (by omega) (by omega)) e_36 ⟨by decide, rfl⟩ ⟨by omega, by show 8 + (2 + 11) + 20 ≤ _; omega⟩ ⟨by omega, by omega⟩ (Nat.le_of_ble_eq_true rfl) (fun v_80 h_79 p_81 => ?_)
          obtain ⟨rfl, rfl⟩ := p_81
          refine s_Model_filter_69 (fun z_82 => ?_) (fun z_83 => ?_)
          · skip
            refine s_Model_filter_78 ?_
            refine s_Model_filter_79 (fun z => absurd z (by decide)) (fun z_84 => ?_)
            refine s_Model_filter_85 ?_
            have hpr := Nat.lt_of_lt_of_le (PT.2.2.1 hk0) hx_33
            exact f_filterB (x0 := x) l_35 e_36 g_37 g_38 g_39 g_40 g_50 g_51 g_52 g_53 g_54 e_46 g_55 e_47 g_56 e_48 n_top_masks hasz PT_34 J_58 TK_59 hbd hn (by omega) hD8 (by omega) (by omega)  (fun h' x' y' n' kd' bd' mk' ct' cm' fs' k1 k2 k3 k4 k5 k6 k7 k8 k9 l1 l2 l3 l4 l5 l6 l7 l8 l9 => ⟨rfl, x', y', n', kd', bd', mk', ct', cm', fs', k1, by omega, fun q => ⟨by omega, k4 q⟩, k5, k6, k7, k8, k9, l1, l2, l3, l4, l5, fun i hi => (l6 i hi).trans (ga_57 i hi), l7, l8, r_49.trans l9⟩)
          · skip
            refine s_Model_filter_74 ?_
            refine s_Model_filter_79 (fun z_85 => ?_) (fun z => absurd z (by decide))
            refine s_Model_filter_89 ?_
            have hpr := Nat.lt_of_lt_of_le (PT.2.2.1 hk0) hx_33
            exact f_filterB (x0 := x) l_35 e_36 g_37 g_38 g_39 g_40 g_50 g_51 g_52 g_53 g_54 e_46 g_55 e_47 g_56 e_48 n_top_masks hasz PT_34 J_58 TK_59 hbd hn (by omega) hD8 (by omega) (by omega)  (fun h' x' y' n' kd' bd' mk' ct' cm' fs' k1 k2 k3 k4 k5 k6 k7 k8 k9 l1 l2 l3 l4 l5 l6 l7 l8 l9 => ⟨rfl, x', y', n', kd', bd', mk', ct', cm', fs', k1, by omega, fun q => ⟨by omega, k4 q⟩, k5, k6, k7, k8, k9, l1, l2, l3, l4, l5, fun i hi => (l6 i hi).trans (ga_57 i hi), l7, l8, r_49.trans l9⟩)
