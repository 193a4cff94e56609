set_option maxHeartbeats 8000000 in
theorem f_filterH {G : xw_G} {F L : Nat} {h : xw_A} {p y t mk asz : Nat} {bd : Int32} {ph : List PHt} {gr : List GRt} {st : List EV} {fa c1 c2 ca cs ct cm : Nat → Int32} {asked_ top_ masks_ : Nat} {m : Nat} {fs : List Value} (l : fs.length = 62) (e : h m = some (.inr (11, fs))) (g_at : fs[28]? = some (.int (nI (bl fa asz p)))) (g_kind : fs[29]? = some (.int (nI (rkd (kdP fa asz p))))) (g_from : fs[30]? = some (.int (nI (bl fa asz p)))) (g_to : fs[31]? = some (.int (nI y))) (g_bad : fs[33]? = some (.int bd)) (g_tops : fs[38]? = some (.int (nI st.length))) (g_mask : fs[39]? = some (.int (nI mk))) (g_askedSize : fs[11]? = some (.int (nI asz))) (g_asked : fs[4]? = some (.ref asked_)) (e_asked : h asked_ = some (.inl (0, 96, .inl (fa)))) (g_top : fs[51]? = some (.ref top_)) (e_top : h top_ = some (.inl (0, 60, .inl (ct)))) (g_masks : fs[52]? = some (.ref masks_)) (e_masks : h masks_ = some (.inl (0, 60, .inl (cm)))) (n_top_masks : top_ ≠ masks_) (hasz : asz ≤ 96) (PT : PtO fa asz (bl fa asz p) y (nI (rkd (kdP fa asz p)))) (HY : ¬ kdP fa asz p = 1 → y = skP fa asz p) (RQ : RqT fa asz c1 c2 ca cs t p ph []) (ST : StR st ct cm) (hbd : bd < 0) (hst : st.length < 60) (hmk : mk ≤ 3) (hdp : kdP fa asz p = 11 ∨ kdP fa asz p = 3) (hF : 5 ≤ F) (hL : 107 ≤ L) :
    xw_Met G m_Model_filter F L 0 0 [.ref m] h (fun v h' => v = none ∧ ∃ (bd' : Int32) (ct' cm' : Nat → Int32) (fs' : List Value), fs'.length = 62 ∧ h' m = some (.inr (11, fs')) ∧ fs'[33]? = some (.int bd') ∧ (∀ i, i ∉ [28, 29, 30, 31, 33, 38, 39] → fs'[i]? = fs[i]?) ∧ h' top_ = some (.inl (0, 60, .inl ct')) ∧ h' masks_ = some (.inl (0, 60, .inl cm')) ∧ FrO [m, top_, masks_] h h' ∧ (((flP fa asz (p, ph, gr) = none ∨ depS st = 8) ∧ ¬ bd' < 0 ∧ INT fs' [28, 29, 30, 31, 39] ∧ fs'[38]? = some (.int (nI st.length))) ∨ ∃ (pm p' y' : Nat), flP fa asz (p, ph, gr) = some (pm, (p', ph, gr)) ∧ ¬ depS st = 8 ∧ bd' < 0 ∧ PtO fa asz (bl fa asz p') y' (nI (rkd (kdP fa asz p'))) ∧ (¬ kdP fa asz p' = 1 → y' = skP fa asz p') ∧ fs'[28]? = some (.int (nI (bl fa asz p'))) ∧ fs'[29]? = some (.int (nI (rkd (kdP fa asz p')))) ∧ fs'[30]? = some (.int (nI (bl fa asz p'))) ∧ fs'[31]? = some (.int (nI y')) ∧ RqT fa asz c1 c2 ca cs t p' ph [] ∧ fs'[38]? = some (.int (nI (st.length + 1))) ∧ fs'[39]? = some (.int (nI (mk &&& pm))) ∧ StR ((6, mk) :: st) ct' cm')) (fun _ _ => False) := by
  refine xw_Met.of rfl (by decide) (Nat.le_of_ble_eq_true rfl) ?_
  have hbd2 : ¬ 0 ≤ bd := Int32.not_le.mpr hbd
  have hxy0 := PT.1
  have hy97 := PT.2.1
  have ga0 : ∀ i, i ∉ [28, 29, 30, 31, 33, 38, 39] → fs[i]? = fs[i]? := fun _ _ => rfl
  have r0 : FrO [m, top_, masks_] h h := FrO.rf
  refine s_Model_filter_0 l e g_from g_kind (fun z_1 => ?_) (fun z_2 => ?_)
  · skip
    refine s_Model_filter_18 ?_
    refine s_Model_filter_19 (fun z_3 => ?_) (fun z => absurd z (by decide))
    refine s_Model_filter_28 ?_
    refine x_callV (As := []) (b := m) (rest := []) (F1 := 2) (L1 := 41) (mc := 0) (ms := 0) d_Model_filter_29 cV_Model_237 (f_isFilterH (pp := p) l e g_kind g_to g_askedSize g_asked e_asked (by have := PT.2.1; omega) hasz HY (by omega) (by omega)) e ⟨by decide, rfl⟩ ⟨by omega, by show 8 + (1 + 11) + 41 ≤ _; omega⟩ ⟨by omega, by omega⟩ (Nat.le_of_ble_eq_true rfl) (fun v_7 h_6 p_8 => ?_)
    obtain ⟨⟨c_4, rfl, hc_5⟩, rfl⟩ := p_8
    refine s_Model_filter_32 (fun z_9 => ?_) (fun z_10 => ?_)
    · skip
      refine s_Model_filter_78 ?_
      refine s_Model_filter_79 (fun z => absurd z (by decide)) (fun z_11 => ?_)
      refine s_Model_filter_85 ?_
      refine s_Model_filter_90 l e g_from ?_
      have hs_12 := (hc_5.resolve_right (fun q => absurd (q.1.symm.trans z_9) (by decide))).2
      have hN_13 := flN_n hs_12
      refine x_callV (As := [.int 1, .int (nI (bl fa asz p))]) (b := m) (rest := []) (F1 := 1) (L1 := 20) (mc := 0) (ms := 0) d_Model_filter_94 cV_Model_250 (f_wrongsH (k := bl fa asz p) l e g_bad (by omega) (by omega) (by omega)) e ⟨by decide, rfl⟩ ⟨by omega, by show 8 + (3 + 11) + 20 ≤ _; omega⟩ ⟨by omega, by omega⟩ (Nat.le_of_ble_eq_true rfl) (fun v_25 h_24 p_26 => ?_)
      obtain ⟨rfl, bd_14, fs_15, hw_16, hw_17, hw_18, l_19, e_20, g_21, ga_22, r_23⟩ := p_26
      have e_27 := r_23 asked_ _ (by simp only [List.mem_cons, List.not_mem_nil, or_false, not_or]; exact (xw_neC e_asked e (by simp))) e_asked
      have e_28 := r_23 top_ _ (by simp only [List.mem_cons, List.not_mem_nil, or_false, not_or]; exact (xw_neC e_top e (by simp))) e_top
      have e_29 := r_23 masks_ _ (by simp only [List.mem_cons, List.not_mem_nil, or_false, not_or]; exact (xw_neC e_masks e (by simp))) e_masks
      have r_30 := r0.trans (r_23.mono (by simp))
      have g_31 : fs_15[28]? = some (.int (nI (bl fa asz p))) := (ga_22 28 (by decide)).trans g_at
      have g_32 : fs_15[29]? = some (.int (nI (rkd (kdP fa asz p)))) := (ga_22 29 (by decide)).trans g_kind
      have g_33 : fs_15[30]? = some (.int (nI (bl fa asz p))) := (ga_22 30 (by decide)).trans g_from
      have g_34 : fs_15[31]? = some (.int (nI y)) := (ga_22 31 (by decide)).trans g_to
      have g_35 : fs_15[38]? = some (.int (nI st.length)) := (ga_22 38 (by decide)).trans g_tops
      have g_36 : fs_15[39]? = some (.int (nI mk)) := (ga_22 39 (by decide)).trans g_mask
      have g_37 : fs_15[11]? = some (.int (nI asz)) := (ga_22 11 (by decide)).trans g_askedSize
      have g_38 : fs_15[4]? = some (.ref asked_) := (ga_22 4 (by decide)).trans g_asked
      have g_39 : fs_15[51]? = some (.ref top_) := (ga_22 51 (by decide)).trans g_top
      have g_40 : fs_15[52]? = some (.ref masks_) := (ga_22 52 (by decide)).trans g_masks
      have ga_41 : ∀ i, i ∉ [28, 29, 30, 31, 33, 38, 39] → fs_15[i]? = fs[i]? := fun i hi => (ga_22 i (fun z => hi (by simp only [List.mem_cons, List.not_mem_nil, or_false] at z ⊢; omega))).trans (ga0 i hi)
      have hb_42 : ¬ bd_14 < 0 := hw_17 (by decide)
      have hb_43 : 0 ≤ bd_14 := Int32.not_lt.mp hb_42
      refine s_Model_filter_97 ?_
      refine x_callV (As := []) (b := m) (rest := [.ref m]) (F1 := 1) (L1 := 20) (mc := 0) (ms := 0) d_Model_filter_99 cV_Model_288 (f_depth (n := st.length) l_19 e_20 g_35 g_39 e_28 (by omega) (by omega) (by omega)) e_20 ⟨by decide, rfl⟩ ⟨by omega, by show 8 + (3 + 11) + 20 ≤ _; omega⟩ ⟨by omega, by omega⟩ (Nat.le_of_ble_eq_true rfl) (fun v_45 h_44 p_46 => ?_)
      obtain ⟨rfl, rfl⟩ := p_46
      rw [cntD_dep ST]
      refine s_Model_filter_102 (fun z_47 => ?_) (fun z_48 => ?_)
      · skip
        refine s_Model_filter_111 ?_
        refine s_Model_filter_112 ?_
        refine x_callV (As := [.int 0, .int (nI (bl fa asz p))]) (b := m) (rest := []) (F1 := 1) (L1 := 20) (mc := 0) (ms := 0) d_Model_filter_113 cV_Model_250 (f_wrongsH (k := bl fa asz p) l_19 e_20 g_21 (by omega) (by omega) (by omega)) e_20 ⟨by decide, rfl⟩ ⟨by omega, by show 8 + (3 + 11) + 20 ≤ _; omega⟩ ⟨by omega, by omega⟩ (Nat.le_of_ble_eq_true rfl) (fun v_60 h_59 p_61 => ?_)
        obtain ⟨rfl, bd_49, fs_50, hw_51, hw_52, hw_53, l_54, e_55, g_56, ga_57, r_58⟩ := p_61
        have e_62 := r_58 asked_ _ (by simp only [List.mem_cons, List.not_mem_nil, or_false, not_or]; exact (xw_neC e_27 e_20 (by simp))) e_27
        have e_63 := r_58 top_ _ (by simp only [List.mem_cons, List.not_mem_nil, or_false, not_or]; exact (xw_neC e_28 e_20 (by simp))) e_28
        have e_64 := r_58 masks_ _ (by simp only [List.mem_cons, List.not_mem_nil, or_false, not_or]; exact (xw_neC e_29 e_20 (by simp))) e_29
        have r_65 := r_30.trans (r_58.mono (by simp))
        have g_66 : fs_50[28]? = some (.int (nI (bl fa asz p))) := (ga_57 28 (by decide)).trans g_31
        have g_67 : fs_50[29]? = some (.int (nI (rkd (kdP fa asz p)))) := (ga_57 29 (by decide)).trans g_32
        have g_68 : fs_50[30]? = some (.int (nI (bl fa asz p))) := (ga_57 30 (by decide)).trans g_33
        have g_69 : fs_50[31]? = some (.int (nI y)) := (ga_57 31 (by decide)).trans g_34
        have g_70 : fs_50[38]? = some (.int (nI st.length)) := (ga_57 38 (by decide)).trans g_35
        have g_71 : fs_50[39]? = some (.int (nI mk)) := (ga_57 39 (by decide)).trans g_36
        have g_72 : fs_50[11]? = some (.int (nI asz)) := (ga_57 11 (by decide)).trans g_37
        have g_73 : fs_50[4]? = some (.ref asked_) := (ga_57 4 (by decide)).trans g_38
        have g_74 : fs_50[51]? = some (.ref top_) := (ga_57 51 (by decide)).trans g_39
        have g_75 : fs_50[52]? = some (.ref masks_) := (ga_57 52 (by decide)).trans g_40
        have ga_76 : ∀ i, i ∉ [28, 29, 30, 31, 33, 38, 39] → fs_50[i]? = fs[i]? := fun i hi => (ga_57 i (fun z => hi (by simp only [List.mem_cons, List.not_mem_nil, or_false] at z ⊢; omega))).trans (ga_41 i hi)
        have hb_77 : ¬ bd_49 < 0 := by rw [hw_53 hb_42]; exact hb_42
        have hb_78 : 0 ≤ bd_49 := Int32.not_lt.mp hb_77
        refine x_le (xw_le_s (xw_le_n (xw_le_s (xw_le_n xw_le_e)))) ?_
        refine s_Model_filter_116 l_54 e_55 g_56 (fun z => absurd z hb_77) (fun z_79 => ?_)
        refine s_Model_filter_123 ?_
        have hk_80 : ¬ kdP fa asz p = 11 := fun q => z_1 (by rw [q]; rfl)
        have hd_81 : ¬ depS st = 8 := fun q => z_47 (by rw [q]; rfl)
        exact ⟨rfl, _, _, _, _, l_54, e_55, g_56, ga_76, e_63, e_64, r_65, Or.inl ⟨Or.inl (fp_0n hk_80 hN_13), hb_77, (fun i9 hi9 => by simp only [List.mem_cons, List.not_mem_nil, or_false] at hi9; rcases hi9 with rfl | rfl | rfl | rfl | rfl <;> first | exact ⟨_, g_66⟩ | exact ⟨_, g_67⟩ | exact ⟨_, g_68⟩ | exact ⟨_, g_69⟩ | exact ⟨_, g_71⟩), g_70⟩⟩
      · skip
        refine s_Model_filter_107 ?_
        refine s_Model_filter_112 ?_
        refine x_callV (As := [.int 1, .int (nI (bl fa asz p))]) (b := m) (rest := []) (F1 := 1) (L1 := 20) (mc := 0) (ms := 0) d_Model_filter_113 cV_Model_250 (f_wrongsH (k := bl fa asz p) l_19 e_20 g_21 (by omega) (by omega) (by omega)) e_20 ⟨by decide, rfl⟩ ⟨by omega, by show 8 + (3 + 11) + 20 ≤ _; omega⟩ ⟨by omega, by omega⟩ (Nat.le_of_ble_eq_true rfl) (fun v_93 h_92 p_94 => ?_)
        obtain ⟨rfl, bd_82, fs_83, hw_84, hw_85, hw_86, l_87, e_88, g_89, ga_90, r_91⟩ := p_94
        have e_95 := r_91 asked_ _ (by simp only [List.mem_cons, List.not_mem_nil, or_false, not_or]; exact (xw_neC e_27 e_20 (by simp))) e_27
        have e_96 := r_91 top_ _ (by simp only [List.mem_cons, List.not_mem_nil, or_false, not_or]; exact (xw_neC e_28 e_20 (by simp))) e_28
        have e_97 := r_91 masks_ _ (by simp only [List.mem_cons, List.not_mem_nil, or_false, not_or]; exact (xw_neC e_29 e_20 (by simp))) e_29
        have r_98 := r_30.trans (r_91.mono (by simp))
        have g_99 : fs_83[28]? = some (.int (nI (bl fa asz p))) := (ga_90 28 (by decide)).trans g_31
        have g_100 : fs_83[29]? = some (.int (nI (rkd (kdP fa asz p)))) := (ga_90 29 (by decide)).trans g_32
        have g_101 : fs_83[30]? = some (.int (nI (bl fa asz p))) := (ga_90 30 (by decide)).trans g_33
        have g_102 : fs_83[31]? = some (.int (nI y)) := (ga_90 31 (by decide)).trans g_34
        have g_103 : fs_83[38]? = some (.int (nI st.length)) := (ga_90 38 (by decide)).trans g_35
        have g_104 : fs_83[39]? = some (.int (nI mk)) := (ga_90 39 (by decide)).trans g_36
        have g_105 : fs_83[11]? = some (.int (nI asz)) := (ga_90 11 (by decide)).trans g_37
        have g_106 : fs_83[4]? = some (.ref asked_) := (ga_90 4 (by decide)).trans g_38
        have g_107 : fs_83[51]? = some (.ref top_) := (ga_90 51 (by decide)).trans g_39
        have g_108 : fs_83[52]? = some (.ref masks_) := (ga_90 52 (by decide)).trans g_40
        have ga_109 : ∀ i, i ∉ [28, 29, 30, 31, 33, 38, 39] → fs_83[i]? = fs[i]? := fun i hi => (ga_90 i (fun z => hi (by simp only [List.mem_cons, List.not_mem_nil, or_false] at z ⊢; omega))).trans (ga_41 i hi)
        have hb_110 : ¬ bd_82 < 0 := by rw [hw_86 hb_42]; exact hb_42
        have hb_111 : 0 ≤ bd_82 := Int32.not_lt.mp hb_110
        refine x_le (xw_le_s (xw_le_n (xw_le_s (xw_le_n xw_le_e)))) ?_
        refine s_Model_filter_116 l_87 e_88 g_89 (fun z => absurd z hb_110) (fun z_112 => ?_)
        refine s_Model_filter_123 ?_
        have hk_113 : ¬ kdP fa asz p = 11 := fun q => z_1 (by rw [q]; rfl)
        have hd_114 : depS st = 8 := (nI_eq (b := 8) (by have := cJ_len st; omega) (by decide)).mp z_48
        exact ⟨rfl, _, _, _, _, l_87, e_88, g_89, ga_109, e_96, e_97, r_98, Or.inl ⟨Or.inl (fp_0n hk_113 hN_13), hb_110, (fun i9 hi9 => by simp only [List.mem_cons, List.not_mem_nil, or_false] at hi9; rcases hi9 with rfl | rfl | rfl | rfl | rfl <;> first | exact ⟨_, g_99⟩ | exact ⟨_, g_100⟩ | exact ⟨_, g_101⟩ | exact ⟨_, g_102⟩ | exact ⟨_, g_104⟩), g_103⟩⟩
    · skip
      refine s_Model_filter_35 l e g_to g_from (fun z_115 => ?_) (fun z_116 => ?_)
      · skip
        refine s_Model_filter_78 ?_
        refine s_Model_filter_79 (fun z => absurd z (by decide)) (fun z_117 => ?_)
        refine s_Model_filter_85 ?_
        refine s_Model_filter_90 l e g_from ?_
        have hs_118 := (hc_5.resolve_left (fun q => z_10 q.1)).2
        have hE_119 := HY (by rw [hs_118]; decide)
        have kw9 := kd_w (Or.inr hs_118)
        rw [hE_119, pk_sub (by omega)] at z_115
        have hl_120 : ¬ skP fa asz p = bl fa asz p + 1 := fun q => z_115 (by rw [show skP fa asz p - bl fa asz p = 1 by omega]; rfl)
        have hN_121 := flN_c (fun q => hl_120 q.1)
        refine x_callV (As := [.int 1, .int (nI (bl fa asz p))]) (b := m) (rest := []) (F1 := 1) (L1 := 20) (mc := 0) (ms := 0) d_Model_filter_94 cV_Model_250 (f_wrongsH (k := bl fa asz p) l e g_bad (by omega) (by omega) (by omega)) e ⟨by decide, rfl⟩ ⟨by omega, by show 8 + (3 + 11) + 20 ≤ _; omega⟩ ⟨by omega, by omega⟩ (Nat.le_of_ble_eq_true rfl) (fun v_133 h_132 p_134 => ?_)
        obtain ⟨rfl, bd_122, fs_123, hw_124, hw_125, hw_126, l_127, e_128, g_129, ga_130, r_131⟩ := p_134
        have e_135 := r_131 asked_ _ (by simp only [List.mem_cons, List.not_mem_nil, or_false, not_or]; exact (xw_neC e_asked e (by simp))) e_asked
        have e_136 := r_131 top_ _ (by simp only [List.mem_cons, List.not_mem_nil, or_false, not_or]; exact (xw_neC e_top e (by simp))) e_top
        have e_137 := r_131 masks_ _ (by simp only [List.mem_cons, List.not_mem_nil, or_false, not_or]; exact (xw_neC e_masks e (by simp))) e_masks
        have r_138 := r0.trans (r_131.mono (by simp))
        have g_139 : fs_123[28]? = some (.int (nI (bl fa asz p))) := (ga_130 28 (by decide)).trans g_at
        have g_140 : fs_123[29]? = some (.int (nI (rkd (kdP fa asz p)))) := (ga_130 29 (by decide)).trans g_kind
        have g_141 : fs_123[30]? = some (.int (nI (bl fa asz p))) := (ga_130 30 (by decide)).trans g_from
        have g_142 : fs_123[31]? = some (.int (nI y)) := (ga_130 31 (by decide)).trans g_to
        have g_143 : fs_123[38]? = some (.int (nI st.length)) := (ga_130 38 (by decide)).trans g_tops
        have g_144 : fs_123[39]? = some (.int (nI mk)) := (ga_130 39 (by decide)).trans g_mask
        have g_145 : fs_123[11]? = some (.int (nI asz)) := (ga_130 11 (by decide)).trans g_askedSize
        have g_146 : fs_123[4]? = some (.ref asked_) := (ga_130 4 (by decide)).trans g_asked
        have g_147 : fs_123[51]? = some (.ref top_) := (ga_130 51 (by decide)).trans g_top
        have g_148 : fs_123[52]? = some (.ref masks_) := (ga_130 52 (by decide)).trans g_masks
        have ga_149 : ∀ i, i ∉ [28, 29, 30, 31, 33, 38, 39] → fs_123[i]? = fs[i]? := fun i hi => (ga_130 i (fun z => hi (by simp only [List.mem_cons, List.not_mem_nil, or_false] at z ⊢; omega))).trans (ga0 i hi)
        have hb_150 : ¬ bd_122 < 0 := hw_125 (by decide)
        have hb_151 : 0 ≤ bd_122 := Int32.not_lt.mp hb_150
        refine s_Model_filter_97 ?_
        refine x_callV (As := []) (b := m) (rest := [.ref m]) (F1 := 1) (L1 := 20) (mc := 0) (ms := 0) d_Model_filter_99 cV_Model_288 (f_depth (n := st.length) l_127 e_128 g_143 g_147 e_136 (by omega) (by omega) (by omega)) e_128 ⟨by decide, rfl⟩ ⟨by omega, by show 8 + (3 + 11) + 20 ≤ _; omega⟩ ⟨by omega, by omega⟩ (Nat.le_of_ble_eq_true rfl) (fun v_153 h_152 p_154 => ?_)
        obtain ⟨rfl, rfl⟩ := p_154
        rw [cntD_dep ST]
        refine s_Model_filter_102 (fun z_155 => ?_) (fun z_156 => ?_)
        · skip
          refine s_Model_filter_111 ?_
          refine s_Model_filter_112 ?_
          refine x_callV (As := [.int 0, .int (nI (bl fa asz p))]) (b := m) (rest := []) (F1 := 1) (L1 := 20) (mc := 0) (ms := 0) d_Model_filter_113 cV_Model_250 (f_wrongsH (k := bl fa asz p) l_127 e_128 g_129 (by omega) (by omega) (by omega)) e_128 ⟨by decide, rfl⟩ ⟨by omega, by show 8 + (3 + 11) + 20 ≤ _; omega⟩ ⟨by omega, by omega⟩ (Nat.le_of_ble_eq_true rfl) (fun v_168 h_167 p_169 => ?_)
          obtain ⟨rfl, bd_157, fs_158, hw_159, hw_160, hw_161, l_162, e_163, g_164, ga_165, r_166⟩ := p_169
          have e_170 := r_166 asked_ _ (by simp only [List.mem_cons, List.not_mem_nil, or_false, not_or]; exact (xw_neC e_135 e_128 (by simp))) e_135
          have e_171 := r_166 top_ _ (by simp only [List.mem_cons, List.not_mem_nil, or_false, not_or]; exact (xw_neC e_136 e_128 (by simp))) e_136
          have e_172 := r_166 masks_ _ (by simp only [List.mem_cons, List.not_mem_nil, or_false, not_or]; exact (xw_neC e_137 e_128 (by simp))) e_137
          have r_173 := r_138.trans (r_166.mono (by simp))
          have g_174 : fs_158[28]? = some (.int (nI (bl fa asz p))) := (ga_165 28 (by decide)).trans g_139
          have g_175 : fs_158[29]? = some (.int (nI (rkd (kdP fa asz p)))) := (ga_165 29 (by decide)).trans g_140
          have g_176 : fs_158[30]? = some (.int (nI (bl fa asz p))) := (ga_165 30 (by decide)).trans g_141
          have g_177 : fs_158[31]? = some (.int (nI y)) := (ga_165 31 (by decide)).trans g_142
          have g_178 : fs_158[38]? = some (.int (nI st.length)) := (ga_165 38 (by decide)).trans g_143
          have g_179 : fs_158[39]? = some (.int (nI mk)) := (ga_165 39 (by decide)).trans g_144
          have g_180 : fs_158[11]? = some (.int (nI asz)) := (ga_165 11 (by decide)).trans g_145
          have g_181 : fs_158[4]? = some (.ref asked_) := (ga_165 4 (by decide)).trans g_146
          have g_182 : fs_158[51]? = some (.ref top_) := (ga_165 51 (by decide)).trans g_147
          have g_183 : fs_158[52]? = some (.ref masks_) := (ga_165 52 (by decide)).trans g_148
          have ga_184 : ∀ i, i ∉ [28, 29, 30, 31, 33, 38, 39] → fs_158[i]? = fs[i]? := fun i hi => (ga_165 i (fun z => hi (by simp only [List.mem_cons, List.not_mem_nil, or_false] at z ⊢; omega))).trans (ga_149 i hi)
          have hb_185 : ¬ bd_157 < 0 := by rw [hw_161 hb_150]; exact hb_150
          have hb_186 : 0 ≤ bd_157 := Int32.not_lt.mp hb_185
          refine x_le (xw_le_s (xw_le_n (xw_le_s (xw_le_n xw_le_e)))) ?_
          refine s_Model_filter_116 l_162 e_163 g_164 (fun z => absurd z hb_185) (fun z_187 => ?_)
          refine s_Model_filter_123 ?_
          have hk_188 : ¬ kdP fa asz p = 11 := fun q => z_1 (by rw [q]; rfl)
          have hd_189 : ¬ depS st = 8 := fun q => z_155 (by rw [q]; rfl)
          exact ⟨rfl, _, _, _, _, l_162, e_163, g_164, ga_184, e_171, e_172, r_173, Or.inl ⟨Or.inl (fp_0n hk_188 hN_121), hb_185, (fun i9 hi9 => by simp only [List.mem_cons, List.not_mem_nil, or_false] at hi9; rcases hi9 with rfl | rfl | rfl | rfl | rfl <;> first | exact ⟨_, g_174⟩ | exact ⟨_, g_175⟩ | exact ⟨_, g_176⟩ | exact ⟨_, g_177⟩ | exact ⟨_, g_179⟩), g_178⟩⟩
        · skip
          refine s_Model_filter_107 ?_
          refine s_Model_filter_112 ?_
          refine x_callV (As := [.int 1, .int (nI (bl fa asz p))]) (b := m) (rest := []) (F1 := 1) (L1 := 20) (mc := 0) (ms := 0) d_Model_filter_113 cV_Model_250 (f_wrongsH (k := bl fa asz p) l_127 e_128 g_129 (by omega) (by omega) (by omega)) e_128 ⟨by decide, rfl⟩ ⟨by omega, by show 8 + (3 + 11) + 20 ≤ _; omega⟩ ⟨by omega, by omega⟩ (Nat.le_of_ble_eq_true rfl) (fun v_201 h_200 p_202 => ?_)
          obtain ⟨rfl, bd_190, fs_191, hw_192, hw_193, hw_194, l_195, e_196, g_197, ga_198, r_199⟩ := p_202
          have e_203 := r_199 asked_ _ (by simp only [List.mem_cons, List.not_mem_nil, or_false, not_or]; exact (xw_neC e_135 e_128 (by simp))) e_135
          have e_204 := r_199 top_ _ (by simp only [List.mem_cons, List.not_mem_nil, or_false, not_or]; exact (xw_neC e_136 e_128 (by simp))) e_136
          have e_205 := r_199 masks_ _ (by simp only [List.mem_cons, List.not_mem_nil, or_false, not_or]; exact (xw_neC e_137 e_128 (by simp))) e_137
          have r_206 := r_138.trans (r_199.mono (by simp))
          have g_207 : fs_191[28]? = some (.int (nI (bl fa asz p))) := (ga_198 28 (by decide)).trans g_139
          have g_208 : fs_191[29]? = some (.int (nI (rkd (kdP fa asz p)))) := (ga_198 29 (by decide)).trans g_140
          have g_209 : fs_191[30]? = some (.int (nI (bl fa asz p))) := (ga_198 30 (by decide)).trans g_141
          have g_210 : fs_191[31]? = some (.int (nI y)) := (ga_198 31 (by decide)).trans g_142
          have g_211 : fs_191[38]? = some (.int (nI st.length)) := (ga_198 38 (by decide)).trans g_143
          have g_212 : fs_191[39]? = some (.int (nI mk)) := (ga_198 39 (by decide)).trans g_144
          have g_213 : fs_191[11]? = some (.int (nI asz)) := (ga_198 11 (by decide)).trans g_145
          have g_214 : fs_191[4]? = some (.ref asked_) := (ga_198 4 (by decide)).trans g_146
          have g_215 : fs_191[51]? = some (.ref top_) := (ga_198 51 (by decide)).trans g_147
          have g_216 : fs_191[52]? = some (.ref masks_) := (ga_198 52 (by decide)).trans g_148
          have ga_217 : ∀ i, i ∉ [28, 29, 30, 31, 33, 38, 39] → fs_191[i]? = fs[i]? := fun i hi => (ga_198 i (fun z => hi (by simp only [List.mem_cons, List.not_mem_nil, or_false] at z ⊢; omega))).trans (ga_149 i hi)
          have hb_218 : ¬ bd_190 < 0 := by rw [hw_194 hb_150]; exact hb_150
          have hb_219 : 0 ≤ bd_190 := Int32.not_lt.mp hb_218
          refine x_le (xw_le_s (xw_le_n (xw_le_s (xw_le_n xw_le_e)))) ?_
          refine s_Model_filter_116 l_195 e_196 g_197 (fun z => absurd z hb_218) (fun z_220 => ?_)
          refine s_Model_filter_123 ?_
          have hk_221 : ¬ kdP fa asz p = 11 := fun q => z_1 (by rw [q]; rfl)
          have hd_222 : depS st = 8 := (nI_eq (b := 8) (by have := cJ_len st; omega) (by decide)).mp z_156
          exact ⟨rfl, _, _, _, _, l_195, e_196, g_197, ga_217, e_204, e_205, r_206, Or.inl ⟨Or.inl (fp_0n hk_221 hN_121), hb_218, (fun i9 hi9 => by simp only [List.mem_cons, List.not_mem_nil, or_false] at hi9; rcases hi9 with rfl | rfl | rfl | rfl | rfl <;> first | exact ⟨_, g_207⟩ | exact ⟨_, g_208⟩ | exact ⟨_, g_209⟩ | exact ⟨_, g_210⟩ | exact ⟨_, g_212⟩), g_211⟩⟩
      · skip
        refine s_Model_filter_48 l e g_from ?_
        refine x_callV (As := [.int (nI (bl fa asz p))]) (b := m) (rest := []) (F1 := 1) (L1 := 20) (mc := 0) (ms := 0) d_Model_filter_53 cV_Model_221 (f_q (x := bl fa asz p) l e g_askedSize g_asked e_asked (by omega) (by omega) (by omega) (by omega)) e ⟨by decide, rfl⟩ ⟨by omega, by show 8 + (2 + 11) + 20 ≤ _; omega⟩ ⟨by omega, by omega⟩ (Nat.le_of_ble_eq_true rfl) (fun v_224 h_223 p_225 => ?_)
        obtain ⟨rfl, rfl⟩ := p_225
        refine s_Model_filter_56 (fun z_226 => ?_) (fun z_227 => ?_)
        · skip
          refine s_Model_filter_74 ?_
          refine s_Model_filter_79 (fun z_228 => ?_) (fun z => absurd z (by decide))
          refine s_Model_filter_89 ?_
          refine s_Model_filter_90 l e g_from ?_
          have hs_229 := (hc_5.resolve_left (fun q => z_10 q.1)).2
          have hE_230 := HY (by rw [hs_229]; decide)
          have kw9 := kd_w (Or.inr hs_229)
          rw [hE_230, pk_sub (by omega)] at z_116
          have hl_231 : skP fa asz p = bl fa asz p + 1 := by have := (nI_eq (b := 1) (by omega) (by decide)).mp z_116; omega
          have hq_232 := z_226
          rw [qv_in (show bl fa asz p < asz by omega)] at hq_232
          have hN_233 := flN_a hs_229 hl_231 hq_232
          refine x_callV (As := [.int 0, .int (nI (bl fa asz p))]) (b := m) (rest := []) (F1 := 1) (L1 := 20) (mc := 0) (ms := 0) d_Model_filter_94 cV_Model_250 (f_wrongsH (k := bl fa asz p) l e g_bad (by omega) (by omega) (by omega)) e ⟨by decide, rfl⟩ ⟨by omega, by show 8 + (3 + 11) + 20 ≤ _; omega⟩ ⟨by omega, by omega⟩ (Nat.le_of_ble_eq_true rfl) (fun v_245 h_244 p_246 => ?_)
          obtain ⟨rfl, bd_234, fs_235, hw_236, hw_237, hw_238, l_239, e_240, g_241, ga_242, r_243⟩ := p_246
          have e_247 := r_243 asked_ _ (by simp only [List.mem_cons, List.not_mem_nil, or_false, not_or]; exact (xw_neC e_asked e (by simp))) e_asked
          have e_248 := r_243 top_ _ (by simp only [List.mem_cons, List.not_mem_nil, or_false, not_or]; exact (xw_neC e_top e (by simp))) e_top
          have e_249 := r_243 masks_ _ (by simp only [List.mem_cons, List.not_mem_nil, or_false, not_or]; exact (xw_neC e_masks e (by simp))) e_masks
          have r_250 := r0.trans (r_243.mono (by simp))
          have g_251 : fs_235[28]? = some (.int (nI (bl fa asz p))) := (ga_242 28 (by decide)).trans g_at
          have g_252 : fs_235[29]? = some (.int (nI (rkd (kdP fa asz p)))) := (ga_242 29 (by decide)).trans g_kind
          have g_253 : fs_235[30]? = some (.int (nI (bl fa asz p))) := (ga_242 30 (by decide)).trans g_from
          have g_254 : fs_235[31]? = some (.int (nI y)) := (ga_242 31 (by decide)).trans g_to
          have g_255 : fs_235[38]? = some (.int (nI st.length)) := (ga_242 38 (by decide)).trans g_tops
          have g_256 : fs_235[39]? = some (.int (nI mk)) := (ga_242 39 (by decide)).trans g_mask
          have g_257 : fs_235[11]? = some (.int (nI asz)) := (ga_242 11 (by decide)).trans g_askedSize
          have g_258 : fs_235[4]? = some (.ref asked_) := (ga_242 4 (by decide)).trans g_asked
          have g_259 : fs_235[51]? = some (.ref top_) := (ga_242 51 (by decide)).trans g_top
          have g_260 : fs_235[52]? = some (.ref masks_) := (ga_242 52 (by decide)).trans g_masks
          have ga_261 : ∀ i, i ∉ [28, 29, 30, 31, 33, 38, 39] → fs_235[i]? = fs[i]? := fun i hi => (ga_242 i (fun z => hi (by simp only [List.mem_cons, List.not_mem_nil, or_false] at z ⊢; omega))).trans (ga0 i hi)
          have hb_262 : bd_234 < 0 := by rw [hw_236 rfl]; exact hbd
          have hb_263 : ¬ 0 ≤ bd_234 := Int32.not_le.mpr hb_262
          refine s_Model_filter_97 ?_
          refine x_callV (As := []) (b := m) (rest := [.ref m]) (F1 := 1) (L1 := 20) (mc := 0) (ms := 0) d_Model_filter_99 cV_Model_288 (f_depth (n := st.length) l_239 e_240 g_255 g_259 e_248 (by omega) (by omega) (by omega)) e_240 ⟨by decide, rfl⟩ ⟨by omega, by show 8 + (3 + 11) + 20 ≤ _; omega⟩ ⟨by omega, by omega⟩ (Nat.le_of_ble_eq_true rfl) (fun v_265 h_264 p_266 => ?_)
          obtain ⟨rfl, rfl⟩ := p_266
          rw [cntD_dep ST]
          refine s_Model_filter_102 (fun z_267 => ?_) (fun z_268 => ?_)
          · skip
            refine s_Model_filter_111 ?_
            refine s_Model_filter_112 ?_
            refine x_callV (As := [.int 0, .int (nI (bl fa asz p))]) (b := m) (rest := []) (F1 := 1) (L1 := 20) (mc := 0) (ms := 0) d_Model_filter_113 cV_Model_250 (f_wrongsH (k := bl fa asz p) l_239 e_240 g_241 (by omega) (by omega) (by omega)) e_240 ⟨by decide, rfl⟩ ⟨by omega, by show 8 + (3 + 11) + 20 ≤ _; omega⟩ ⟨by omega, by omega⟩ (Nat.le_of_ble_eq_true rfl) (fun v_280 h_279 p_281 => ?_)
            obtain ⟨rfl, bd_269, fs_270, hw_271, hw_272, hw_273, l_274, e_275, g_276, ga_277, r_278⟩ := p_281
            have e_282 := r_278 asked_ _ (by simp only [List.mem_cons, List.not_mem_nil, or_false, not_or]; exact (xw_neC e_247 e_240 (by simp))) e_247
            have e_283 := r_278 top_ _ (by simp only [List.mem_cons, List.not_mem_nil, or_false, not_or]; exact (xw_neC e_248 e_240 (by simp))) e_248
            have e_284 := r_278 masks_ _ (by simp only [List.mem_cons, List.not_mem_nil, or_false, not_or]; exact (xw_neC e_249 e_240 (by simp))) e_249
            have r_285 := r_250.trans (r_278.mono (by simp))
            have g_286 : fs_270[28]? = some (.int (nI (bl fa asz p))) := (ga_277 28 (by decide)).trans g_251
            have g_287 : fs_270[29]? = some (.int (nI (rkd (kdP fa asz p)))) := (ga_277 29 (by decide)).trans g_252
            have g_288 : fs_270[30]? = some (.int (nI (bl fa asz p))) := (ga_277 30 (by decide)).trans g_253
            have g_289 : fs_270[31]? = some (.int (nI y)) := (ga_277 31 (by decide)).trans g_254
            have g_290 : fs_270[38]? = some (.int (nI st.length)) := (ga_277 38 (by decide)).trans g_255
            have g_291 : fs_270[39]? = some (.int (nI mk)) := (ga_277 39 (by decide)).trans g_256
            have g_292 : fs_270[11]? = some (.int (nI asz)) := (ga_277 11 (by decide)).trans g_257
            have g_293 : fs_270[4]? = some (.ref asked_) := (ga_277 4 (by decide)).trans g_258
            have g_294 : fs_270[51]? = some (.ref top_) := (ga_277 51 (by decide)).trans g_259
            have g_295 : fs_270[52]? = some (.ref masks_) := (ga_277 52 (by decide)).trans g_260
            have ga_296 : ∀ i, i ∉ [28, 29, 30, 31, 33, 38, 39] → fs_270[i]? = fs[i]? := fun i hi => (ga_277 i (fun z => hi (by simp only [List.mem_cons, List.not_mem_nil, or_false] at z ⊢; omega))).trans (ga_261 i hi)
            have hb_297 : bd_269 < 0 := by rw [hw_271 rfl]; exact hb_262
            have hb_298 : ¬ 0 ≤ bd_269 := Int32.not_le.mpr hb_297
            refine x_le (xw_le_s (xw_le_n (xw_le_s (xw_le_n xw_le_e)))) ?_
            refine s_Model_filter_116 l_274 e_275 g_276 (fun z_299 => ?_) (fun z => absurd hb_297 z)
            refine s_Model_filter_124 ?_
            refine x_callV (As := [.int 6]) (b := m) (rest := []) (F1 := 1) (L1 := 20) (mc := 0) (ms := 0) d_Model_filter_127 cV_Model_285 (f_pushesH (n := st.length) (mk := mk) l_274 e_275 g_290 g_291 g_294 e_283 g_295 e_284 n_top_masks (by omega) (by omega) (by omega)) e_275 ⟨by decide, rfl⟩ ⟨by omega, by show 8 + (2 + 11) + 20 ≤ _; omega⟩ ⟨by omega, by omega⟩ (Nat.le_of_ble_eq_true rfl) (fun v_309 h_308 p_310 => ?_)
            obtain ⟨rfl, fs_300, l_301, e_302, g_303, ga_304, e_305, e_306, r_307⟩ := p_310
            have e_311 := r_307 asked_ _ (by simp only [List.mem_cons, List.not_mem_nil, or_false, not_or]; exact ⟨(xw_neC e_282 e_275 (by simp)), (xw_neC e_282 e_283 (by simp)), (xw_neC e_282 e_284 (by simp))⟩) e_282
            have r_312 := r_285.trans (r_307.mono (by simp))
            have g_313 : fs_300[28]? = some (.int (nI (bl fa asz p))) := (ga_304 28 (by decide)).trans g_286
            have g_314 : fs_300[29]? = some (.int (nI (rkd (kdP fa asz p)))) := (ga_304 29 (by decide)).trans g_287
            have g_315 : fs_300[30]? = some (.int (nI (bl fa asz p))) := (ga_304 30 (by decide)).trans g_288
            have g_316 : fs_300[31]? = some (.int (nI y)) := (ga_304 31 (by decide)).trans g_289
            have g_317 : fs_300[39]? = some (.int (nI mk)) := (ga_304 39 (by decide)).trans g_291
            have g_318 : fs_300[11]? = some (.int (nI asz)) := (ga_304 11 (by decide)).trans g_292
            have g_319 : fs_300[4]? = some (.ref asked_) := (ga_304 4 (by decide)).trans g_293
            have g_320 : fs_300[51]? = some (.ref top_) := (ga_304 51 (by decide)).trans g_294
            have g_321 : fs_300[52]? = some (.ref masks_) := (ga_304 52 (by decide)).trans g_295
            have g_322 : fs_300[33]? = some (.int bd_269) := (ga_304 33 (by decide)).trans g_276
            have ga_323 : ∀ i, i ∉ [28, 29, 30, 31, 33, 38, 39] → fs_300[i]? = fs[i]? := fun i hi => (ga_304 i (fun z => hi (by simp only [List.mem_cons, List.not_mem_nil, or_false] at z ⊢; omega))).trans (ga_296 i hi)
            refine s_Model_filter_130 l_301 e_302 g_317 g_315 ?_
            refine x_callV (As := [.int (nI (bl fa asz p))]) (b := m) (rest := [.int (nI mk), .ref m]) (F1 := 1) (L1 := 20) (mc := 0) (ms := 0) d_Model_filter_140 cV_Model_221 (f_q (x := bl fa asz p) l_301 e_302 g_318 g_319 e_311 (by omega) (by omega) (by omega) (by omega)) e_302 ⟨by decide, rfl⟩ ⟨by omega, by show 8 + (2 + 11) + 20 ≤ _; omega⟩ ⟨by omega, by omega⟩ (Nat.le_of_ble_eq_true rfl) (fun v_325 h_324 p_326 => ?_)
            obtain ⟨rfl, rfl⟩ := p_326
            refine s_Model_filter_143 (fun z => absurd z_226 z) (fun z_327 => ?_)
            refine s_Model_filter_148 ?_
            refine s_Model_filter_153 (fun z => absurd z (by decide)) (fun z_328 => ?_)
            refine s_Model_filter_157 ?_
            refine s_Model_filter_162 l_301 e_302 ?_
            refine x_u1 (fun h_329 e_330 f_331 => ?_)
            have e_332 := (f_331 asked_ (xw_neC e_311 e_302 (by simp))).trans e_311
            have e_333 := (f_331 top_ (xw_neC e_305 e_302 (by simp))).trans e_305
            have e_334 := (f_331 masks_ (xw_neC e_306 e_302 (by simp))).trans e_306
            have r_335 := r_312.up (by simp) f_331
            obtain ⟨fs_336, z_337⟩ : ∃ z, z = fs_300.set 39 (.int ((nI mk) &&& 1)) := ⟨_, rfl⟩
            rw [← z_337] at e_330
            have l_338 : fs_336.length = 62 := by rw [z_337]; simp only [List.length_set]; exact l_301
            have g_339 : fs_336[4]? = some (.ref asked_) := by rw [z_337]; exact (xw_gn (by decide) g_319)
            have g_340 : fs_336[11]? = some (.int (nI asz)) := by rw [z_337]; exact (xw_gn (by decide) g_318)
            have g_341 : fs_336[28]? = some (.int (nI (bl fa asz p))) := by rw [z_337]; exact (xw_gn (by decide) g_313)
            have g_342 : fs_336[29]? = some (.int (nI (rkd (kdP fa asz p)))) := by rw [z_337]; exact (xw_gn (by decide) g_314)
            have g_343 : fs_336[30]? = some (.int (nI (bl fa asz p))) := by rw [z_337]; exact (xw_gn (by decide) g_315)
            have g_344 : fs_336[31]? = some (.int (nI y)) := by rw [z_337]; exact (xw_gn (by decide) g_316)
            have g_345 : fs_336[33]? = some (.int bd_269) := by rw [z_337]; exact (xw_gn (by decide) g_322)
            have g_346 : fs_336[38]? = some (.int (nI (st.length + 1))) := by rw [z_337]; exact (xw_gn (by decide) g_303)
            have g_347 : fs_336[39]? = some (.int ((nI mk) &&& 1)) := by rw [z_337]; exact (xw_gs (by simp [l_301]))
            have g_348 : fs_336[51]? = some (.ref top_) := by rw [z_337]; exact (xw_gn (by decide) g_320)
            have g_349 : fs_336[52]? = some (.ref masks_) := by rw [z_337]; exact (xw_gn (by decide) g_321)
            have ga_350 : ∀ i, i ∉ [28, 29, 30, 31, 33, 38, 39] → fs_336[i]? = fs[i]? := fun i hi => by rw [z_337]; exact xw_gn (fun z => hi (by rw [z]; simp)) (ga_323 i hi)
            clear z_337
            have hE_363 := HY (by rw [hs_229]; decide)
            rw [hE_363] at g_344
            refine x_callV (As := []) (b := m) (rest := []) (F1 := 4) (L1 := 87) (mc := 0) (ms := 0) d_Model_filter_167 cV_Model_257 (f_nextH (x0 := (skP fa asz p)) l_338 e_330 g_341 g_342 g_343 g_344 g_340 g_339 e_332 (by rw [← hE_363]; exact PT.2.1) hasz (by omega) (by omega)) e_330 ⟨by decide, rfl⟩ ⟨by omega, by show 8 + (1 + 11) + 87 ≤ _; omega⟩ ⟨by omega, by omega⟩ (Nat.le_of_ble_eq_true rfl) (fun v_365 h_364 p_366 => ?_)
            obtain ⟨rfl, y_351, fs_352, PT_353, HY_354, l_355, e_356, g_357, g_358, g_359, g_360, ga_361, r_362⟩ := p_366
            have e_367 := r_362 asked_ _ (by simp only [List.mem_cons, List.not_mem_nil, or_false, not_or]; exact (xw_neC e_332 e_330 (by simp))) e_332
            have e_368 := r_362 top_ _ (by simp only [List.mem_cons, List.not_mem_nil, or_false, not_or]; exact (xw_neC e_333 e_330 (by simp))) e_333
            have e_369 := r_362 masks_ _ (by simp only [List.mem_cons, List.not_mem_nil, or_false, not_or]; exact (xw_neC e_334 e_330 (by simp))) e_334
            have r_370 := r_335.trans (r_362.mono (by simp))
            have g_371 : fs_352[4]? = some (.ref asked_) := (ga_361 4 (by decide)).trans g_339
            have g_372 : fs_352[11]? = some (.int (nI asz)) := (ga_361 11 (by decide)).trans g_340
            have g_373 : fs_352[33]? = some (.int bd_269) := (ga_361 33 (by decide)).trans g_345
            have g_374 : fs_352[38]? = some (.int (nI (st.length + 1))) := (ga_361 38 (by decide)).trans g_346
            have g_375 : fs_352[39]? = some (.int ((nI mk) &&& 1)) := (ga_361 39 (by decide)).trans g_347
            have g_376 : fs_352[51]? = some (.ref top_) := (ga_361 51 (by decide)).trans g_348
            have g_377 : fs_352[52]? = some (.ref masks_) := (ga_361 52 (by decide)).trans g_349
            have ga_378 : ∀ i, i ∉ [28, 29, 30, 31, 33, 38, 39] → fs_352[i]? = fs[i]? := fun i hi => (ga_361 i (fun z => hi (by simp only [List.mem_cons, List.not_mem_nil, or_false] at z ⊢; omega))).trans (ga_350 i hi)
            have RQ_379 := RQ.next (by rw [hs_229]; decide) (by rw [hs_229]; decide)
            have hb_380 := Nat.le_trans PT_353.1 PT_353.2.1
            refine s_Model_filter_170 ?_
            have hk_381 := kd_3 hs_229
            have hE_394 := HY_354 (by rw [hk_381]; decide)
            rw [hE_394] at g_360
            refine x_callV (As := []) (b := m) (rest := []) (F1 := 4) (L1 := 87) (mc := 0) (ms := 0) d_Model_filter_171 cV_Model_257 (f_nextH (x0 := (skP fa asz (skP fa asz p))) l_355 e_356 g_357 g_358 g_359 g_360 g_372 g_371 e_367 (by rw [← hE_394]; exact PT_353.2.1) hasz (by omega) (by omega)) e_356 ⟨by decide, rfl⟩ ⟨by omega, by show 8 + (1 + 11) + 87 ≤ _; omega⟩ ⟨by omega, by omega⟩ (Nat.le_of_ble_eq_true rfl) (fun v_396 h_395 p_397 => ?_)
            obtain ⟨rfl, y_382, fs_383, PT_384, HY_385, l_386, e_387, g_388, g_389, g_390, g_391, ga_392, r_393⟩ := p_397
            have e_398 := r_393 asked_ _ (by simp only [List.mem_cons, List.not_mem_nil, or_false, not_or]; exact (xw_neC e_367 e_356 (by simp))) e_367
            have e_399 := r_393 top_ _ (by simp only [List.mem_cons, List.not_mem_nil, or_false, not_or]; exact (xw_neC e_368 e_356 (by simp))) e_368
            have e_400 := r_393 masks_ _ (by simp only [List.mem_cons, List.not_mem_nil, or_false, not_or]; exact (xw_neC e_369 e_356 (by simp))) e_369
            have r_401 := r_370.trans (r_393.mono (by simp))
            have g_402 : fs_383[4]? = some (.ref asked_) := (ga_392 4 (by decide)).trans g_371
            have g_403 : fs_383[11]? = some (.int (nI asz)) := (ga_392 11 (by decide)).trans g_372
            have g_404 : fs_383[33]? = some (.int bd_269) := (ga_392 33 (by decide)).trans g_373
            have g_405 : fs_383[38]? = some (.int (nI (st.length + 1))) := (ga_392 38 (by decide)).trans g_374
            have g_406 : fs_383[39]? = some (.int ((nI mk) &&& 1)) := (ga_392 39 (by decide)).trans g_375
            have g_407 : fs_383[51]? = some (.ref top_) := (ga_392 51 (by decide)).trans g_376
            have g_408 : fs_383[52]? = some (.ref masks_) := (ga_392 52 (by decide)).trans g_377
            have ga_409 : ∀ i, i ∉ [28, 29, 30, 31, 33, 38, 39] → fs_383[i]? = fs[i]? := fun i hi => (ga_392 i (fun z => hi (by simp only [List.mem_cons, List.not_mem_nil, or_false] at z ⊢; omega))).trans (ga_378 i hi)
            have RQ_410 := RQ_379.next (by rw [hk_381]; decide) (by rw [hk_381]; decide)
            have hb_411 := Nat.le_trans PT_384.1 PT_384.2.1
            refine x_le (xw_le_n (xw_le_n (xw_le_n (xw_le_n xw_le_e)))) ?_
            refine s_Model_filter_174 ?_
            have hk_412 : ¬ kdP fa asz p = 11 := fun q => z_1 (by rw [q]; rfl)
            have hd_413 : ¬ depS st = 8 := fun q => z_267 (by rw [q]; rfl)
            rw [am1 mk hmk] at g_406
            exact ⟨rfl, _, _, _, _, l_386, e_387, g_404, ga_409, e_399, e_400, r_401, Or.inr ⟨1, (skP fa asz (skP fa asz p)), _, fp_0y (s := (p, ph, gr)) hk_412 hN_233, hd_413, hb_297, PT_384, HY_385, g_388, g_389, g_390, g_391, RQ_410, g_405, g_406, ST.push (a := 6) (by omega) (by omega) hmk⟩⟩
          · skip
            refine s_Model_filter_107 ?_
            refine s_Model_filter_112 ?_
            refine x_callV (As := [.int 1, .int (nI (bl fa asz p))]) (b := m) (rest := []) (F1 := 1) (L1 := 20) (mc := 0) (ms := 0) d_Model_filter_113 cV_Model_250 (f_wrongsH (k := bl fa asz p) l_239 e_240 g_241 (by omega) (by omega) (by omega)) e_240 ⟨by decide, rfl⟩ ⟨by omega, by show 8 + (3 + 11) + 20 ≤ _; omega⟩ ⟨by omega, by omega⟩ (Nat.le_of_ble_eq_true rfl) (fun v_425 h_424 p_426 => ?_)
            obtain ⟨rfl, bd_414, fs_415, hw_416, hw_417, hw_418, l_419, e_420, g_421, ga_422, r_423⟩ := p_426
            have e_427 := r_423 asked_ _ (by simp only [List.mem_cons, List.not_mem_nil, or_false, not_or]; exact (xw_neC e_247 e_240 (by simp))) e_247
            have e_428 := r_423 top_ _ (by simp only [List.mem_cons, List.not_mem_nil, or_false, not_or]; exact (xw_neC e_248 e_240 (by simp))) e_248
            have e_429 := r_423 masks_ _ (by simp only [List.mem_cons, List.not_mem_nil, or_false, not_or]; exact (xw_neC e_249 e_240 (by simp))) e_249
            have r_430 := r_250.trans (r_423.mono (by simp))
            have g_431 : fs_415[28]? = some (.int (nI (bl fa asz p))) := (ga_422 28 (by decide)).trans g_251
            have g_432 : fs_415[29]? = some (.int (nI (rkd (kdP fa asz p)))) := (ga_422 29 (by decide)).trans g_252
            have g_433 : fs_415[30]? = some (.int (nI (bl fa asz p))) := (ga_422 30 (by decide)).trans g_253
            have g_434 : fs_415[31]? = some (.int (nI y)) := (ga_422 31 (by decide)).trans g_254
            have g_435 : fs_415[38]? = some (.int (nI st.length)) := (ga_422 38 (by decide)).trans g_255
            have g_436 : fs_415[39]? = some (.int (nI mk)) := (ga_422 39 (by decide)).trans g_256
            have g_437 : fs_415[11]? = some (.int (nI asz)) := (ga_422 11 (by decide)).trans g_257
            have g_438 : fs_415[4]? = some (.ref asked_) := (ga_422 4 (by decide)).trans g_258
            have g_439 : fs_415[51]? = some (.ref top_) := (ga_422 51 (by decide)).trans g_259
            have g_440 : fs_415[52]? = some (.ref masks_) := (ga_422 52 (by decide)).trans g_260
            have ga_441 : ∀ i, i ∉ [28, 29, 30, 31, 33, 38, 39] → fs_415[i]? = fs[i]? := fun i hi => (ga_422 i (fun z => hi (by simp only [List.mem_cons, List.not_mem_nil, or_false] at z ⊢; omega))).trans (ga_261 i hi)
            have hb_442 : ¬ bd_414 < 0 := hw_417 (by decide)
            have hb_443 : 0 ≤ bd_414 := Int32.not_lt.mp hb_442
            refine x_le (xw_le_s (xw_le_n (xw_le_s (xw_le_n xw_le_e)))) ?_
            refine s_Model_filter_116 l_419 e_420 g_421 (fun z => absurd z hb_442) (fun z_444 => ?_)
            refine s_Model_filter_123 ?_
            have hk_445 : ¬ kdP fa asz p = 11 := fun q => z_1 (by rw [q]; rfl)
            have hd_446 : depS st = 8 := (nI_eq (b := 8) (by have := cJ_len st; omega) (by decide)).mp z_268
            exact ⟨rfl, _, _, _, _, l_419, e_420, g_421, ga_441, e_428, e_429, r_430, Or.inl ⟨Or.inr hd_446, hb_442, (fun i9 hi9 => by simp only [List.mem_cons, List.not_mem_nil, or_false] at hi9; rcases hi9 with rfl | rfl | rfl | rfl | rfl <;> first | exact ⟨_, g_431⟩ | exact ⟨_, g_432⟩ | exact ⟨_, g_433⟩ | exact ⟨_, g_434⟩ | exact ⟨_, g_436⟩), g_435⟩⟩
        · skip
          refine s_Model_filter_61 l e g_from ?_
          refine x_callV (As := [.int (nI (bl fa asz p))]) (b := m) (rest := []) (F1 := 1) (L1 := 20) (mc := 0) (ms := 0) d_Model_filter_66 cV_Model_221 (f_q (x := bl fa asz p) l e g_askedSize g_asked e_asked (by omega) (by omega) (by omega) (by omega)) e ⟨by decide, rfl⟩ ⟨by omega, by show 8 + (2 + 11) + 20 ≤ _; omega⟩ ⟨by omega, by omega⟩ (Nat.le_of_ble_eq_true rfl) (fun v_448 h_447 p_449 => ?_)
          obtain ⟨rfl, rfl⟩ := p_449
          refine s_Model_filter_69 (fun z_450 => ?_) (fun z_451 => ?_)
          · skip
            refine s_Model_filter_78 ?_
            refine s_Model_filter_79 (fun z => absurd z (by decide)) (fun z_452 => ?_)
            refine s_Model_filter_85 ?_
            refine s_Model_filter_90 l e g_from ?_
            have hs_453 := (hc_5.resolve_left (fun q => z_10 q.1)).2
            have hE_454 := HY (by rw [hs_453]; decide)
            have kw9 := kd_w (Or.inr hs_453)
            rw [hE_454, pk_sub (by omega)] at z_116
            have hl_455 : skP fa asz p = bl fa asz p + 1 := by have := (nI_eq (b := 1) (by omega) (by decide)).mp z_116; omega
            have hq_456 := z_227
            rw [qv_in (show bl fa asz p < asz by omega)] at hq_456
            have hq_457 := z_450
            rw [qv_in (show bl fa asz p < asz by omega)] at hq_457
            have hN_458 := flN_c (fun q => q.2.elim hq_456 hq_457)
            refine x_callV (As := [.int 1, .int (nI (bl fa asz p))]) (b := m) (rest := []) (F1 := 1) (L1 := 20) (mc := 0) (ms := 0) d_Model_filter_94 cV_Model_250 (f_wrongsH (k := bl fa asz p) l e g_bad (by omega) (by omega) (by omega)) e ⟨by decide, rfl⟩ ⟨by omega, by show 8 + (3 + 11) + 20 ≤ _; omega⟩ ⟨by omega, by omega⟩ (Nat.le_of_ble_eq_true rfl) (fun v_470 h_469 p_471 => ?_)
            obtain ⟨rfl, bd_459, fs_460, hw_461, hw_462, hw_463, l_464, e_465, g_466, ga_467, r_468⟩ := p_471
            have e_472 := r_468 asked_ _ (by simp only [List.mem_cons, List.not_mem_nil, or_false, not_or]; exact (xw_neC e_asked e (by simp))) e_asked
            have e_473 := r_468 top_ _ (by simp only [List.mem_cons, List.not_mem_nil, or_false, not_or]; exact (xw_neC e_top e (by simp))) e_top
            have e_474 := r_468 masks_ _ (by simp only [List.mem_cons, List.not_mem_nil, or_false, not_or]; exact (xw_neC e_masks e (by simp))) e_masks
            have r_475 := r0.trans (r_468.mono (by simp))
            have g_476 : fs_460[28]? = some (.int (nI (bl fa asz p))) := (ga_467 28 (by decide)).trans g_at
            have g_477 : fs_460[29]? = some (.int (nI (rkd (kdP fa asz p)))) := (ga_467 29 (by decide)).trans g_kind
            have g_478 : fs_460[30]? = some (.int (nI (bl fa asz p))) := (ga_467 30 (by decide)).trans g_from
            have g_479 : fs_460[31]? = some (.int (nI y)) := (ga_467 31 (by decide)).trans g_to
            have g_480 : fs_460[38]? = some (.int (nI st.length)) := (ga_467 38 (by decide)).trans g_tops
            have g_481 : fs_460[39]? = some (.int (nI mk)) := (ga_467 39 (by decide)).trans g_mask
            have g_482 : fs_460[11]? = some (.int (nI asz)) := (ga_467 11 (by decide)).trans g_askedSize
            have g_483 : fs_460[4]? = some (.ref asked_) := (ga_467 4 (by decide)).trans g_asked
            have g_484 : fs_460[51]? = some (.ref top_) := (ga_467 51 (by decide)).trans g_top
            have g_485 : fs_460[52]? = some (.ref masks_) := (ga_467 52 (by decide)).trans g_masks
            have ga_486 : ∀ i, i ∉ [28, 29, 30, 31, 33, 38, 39] → fs_460[i]? = fs[i]? := fun i hi => (ga_467 i (fun z => hi (by simp only [List.mem_cons, List.not_mem_nil, or_false] at z ⊢; omega))).trans (ga0 i hi)
            have hb_487 : ¬ bd_459 < 0 := hw_462 (by decide)
            have hb_488 : 0 ≤ bd_459 := Int32.not_lt.mp hb_487
            refine s_Model_filter_97 ?_
            refine x_callV (As := []) (b := m) (rest := [.ref m]) (F1 := 1) (L1 := 20) (mc := 0) (ms := 0) d_Model_filter_99 cV_Model_288 (f_depth (n := st.length) l_464 e_465 g_480 g_484 e_473 (by omega) (by omega) (by omega)) e_465 ⟨by decide, rfl⟩ ⟨by omega, by show 8 + (3 + 11) + 20 ≤ _; omega⟩ ⟨by omega, by omega⟩ (Nat.le_of_ble_eq_true rfl) (fun v_490 h_489 p_491 => ?_)
            obtain ⟨rfl, rfl⟩ := p_491
            rw [cntD_dep ST]
            refine s_Model_filter_102 (fun z_492 => ?_) (fun z_493 => ?_)
            · skip
              refine s_Model_filter_111 ?_
              refine s_Model_filter_112 ?_
              refine x_callV (As := [.int 0, .int (nI (bl fa asz p))]) (b := m) (rest := []) (F1 := 1) (L1 := 20) (mc := 0) (ms := 0) d_Model_filter_113 cV_Model_250 (f_wrongsH (k := bl fa asz p) l_464 e_465 g_466 (by omega) (by omega) (by omega)) e_465 ⟨by decide, rfl⟩ ⟨by omega, by show 8 + (3 + 11) + 20 ≤ _; omega⟩ ⟨by omega, by omega⟩ (Nat.le_of_ble_eq_true rfl) (fun v_505 h_504 p_506 => ?_)
              obtain ⟨rfl, bd_494, fs_495, hw_496, hw_497, hw_498, l_499, e_500, g_501, ga_502, r_503⟩ := p_506
              have e_507 := r_503 asked_ _ (by simp only [List.mem_cons, List.not_mem_nil, or_false, not_or]; exact (xw_neC e_472 e_465 (by simp))) e_472
              have e_508 := r_503 top_ _ (by simp only [List.mem_cons, List.not_mem_nil, or_false, not_or]; exact (xw_neC e_473 e_465 (by simp))) e_473
              have e_509 := r_503 masks_ _ (by simp only [List.mem_cons, List.not_mem_nil, or_false, not_or]; exact (xw_neC e_474 e_465 (by simp))) e_474
              have r_510 := r_475.trans (r_503.mono (by simp))
              have g_511 : fs_495[28]? = some (.int (nI (bl fa asz p))) := (ga_502 28 (by decide)).trans g_476
              have g_512 : fs_495[29]? = some (.int (nI (rkd (kdP fa asz p)))) := (ga_502 29 (by decide)).trans g_477
              have g_513 : fs_495[30]? = some (.int (nI (bl fa asz p))) := (ga_502 30 (by decide)).trans g_478
              have g_514 : fs_495[31]? = some (.int (nI y)) := (ga_502 31 (by decide)).trans g_479
              have g_515 : fs_495[38]? = some (.int (nI st.length)) := (ga_502 38 (by decide)).trans g_480
              have g_516 : fs_495[39]? = some (.int (nI mk)) := (ga_502 39 (by decide)).trans g_481
              have g_517 : fs_495[11]? = some (.int (nI asz)) := (ga_502 11 (by decide)).trans g_482
              have g_518 : fs_495[4]? = some (.ref asked_) := (ga_502 4 (by decide)).trans g_483
              have g_519 : fs_495[51]? = some (.ref top_) := (ga_502 51 (by decide)).trans g_484
              have g_520 : fs_495[52]? = some (.ref masks_) := (ga_502 52 (by decide)).trans g_485
              have ga_521 : ∀ i, i ∉ [28, 29, 30, 31, 33, 38, 39] → fs_495[i]? = fs[i]? := fun i hi => (ga_502 i (fun z => hi (by simp only [List.mem_cons, List.not_mem_nil, or_false] at z ⊢; omega))).trans (ga_486 i hi)
              have hb_522 : ¬ bd_494 < 0 := by rw [hw_498 hb_487]; exact hb_487
              have hb_523 : 0 ≤ bd_494 := Int32.not_lt.mp hb_522
              refine x_le (xw_le_s (xw_le_n (xw_le_s (xw_le_n xw_le_e)))) ?_
              refine s_Model_filter_116 l_499 e_500 g_501 (fun z => absurd z hb_522) (fun z_524 => ?_)
              refine s_Model_filter_123 ?_
              have hk_525 : ¬ kdP fa asz p = 11 := fun q => z_1 (by rw [q]; rfl)
              have hd_526 : ¬ depS st = 8 := fun q => z_492 (by rw [q]; rfl)
              exact ⟨rfl, _, _, _, _, l_499, e_500, g_501, ga_521, e_508, e_509, r_510, Or.inl ⟨Or.inl (fp_0n hk_525 hN_458), hb_522, (fun i9 hi9 => by simp only [List.mem_cons, List.not_mem_nil, or_false] at hi9; rcases hi9 with rfl | rfl | rfl | rfl | rfl <;> first | exact ⟨_, g_511⟩ | exact ⟨_, g_512⟩ | exact ⟨_, g_513⟩ | exact ⟨_, g_514⟩ | exact ⟨_, g_516⟩), g_515⟩⟩
            · skip
              refine s_Model_filter_107 ?_
              refine s_Model_filter_112 ?_
              refine x_callV (As := [.int 1, .int (nI (bl fa asz p))]) (b := m) (rest := []) (F1 := 1) (L1 := 20) (mc := 0) (ms := 0) d_Model_filter_113 cV_Model_250 (f_wrongsH (k := bl fa asz p) l_464 e_465 g_466 (by omega) (by omega) (by omega)) e_465 ⟨by decide, rfl⟩ ⟨by omega, by show 8 + (3 + 11) + 20 ≤ _; omega⟩ ⟨by omega, by omega⟩ (Nat.le_of_ble_eq_true rfl) (fun v_538 h_537 p_539 => ?_)
              obtain ⟨rfl, bd_527, fs_528, hw_529, hw_530, hw_531, l_532, e_533, g_534, ga_535, r_536⟩ := p_539
              have e_540 := r_536 asked_ _ (by simp only [List.mem_cons, List.not_mem_nil, or_false, not_or]; exact (xw_neC e_472 e_465 (by simp))) e_472
              have e_541 := r_536 top_ _ (by simp only [List.mem_cons, List.not_mem_nil, or_false, not_or]; exact (xw_neC e_473 e_465 (by simp))) e_473
              have e_542 := r_536 masks_ _ (by simp only [List.mem_cons, List.not_mem_nil, or_false, not_or]; exact (xw_neC e_474 e_465 (by simp))) e_474
              have r_543 := r_475.trans (r_536.mono (by simp))
              have g_544 : fs_528[28]? = some (.int (nI (bl fa asz p))) := (ga_535 28 (by decide)).trans g_476
              have g_545 : fs_528[29]? = some (.int (nI (rkd (kdP fa asz p)))) := (ga_535 29 (by decide)).trans g_477
              have g_546 : fs_528[30]? = some (.int (nI (bl fa asz p))) := (ga_535 30 (by decide)).trans g_478
              have g_547 : fs_528[31]? = some (.int (nI y)) := (ga_535 31 (by decide)).trans g_479
              have g_548 : fs_528[38]? = some (.int (nI st.length)) := (ga_535 38 (by decide)).trans g_480
              have g_549 : fs_528[39]? = some (.int (nI mk)) := (ga_535 39 (by decide)).trans g_481
              have g_550 : fs_528[11]? = some (.int (nI asz)) := (ga_535 11 (by decide)).trans g_482
              have g_551 : fs_528[4]? = some (.ref asked_) := (ga_535 4 (by decide)).trans g_483
              have g_552 : fs_528[51]? = some (.ref top_) := (ga_535 51 (by decide)).trans g_484
              have g_553 : fs_528[52]? = some (.ref masks_) := (ga_535 52 (by decide)).trans g_485
              have ga_554 : ∀ i, i ∉ [28, 29, 30, 31, 33, 38, 39] → fs_528[i]? = fs[i]? := fun i hi => (ga_535 i (fun z => hi (by simp only [List.mem_cons, List.not_mem_nil, or_false] at z ⊢; omega))).trans (ga_486 i hi)
              have hb_555 : ¬ bd_527 < 0 := by rw [hw_531 hb_487]; exact hb_487
              have hb_556 : 0 ≤ bd_527 := Int32.not_lt.mp hb_555
              refine x_le (xw_le_s (xw_le_n (xw_le_s (xw_le_n xw_le_e)))) ?_
              refine s_Model_filter_116 l_532 e_533 g_534 (fun z => absurd z hb_555) (fun z_557 => ?_)
              refine s_Model_filter_123 ?_
              have hk_558 : ¬ kdP fa asz p = 11 := fun q => z_1 (by rw [q]; rfl)
              have hd_559 : depS st = 8 := (nI_eq (b := 8) (by have := cJ_len st; omega) (by decide)).mp z_493
              exact ⟨rfl, _, _, _, _, l_532, e_533, g_534, ga_554, e_541, e_542, r_543, Or.inl ⟨Or.inl (fp_0n hk_558 hN_458), hb_555, (fun i9 hi9 => by simp only [List.mem_cons, List.not_mem_nil, or_false] at hi9; rcases hi9 with rfl | rfl | rfl | rfl | rfl <;> first | exact ⟨_, g_544⟩ | exact ⟨_, g_545⟩ | exact ⟨_, g_546⟩ | exact ⟨_, g_547⟩ | exact ⟨_, g_549⟩), g_548⟩⟩
          · skip
            refine s_Model_filter_74 ?_
            refine s_Model_filter_79 (fun z_560 => ?_) (fun z => absurd z (by decide))
            refine s_Model_filter_89 ?_
            refine s_Model_filter_90 l e g_from ?_
            have hs_561 := (hc_5.resolve_left (fun q => z_10 q.1)).2
            have hE_562 := HY (by rw [hs_561]; decide)
            have kw9 := kd_w (Or.inr hs_561)
            rw [hE_562, pk_sub (by omega)] at z_116
            have hl_563 : skP fa asz p = bl fa asz p + 1 := by have := (nI_eq (b := 1) (by omega) (by decide)).mp z_116; omega
            have hq_564 := z_227
            rw [qv_in (show bl fa asz p < asz by omega)] at hq_564
            have hq_565 := z_451
            rw [qv_in (show bl fa asz p < asz by omega)] at hq_565
            have hN_566 := flN_b hs_561 hl_563 hq_565
            refine x_callV (As := [.int 0, .int (nI (bl fa asz p))]) (b := m) (rest := []) (F1 := 1) (L1 := 20) (mc := 0) (ms := 0) d_Model_filter_94 cV_Model_250 (f_wrongsH (k := bl fa asz p) l e g_bad (by omega) (by omega) (by omega)) e ⟨by decide, rfl⟩ ⟨by omega, by show 8 + (3 + 11) + 20 ≤ _; omega⟩ ⟨by omega, by omega⟩ (Nat.le_of_ble_eq_true rfl) (fun v_578 h_577 p_579 => ?_)
            obtain ⟨rfl, bd_567, fs_568, hw_569, hw_570, hw_571, l_572, e_573, g_574, ga_575, r_576⟩ := p_579
            have e_580 := r_576 asked_ _ (by simp only [List.mem_cons, List.not_mem_nil, or_false, not_or]; exact (xw_neC e_asked e (by simp))) e_asked
            have e_581 := r_576 top_ _ (by simp only [List.mem_cons, List.not_mem_nil, or_false, not_or]; exact (xw_neC e_top e (by simp))) e_top
            have e_582 := r_576 masks_ _ (by simp only [List.mem_cons, List.not_mem_nil, or_false, not_or]; exact (xw_neC e_masks e (by simp))) e_masks
            have r_583 := r0.trans (r_576.mono (by simp))
            have g_584 : fs_568[28]? = some (.int (nI (bl fa asz p))) := (ga_575 28 (by decide)).trans g_at
            have g_585 : fs_568[29]? = some (.int (nI (rkd (kdP fa asz p)))) := (ga_575 29 (by decide)).trans g_kind
            have g_586 : fs_568[30]? = some (.int (nI (bl fa asz p))) := (ga_575 30 (by decide)).trans g_from
            have g_587 : fs_568[31]? = some (.int (nI y)) := (ga_575 31 (by decide)).trans g_to
            have g_588 : fs_568[38]? = some (.int (nI st.length)) := (ga_575 38 (by decide)).trans g_tops
            have g_589 : fs_568[39]? = some (.int (nI mk)) := (ga_575 39 (by decide)).trans g_mask
            have g_590 : fs_568[11]? = some (.int (nI asz)) := (ga_575 11 (by decide)).trans g_askedSize
            have g_591 : fs_568[4]? = some (.ref asked_) := (ga_575 4 (by decide)).trans g_asked
            have g_592 : fs_568[51]? = some (.ref top_) := (ga_575 51 (by decide)).trans g_top
            have g_593 : fs_568[52]? = some (.ref masks_) := (ga_575 52 (by decide)).trans g_masks
            have ga_594 : ∀ i, i ∉ [28, 29, 30, 31, 33, 38, 39] → fs_568[i]? = fs[i]? := fun i hi => (ga_575 i (fun z => hi (by simp only [List.mem_cons, List.not_mem_nil, or_false] at z ⊢; omega))).trans (ga0 i hi)
            have hb_595 : bd_567 < 0 := by rw [hw_569 rfl]; exact hbd
            have hb_596 : ¬ 0 ≤ bd_567 := Int32.not_le.mpr hb_595
            refine s_Model_filter_97 ?_
            refine x_callV (As := []) (b := m) (rest := [.ref m]) (F1 := 1) (L1 := 20) (mc := 0) (ms := 0) d_Model_filter_99 cV_Model_288 (f_depth (n := st.length) l_572 e_573 g_588 g_592 e_581 (by omega) (by omega) (by omega)) e_573 ⟨by decide, rfl⟩ ⟨by omega, by show 8 + (3 + 11) + 20 ≤ _; omega⟩ ⟨by omega, by omega⟩ (Nat.le_of_ble_eq_true rfl) (fun v_598 h_597 p_599 => ?_)
            obtain ⟨rfl, rfl⟩ := p_599
            rw [cntD_dep ST]
            refine s_Model_filter_102 (fun z_600 => ?_) (fun z_601 => ?_)
            · skip
              refine s_Model_filter_111 ?_
              refine s_Model_filter_112 ?_
              refine x_callV (As := [.int 0, .int (nI (bl fa asz p))]) (b := m) (rest := []) (F1 := 1) (L1 := 20) (mc := 0) (ms := 0) d_Model_filter_113 cV_Model_250 (f_wrongsH (k := bl fa asz p) l_572 e_573 g_574 (by omega) (by omega) (by omega)) e_573 ⟨by decide, rfl⟩ ⟨by omega, by show 8 + (3 + 11) + 20 ≤ _; omega⟩ ⟨by omega, by omega⟩ (Nat.le_of_ble_eq_true rfl) (fun v_613 h_612 p_614 => ?_)
              obtain ⟨rfl, bd_602, fs_603, hw_604, hw_605, hw_606, l_607, e_608, g_609, ga_610, r_611⟩ := p_614
              have e_615 := r_611 asked_ _ (by simp only [List.mem_cons, List.not_mem_nil, or_false, not_or]; exact (xw_neC e_580 e_573 (by simp))) e_580
              have e_616 := r_611 top_ _ (by simp only [List.mem_cons, List.not_mem_nil, or_false, not_or]; exact (xw_neC e_581 e_573 (by simp))) e_581
              have e_617 := r_611 masks_ _ (by simp only [List.mem_cons, List.not_mem_nil, or_false, not_or]; exact (xw_neC e_582 e_573 (by simp))) e_582
              have r_618 := r_583.trans (r_611.mono (by simp))
              have g_619 : fs_603[28]? = some (.int (nI (bl fa asz p))) := (ga_610 28 (by decide)).trans g_584
              have g_620 : fs_603[29]? = some (.int (nI (rkd (kdP fa asz p)))) := (ga_610 29 (by decide)).trans g_585
              have g_621 : fs_603[30]? = some (.int (nI (bl fa asz p))) := (ga_610 30 (by decide)).trans g_586
              have g_622 : fs_603[31]? = some (.int (nI y)) := (ga_610 31 (by decide)).trans g_587
              have g_623 : fs_603[38]? = some (.int (nI st.length)) := (ga_610 38 (by decide)).trans g_588
              have g_624 : fs_603[39]? = some (.int (nI mk)) := (ga_610 39 (by decide)).trans g_589
              have g_625 : fs_603[11]? = some (.int (nI asz)) := (ga_610 11 (by decide)).trans g_590
              have g_626 : fs_603[4]? = some (.ref asked_) := (ga_610 4 (by decide)).trans g_591
              have g_627 : fs_603[51]? = some (.ref top_) := (ga_610 51 (by decide)).trans g_592
              have g_628 : fs_603[52]? = some (.ref masks_) := (ga_610 52 (by decide)).trans g_593
              have ga_629 : ∀ i, i ∉ [28, 29, 30, 31, 33, 38, 39] → fs_603[i]? = fs[i]? := fun i hi => (ga_610 i (fun z => hi (by simp only [List.mem_cons, List.not_mem_nil, or_false] at z ⊢; omega))).trans (ga_594 i hi)
              have hb_630 : bd_602 < 0 := by rw [hw_604 rfl]; exact hb_595
              have hb_631 : ¬ 0 ≤ bd_602 := Int32.not_le.mpr hb_630
              refine x_le (xw_le_s (xw_le_n (xw_le_s (xw_le_n xw_le_e)))) ?_
              refine s_Model_filter_116 l_607 e_608 g_609 (fun z_632 => ?_) (fun z => absurd hb_630 z)
              refine s_Model_filter_124 ?_
              refine x_callV (As := [.int 6]) (b := m) (rest := []) (F1 := 1) (L1 := 20) (mc := 0) (ms := 0) d_Model_filter_127 cV_Model_285 (f_pushesH (n := st.length) (mk := mk) l_607 e_608 g_623 g_624 g_627 e_616 g_628 e_617 n_top_masks (by omega) (by omega) (by omega)) e_608 ⟨by decide, rfl⟩ ⟨by omega, by show 8 + (2 + 11) + 20 ≤ _; omega⟩ ⟨by omega, by omega⟩ (Nat.le_of_ble_eq_true rfl) (fun v_642 h_641 p_643 => ?_)
              obtain ⟨rfl, fs_633, l_634, e_635, g_636, ga_637, e_638, e_639, r_640⟩ := p_643
              have e_644 := r_640 asked_ _ (by simp only [List.mem_cons, List.not_mem_nil, or_false, not_or]; exact ⟨(xw_neC e_615 e_608 (by simp)), (xw_neC e_615 e_616 (by simp)), (xw_neC e_615 e_617 (by simp))⟩) e_615
              have r_645 := r_618.trans (r_640.mono (by simp))
              have g_646 : fs_633[28]? = some (.int (nI (bl fa asz p))) := (ga_637 28 (by decide)).trans g_619
              have g_647 : fs_633[29]? = some (.int (nI (rkd (kdP fa asz p)))) := (ga_637 29 (by decide)).trans g_620
              have g_648 : fs_633[30]? = some (.int (nI (bl fa asz p))) := (ga_637 30 (by decide)).trans g_621
              have g_649 : fs_633[31]? = some (.int (nI y)) := (ga_637 31 (by decide)).trans g_622
              have g_650 : fs_633[39]? = some (.int (nI mk)) := (ga_637 39 (by decide)).trans g_624
              have g_651 : fs_633[11]? = some (.int (nI asz)) := (ga_637 11 (by decide)).trans g_625
              have g_652 : fs_633[4]? = some (.ref asked_) := (ga_637 4 (by decide)).trans g_626
              have g_653 : fs_633[51]? = some (.ref top_) := (ga_637 51 (by decide)).trans g_627
              have g_654 : fs_633[52]? = some (.ref masks_) := (ga_637 52 (by decide)).trans g_628
              have g_655 : fs_633[33]? = some (.int bd_602) := (ga_637 33 (by decide)).trans g_609
              have ga_656 : ∀ i, i ∉ [28, 29, 30, 31, 33, 38, 39] → fs_633[i]? = fs[i]? := fun i hi => (ga_637 i (fun z => hi (by simp only [List.mem_cons, List.not_mem_nil, or_false] at z ⊢; omega))).trans (ga_629 i hi)
              refine s_Model_filter_130 l_634 e_635 g_650 g_648 ?_
              refine x_callV (As := [.int (nI (bl fa asz p))]) (b := m) (rest := [.int (nI mk), .ref m]) (F1 := 1) (L1 := 20) (mc := 0) (ms := 0) d_Model_filter_140 cV_Model_221 (f_q (x := bl fa asz p) l_634 e_635 g_651 g_652 e_644 (by omega) (by omega) (by omega) (by omega)) e_635 ⟨by decide, rfl⟩ ⟨by omega, by show 8 + (2 + 11) + 20 ≤ _; omega⟩ ⟨by omega, by omega⟩ (Nat.le_of_ble_eq_true rfl) (fun v_658 h_657 p_659 => ?_)
              obtain ⟨rfl, rfl⟩ := p_659
              refine s_Model_filter_143 (fun z_660 => ?_) (fun z => absurd z z_227)
              refine s_Model_filter_152 ?_
              refine s_Model_filter_153 (fun z_661 => ?_) (fun z => absurd z (by decide))
              refine s_Model_filter_161 ?_
              refine s_Model_filter_162 l_634 e_635 ?_
              refine x_u1 (fun h_662 e_663 f_664 => ?_)
              have e_665 := (f_664 asked_ (xw_neC e_644 e_635 (by simp))).trans e_644
              have e_666 := (f_664 top_ (xw_neC e_638 e_635 (by simp))).trans e_638
              have e_667 := (f_664 masks_ (xw_neC e_639 e_635 (by simp))).trans e_639
              have r_668 := r_645.up (by simp) f_664
              obtain ⟨fs_669, z_670⟩ : ∃ z, z = fs_633.set 39 (.int ((nI mk) &&& 2)) := ⟨_, rfl⟩
              rw [← z_670] at e_663
              have l_671 : fs_669.length = 62 := by rw [z_670]; simp only [List.length_set]; exact l_634
              have g_672 : fs_669[4]? = some (.ref asked_) := by rw [z_670]; exact (xw_gn (by decide) g_652)
              have g_673 : fs_669[11]? = some (.int (nI asz)) := by rw [z_670]; exact (xw_gn (by decide) g_651)
              have g_674 : fs_669[28]? = some (.int (nI (bl fa asz p))) := by rw [z_670]; exact (xw_gn (by decide) g_646)
              have g_675 : fs_669[29]? = some (.int (nI (rkd (kdP fa asz p)))) := by rw [z_670]; exact (xw_gn (by decide) g_647)
              have g_676 : fs_669[30]? = some (.int (nI (bl fa asz p))) := by rw [z_670]; exact (xw_gn (by decide) g_648)
              have g_677 : fs_669[31]? = some (.int (nI y)) := by rw [z_670]; exact (xw_gn (by decide) g_649)
              have g_678 : fs_669[33]? = some (.int bd_602) := by rw [z_670]; exact (xw_gn (by decide) g_655)
              have g_679 : fs_669[38]? = some (.int (nI (st.length + 1))) := by rw [z_670]; exact (xw_gn (by decide) g_636)
              have g_680 : fs_669[39]? = some (.int ((nI mk) &&& 2)) := by rw [z_670]; exact (xw_gs (by simp [l_634]))
              have g_681 : fs_669[51]? = some (.ref top_) := by rw [z_670]; exact (xw_gn (by decide) g_653)
              have g_682 : fs_669[52]? = some (.ref masks_) := by rw [z_670]; exact (xw_gn (by decide) g_654)
              have ga_683 : ∀ i, i ∉ [28, 29, 30, 31, 33, 38, 39] → fs_669[i]? = fs[i]? := fun i hi => by rw [z_670]; exact xw_gn (fun z => hi (by rw [z]; simp)) (ga_656 i hi)
              clear z_670
              have hE_696 := HY (by rw [hs_561]; decide)
              rw [hE_696] at g_677
              refine x_callV (As := []) (b := m) (rest := []) (F1 := 4) (L1 := 87) (mc := 0) (ms := 0) d_Model_filter_167 cV_Model_257 (f_nextH (x0 := (skP fa asz p)) l_671 e_663 g_674 g_675 g_676 g_677 g_673 g_672 e_665 (by rw [← hE_696]; exact PT.2.1) hasz (by omega) (by omega)) e_663 ⟨by decide, rfl⟩ ⟨by omega, by show 8 + (1 + 11) + 87 ≤ _; omega⟩ ⟨by omega, by omega⟩ (Nat.le_of_ble_eq_true rfl) (fun v_698 h_697 p_699 => ?_)
              obtain ⟨rfl, y_684, fs_685, PT_686, HY_687, l_688, e_689, g_690, g_691, g_692, g_693, ga_694, r_695⟩ := p_699
              have e_700 := r_695 asked_ _ (by simp only [List.mem_cons, List.not_mem_nil, or_false, not_or]; exact (xw_neC e_665 e_663 (by simp))) e_665
              have e_701 := r_695 top_ _ (by simp only [List.mem_cons, List.not_mem_nil, or_false, not_or]; exact (xw_neC e_666 e_663 (by simp))) e_666
              have e_702 := r_695 masks_ _ (by simp only [List.mem_cons, List.not_mem_nil, or_false, not_or]; exact (xw_neC e_667 e_663 (by simp))) e_667
              have r_703 := r_668.trans (r_695.mono (by simp))
              have g_704 : fs_685[4]? = some (.ref asked_) := (ga_694 4 (by decide)).trans g_672
              have g_705 : fs_685[11]? = some (.int (nI asz)) := (ga_694 11 (by decide)).trans g_673
              have g_706 : fs_685[33]? = some (.int bd_602) := (ga_694 33 (by decide)).trans g_678
              have g_707 : fs_685[38]? = some (.int (nI (st.length + 1))) := (ga_694 38 (by decide)).trans g_679
              have g_708 : fs_685[39]? = some (.int ((nI mk) &&& 2)) := (ga_694 39 (by decide)).trans g_680
              have g_709 : fs_685[51]? = some (.ref top_) := (ga_694 51 (by decide)).trans g_681
              have g_710 : fs_685[52]? = some (.ref masks_) := (ga_694 52 (by decide)).trans g_682
              have ga_711 : ∀ i, i ∉ [28, 29, 30, 31, 33, 38, 39] → fs_685[i]? = fs[i]? := fun i hi => (ga_694 i (fun z => hi (by simp only [List.mem_cons, List.not_mem_nil, or_false] at z ⊢; omega))).trans (ga_683 i hi)
              have RQ_712 := RQ.next (by rw [hs_561]; decide) (by rw [hs_561]; decide)
              have hb_713 := Nat.le_trans PT_686.1 PT_686.2.1
              refine s_Model_filter_170 ?_
              have hk_714 := kd_3 hs_561
              have hE_727 := HY_687 (by rw [hk_714]; decide)
              rw [hE_727] at g_693
              refine x_callV (As := []) (b := m) (rest := []) (F1 := 4) (L1 := 87) (mc := 0) (ms := 0) d_Model_filter_171 cV_Model_257 (f_nextH (x0 := (skP fa asz (skP fa asz p))) l_688 e_689 g_690 g_691 g_692 g_693 g_705 g_704 e_700 (by rw [← hE_727]; exact PT_686.2.1) hasz (by omega) (by omega)) e_689 ⟨by decide, rfl⟩ ⟨by omega, by show 8 + (1 + 11) + 87 ≤ _; omega⟩ ⟨by omega, by omega⟩ (Nat.le_of_ble_eq_true rfl) (fun v_729 h_728 p_730 => ?_)
              obtain ⟨rfl, y_715, fs_716, PT_717, HY_718, l_719, e_720, g_721, g_722, g_723, g_724, ga_725, r_726⟩ := p_730
              have e_731 := r_726 asked_ _ (by simp only [List.mem_cons, List.not_mem_nil, or_false, not_or]; exact (xw_neC e_700 e_689 (by simp))) e_700
              have e_732 := r_726 top_ _ (by simp only [List.mem_cons, List.not_mem_nil, or_false, not_or]; exact (xw_neC e_701 e_689 (by simp))) e_701
              have e_733 := r_726 masks_ _ (by simp only [List.mem_cons, List.not_mem_nil, or_false, not_or]; exact (xw_neC e_702 e_689 (by simp))) e_702
              have r_734 := r_703.trans (r_726.mono (by simp))
              have g_735 : fs_716[4]? = some (.ref asked_) := (ga_725 4 (by decide)).trans g_704
              have g_736 : fs_716[11]? = some (.int (nI asz)) := (ga_725 11 (by decide)).trans g_705
              have g_737 : fs_716[33]? = some (.int bd_602) := (ga_725 33 (by decide)).trans g_706
              have g_738 : fs_716[38]? = some (.int (nI (st.length + 1))) := (ga_725 38 (by decide)).trans g_707
              have g_739 : fs_716[39]? = some (.int ((nI mk) &&& 2)) := (ga_725 39 (by decide)).trans g_708
              have g_740 : fs_716[51]? = some (.ref top_) := (ga_725 51 (by decide)).trans g_709
              have g_741 : fs_716[52]? = some (.ref masks_) := (ga_725 52 (by decide)).trans g_710
              have ga_742 : ∀ i, i ∉ [28, 29, 30, 31, 33, 38, 39] → fs_716[i]? = fs[i]? := fun i hi => (ga_725 i (fun z => hi (by simp only [List.mem_cons, List.not_mem_nil, or_false] at z ⊢; omega))).trans (ga_711 i hi)
              have RQ_743 := RQ_712.next (by rw [hk_714]; decide) (by rw [hk_714]; decide)
              have hb_744 := Nat.le_trans PT_717.1 PT_717.2.1
              refine x_le (xw_le_n (xw_le_n (xw_le_n (xw_le_n xw_le_e)))) ?_
              refine s_Model_filter_174 ?_
              have hk_745 : ¬ kdP fa asz p = 11 := fun q => z_1 (by rw [q]; rfl)
              have hd_746 : ¬ depS st = 8 := fun q => z_600 (by rw [q]; rfl)
              rw [am2 mk hmk] at g_739
              exact ⟨rfl, _, _, _, _, l_719, e_720, g_737, ga_742, e_732, e_733, r_734, Or.inr ⟨2, (skP fa asz (skP fa asz p)), _, fp_0y (s := (p, ph, gr)) hk_745 hN_566, hd_746, hb_630, PT_717, HY_718, g_721, g_722, g_723, g_724, RQ_743, g_738, g_739, ST.push (a := 6) (by omega) (by omega) hmk⟩⟩
            · skip
              refine s_Model_filter_107 ?_
              refine s_Model_filter_112 ?_
              refine x_callV (As := [.int 1, .int (nI (bl fa asz p))]) (b := m) (rest := []) (F1 := 1) (L1 := 20) (mc := 0) (ms := 0) d_Model_filter_113 cV_Model_250 (f_wrongsH (k := bl fa asz p) l_572 e_573 g_574 (by omega) (by omega) (by omega)) e_573 ⟨by decide, rfl⟩ ⟨by omega, by show 8 + (3 + 11) + 20 ≤ _; omega⟩ ⟨by omega, by omega⟩ (Nat.le_of_ble_eq_true rfl) (fun v_758 h_757 p_759 => ?_)
              obtain ⟨rfl, bd_747, fs_748, hw_749, hw_750, hw_751, l_752, e_753, g_754, ga_755, r_756⟩ := p_759
              have e_760 := r_756 asked_ _ (by simp only [List.mem_cons, List.not_mem_nil, or_false, not_or]; exact (xw_neC e_580 e_573 (by simp))) e_580
              have e_761 := r_756 top_ _ (by simp only [List.mem_cons, List.not_mem_nil, or_false, not_or]; exact (xw_neC e_581 e_573 (by simp))) e_581
              have e_762 := r_756 masks_ _ (by simp only [List.mem_cons, List.not_mem_nil, or_false, not_or]; exact (xw_neC e_582 e_573 (by simp))) e_582
              have r_763 := r_583.trans (r_756.mono (by simp))
              have g_764 : fs_748[28]? = some (.int (nI (bl fa asz p))) := (ga_755 28 (by decide)).trans g_584
              have g_765 : fs_748[29]? = some (.int (nI (rkd (kdP fa asz p)))) := (ga_755 29 (by decide)).trans g_585
              have g_766 : fs_748[30]? = some (.int (nI (bl fa asz p))) := (ga_755 30 (by decide)).trans g_586
              have g_767 : fs_748[31]? = some (.int (nI y)) := (ga_755 31 (by decide)).trans g_587
              have g_768 : fs_748[38]? = some (.int (nI st.length)) := (ga_755 38 (by decide)).trans g_588
              have g_769 : fs_748[39]? = some (.int (nI mk)) := (ga_755 39 (by decide)).trans g_589
              have g_770 : fs_748[11]? = some (.int (nI asz)) := (ga_755 11 (by decide)).trans g_590
              have g_771 : fs_748[4]? = some (.ref asked_) := (ga_755 4 (by decide)).trans g_591
              have g_772 : fs_748[51]? = some (.ref top_) := (ga_755 51 (by decide)).trans g_592
              have g_773 : fs_748[52]? = some (.ref masks_) := (ga_755 52 (by decide)).trans g_593
              have ga_774 : ∀ i, i ∉ [28, 29, 30, 31, 33, 38, 39] → fs_748[i]? = fs[i]? := fun i hi => (ga_755 i (fun z => hi (by simp only [List.mem_cons, List.not_mem_nil, or_false] at z ⊢; omega))).trans (ga_594 i hi)
              have hb_775 : ¬ bd_747 < 0 := hw_750 (by decide)
              have hb_776 : 0 ≤ bd_747 := Int32.not_lt.mp hb_775
              refine x_le (xw_le_s (xw_le_n (xw_le_s (xw_le_n xw_le_e)))) ?_
              refine s_Model_filter_116 l_752 e_753 g_754 (fun z => absurd z hb_775) (fun z_777 => ?_)
              refine s_Model_filter_123 ?_
              have hk_778 : ¬ kdP fa asz p = 11 := fun q => z_1 (by rw [q]; rfl)
              have hd_779 : depS st = 8 := (nI_eq (b := 8) (by have := cJ_len st; omega) (by decide)).mp z_601
              exact ⟨rfl, _, _, _, _, l_752, e_753, g_754, ga_774, e_761, e_762, r_763, Or.inl ⟨Or.inr hd_779, hb_775, (fun i9 hi9 => by simp only [List.mem_cons, List.not_mem_nil, or_false] at hi9; rcases hi9 with rfl | rfl | rfl | rfl | rfl <;> first | exact ⟨_, g_764⟩ | exact ⟨_, g_765⟩ | exact ⟨_, g_766⟩ | exact ⟨_, g_767⟩ | exact ⟨_, g_769⟩), g_768⟩⟩
  · skip
    refine s_Model_filter_14 ?_
    refine s_Model_filter_19 (fun z => absurd z (by decide)) (fun z_780 => ?_)
    refine s_Model_filter_24 ?_
    have hk_781 : kdP fa asz p = 11 := ((rk_iff _ (kdP_le fa asz p)).2.2.2.2.2.1).mp ((nI_eq (b := 6) (by have := rk_le _ (kdP_le fa asz p); omega) (by decide)).mp z_2)
    have hE_794 := HY (by rw [hk_781]; decide)
    rw [hE_794] at g_to
    refine x_callV (As := []) (b := m) (rest := []) (F1 := 4) (L1 := 87) (mc := 0) (ms := 0) d_Model_filter_25 cV_Model_257 (f_nextH (x0 := (skP fa asz p)) l e g_at g_kind g_from g_to g_askedSize g_asked e_asked (by rw [← hE_794]; exact PT.2.1) hasz (by omega) (by omega)) e ⟨by decide, rfl⟩ ⟨by omega, by show 8 + (1 + 11) + 87 ≤ _; omega⟩ ⟨by omega, by omega⟩ (Nat.le_of_ble_eq_true rfl) (fun v_796 h_795 p_797 => ?_)
    obtain ⟨rfl, y_782, fs_783, PT_784, HY_785, l_786, e_787, g_788, g_789, g_790, g_791, ga_792, r_793⟩ := p_797
    have e_798 := r_793 asked_ _ (by simp only [List.mem_cons, List.not_mem_nil, or_false, not_or]; exact (xw_neC e_asked e (by simp))) e_asked
    have e_799 := r_793 top_ _ (by simp only [List.mem_cons, List.not_mem_nil, or_false, not_or]; exact (xw_neC e_top e (by simp))) e_top
    have e_800 := r_793 masks_ _ (by simp only [List.mem_cons, List.not_mem_nil, or_false, not_or]; exact (xw_neC e_masks e (by simp))) e_masks
    have r_801 := r0.trans (r_793.mono (by simp))
    have g_802 : fs_783[33]? = some (.int bd) := (ga_792 33 (by decide)).trans g_bad
    have g_803 : fs_783[38]? = some (.int (nI st.length)) := (ga_792 38 (by decide)).trans g_tops
    have g_804 : fs_783[39]? = some (.int (nI mk)) := (ga_792 39 (by decide)).trans g_mask
    have g_805 : fs_783[11]? = some (.int (nI asz)) := (ga_792 11 (by decide)).trans g_askedSize
    have g_806 : fs_783[4]? = some (.ref asked_) := (ga_792 4 (by decide)).trans g_asked
    have g_807 : fs_783[51]? = some (.ref top_) := (ga_792 51 (by decide)).trans g_top
    have g_808 : fs_783[52]? = some (.ref masks_) := (ga_792 52 (by decide)).trans g_masks
    have ga_809 : ∀ i, i ∉ [28, 29, 30, 31, 33, 38, 39] → fs_783[i]? = fs[i]? := fun i hi => (ga_792 i (fun z => hi (by simp only [List.mem_cons, List.not_mem_nil, or_false] at z ⊢; omega))).trans (ga0 i hi)
    have RQ_810 := RQ.next (by rw [hk_781]; decide) (by rw [hk_781]; decide)
    have hb_811 := Nat.le_trans PT_784.1 PT_784.2.1
    refine s_Model_filter_28 ?_
    refine x_callV (As := []) (b := m) (rest := []) (F1 := 2) (L1 := 41) (mc := 0) (ms := 0) d_Model_filter_29 cV_Model_237 (f_isFilterH (pp := (skP fa asz p)) l_786 e_787 g_789 g_791 g_805 g_806 e_798 (by have := PT_784.2.1; omega) hasz HY_785 (by omega) (by omega)) e_787 ⟨by decide, rfl⟩ ⟨by omega, by show 8 + (1 + 11) + 41 ≤ _; omega⟩ ⟨by omega, by omega⟩ (Nat.le_of_ble_eq_true rfl) (fun v_815 h_814 p_816 => ?_)
    obtain ⟨⟨c_812, rfl, hc_813⟩, rfl⟩ := p_816
    refine s_Model_filter_32 (fun z_817 => ?_) (fun z_818 => ?_)
    · skip
      refine s_Model_filter_78 ?_
      refine s_Model_filter_79 (fun z => absurd z (by decide)) (fun z_819 => ?_)
      refine s_Model_filter_85 ?_
      refine s_Model_filter_90 l_786 e_787 g_790 ?_
      have hs_820 := (hc_813.resolve_right (fun q => absurd (q.1.symm.trans z_817) (by decide))).2
      have hN_821 := flN_n hs_820
      refine x_callV (As := [.int 1, .int (nI (bl fa asz (skP fa asz p)))]) (b := m) (rest := []) (F1 := 1) (L1 := 20) (mc := 0) (ms := 0) d_Model_filter_94 cV_Model_250 (f_wrongsH (k := bl fa asz (skP fa asz p)) l_786 e_787 g_802 (by omega) (by omega) (by omega)) e_787 ⟨by decide, rfl⟩ ⟨by omega, by show 8 + (3 + 11) + 20 ≤ _; omega⟩ ⟨by omega, by omega⟩ (Nat.le_of_ble_eq_true rfl) (fun v_833 h_832 p_834 => ?_)
      obtain ⟨rfl, bd_822, fs_823, hw_824, hw_825, hw_826, l_827, e_828, g_829, ga_830, r_831⟩ := p_834
      have e_835 := r_831 asked_ _ (by simp only [List.mem_cons, List.not_mem_nil, or_false, not_or]; exact (xw_neC e_798 e_787 (by simp))) e_798
      have e_836 := r_831 top_ _ (by simp only [List.mem_cons, List.not_mem_nil, or_false, not_or]; exact (xw_neC e_799 e_787 (by simp))) e_799
      have e_837 := r_831 masks_ _ (by simp only [List.mem_cons, List.not_mem_nil, or_false, not_or]; exact (xw_neC e_800 e_787 (by simp))) e_800
      have r_838 := r_801.trans (r_831.mono (by simp))
      have g_839 : fs_823[38]? = some (.int (nI st.length)) := (ga_830 38 (by decide)).trans g_803
      have g_840 : fs_823[39]? = some (.int (nI mk)) := (ga_830 39 (by decide)).trans g_804
      have g_841 : fs_823[11]? = some (.int (nI asz)) := (ga_830 11 (by decide)).trans g_805
      have g_842 : fs_823[4]? = some (.ref asked_) := (ga_830 4 (by decide)).trans g_806
      have g_843 : fs_823[51]? = some (.ref top_) := (ga_830 51 (by decide)).trans g_807
      have g_844 : fs_823[52]? = some (.ref masks_) := (ga_830 52 (by decide)).trans g_808
      have g_845 : fs_823[28]? = some (.int (nI (bl fa asz (skP fa asz p)))) := (ga_830 28 (by decide)).trans g_788
      have g_846 : fs_823[29]? = some (.int (nI (rkd (kdP fa asz (skP fa asz p))))) := (ga_830 29 (by decide)).trans g_789
      have g_847 : fs_823[30]? = some (.int (nI (bl fa asz (skP fa asz p)))) := (ga_830 30 (by decide)).trans g_790
      have g_848 : fs_823[31]? = some (.int (nI y_782)) := (ga_830 31 (by decide)).trans g_791
      have ga_849 : ∀ i, i ∉ [28, 29, 30, 31, 33, 38, 39] → fs_823[i]? = fs[i]? := fun i hi => (ga_830 i (fun z => hi (by simp only [List.mem_cons, List.not_mem_nil, or_false] at z ⊢; omega))).trans (ga_809 i hi)
      have hb_850 : ¬ bd_822 < 0 := hw_825 (by decide)
      have hb_851 : 0 ≤ bd_822 := Int32.not_lt.mp hb_850
      refine s_Model_filter_97 ?_
      refine x_callV (As := []) (b := m) (rest := [.ref m]) (F1 := 1) (L1 := 20) (mc := 0) (ms := 0) d_Model_filter_99 cV_Model_288 (f_depth (n := st.length) l_827 e_828 g_839 g_843 e_836 (by omega) (by omega) (by omega)) e_828 ⟨by decide, rfl⟩ ⟨by omega, by show 8 + (3 + 11) + 20 ≤ _; omega⟩ ⟨by omega, by omega⟩ (Nat.le_of_ble_eq_true rfl) (fun v_853 h_852 p_854 => ?_)
      obtain ⟨rfl, rfl⟩ := p_854
      rw [cntD_dep ST]
      refine s_Model_filter_102 (fun z_855 => ?_) (fun z_856 => ?_)
      · skip
        refine s_Model_filter_111 ?_
        refine s_Model_filter_112 ?_
        refine x_callV (As := [.int 0, .int (nI (bl fa asz p))]) (b := m) (rest := []) (F1 := 1) (L1 := 20) (mc := 0) (ms := 0) d_Model_filter_113 cV_Model_250 (f_wrongsH (k := bl fa asz p) l_827 e_828 g_829 (by omega) (by omega) (by omega)) e_828 ⟨by decide, rfl⟩ ⟨by omega, by show 8 + (3 + 11) + 20 ≤ _; omega⟩ ⟨by omega, by omega⟩ (Nat.le_of_ble_eq_true rfl) (fun v_868 h_867 p_869 => ?_)
        obtain ⟨rfl, bd_857, fs_858, hw_859, hw_860, hw_861, l_862, e_863, g_864, ga_865, r_866⟩ := p_869
        have e_870 := r_866 asked_ _ (by simp only [List.mem_cons, List.not_mem_nil, or_false, not_or]; exact (xw_neC e_835 e_828 (by simp))) e_835
        have e_871 := r_866 top_ _ (by simp only [List.mem_cons, List.not_mem_nil, or_false, not_or]; exact (xw_neC e_836 e_828 (by simp))) e_836
        have e_872 := r_866 masks_ _ (by simp only [List.mem_cons, List.not_mem_nil, or_false, not_or]; exact (xw_neC e_837 e_828 (by simp))) e_837
        have r_873 := r_838.trans (r_866.mono (by simp))
        have g_874 : fs_858[38]? = some (.int (nI st.length)) := (ga_865 38 (by decide)).trans g_839
        have g_875 : fs_858[39]? = some (.int (nI mk)) := (ga_865 39 (by decide)).trans g_840
        have g_876 : fs_858[11]? = some (.int (nI asz)) := (ga_865 11 (by decide)).trans g_841
        have g_877 : fs_858[4]? = some (.ref asked_) := (ga_865 4 (by decide)).trans g_842
        have g_878 : fs_858[51]? = some (.ref top_) := (ga_865 51 (by decide)).trans g_843
        have g_879 : fs_858[52]? = some (.ref masks_) := (ga_865 52 (by decide)).trans g_844
        have g_880 : fs_858[28]? = some (.int (nI (bl fa asz (skP fa asz p)))) := (ga_865 28 (by decide)).trans g_845
        have g_881 : fs_858[29]? = some (.int (nI (rkd (kdP fa asz (skP fa asz p))))) := (ga_865 29 (by decide)).trans g_846
        have g_882 : fs_858[30]? = some (.int (nI (bl fa asz (skP fa asz p)))) := (ga_865 30 (by decide)).trans g_847
        have g_883 : fs_858[31]? = some (.int (nI y_782)) := (ga_865 31 (by decide)).trans g_848
        have ga_884 : ∀ i, i ∉ [28, 29, 30, 31, 33, 38, 39] → fs_858[i]? = fs[i]? := fun i hi => (ga_865 i (fun z => hi (by simp only [List.mem_cons, List.not_mem_nil, or_false] at z ⊢; omega))).trans (ga_849 i hi)
        have hb_885 : ¬ bd_857 < 0 := by rw [hw_861 hb_850]; exact hb_850
        have hb_886 : 0 ≤ bd_857 := Int32.not_lt.mp hb_885
        refine x_le (xw_le_s (xw_le_n (xw_le_s (xw_le_n xw_le_e)))) ?_
        refine s_Model_filter_116 l_862 e_863 g_864 (fun z => absurd z hb_885) (fun z_887 => ?_)
        refine s_Model_filter_123 ?_
        have hd_888 : ¬ depS st = 8 := fun q => z_855 (by rw [q]; rfl)
        exact ⟨rfl, _, _, _, _, l_862, e_863, g_864, ga_884, e_871, e_872, r_873, Or.inl ⟨Or.inl (fp_1n hk_781 hN_821), hb_885, (fun i9 hi9 => by simp only [List.mem_cons, List.not_mem_nil, or_false] at hi9; rcases hi9 with rfl | rfl | rfl | rfl | rfl <;> first | exact ⟨_, g_880⟩ | exact ⟨_, g_881⟩ | exact ⟨_, g_882⟩ | exact ⟨_, g_883⟩ | exact ⟨_, g_875⟩), g_874⟩⟩
      · skip
        refine s_Model_filter_107 ?_
        refine s_Model_filter_112 ?_
        refine x_callV (As := [.int 1, .int (nI (bl fa asz p))]) (b := m) (rest := []) (F1 := 1) (L1 := 20) (mc := 0) (ms := 0) d_Model_filter_113 cV_Model_250 (f_wrongsH (k := bl fa asz p) l_827 e_828 g_829 (by omega) (by omega) (by omega)) e_828 ⟨by decide, rfl⟩ ⟨by omega, by show 8 + (3 + 11) + 20 ≤ _; omega⟩ ⟨by omega, by omega⟩ (Nat.le_of_ble_eq_true rfl) (fun v_900 h_899 p_901 => ?_)
        obtain ⟨rfl, bd_889, fs_890, hw_891, hw_892, hw_893, l_894, e_895, g_896, ga_897, r_898⟩ := p_901
        have e_902 := r_898 asked_ _ (by simp only [List.mem_cons, List.not_mem_nil, or_false, not_or]; exact (xw_neC e_835 e_828 (by simp))) e_835
        have e_903 := r_898 top_ _ (by simp only [List.mem_cons, List.not_mem_nil, or_false, not_or]; exact (xw_neC e_836 e_828 (by simp))) e_836
        have e_904 := r_898 masks_ _ (by simp only [List.mem_cons, List.not_mem_nil, or_false, not_or]; exact (xw_neC e_837 e_828 (by simp))) e_837
        have r_905 := r_838.trans (r_898.mono (by simp))
        have g_906 : fs_890[38]? = some (.int (nI st.length)) := (ga_897 38 (by decide)).trans g_839
        have g_907 : fs_890[39]? = some (.int (nI mk)) := (ga_897 39 (by decide)).trans g_840
        have g_908 : fs_890[11]? = some (.int (nI asz)) := (ga_897 11 (by decide)).trans g_841
        have g_909 : fs_890[4]? = some (.ref asked_) := (ga_897 4 (by decide)).trans g_842
        have g_910 : fs_890[51]? = some (.ref top_) := (ga_897 51 (by decide)).trans g_843
        have g_911 : fs_890[52]? = some (.ref masks_) := (ga_897 52 (by decide)).trans g_844
        have g_912 : fs_890[28]? = some (.int (nI (bl fa asz (skP fa asz p)))) := (ga_897 28 (by decide)).trans g_845
        have g_913 : fs_890[29]? = some (.int (nI (rkd (kdP fa asz (skP fa asz p))))) := (ga_897 29 (by decide)).trans g_846
        have g_914 : fs_890[30]? = some (.int (nI (bl fa asz (skP fa asz p)))) := (ga_897 30 (by decide)).trans g_847
        have g_915 : fs_890[31]? = some (.int (nI y_782)) := (ga_897 31 (by decide)).trans g_848
        have ga_916 : ∀ i, i ∉ [28, 29, 30, 31, 33, 38, 39] → fs_890[i]? = fs[i]? := fun i hi => (ga_897 i (fun z => hi (by simp only [List.mem_cons, List.not_mem_nil, or_false] at z ⊢; omega))).trans (ga_849 i hi)
        have hb_917 : ¬ bd_889 < 0 := by rw [hw_893 hb_850]; exact hb_850
        have hb_918 : 0 ≤ bd_889 := Int32.not_lt.mp hb_917
        refine x_le (xw_le_s (xw_le_n (xw_le_s (xw_le_n xw_le_e)))) ?_
        refine s_Model_filter_116 l_894 e_895 g_896 (fun z => absurd z hb_917) (fun z_919 => ?_)
        refine s_Model_filter_123 ?_
        have hd_920 : depS st = 8 := (nI_eq (b := 8) (by have := cJ_len st; omega) (by decide)).mp z_856
        exact ⟨rfl, _, _, _, _, l_894, e_895, g_896, ga_916, e_903, e_904, r_905, Or.inl ⟨Or.inl (fp_1n hk_781 hN_821), hb_917, (fun i9 hi9 => by simp only [List.mem_cons, List.not_mem_nil, or_false] at hi9; rcases hi9 with rfl | rfl | rfl | rfl | rfl <;> first | exact ⟨_, g_912⟩ | exact ⟨_, g_913⟩ | exact ⟨_, g_914⟩ | exact ⟨_, g_915⟩ | exact ⟨_, g_907⟩), g_906⟩⟩
    · skip
      refine s_Model_filter_35 l_786 e_787 g_791 g_790 (fun z_921 => ?_) (fun z_922 => ?_)
      · skip
        refine s_Model_filter_78 ?_
        refine s_Model_filter_79 (fun z => absurd z (by decide)) (fun z_923 => ?_)
        refine s_Model_filter_85 ?_
        refine s_Model_filter_90 l_786 e_787 g_790 ?_
        have hs_924 := (hc_813.resolve_left (fun q => z_818 q.1)).2
        have hE_925 := HY_785 (by rw [hs_924]; decide)
        have kw9 := kd_w (Or.inr hs_924)
        rw [hE_925, pk_sub (by omega)] at z_921
        have hl_926 : ¬ skP fa asz (skP fa asz p) = bl fa asz (skP fa asz p) + 1 := fun q => z_921 (by rw [show skP fa asz (skP fa asz p) - bl fa asz (skP fa asz p) = 1 by omega]; rfl)
        have hN_927 := flN_c (fun q => hl_926 q.1)
        refine x_callV (As := [.int 1, .int (nI (bl fa asz (skP fa asz p)))]) (b := m) (rest := []) (F1 := 1) (L1 := 20) (mc := 0) (ms := 0) d_Model_filter_94 cV_Model_250 (f_wrongsH (k := bl fa asz (skP fa asz p)) l_786 e_787 g_802 (by omega) (by omega) (by omega)) e_787 ⟨by decide, rfl⟩ ⟨by omega, by show 8 + (3 + 11) + 20 ≤ _; omega⟩ ⟨by omega, by omega⟩ (Nat.le_of_ble_eq_true rfl) (fun v_939 h_938 p_940 => ?_)
        obtain ⟨rfl, bd_928, fs_929, hw_930, hw_931, hw_932, l_933, e_934, g_935, ga_936, r_937⟩ := p_940
        have e_941 := r_937 asked_ _ (by simp only [List.mem_cons, List.not_mem_nil, or_false, not_or]; exact (xw_neC e_798 e_787 (by simp))) e_798
        have e_942 := r_937 top_ _ (by simp only [List.mem_cons, List.not_mem_nil, or_false, not_or]; exact (xw_neC e_799 e_787 (by simp))) e_799
        have e_943 := r_937 masks_ _ (by simp only [List.mem_cons, List.not_mem_nil, or_false, not_or]; exact (xw_neC e_800 e_787 (by simp))) e_800
        have r_944 := r_801.trans (r_937.mono (by simp))
        have g_945 : fs_929[38]? = some (.int (nI st.length)) := (ga_936 38 (by decide)).trans g_803
        have g_946 : fs_929[39]? = some (.int (nI mk)) := (ga_936 39 (by decide)).trans g_804
        have g_947 : fs_929[11]? = some (.int (nI asz)) := (ga_936 11 (by decide)).trans g_805
        have g_948 : fs_929[4]? = some (.ref asked_) := (ga_936 4 (by decide)).trans g_806
        have g_949 : fs_929[51]? = some (.ref top_) := (ga_936 51 (by decide)).trans g_807
        have g_950 : fs_929[52]? = some (.ref masks_) := (ga_936 52 (by decide)).trans g_808
        have g_951 : fs_929[28]? = some (.int (nI (bl fa asz (skP fa asz p)))) := (ga_936 28 (by decide)).trans g_788
        have g_952 : fs_929[29]? = some (.int (nI (rkd (kdP fa asz (skP fa asz p))))) := (ga_936 29 (by decide)).trans g_789
        have g_953 : fs_929[30]? = some (.int (nI (bl fa asz (skP fa asz p)))) := (ga_936 30 (by decide)).trans g_790
        have g_954 : fs_929[31]? = some (.int (nI y_782)) := (ga_936 31 (by decide)).trans g_791
        have ga_955 : ∀ i, i ∉ [28, 29, 30, 31, 33, 38, 39] → fs_929[i]? = fs[i]? := fun i hi => (ga_936 i (fun z => hi (by simp only [List.mem_cons, List.not_mem_nil, or_false] at z ⊢; omega))).trans (ga_809 i hi)
        have hb_956 : ¬ bd_928 < 0 := hw_931 (by decide)
        have hb_957 : 0 ≤ bd_928 := Int32.not_lt.mp hb_956
        refine s_Model_filter_97 ?_
        refine x_callV (As := []) (b := m) (rest := [.ref m]) (F1 := 1) (L1 := 20) (mc := 0) (ms := 0) d_Model_filter_99 cV_Model_288 (f_depth (n := st.length) l_933 e_934 g_945 g_949 e_942 (by omega) (by omega) (by omega)) e_934 ⟨by decide, rfl⟩ ⟨by omega, by show 8 + (3 + 11) + 20 ≤ _; omega⟩ ⟨by omega, by omega⟩ (Nat.le_of_ble_eq_true rfl) (fun v_959 h_958 p_960 => ?_)
        obtain ⟨rfl, rfl⟩ := p_960
        rw [cntD_dep ST]
        refine s_Model_filter_102 (fun z_961 => ?_) (fun z_962 => ?_)
        · skip
          refine s_Model_filter_111 ?_
          refine s_Model_filter_112 ?_
          refine x_callV (As := [.int 0, .int (nI (bl fa asz p))]) (b := m) (rest := []) (F1 := 1) (L1 := 20) (mc := 0) (ms := 0) d_Model_filter_113 cV_Model_250 (f_wrongsH (k := bl fa asz p) l_933 e_934 g_935 (by omega) (by omega) (by omega)) e_934 ⟨by decide, rfl⟩ ⟨by omega, by show 8 + (3 + 11) + 20 ≤ _; omega⟩ ⟨by omega, by omega⟩ (Nat.le_of_ble_eq_true rfl) (fun v_974 h_973 p_975 => ?_)
          obtain ⟨rfl, bd_963, fs_964, hw_965, hw_966, hw_967, l_968, e_969, g_970, ga_971, r_972⟩ := p_975
          have e_976 := r_972 asked_ _ (by simp only [List.mem_cons, List.not_mem_nil, or_false, not_or]; exact (xw_neC e_941 e_934 (by simp))) e_941
          have e_977 := r_972 top_ _ (by simp only [List.mem_cons, List.not_mem_nil, or_false, not_or]; exact (xw_neC e_942 e_934 (by simp))) e_942
          have e_978 := r_972 masks_ _ (by simp only [List.mem_cons, List.not_mem_nil, or_false, not_or]; exact (xw_neC e_943 e_934 (by simp))) e_943
          have r_979 := r_944.trans (r_972.mono (by simp))
          have g_980 : fs_964[38]? = some (.int (nI st.length)) := (ga_971 38 (by decide)).trans g_945
          have g_981 : fs_964[39]? = some (.int (nI mk)) := (ga_971 39 (by decide)).trans g_946
          have g_982 : fs_964[11]? = some (.int (nI asz)) := (ga_971 11 (by decide)).trans g_947
          have g_983 : fs_964[4]? = some (.ref asked_) := (ga_971 4 (by decide)).trans g_948
          have g_984 : fs_964[51]? = some (.ref top_) := (ga_971 51 (by decide)).trans g_949
          have g_985 : fs_964[52]? = some (.ref masks_) := (ga_971 52 (by decide)).trans g_950
          have g_986 : fs_964[28]? = some (.int (nI (bl fa asz (skP fa asz p)))) := (ga_971 28 (by decide)).trans g_951
          have g_987 : fs_964[29]? = some (.int (nI (rkd (kdP fa asz (skP fa asz p))))) := (ga_971 29 (by decide)).trans g_952
          have g_988 : fs_964[30]? = some (.int (nI (bl fa asz (skP fa asz p)))) := (ga_971 30 (by decide)).trans g_953
          have g_989 : fs_964[31]? = some (.int (nI y_782)) := (ga_971 31 (by decide)).trans g_954
          have ga_990 : ∀ i, i ∉ [28, 29, 30, 31, 33, 38, 39] → fs_964[i]? = fs[i]? := fun i hi => (ga_971 i (fun z => hi (by simp only [List.mem_cons, List.not_mem_nil, or_false] at z ⊢; omega))).trans (ga_955 i hi)
          have hb_991 : ¬ bd_963 < 0 := by rw [hw_967 hb_956]; exact hb_956
          have hb_992 : 0 ≤ bd_963 := Int32.not_lt.mp hb_991
          refine x_le (xw_le_s (xw_le_n (xw_le_s (xw_le_n xw_le_e)))) ?_
          refine s_Model_filter_116 l_968 e_969 g_970 (fun z => absurd z hb_991) (fun z_993 => ?_)
          refine s_Model_filter_123 ?_
          have hd_994 : ¬ depS st = 8 := fun q => z_961 (by rw [q]; rfl)
          exact ⟨rfl, _, _, _, _, l_968, e_969, g_970, ga_990, e_977, e_978, r_979, Or.inl ⟨Or.inl (fp_1n hk_781 hN_927), hb_991, (fun i9 hi9 => by simp only [List.mem_cons, List.not_mem_nil, or_false] at hi9; rcases hi9 with rfl | rfl | rfl | rfl | rfl <;> first | exact ⟨_, g_986⟩ | exact ⟨_, g_987⟩ | exact ⟨_, g_988⟩ | exact ⟨_, g_989⟩ | exact ⟨_, g_981⟩), g_980⟩⟩
        · skip
          refine s_Model_filter_107 ?_
          refine s_Model_filter_112 ?_
          refine x_callV (As := [.int 1, .int (nI (bl fa asz p))]) (b := m) (rest := []) (F1 := 1) (L1 := 20) (mc := 0) (ms := 0) d_Model_filter_113 cV_Model_250 (f_wrongsH (k := bl fa asz p) l_933 e_934 g_935 (by omega) (by omega) (by omega)) e_934 ⟨by decide, rfl⟩ ⟨by omega, by show 8 + (3 + 11) + 20 ≤ _; omega⟩ ⟨by omega, by omega⟩ (Nat.le_of_ble_eq_true rfl) (fun v_1006 h_1005 p_1007 => ?_)
          obtain ⟨rfl, bd_995, fs_996, hw_997, hw_998, hw_999, l_1000, e_1001, g_1002, ga_1003, r_1004⟩ := p_1007
          have e_1008 := r_1004 asked_ _ (by simp only [List.mem_cons, List.not_mem_nil, or_false, not_or]; exact (xw_neC e_941 e_934 (by simp))) e_941
          have e_1009 := r_1004 top_ _ (by simp only [List.mem_cons, List.not_mem_nil, or_false, not_or]; exact (xw_neC e_942 e_934 (by simp))) e_942
          have e_1010 := r_1004 masks_ _ (by simp only [List.mem_cons, List.not_mem_nil, or_false, not_or]; exact (xw_neC e_943 e_934 (by simp))) e_943
          have r_1011 := r_944.trans (r_1004.mono (by simp))
          have g_1012 : fs_996[38]? = some (.int (nI st.length)) := (ga_1003 38 (by decide)).trans g_945
          have g_1013 : fs_996[39]? = some (.int (nI mk)) := (ga_1003 39 (by decide)).trans g_946
          have g_1014 : fs_996[11]? = some (.int (nI asz)) := (ga_1003 11 (by decide)).trans g_947
          have g_1015 : fs_996[4]? = some (.ref asked_) := (ga_1003 4 (by decide)).trans g_948
          have g_1016 : fs_996[51]? = some (.ref top_) := (ga_1003 51 (by decide)).trans g_949
          have g_1017 : fs_996[52]? = some (.ref masks_) := (ga_1003 52 (by decide)).trans g_950
          have g_1018 : fs_996[28]? = some (.int (nI (bl fa asz (skP fa asz p)))) := (ga_1003 28 (by decide)).trans g_951
          have g_1019 : fs_996[29]? = some (.int (nI (rkd (kdP fa asz (skP fa asz p))))) := (ga_1003 29 (by decide)).trans g_952
          have g_1020 : fs_996[30]? = some (.int (nI (bl fa asz (skP fa asz p)))) := (ga_1003 30 (by decide)).trans g_953
          have g_1021 : fs_996[31]? = some (.int (nI y_782)) := (ga_1003 31 (by decide)).trans g_954
          have ga_1022 : ∀ i, i ∉ [28, 29, 30, 31, 33, 38, 39] → fs_996[i]? = fs[i]? := fun i hi => (ga_1003 i (fun z => hi (by simp only [List.mem_cons, List.not_mem_nil, or_false] at z ⊢; omega))).trans (ga_955 i hi)
          have hb_1023 : ¬ bd_995 < 0 := by rw [hw_999 hb_956]; exact hb_956
          have hb_1024 : 0 ≤ bd_995 := Int32.not_lt.mp hb_1023
          refine x_le (xw_le_s (xw_le_n (xw_le_s (xw_le_n xw_le_e)))) ?_
          refine s_Model_filter_116 l_1000 e_1001 g_1002 (fun z => absurd z hb_1023) (fun z_1025 => ?_)
          refine s_Model_filter_123 ?_
          have hd_1026 : depS st = 8 := (nI_eq (b := 8) (by have := cJ_len st; omega) (by decide)).mp z_962
          exact ⟨rfl, _, _, _, _, l_1000, e_1001, g_1002, ga_1022, e_1009, e_1010, r_1011, Or.inl ⟨Or.inl (fp_1n hk_781 hN_927), hb_1023, (fun i9 hi9 => by simp only [List.mem_cons, List.not_mem_nil, or_false] at hi9; rcases hi9 with rfl | rfl | rfl | rfl | rfl <;> first | exact ⟨_, g_1018⟩ | exact ⟨_, g_1019⟩ | exact ⟨_, g_1020⟩ | exact ⟨_, g_1021⟩ | exact ⟨_, g_1013⟩), g_1012⟩⟩
      · skip
        refine s_Model_filter_48 l_786 e_787 g_790 ?_
        refine x_callV (As := [.int (nI (bl fa asz (skP fa asz p)))]) (b := m) (rest := []) (F1 := 1) (L1 := 20) (mc := 0) (ms := 0) d_Model_filter_53 cV_Model_221 (f_q (x := bl fa asz (skP fa asz p)) l_786 e_787 g_805 g_806 e_798 (by omega) (by omega) (by omega) (by omega)) e_787 ⟨by decide, rfl⟩ ⟨by omega, by show 8 + (2 + 11) + 20 ≤ _; omega⟩ ⟨by omega, by omega⟩ (Nat.le_of_ble_eq_true rfl) (fun v_1028 h_1027 p_1029 => ?_)
        obtain ⟨rfl, rfl⟩ := p_1029
        refine s_Model_filter_56 (fun z_1030 => ?_) (fun z_1031 => ?_)
        · skip
          refine s_Model_filter_74 ?_
          refine s_Model_filter_79 (fun z_1032 => ?_) (fun z => absurd z (by decide))
          refine s_Model_filter_89 ?_
          refine s_Model_filter_90 l_786 e_787 g_790 ?_
          have hs_1033 := (hc_813.resolve_left (fun q => z_818 q.1)).2
          have hE_1034 := HY_785 (by rw [hs_1033]; decide)
          have kw9 := kd_w (Or.inr hs_1033)
          rw [hE_1034, pk_sub (by omega)] at z_922
          have hl_1035 : skP fa asz (skP fa asz p) = bl fa asz (skP fa asz p) + 1 := by have := (nI_eq (b := 1) (by omega) (by decide)).mp z_922; omega
          have hq_1036 := z_1030
          rw [qv_in (show bl fa asz (skP fa asz p) < asz by omega)] at hq_1036
          have hN_1037 := flN_a hs_1033 hl_1035 hq_1036
          refine x_callV (As := [.int 0, .int (nI (bl fa asz (skP fa asz p)))]) (b := m) (rest := []) (F1 := 1) (L1 := 20) (mc := 0) (ms := 0) d_Model_filter_94 cV_Model_250 (f_wrongsH (k := bl fa asz (skP fa asz p)) l_786 e_787 g_802 (by omega) (by omega) (by omega)) e_787 ⟨by decide, rfl⟩ ⟨by omega, by show 8 + (3 + 11) + 20 ≤ _; omega⟩ ⟨by omega, by omega⟩ (Nat.le_of_ble_eq_true rfl) (fun v_1049 h_1048 p_1050 => ?_)
          obtain ⟨rfl, bd_1038, fs_1039, hw_1040, hw_1041, hw_1042, l_1043, e_1044, g_1045, ga_1046, r_1047⟩ := p_1050
          have e_1051 := r_1047 asked_ _ (by simp only [List.mem_cons, List.not_mem_nil, or_false, not_or]; exact (xw_neC e_798 e_787 (by simp))) e_798
          have e_1052 := r_1047 top_ _ (by simp only [List.mem_cons, List.not_mem_nil, or_false, not_or]; exact (xw_neC e_799 e_787 (by simp))) e_799
          have e_1053 := r_1047 masks_ _ (by simp only [List.mem_cons, List.not_mem_nil, or_false, not_or]; exact (xw_neC e_800 e_787 (by simp))) e_800
          have r_1054 := r_801.trans (r_1047.mono (by simp))
          have g_1055 : fs_1039[38]? = some (.int (nI st.length)) := (ga_1046 38 (by decide)).trans g_803
          have g_1056 : fs_1039[39]? = some (.int (nI mk)) := (ga_1046 39 (by decide)).trans g_804
          have g_1057 : fs_1039[11]? = some (.int (nI asz)) := (ga_1046 11 (by decide)).trans g_805
          have g_1058 : fs_1039[4]? = some (.ref asked_) := (ga_1046 4 (by decide)).trans g_806
          have g_1059 : fs_1039[51]? = some (.ref top_) := (ga_1046 51 (by decide)).trans g_807
          have g_1060 : fs_1039[52]? = some (.ref masks_) := (ga_1046 52 (by decide)).trans g_808
          have g_1061 : fs_1039[28]? = some (.int (nI (bl fa asz (skP fa asz p)))) := (ga_1046 28 (by decide)).trans g_788
          have g_1062 : fs_1039[29]? = some (.int (nI (rkd (kdP fa asz (skP fa asz p))))) := (ga_1046 29 (by decide)).trans g_789
          have g_1063 : fs_1039[30]? = some (.int (nI (bl fa asz (skP fa asz p)))) := (ga_1046 30 (by decide)).trans g_790
          have g_1064 : fs_1039[31]? = some (.int (nI y_782)) := (ga_1046 31 (by decide)).trans g_791
          have ga_1065 : ∀ i, i ∉ [28, 29, 30, 31, 33, 38, 39] → fs_1039[i]? = fs[i]? := fun i hi => (ga_1046 i (fun z => hi (by simp only [List.mem_cons, List.not_mem_nil, or_false] at z ⊢; omega))).trans (ga_809 i hi)
          have hb_1066 : bd_1038 < 0 := by rw [hw_1040 rfl]; exact hbd
          have hb_1067 : ¬ 0 ≤ bd_1038 := Int32.not_le.mpr hb_1066
          refine s_Model_filter_97 ?_
          refine x_callV (As := []) (b := m) (rest := [.ref m]) (F1 := 1) (L1 := 20) (mc := 0) (ms := 0) d_Model_filter_99 cV_Model_288 (f_depth (n := st.length) l_1043 e_1044 g_1055 g_1059 e_1052 (by omega) (by omega) (by omega)) e_1044 ⟨by decide, rfl⟩ ⟨by omega, by show 8 + (3 + 11) + 20 ≤ _; omega⟩ ⟨by omega, by omega⟩ (Nat.le_of_ble_eq_true rfl) (fun v_1069 h_1068 p_1070 => ?_)
          obtain ⟨rfl, rfl⟩ := p_1070
          rw [cntD_dep ST]
          refine s_Model_filter_102 (fun z_1071 => ?_) (fun z_1072 => ?_)
          · skip
            refine s_Model_filter_111 ?_
            refine s_Model_filter_112 ?_
            refine x_callV (As := [.int 0, .int (nI (bl fa asz p))]) (b := m) (rest := []) (F1 := 1) (L1 := 20) (mc := 0) (ms := 0) d_Model_filter_113 cV_Model_250 (f_wrongsH (k := bl fa asz p) l_1043 e_1044 g_1045 (by omega) (by omega) (by omega)) e_1044 ⟨by decide, rfl⟩ ⟨by omega, by show 8 + (3 + 11) + 20 ≤ _; omega⟩ ⟨by omega, by omega⟩ (Nat.le_of_ble_eq_true rfl) (fun v_1084 h_1083 p_1085 => ?_)
            obtain ⟨rfl, bd_1073, fs_1074, hw_1075, hw_1076, hw_1077, l_1078, e_1079, g_1080, ga_1081, r_1082⟩ := p_1085
            have e_1086 := r_1082 asked_ _ (by simp only [List.mem_cons, List.not_mem_nil, or_false, not_or]; exact (xw_neC e_1051 e_1044 (by simp))) e_1051
            have e_1087 := r_1082 top_ _ (by simp only [List.mem_cons, List.not_mem_nil, or_false, not_or]; exact (xw_neC e_1052 e_1044 (by simp))) e_1052
            have e_1088 := r_1082 masks_ _ (by simp only [List.mem_cons, List.not_mem_nil, or_false, not_or]; exact (xw_neC e_1053 e_1044 (by simp))) e_1053
            have r_1089 := r_1054.trans (r_1082.mono (by simp))
            have g_1090 : fs_1074[38]? = some (.int (nI st.length)) := (ga_1081 38 (by decide)).trans g_1055
            have g_1091 : fs_1074[39]? = some (.int (nI mk)) := (ga_1081 39 (by decide)).trans g_1056
            have g_1092 : fs_1074[11]? = some (.int (nI asz)) := (ga_1081 11 (by decide)).trans g_1057
            have g_1093 : fs_1074[4]? = some (.ref asked_) := (ga_1081 4 (by decide)).trans g_1058
            have g_1094 : fs_1074[51]? = some (.ref top_) := (ga_1081 51 (by decide)).trans g_1059
            have g_1095 : fs_1074[52]? = some (.ref masks_) := (ga_1081 52 (by decide)).trans g_1060
            have g_1096 : fs_1074[28]? = some (.int (nI (bl fa asz (skP fa asz p)))) := (ga_1081 28 (by decide)).trans g_1061
            have g_1097 : fs_1074[29]? = some (.int (nI (rkd (kdP fa asz (skP fa asz p))))) := (ga_1081 29 (by decide)).trans g_1062
            have g_1098 : fs_1074[30]? = some (.int (nI (bl fa asz (skP fa asz p)))) := (ga_1081 30 (by decide)).trans g_1063
            have g_1099 : fs_1074[31]? = some (.int (nI y_782)) := (ga_1081 31 (by decide)).trans g_1064
            have ga_1100 : ∀ i, i ∉ [28, 29, 30, 31, 33, 38, 39] → fs_1074[i]? = fs[i]? := fun i hi => (ga_1081 i (fun z => hi (by simp only [List.mem_cons, List.not_mem_nil, or_false] at z ⊢; omega))).trans (ga_1065 i hi)
            have hb_1101 : bd_1073 < 0 := by rw [hw_1075 rfl]; exact hb_1066
            have hb_1102 : ¬ 0 ≤ bd_1073 := Int32.not_le.mpr hb_1101
            refine x_le (xw_le_s (xw_le_n (xw_le_s (xw_le_n xw_le_e)))) ?_
            refine s_Model_filter_116 l_1078 e_1079 g_1080 (fun z_1103 => ?_) (fun z => absurd hb_1101 z)
            refine s_Model_filter_124 ?_
            refine x_callV (As := [.int 6]) (b := m) (rest := []) (F1 := 1) (L1 := 20) (mc := 0) (ms := 0) d_Model_filter_127 cV_Model_285 (f_pushesH (n := st.length) (mk := mk) l_1078 e_1079 g_1090 g_1091 g_1094 e_1087 g_1095 e_1088 n_top_masks (by omega) (by omega) (by omega)) e_1079 ⟨by decide, rfl⟩ ⟨by omega, by show 8 + (2 + 11) + 20 ≤ _; omega⟩ ⟨by omega, by omega⟩ (Nat.le_of_ble_eq_true rfl) (fun v_1113 h_1112 p_1114 => ?_)
            obtain ⟨rfl, fs_1104, l_1105, e_1106, g_1107, ga_1108, e_1109, e_1110, r_1111⟩ := p_1114
            have e_1115 := r_1111 asked_ _ (by simp only [List.mem_cons, List.not_mem_nil, or_false, not_or]; exact ⟨(xw_neC e_1086 e_1079 (by simp)), (xw_neC e_1086 e_1087 (by simp)), (xw_neC e_1086 e_1088 (by simp))⟩) e_1086
            have r_1116 := r_1089.trans (r_1111.mono (by simp))
            have g_1117 : fs_1104[39]? = some (.int (nI mk)) := (ga_1108 39 (by decide)).trans g_1091
            have g_1118 : fs_1104[11]? = some (.int (nI asz)) := (ga_1108 11 (by decide)).trans g_1092
            have g_1119 : fs_1104[4]? = some (.ref asked_) := (ga_1108 4 (by decide)).trans g_1093
            have g_1120 : fs_1104[51]? = some (.ref top_) := (ga_1108 51 (by decide)).trans g_1094
            have g_1121 : fs_1104[52]? = some (.ref masks_) := (ga_1108 52 (by decide)).trans g_1095
            have g_1122 : fs_1104[28]? = some (.int (nI (bl fa asz (skP fa asz p)))) := (ga_1108 28 (by decide)).trans g_1096
            have g_1123 : fs_1104[29]? = some (.int (nI (rkd (kdP fa asz (skP fa asz p))))) := (ga_1108 29 (by decide)).trans g_1097
            have g_1124 : fs_1104[30]? = some (.int (nI (bl fa asz (skP fa asz p)))) := (ga_1108 30 (by decide)).trans g_1098
            have g_1125 : fs_1104[31]? = some (.int (nI y_782)) := (ga_1108 31 (by decide)).trans g_1099
            have g_1126 : fs_1104[33]? = some (.int bd_1073) := (ga_1108 33 (by decide)).trans g_1080
            have ga_1127 : ∀ i, i ∉ [28, 29, 30, 31, 33, 38, 39] → fs_1104[i]? = fs[i]? := fun i hi => (ga_1108 i (fun z => hi (by simp only [List.mem_cons, List.not_mem_nil, or_false] at z ⊢; omega))).trans (ga_1100 i hi)
            refine s_Model_filter_130 l_1105 e_1106 g_1117 g_1124 ?_
            refine x_callV (As := [.int (nI (bl fa asz (skP fa asz p)))]) (b := m) (rest := [.int (nI mk), .ref m]) (F1 := 1) (L1 := 20) (mc := 0) (ms := 0) d_Model_filter_140 cV_Model_221 (f_q (x := bl fa asz (skP fa asz p)) l_1105 e_1106 g_1118 g_1119 e_1115 (by omega) (by omega) (by omega) (by omega)) e_1106 ⟨by decide, rfl⟩ ⟨by omega, by show 8 + (2 + 11) + 20 ≤ _; omega⟩ ⟨by omega, by omega⟩ (Nat.le_of_ble_eq_true rfl) (fun v_1129 h_1128 p_1130 => ?_)
            obtain ⟨rfl, rfl⟩ := p_1130
            refine s_Model_filter_143 (fun z => absurd z_1030 z) (fun z_1131 => ?_)
            refine s_Model_filter_148 ?_
            refine s_Model_filter_153 (fun z_1132 => ?_) (fun z => absurd z (by decide))
            refine s_Model_filter_161 ?_
            refine s_Model_filter_162 l_1105 e_1106 ?_
            refine x_u1 (fun h_1133 e_1134 f_1135 => ?_)
            have e_1136 := (f_1135 asked_ (xw_neC e_1115 e_1106 (by simp))).trans e_1115
            have e_1137 := (f_1135 top_ (xw_neC e_1109 e_1106 (by simp))).trans e_1109
            have e_1138 := (f_1135 masks_ (xw_neC e_1110 e_1106 (by simp))).trans e_1110
            have r_1139 := r_1116.up (by simp) f_1135
            obtain ⟨fs_1140, z_1141⟩ : ∃ z, z = fs_1104.set 39 (.int ((nI mk) &&& 2)) := ⟨_, rfl⟩
            rw [← z_1141] at e_1134
            have l_1142 : fs_1140.length = 62 := by rw [z_1141]; simp only [List.length_set]; exact l_1105
            have g_1143 : fs_1140[4]? = some (.ref asked_) := by rw [z_1141]; exact (xw_gn (by decide) g_1119)
            have g_1144 : fs_1140[11]? = some (.int (nI asz)) := by rw [z_1141]; exact (xw_gn (by decide) g_1118)
            have g_1145 : fs_1140[28]? = some (.int (nI (bl fa asz (skP fa asz p)))) := by rw [z_1141]; exact (xw_gn (by decide) g_1122)
            have g_1146 : fs_1140[29]? = some (.int (nI (rkd (kdP fa asz (skP fa asz p))))) := by rw [z_1141]; exact (xw_gn (by decide) g_1123)
            have g_1147 : fs_1140[30]? = some (.int (nI (bl fa asz (skP fa asz p)))) := by rw [z_1141]; exact (xw_gn (by decide) g_1124)
            have g_1148 : fs_1140[31]? = some (.int (nI y_782)) := by rw [z_1141]; exact (xw_gn (by decide) g_1125)
            have g_1149 : fs_1140[33]? = some (.int bd_1073) := by rw [z_1141]; exact (xw_gn (by decide) g_1126)
            have g_1150 : fs_1140[38]? = some (.int (nI (st.length + 1))) := by rw [z_1141]; exact (xw_gn (by decide) g_1107)
            have g_1151 : fs_1140[39]? = some (.int ((nI mk) &&& 2)) := by rw [z_1141]; exact (xw_gs (by simp [l_1105]))
            have g_1152 : fs_1140[51]? = some (.ref top_) := by rw [z_1141]; exact (xw_gn (by decide) g_1120)
            have g_1153 : fs_1140[52]? = some (.ref masks_) := by rw [z_1141]; exact (xw_gn (by decide) g_1121)
            have ga_1154 : ∀ i, i ∉ [28, 29, 30, 31, 33, 38, 39] → fs_1140[i]? = fs[i]? := fun i hi => by rw [z_1141]; exact xw_gn (fun z => hi (by rw [z]; simp)) (ga_1127 i hi)
            clear z_1141
            have hE_1167 := HY_785 (by rw [hs_1033]; decide)
            rw [hE_1167] at g_1148
            refine x_callV (As := []) (b := m) (rest := []) (F1 := 4) (L1 := 87) (mc := 0) (ms := 0) d_Model_filter_167 cV_Model_257 (f_nextH (x0 := (skP fa asz (skP fa asz p))) l_1142 e_1134 g_1145 g_1146 g_1147 g_1148 g_1144 g_1143 e_1136 (by rw [← hE_1167]; exact PT_784.2.1) hasz (by omega) (by omega)) e_1134 ⟨by decide, rfl⟩ ⟨by omega, by show 8 + (1 + 11) + 87 ≤ _; omega⟩ ⟨by omega, by omega⟩ (Nat.le_of_ble_eq_true rfl) (fun v_1169 h_1168 p_1170 => ?_)
            obtain ⟨rfl, y_1155, fs_1156, PT_1157, HY_1158, l_1159, e_1160, g_1161, g_1162, g_1163, g_1164, ga_1165, r_1166⟩ := p_1170
            have e_1171 := r_1166 asked_ _ (by simp only [List.mem_cons, List.not_mem_nil, or_false, not_or]; exact (xw_neC e_1136 e_1134 (by simp))) e_1136
            have e_1172 := r_1166 top_ _ (by simp only [List.mem_cons, List.not_mem_nil, or_false, not_or]; exact (xw_neC e_1137 e_1134 (by simp))) e_1137
            have e_1173 := r_1166 masks_ _ (by simp only [List.mem_cons, List.not_mem_nil, or_false, not_or]; exact (xw_neC e_1138 e_1134 (by simp))) e_1138
            have r_1174 := r_1139.trans (r_1166.mono (by simp))
            have g_1175 : fs_1156[4]? = some (.ref asked_) := (ga_1165 4 (by decide)).trans g_1143
            have g_1176 : fs_1156[11]? = some (.int (nI asz)) := (ga_1165 11 (by decide)).trans g_1144
            have g_1177 : fs_1156[33]? = some (.int bd_1073) := (ga_1165 33 (by decide)).trans g_1149
            have g_1178 : fs_1156[38]? = some (.int (nI (st.length + 1))) := (ga_1165 38 (by decide)).trans g_1150
            have g_1179 : fs_1156[39]? = some (.int ((nI mk) &&& 2)) := (ga_1165 39 (by decide)).trans g_1151
            have g_1180 : fs_1156[51]? = some (.ref top_) := (ga_1165 51 (by decide)).trans g_1152
            have g_1181 : fs_1156[52]? = some (.ref masks_) := (ga_1165 52 (by decide)).trans g_1153
            have ga_1182 : ∀ i, i ∉ [28, 29, 30, 31, 33, 38, 39] → fs_1156[i]? = fs[i]? := fun i hi => (ga_1165 i (fun z => hi (by simp only [List.mem_cons, List.not_mem_nil, or_false] at z ⊢; omega))).trans (ga_1154 i hi)
            have RQ_1183 := RQ_810.next (by rw [hs_1033]; decide) (by rw [hs_1033]; decide)
            have hb_1184 := Nat.le_trans PT_1157.1 PT_1157.2.1
            refine s_Model_filter_170 ?_
            have hk_1185 := kd_3 hs_1033
            have hE_1198 := HY_1158 (by rw [hk_1185]; decide)
            rw [hE_1198] at g_1164
            refine x_callV (As := []) (b := m) (rest := []) (F1 := 4) (L1 := 87) (mc := 0) (ms := 0) d_Model_filter_171 cV_Model_257 (f_nextH (x0 := (skP fa asz (skP fa asz (skP fa asz p)))) l_1159 e_1160 g_1161 g_1162 g_1163 g_1164 g_1176 g_1175 e_1171 (by rw [← hE_1198]; exact PT_1157.2.1) hasz (by omega) (by omega)) e_1160 ⟨by decide, rfl⟩ ⟨by omega, by show 8 + (1 + 11) + 87 ≤ _; omega⟩ ⟨by omega, by omega⟩ (Nat.le_of_ble_eq_true rfl) (fun v_1200 h_1199 p_1201 => ?_)
            obtain ⟨rfl, y_1186, fs_1187, PT_1188, HY_1189, l_1190, e_1191, g_1192, g_1193, g_1194, g_1195, ga_1196, r_1197⟩ := p_1201
            have e_1202 := r_1197 asked_ _ (by simp only [List.mem_cons, List.not_mem_nil, or_false, not_or]; exact (xw_neC e_1171 e_1160 (by simp))) e_1171
            have e_1203 := r_1197 top_ _ (by simp only [List.mem_cons, List.not_mem_nil, or_false, not_or]; exact (xw_neC e_1172 e_1160 (by simp))) e_1172
            have e_1204 := r_1197 masks_ _ (by simp only [List.mem_cons, List.not_mem_nil, or_false, not_or]; exact (xw_neC e_1173 e_1160 (by simp))) e_1173
            have r_1205 := r_1174.trans (r_1197.mono (by simp))
            have g_1206 : fs_1187[4]? = some (.ref asked_) := (ga_1196 4 (by decide)).trans g_1175
            have g_1207 : fs_1187[11]? = some (.int (nI asz)) := (ga_1196 11 (by decide)).trans g_1176
            have g_1208 : fs_1187[33]? = some (.int bd_1073) := (ga_1196 33 (by decide)).trans g_1177
            have g_1209 : fs_1187[38]? = some (.int (nI (st.length + 1))) := (ga_1196 38 (by decide)).trans g_1178
            have g_1210 : fs_1187[39]? = some (.int ((nI mk) &&& 2)) := (ga_1196 39 (by decide)).trans g_1179
            have g_1211 : fs_1187[51]? = some (.ref top_) := (ga_1196 51 (by decide)).trans g_1180
            have g_1212 : fs_1187[52]? = some (.ref masks_) := (ga_1196 52 (by decide)).trans g_1181
            have ga_1213 : ∀ i, i ∉ [28, 29, 30, 31, 33, 38, 39] → fs_1187[i]? = fs[i]? := fun i hi => (ga_1196 i (fun z => hi (by simp only [List.mem_cons, List.not_mem_nil, or_false] at z ⊢; omega))).trans (ga_1182 i hi)
            have RQ_1214 := RQ_1183.next (by rw [hk_1185]; decide) (by rw [hk_1185]; decide)
            have hb_1215 := Nat.le_trans PT_1188.1 PT_1188.2.1
            refine x_le (xw_le_n (xw_le_n (xw_le_n (xw_le_n xw_le_e)))) ?_
            refine s_Model_filter_174 ?_
            have hd_1216 : ¬ depS st = 8 := fun q => z_1071 (by rw [q]; rfl)
            rw [am2 mk hmk] at g_1210
            exact ⟨rfl, _, _, _, _, l_1190, e_1191, g_1208, ga_1213, e_1203, e_1204, r_1205, Or.inr ⟨2, (skP fa asz (skP fa asz (skP fa asz p))), _, fp_1y (s := (p, ph, gr)) hk_781 hN_1037, hd_1216, hb_1101, PT_1188, HY_1189, g_1192, g_1193, g_1194, g_1195, RQ_1214, g_1209, g_1210, ST.push (a := 6) (by omega) (by omega) hmk⟩⟩
          · skip
            refine s_Model_filter_107 ?_
            refine s_Model_filter_112 ?_
            refine x_callV (As := [.int 1, .int (nI (bl fa asz p))]) (b := m) (rest := []) (F1 := 1) (L1 := 20) (mc := 0) (ms := 0) d_Model_filter_113 cV_Model_250 (f_wrongsH (k := bl fa asz p) l_1043 e_1044 g_1045 (by omega) (by omega) (by omega)) e_1044 ⟨by decide, rfl⟩ ⟨by omega, by show 8 + (3 + 11) + 20 ≤ _; omega⟩ ⟨by omega, by omega⟩ (Nat.le_of_ble_eq_true rfl) (fun v_1228 h_1227 p_1229 => ?_)
            obtain ⟨rfl, bd_1217, fs_1218, hw_1219, hw_1220, hw_1221, l_1222, e_1223, g_1224, ga_1225, r_1226⟩ := p_1229
            have e_1230 := r_1226 asked_ _ (by simp only [List.mem_cons, List.not_mem_nil, or_false, not_or]; exact (xw_neC e_1051 e_1044 (by simp))) e_1051
            have e_1231 := r_1226 top_ _ (by simp only [List.mem_cons, List.not_mem_nil, or_false, not_or]; exact (xw_neC e_1052 e_1044 (by simp))) e_1052
            have e_1232 := r_1226 masks_ _ (by simp only [List.mem_cons, List.not_mem_nil, or_false, not_or]; exact (xw_neC e_1053 e_1044 (by simp))) e_1053
            have r_1233 := r_1054.trans (r_1226.mono (by simp))
            have g_1234 : fs_1218[38]? = some (.int (nI st.length)) := (ga_1225 38 (by decide)).trans g_1055
            have g_1235 : fs_1218[39]? = some (.int (nI mk)) := (ga_1225 39 (by decide)).trans g_1056
            have g_1236 : fs_1218[11]? = some (.int (nI asz)) := (ga_1225 11 (by decide)).trans g_1057
            have g_1237 : fs_1218[4]? = some (.ref asked_) := (ga_1225 4 (by decide)).trans g_1058
            have g_1238 : fs_1218[51]? = some (.ref top_) := (ga_1225 51 (by decide)).trans g_1059
            have g_1239 : fs_1218[52]? = some (.ref masks_) := (ga_1225 52 (by decide)).trans g_1060
            have g_1240 : fs_1218[28]? = some (.int (nI (bl fa asz (skP fa asz p)))) := (ga_1225 28 (by decide)).trans g_1061
            have g_1241 : fs_1218[29]? = some (.int (nI (rkd (kdP fa asz (skP fa asz p))))) := (ga_1225 29 (by decide)).trans g_1062
            have g_1242 : fs_1218[30]? = some (.int (nI (bl fa asz (skP fa asz p)))) := (ga_1225 30 (by decide)).trans g_1063
            have g_1243 : fs_1218[31]? = some (.int (nI y_782)) := (ga_1225 31 (by decide)).trans g_1064
            have ga_1244 : ∀ i, i ∉ [28, 29, 30, 31, 33, 38, 39] → fs_1218[i]? = fs[i]? := fun i hi => (ga_1225 i (fun z => hi (by simp only [List.mem_cons, List.not_mem_nil, or_false] at z ⊢; omega))).trans (ga_1065 i hi)
            have hb_1245 : ¬ bd_1217 < 0 := hw_1220 (by decide)
            have hb_1246 : 0 ≤ bd_1217 := Int32.not_lt.mp hb_1245
            refine x_le (xw_le_s (xw_le_n (xw_le_s (xw_le_n xw_le_e)))) ?_
            refine s_Model_filter_116 l_1222 e_1223 g_1224 (fun z => absurd z hb_1245) (fun z_1247 => ?_)
            refine s_Model_filter_123 ?_
            have hd_1248 : depS st = 8 := (nI_eq (b := 8) (by have := cJ_len st; omega) (by decide)).mp z_1072
            exact ⟨rfl, _, _, _, _, l_1222, e_1223, g_1224, ga_1244, e_1231, e_1232, r_1233, Or.inl ⟨Or.inr hd_1248, hb_1245, (fun i9 hi9 => by simp only [List.mem_cons, List.not_mem_nil, or_false] at hi9; rcases hi9 with rfl | rfl | rfl | rfl | rfl <;> first | exact ⟨_, g_1240⟩ | exact ⟨_, g_1241⟩ | exact ⟨_, g_1242⟩ | exact ⟨_, g_1243⟩ | exact ⟨_, g_1235⟩), g_1234⟩⟩
        · skip
          refine s_Model_filter_61 l_786 e_787 g_790 ?_
          refine x_callV (As := [.int (nI (bl fa asz (skP fa asz p)))]) (b := m) (rest := []) (F1 := 1) (L1 := 20) (mc := 0) (ms := 0) d_Model_filter_66 cV_Model_221 (f_q (x := bl fa asz (skP fa asz p)) l_786 e_787 g_805 g_806 e_798 (by omega) (by omega) (by omega) (by omega)) e_787 ⟨by decide, rfl⟩ ⟨by omega, by show 8 + (2 + 11) + 20 ≤ _; omega⟩ ⟨by omega, by omega⟩ (Nat.le_of_ble_eq_true rfl) (fun v_1250 h_1249 p_1251 => ?_)
          obtain ⟨rfl, rfl⟩ := p_1251
          refine s_Model_filter_69 (fun z_1252 => ?_) (fun z_1253 => ?_)
          · skip
            refine s_Model_filter_78 ?_
            refine s_Model_filter_79 (fun z => absurd z (by decide)) (fun z_1254 => ?_)
            refine s_Model_filter_85 ?_
            refine s_Model_filter_90 l_786 e_787 g_790 ?_
            have hs_1255 := (hc_813.resolve_left (fun q => z_818 q.1)).2
            have hE_1256 := HY_785 (by rw [hs_1255]; decide)
            have kw9 := kd_w (Or.inr hs_1255)
            rw [hE_1256, pk_sub (by omega)] at z_922
            have hl_1257 : skP fa asz (skP fa asz p) = bl fa asz (skP fa asz p) + 1 := by have := (nI_eq (b := 1) (by omega) (by decide)).mp z_922; omega
            have hq_1258 := z_1031
            rw [qv_in (show bl fa asz (skP fa asz p) < asz by omega)] at hq_1258
            have hq_1259 := z_1252
            rw [qv_in (show bl fa asz (skP fa asz p) < asz by omega)] at hq_1259
            have hN_1260 := flN_c (fun q => q.2.elim hq_1258 hq_1259)
            refine x_callV (As := [.int 1, .int (nI (bl fa asz (skP fa asz p)))]) (b := m) (rest := []) (F1 := 1) (L1 := 20) (mc := 0) (ms := 0) d_Model_filter_94 cV_Model_250 (f_wrongsH (k := bl fa asz (skP fa asz p)) l_786 e_787 g_802 (by omega) (by omega) (by omega)) e_787 ⟨by decide, rfl⟩ ⟨by omega, by show 8 + (3 + 11) + 20 ≤ _; omega⟩ ⟨by omega, by omega⟩ (Nat.le_of_ble_eq_true rfl) (fun v_1272 h_1271 p_1273 => ?_)
            obtain ⟨rfl, bd_1261, fs_1262, hw_1263, hw_1264, hw_1265, l_1266, e_1267, g_1268, ga_1269, r_1270⟩ := p_1273
            have e_1274 := r_1270 asked_ _ (by simp only [List.mem_cons, List.not_mem_nil, or_false, not_or]; exact (xw_neC e_798 e_787 (by simp))) e_798
            have e_1275 := r_1270 top_ _ (by simp only [List.mem_cons, List.not_mem_nil, or_false, not_or]; exact (xw_neC e_799 e_787 (by simp))) e_799
            have e_1276 := r_1270 masks_ _ (by simp only [List.mem_cons, List.not_mem_nil, or_false, not_or]; exact (xw_neC e_800 e_787 (by simp))) e_800
            have r_1277 := r_801.trans (r_1270.mono (by simp))
            have g_1278 : fs_1262[38]? = some (.int (nI st.length)) := (ga_1269 38 (by decide)).trans g_803
            have g_1279 : fs_1262[39]? = some (.int (nI mk)) := (ga_1269 39 (by decide)).trans g_804
            have g_1280 : fs_1262[11]? = some (.int (nI asz)) := (ga_1269 11 (by decide)).trans g_805
            have g_1281 : fs_1262[4]? = some (.ref asked_) := (ga_1269 4 (by decide)).trans g_806
            have g_1282 : fs_1262[51]? = some (.ref top_) := (ga_1269 51 (by decide)).trans g_807
            have g_1283 : fs_1262[52]? = some (.ref masks_) := (ga_1269 52 (by decide)).trans g_808
            have g_1284 : fs_1262[28]? = some (.int (nI (bl fa asz (skP fa asz p)))) := (ga_1269 28 (by decide)).trans g_788
            have g_1285 : fs_1262[29]? = some (.int (nI (rkd (kdP fa asz (skP fa asz p))))) := (ga_1269 29 (by decide)).trans g_789
            have g_1286 : fs_1262[30]? = some (.int (nI (bl fa asz (skP fa asz p)))) := (ga_1269 30 (by decide)).trans g_790
            have g_1287 : fs_1262[31]? = some (.int (nI y_782)) := (ga_1269 31 (by decide)).trans g_791
            have ga_1288 : ∀ i, i ∉ [28, 29, 30, 31, 33, 38, 39] → fs_1262[i]? = fs[i]? := fun i hi => (ga_1269 i (fun z => hi (by simp only [List.mem_cons, List.not_mem_nil, or_false] at z ⊢; omega))).trans (ga_809 i hi)
            have hb_1289 : ¬ bd_1261 < 0 := hw_1264 (by decide)
            have hb_1290 : 0 ≤ bd_1261 := Int32.not_lt.mp hb_1289
            refine s_Model_filter_97 ?_
            refine x_callV (As := []) (b := m) (rest := [.ref m]) (F1 := 1) (L1 := 20) (mc := 0) (ms := 0) d_Model_filter_99 cV_Model_288 (f_depth (n := st.length) l_1266 e_1267 g_1278 g_1282 e_1275 (by omega) (by omega) (by omega)) e_1267 ⟨by decide, rfl⟩ ⟨by omega, by show 8 + (3 + 11) + 20 ≤ _; omega⟩ ⟨by omega, by omega⟩ (Nat.le_of_ble_eq_true rfl) (fun v_1292 h_1291 p_1293 => ?_)
            obtain ⟨rfl, rfl⟩ := p_1293
            rw [cntD_dep ST]
            refine s_Model_filter_102 (fun z_1294 => ?_) (fun z_1295 => ?_)
            · skip
              refine s_Model_filter_111 ?_
              refine s_Model_filter_112 ?_
              refine x_callV (As := [.int 0, .int (nI (bl fa asz p))]) (b := m) (rest := []) (F1 := 1) (L1 := 20) (mc := 0) (ms := 0) d_Model_filter_113 cV_Model_250 (f_wrongsH (k := bl fa asz p) l_1266 e_1267 g_1268 (by omega) (by omega) (by omega)) e_1267 ⟨by decide, rfl⟩ ⟨by omega, by show 8 + (3 + 11) + 20 ≤ _; omega⟩ ⟨by omega, by omega⟩ (Nat.le_of_ble_eq_true rfl) (fun v_1307 h_1306 p_1308 => ?_)
              obtain ⟨rfl, bd_1296, fs_1297, hw_1298, hw_1299, hw_1300, l_1301, e_1302, g_1303, ga_1304, r_1305⟩ := p_1308
              have e_1309 := r_1305 asked_ _ (by simp only [List.mem_cons, List.not_mem_nil, or_false, not_or]; exact (xw_neC e_1274 e_1267 (by simp))) e_1274
              have e_1310 := r_1305 top_ _ (by simp only [List.mem_cons, List.not_mem_nil, or_false, not_or]; exact (xw_neC e_1275 e_1267 (by simp))) e_1275
              have e_1311 := r_1305 masks_ _ (by simp only [List.mem_cons, List.not_mem_nil, or_false, not_or]; exact (xw_neC e_1276 e_1267 (by simp))) e_1276
              have r_1312 := r_1277.trans (r_1305.mono (by simp))
              have g_1313 : fs_1297[38]? = some (.int (nI st.length)) := (ga_1304 38 (by decide)).trans g_1278
              have g_1314 : fs_1297[39]? = some (.int (nI mk)) := (ga_1304 39 (by decide)).trans g_1279
              have g_1315 : fs_1297[11]? = some (.int (nI asz)) := (ga_1304 11 (by decide)).trans g_1280
              have g_1316 : fs_1297[4]? = some (.ref asked_) := (ga_1304 4 (by decide)).trans g_1281
              have g_1317 : fs_1297[51]? = some (.ref top_) := (ga_1304 51 (by decide)).trans g_1282
              have g_1318 : fs_1297[52]? = some (.ref masks_) := (ga_1304 52 (by decide)).trans g_1283
              have g_1319 : fs_1297[28]? = some (.int (nI (bl fa asz (skP fa asz p)))) := (ga_1304 28 (by decide)).trans g_1284
              have g_1320 : fs_1297[29]? = some (.int (nI (rkd (kdP fa asz (skP fa asz p))))) := (ga_1304 29 (by decide)).trans g_1285
              have g_1321 : fs_1297[30]? = some (.int (nI (bl fa asz (skP fa asz p)))) := (ga_1304 30 (by decide)).trans g_1286
              have g_1322 : fs_1297[31]? = some (.int (nI y_782)) := (ga_1304 31 (by decide)).trans g_1287
              have ga_1323 : ∀ i, i ∉ [28, 29, 30, 31, 33, 38, 39] → fs_1297[i]? = fs[i]? := fun i hi => (ga_1304 i (fun z => hi (by simp only [List.mem_cons, List.not_mem_nil, or_false] at z ⊢; omega))).trans (ga_1288 i hi)
              have hb_1324 : ¬ bd_1296 < 0 := by rw [hw_1300 hb_1289]; exact hb_1289
              have hb_1325 : 0 ≤ bd_1296 := Int32.not_lt.mp hb_1324
              refine x_le (xw_le_s (xw_le_n (xw_le_s (xw_le_n xw_le_e)))) ?_
              refine s_Model_filter_116 l_1301 e_1302 g_1303 (fun z => absurd z hb_1324) (fun z_1326 => ?_)
              refine s_Model_filter_123 ?_
              have hd_1327 : ¬ depS st = 8 := fun q => z_1294 (by rw [q]; rfl)
              exact ⟨rfl, _, _, _, _, l_1301, e_1302, g_1303, ga_1323, e_1310, e_1311, r_1312, Or.inl ⟨Or.inl (fp_1n hk_781 hN_1260), hb_1324, (fun i9 hi9 => by simp only [List.mem_cons, List.not_mem_nil, or_false] at hi9; rcases hi9 with rfl | rfl | rfl | rfl | rfl <;> first | exact ⟨_, g_1319⟩ | exact ⟨_, g_1320⟩ | exact ⟨_, g_1321⟩ | exact ⟨_, g_1322⟩ | exact ⟨_, g_1314⟩), g_1313⟩⟩
            · skip
              refine s_Model_filter_107 ?_
              refine s_Model_filter_112 ?_
              refine x_callV (As := [.int 1, .int (nI (bl fa asz p))]) (b := m) (rest := []) (F1 := 1) (L1 := 20) (mc := 0) (ms := 0) d_Model_filter_113 cV_Model_250 (f_wrongsH (k := bl fa asz p) l_1266 e_1267 g_1268 (by omega) (by omega) (by omega)) e_1267 ⟨by decide, rfl⟩ ⟨by omega, by show 8 + (3 + 11) + 20 ≤ _; omega⟩ ⟨by omega, by omega⟩ (Nat.le_of_ble_eq_true rfl) (fun v_1339 h_1338 p_1340 => ?_)
              obtain ⟨rfl, bd_1328, fs_1329, hw_1330, hw_1331, hw_1332, l_1333, e_1334, g_1335, ga_1336, r_1337⟩ := p_1340
              have e_1341 := r_1337 asked_ _ (by simp only [List.mem_cons, List.not_mem_nil, or_false, not_or]; exact (xw_neC e_1274 e_1267 (by simp))) e_1274
              have e_1342 := r_1337 top_ _ (by simp only [List.mem_cons, List.not_mem_nil, or_false, not_or]; exact (xw_neC e_1275 e_1267 (by simp))) e_1275
              have e_1343 := r_1337 masks_ _ (by simp only [List.mem_cons, List.not_mem_nil, or_false, not_or]; exact (xw_neC e_1276 e_1267 (by simp))) e_1276
              have r_1344 := r_1277.trans (r_1337.mono (by simp))
              have g_1345 : fs_1329[38]? = some (.int (nI st.length)) := (ga_1336 38 (by decide)).trans g_1278
              have g_1346 : fs_1329[39]? = some (.int (nI mk)) := (ga_1336 39 (by decide)).trans g_1279
              have g_1347 : fs_1329[11]? = some (.int (nI asz)) := (ga_1336 11 (by decide)).trans g_1280
              have g_1348 : fs_1329[4]? = some (.ref asked_) := (ga_1336 4 (by decide)).trans g_1281
              have g_1349 : fs_1329[51]? = some (.ref top_) := (ga_1336 51 (by decide)).trans g_1282
              have g_1350 : fs_1329[52]? = some (.ref masks_) := (ga_1336 52 (by decide)).trans g_1283
              have g_1351 : fs_1329[28]? = some (.int (nI (bl fa asz (skP fa asz p)))) := (ga_1336 28 (by decide)).trans g_1284
              have g_1352 : fs_1329[29]? = some (.int (nI (rkd (kdP fa asz (skP fa asz p))))) := (ga_1336 29 (by decide)).trans g_1285
              have g_1353 : fs_1329[30]? = some (.int (nI (bl fa asz (skP fa asz p)))) := (ga_1336 30 (by decide)).trans g_1286
              have g_1354 : fs_1329[31]? = some (.int (nI y_782)) := (ga_1336 31 (by decide)).trans g_1287
              have ga_1355 : ∀ i, i ∉ [28, 29, 30, 31, 33, 38, 39] → fs_1329[i]? = fs[i]? := fun i hi => (ga_1336 i (fun z => hi (by simp only [List.mem_cons, List.not_mem_nil, or_false] at z ⊢; omega))).trans (ga_1288 i hi)
              have hb_1356 : ¬ bd_1328 < 0 := by rw [hw_1332 hb_1289]; exact hb_1289
              have hb_1357 : 0 ≤ bd_1328 := Int32.not_lt.mp hb_1356
              refine x_le (xw_le_s (xw_le_n (xw_le_s (xw_le_n xw_le_e)))) ?_
              refine s_Model_filter_116 l_1333 e_1334 g_1335 (fun z => absurd z hb_1356) (fun z_1358 => ?_)
              refine s_Model_filter_123 ?_
              have hd_1359 : depS st = 8 := (nI_eq (b := 8) (by have := cJ_len st; omega) (by decide)).mp z_1295
              exact ⟨rfl, _, _, _, _, l_1333, e_1334, g_1335, ga_1355, e_1342, e_1343, r_1344, Or.inl ⟨Or.inl (fp_1n hk_781 hN_1260), hb_1356, (fun i9 hi9 => by simp only [List.mem_cons, List.not_mem_nil, or_false] at hi9; rcases hi9 with rfl | rfl | rfl | rfl | rfl <;> first | exact ⟨_, g_1351⟩ | exact ⟨_, g_1352⟩ | exact ⟨_, g_1353⟩ | exact ⟨_, g_1354⟩ | exact ⟨_, g_1346⟩), g_1345⟩⟩
          · skip
            refine s_Model_filter_74 ?_
            refine s_Model_filter_79 (fun z_1360 => ?_) (fun z => absurd z (by decide))
            refine s_Model_filter_89 ?_
            refine s_Model_filter_90 l_786 e_787 g_790 ?_
            have hs_1361 := (hc_813.resolve_left (fun q => z_818 q.1)).2
            have hE_1362 := HY_785 (by rw [hs_1361]; decide)
            have kw9 := kd_w (Or.inr hs_1361)
            rw [hE_1362, pk_sub (by omega)] at z_922
            have hl_1363 : skP fa asz (skP fa asz p) = bl fa asz (skP fa asz p) + 1 := by have := (nI_eq (b := 1) (by omega) (by decide)).mp z_922; omega
            have hq_1364 := z_1031
            rw [qv_in (show bl fa asz (skP fa asz p) < asz by omega)] at hq_1364
            have hq_1365 := z_1253
            rw [qv_in (show bl fa asz (skP fa asz p) < asz by omega)] at hq_1365
            have hN_1366 := flN_b hs_1361 hl_1363 hq_1365
            refine x_callV (As := [.int 0, .int (nI (bl fa asz (skP fa asz p)))]) (b := m) (rest := []) (F1 := 1) (L1 := 20) (mc := 0) (ms := 0) d_Model_filter_94 cV_Model_250 (f_wrongsH (k := bl fa asz (skP fa asz p)) l_786 e_787 g_802 (by omega) (by omega) (by omega)) e_787 ⟨by decide, rfl⟩ ⟨by omega, by show 8 + (3 + 11) + 20 ≤ _; omega⟩ ⟨by omega, by omega⟩ (Nat.le_of_ble_eq_true rfl) (fun v_1378 h_1377 p_1379 => ?_)
            obtain ⟨rfl, bd_1367, fs_1368, hw_1369, hw_1370, hw_1371, l_1372, e_1373, g_1374, ga_1375, r_1376⟩ := p_1379
            have e_1380 := r_1376 asked_ _ (by simp only [List.mem_cons, List.not_mem_nil, or_false, not_or]; exact (xw_neC e_798 e_787 (by simp))) e_798
            have e_1381 := r_1376 top_ _ (by simp only [List.mem_cons, List.not_mem_nil, or_false, not_or]; exact (xw_neC e_799 e_787 (by simp))) e_799
            have e_1382 := r_1376 masks_ _ (by simp only [List.mem_cons, List.not_mem_nil, or_false, not_or]; exact (xw_neC e_800 e_787 (by simp))) e_800
            have r_1383 := r_801.trans (r_1376.mono (by simp))
            have g_1384 : fs_1368[38]? = some (.int (nI st.length)) := (ga_1375 38 (by decide)).trans g_803
            have g_1385 : fs_1368[39]? = some (.int (nI mk)) := (ga_1375 39 (by decide)).trans g_804
            have g_1386 : fs_1368[11]? = some (.int (nI asz)) := (ga_1375 11 (by decide)).trans g_805
            have g_1387 : fs_1368[4]? = some (.ref asked_) := (ga_1375 4 (by decide)).trans g_806
            have g_1388 : fs_1368[51]? = some (.ref top_) := (ga_1375 51 (by decide)).trans g_807
            have g_1389 : fs_1368[52]? = some (.ref masks_) := (ga_1375 52 (by decide)).trans g_808
            have g_1390 : fs_1368[28]? = some (.int (nI (bl fa asz (skP fa asz p)))) := (ga_1375 28 (by decide)).trans g_788
            have g_1391 : fs_1368[29]? = some (.int (nI (rkd (kdP fa asz (skP fa asz p))))) := (ga_1375 29 (by decide)).trans g_789
            have g_1392 : fs_1368[30]? = some (.int (nI (bl fa asz (skP fa asz p)))) := (ga_1375 30 (by decide)).trans g_790
            have g_1393 : fs_1368[31]? = some (.int (nI y_782)) := (ga_1375 31 (by decide)).trans g_791
            have ga_1394 : ∀ i, i ∉ [28, 29, 30, 31, 33, 38, 39] → fs_1368[i]? = fs[i]? := fun i hi => (ga_1375 i (fun z => hi (by simp only [List.mem_cons, List.not_mem_nil, or_false] at z ⊢; omega))).trans (ga_809 i hi)
            have hb_1395 : bd_1367 < 0 := by rw [hw_1369 rfl]; exact hbd
            have hb_1396 : ¬ 0 ≤ bd_1367 := Int32.not_le.mpr hb_1395
            refine s_Model_filter_97 ?_
            refine x_callV (As := []) (b := m) (rest := [.ref m]) (F1 := 1) (L1 := 20) (mc := 0) (ms := 0) d_Model_filter_99 cV_Model_288 (f_depth (n := st.length) l_1372 e_1373 g_1384 g_1388 e_1381 (by omega) (by omega) (by omega)) e_1373 ⟨by decide, rfl⟩ ⟨by omega, by show 8 + (3 + 11) + 20 ≤ _; omega⟩ ⟨by omega, by omega⟩ (Nat.le_of_ble_eq_true rfl) (fun v_1398 h_1397 p_1399 => ?_)
            obtain ⟨rfl, rfl⟩ := p_1399
            rw [cntD_dep ST]
            refine s_Model_filter_102 (fun z_1400 => ?_) (fun z_1401 => ?_)
            · skip
              refine s_Model_filter_111 ?_
              refine s_Model_filter_112 ?_
              refine x_callV (As := [.int 0, .int (nI (bl fa asz p))]) (b := m) (rest := []) (F1 := 1) (L1 := 20) (mc := 0) (ms := 0) d_Model_filter_113 cV_Model_250 (f_wrongsH (k := bl fa asz p) l_1372 e_1373 g_1374 (by omega) (by omega) (by omega)) e_1373 ⟨by decide, rfl⟩ ⟨by omega, by show 8 + (3 + 11) + 20 ≤ _; omega⟩ ⟨by omega, by omega⟩ (Nat.le_of_ble_eq_true rfl) (fun v_1413 h_1412 p_1414 => ?_)
              obtain ⟨rfl, bd_1402, fs_1403, hw_1404, hw_1405, hw_1406, l_1407, e_1408, g_1409, ga_1410, r_1411⟩ := p_1414
              have e_1415 := r_1411 asked_ _ (by simp only [List.mem_cons, List.not_mem_nil, or_false, not_or]; exact (xw_neC e_1380 e_1373 (by simp))) e_1380
              have e_1416 := r_1411 top_ _ (by simp only [List.mem_cons, List.not_mem_nil, or_false, not_or]; exact (xw_neC e_1381 e_1373 (by simp))) e_1381
              have e_1417 := r_1411 masks_ _ (by simp only [List.mem_cons, List.not_mem_nil, or_false, not_or]; exact (xw_neC e_1382 e_1373 (by simp))) e_1382
              have r_1418 := r_1383.trans (r_1411.mono (by simp))
              have g_1419 : fs_1403[38]? = some (.int (nI st.length)) := (ga_1410 38 (by decide)).trans g_1384
              have g_1420 : fs_1403[39]? = some (.int (nI mk)) := (ga_1410 39 (by decide)).trans g_1385
              have g_1421 : fs_1403[11]? = some (.int (nI asz)) := (ga_1410 11 (by decide)).trans g_1386
              have g_1422 : fs_1403[4]? = some (.ref asked_) := (ga_1410 4 (by decide)).trans g_1387
              have g_1423 : fs_1403[51]? = some (.ref top_) := (ga_1410 51 (by decide)).trans g_1388
              have g_1424 : fs_1403[52]? = some (.ref masks_) := (ga_1410 52 (by decide)).trans g_1389
              have g_1425 : fs_1403[28]? = some (.int (nI (bl fa asz (skP fa asz p)))) := (ga_1410 28 (by decide)).trans g_1390
              have g_1426 : fs_1403[29]? = some (.int (nI (rkd (kdP fa asz (skP fa asz p))))) := (ga_1410 29 (by decide)).trans g_1391
              have g_1427 : fs_1403[30]? = some (.int (nI (bl fa asz (skP fa asz p)))) := (ga_1410 30 (by decide)).trans g_1392
              have g_1428 : fs_1403[31]? = some (.int (nI y_782)) := (ga_1410 31 (by decide)).trans g_1393
              have ga_1429 : ∀ i, i ∉ [28, 29, 30, 31, 33, 38, 39] → fs_1403[i]? = fs[i]? := fun i hi => (ga_1410 i (fun z => hi (by simp only [List.mem_cons, List.not_mem_nil, or_false] at z ⊢; omega))).trans (ga_1394 i hi)
              have hb_1430 : bd_1402 < 0 := by rw [hw_1404 rfl]; exact hb_1395
              have hb_1431 : ¬ 0 ≤ bd_1402 := Int32.not_le.mpr hb_1430
              refine x_le (xw_le_s (xw_le_n (xw_le_s (xw_le_n xw_le_e)))) ?_
              refine s_Model_filter_116 l_1407 e_1408 g_1409 (fun z_1432 => ?_) (fun z => absurd hb_1430 z)
              refine s_Model_filter_124 ?_
              refine x_callV (As := [.int 6]) (b := m) (rest := []) (F1 := 1) (L1 := 20) (mc := 0) (ms := 0) d_Model_filter_127 cV_Model_285 (f_pushesH (n := st.length) (mk := mk) l_1407 e_1408 g_1419 g_1420 g_1423 e_1416 g_1424 e_1417 n_top_masks (by omega) (by omega) (by omega)) e_1408 ⟨by decide, rfl⟩ ⟨by omega, by show 8 + (2 + 11) + 20 ≤ _; omega⟩ ⟨by omega, by omega⟩ (Nat.le_of_ble_eq_true rfl) (fun v_1442 h_1441 p_1443 => ?_)
              obtain ⟨rfl, fs_1433, l_1434, e_1435, g_1436, ga_1437, e_1438, e_1439, r_1440⟩ := p_1443
              have e_1444 := r_1440 asked_ _ (by simp only [List.mem_cons, List.not_mem_nil, or_false, not_or]; exact ⟨(xw_neC e_1415 e_1408 (by simp)), (xw_neC e_1415 e_1416 (by simp)), (xw_neC e_1415 e_1417 (by simp))⟩) e_1415
              have r_1445 := r_1418.trans (r_1440.mono (by simp))
              have g_1446 : fs_1433[39]? = some (.int (nI mk)) := (ga_1437 39 (by decide)).trans g_1420
              have g_1447 : fs_1433[11]? = some (.int (nI asz)) := (ga_1437 11 (by decide)).trans g_1421
              have g_1448 : fs_1433[4]? = some (.ref asked_) := (ga_1437 4 (by decide)).trans g_1422
              have g_1449 : fs_1433[51]? = some (.ref top_) := (ga_1437 51 (by decide)).trans g_1423
              have g_1450 : fs_1433[52]? = some (.ref masks_) := (ga_1437 52 (by decide)).trans g_1424
              have g_1451 : fs_1433[28]? = some (.int (nI (bl fa asz (skP fa asz p)))) := (ga_1437 28 (by decide)).trans g_1425
              have g_1452 : fs_1433[29]? = some (.int (nI (rkd (kdP fa asz (skP fa asz p))))) := (ga_1437 29 (by decide)).trans g_1426
              have g_1453 : fs_1433[30]? = some (.int (nI (bl fa asz (skP fa asz p)))) := (ga_1437 30 (by decide)).trans g_1427
              have g_1454 : fs_1433[31]? = some (.int (nI y_782)) := (ga_1437 31 (by decide)).trans g_1428
              have g_1455 : fs_1433[33]? = some (.int bd_1402) := (ga_1437 33 (by decide)).trans g_1409
              have ga_1456 : ∀ i, i ∉ [28, 29, 30, 31, 33, 38, 39] → fs_1433[i]? = fs[i]? := fun i hi => (ga_1437 i (fun z => hi (by simp only [List.mem_cons, List.not_mem_nil, or_false] at z ⊢; omega))).trans (ga_1429 i hi)
              refine s_Model_filter_130 l_1434 e_1435 g_1446 g_1453 ?_
              refine x_callV (As := [.int (nI (bl fa asz (skP fa asz p)))]) (b := m) (rest := [.int (nI mk), .ref m]) (F1 := 1) (L1 := 20) (mc := 0) (ms := 0) d_Model_filter_140 cV_Model_221 (f_q (x := bl fa asz (skP fa asz p)) l_1434 e_1435 g_1447 g_1448 e_1444 (by omega) (by omega) (by omega) (by omega)) e_1435 ⟨by decide, rfl⟩ ⟨by omega, by show 8 + (2 + 11) + 20 ≤ _; omega⟩ ⟨by omega, by omega⟩ (Nat.le_of_ble_eq_true rfl) (fun v_1458 h_1457 p_1459 => ?_)
              obtain ⟨rfl, rfl⟩ := p_1459
              refine s_Model_filter_143 (fun z_1460 => ?_) (fun z => absurd z z_1031)
              refine s_Model_filter_152 ?_
              refine s_Model_filter_153 (fun z => absurd z (by decide)) (fun z_1461 => ?_)
              refine s_Model_filter_157 ?_
              refine s_Model_filter_162 l_1434 e_1435 ?_
              refine x_u1 (fun h_1462 e_1463 f_1464 => ?_)
              have e_1465 := (f_1464 asked_ (xw_neC e_1444 e_1435 (by simp))).trans e_1444
              have e_1466 := (f_1464 top_ (xw_neC e_1438 e_1435 (by simp))).trans e_1438
              have e_1467 := (f_1464 masks_ (xw_neC e_1439 e_1435 (by simp))).trans e_1439
              have r_1468 := r_1445.up (by simp) f_1464
              obtain ⟨fs_1469, z_1470⟩ : ∃ z, z = fs_1433.set 39 (.int ((nI mk) &&& 1)) := ⟨_, rfl⟩
              rw [← z_1470] at e_1463
              have l_1471 : fs_1469.length = 62 := by rw [z_1470]; simp only [List.length_set]; exact l_1434
              have g_1472 : fs_1469[4]? = some (.ref asked_) := by rw [z_1470]; exact (xw_gn (by decide) g_1448)
              have g_1473 : fs_1469[11]? = some (.int (nI asz)) := by rw [z_1470]; exact (xw_gn (by decide) g_1447)
              have g_1474 : fs_1469[28]? = some (.int (nI (bl fa asz (skP fa asz p)))) := by rw [z_1470]; exact (xw_gn (by decide) g_1451)
              have g_1475 : fs_1469[29]? = some (.int (nI (rkd (kdP fa asz (skP fa asz p))))) := by rw [z_1470]; exact (xw_gn (by decide) g_1452)
              have g_1476 : fs_1469[30]? = some (.int (nI (bl fa asz (skP fa asz p)))) := by rw [z_1470]; exact (xw_gn (by decide) g_1453)
              have g_1477 : fs_1469[31]? = some (.int (nI y_782)) := by rw [z_1470]; exact (xw_gn (by decide) g_1454)
              have g_1478 : fs_1469[33]? = some (.int bd_1402) := by rw [z_1470]; exact (xw_gn (by decide) g_1455)
              have g_1479 : fs_1469[38]? = some (.int (nI (st.length + 1))) := by rw [z_1470]; exact (xw_gn (by decide) g_1436)
              have g_1480 : fs_1469[39]? = some (.int ((nI mk) &&& 1)) := by rw [z_1470]; exact (xw_gs (by simp [l_1434]))
              have g_1481 : fs_1469[51]? = some (.ref top_) := by rw [z_1470]; exact (xw_gn (by decide) g_1449)
              have g_1482 : fs_1469[52]? = some (.ref masks_) := by rw [z_1470]; exact (xw_gn (by decide) g_1450)
              have ga_1483 : ∀ i, i ∉ [28, 29, 30, 31, 33, 38, 39] → fs_1469[i]? = fs[i]? := fun i hi => by rw [z_1470]; exact xw_gn (fun z => hi (by rw [z]; simp)) (ga_1456 i hi)
              clear z_1470
              have hE_1496 := HY_785 (by rw [hs_1361]; decide)
              rw [hE_1496] at g_1477
              refine x_callV (As := []) (b := m) (rest := []) (F1 := 4) (L1 := 87) (mc := 0) (ms := 0) d_Model_filter_167 cV_Model_257 (f_nextH (x0 := (skP fa asz (skP fa asz p))) l_1471 e_1463 g_1474 g_1475 g_1476 g_1477 g_1473 g_1472 e_1465 (by rw [← hE_1496]; exact PT_784.2.1) hasz (by omega) (by omega)) e_1463 ⟨by decide, rfl⟩ ⟨by omega, by show 8 + (1 + 11) + 87 ≤ _; omega⟩ ⟨by omega, by omega⟩ (Nat.le_of_ble_eq_true rfl) (fun v_1498 h_1497 p_1499 => ?_)
              obtain ⟨rfl, y_1484, fs_1485, PT_1486, HY_1487, l_1488, e_1489, g_1490, g_1491, g_1492, g_1493, ga_1494, r_1495⟩ := p_1499
              have e_1500 := r_1495 asked_ _ (by simp only [List.mem_cons, List.not_mem_nil, or_false, not_or]; exact (xw_neC e_1465 e_1463 (by simp))) e_1465
              have e_1501 := r_1495 top_ _ (by simp only [List.mem_cons, List.not_mem_nil, or_false, not_or]; exact (xw_neC e_1466 e_1463 (by simp))) e_1466
              have e_1502 := r_1495 masks_ _ (by simp only [List.mem_cons, List.not_mem_nil, or_false, not_or]; exact (xw_neC e_1467 e_1463 (by simp))) e_1467
              have r_1503 := r_1468.trans (r_1495.mono (by simp))
              have g_1504 : fs_1485[4]? = some (.ref asked_) := (ga_1494 4 (by decide)).trans g_1472
              have g_1505 : fs_1485[11]? = some (.int (nI asz)) := (ga_1494 11 (by decide)).trans g_1473
              have g_1506 : fs_1485[33]? = some (.int bd_1402) := (ga_1494 33 (by decide)).trans g_1478
              have g_1507 : fs_1485[38]? = some (.int (nI (st.length + 1))) := (ga_1494 38 (by decide)).trans g_1479
              have g_1508 : fs_1485[39]? = some (.int ((nI mk) &&& 1)) := (ga_1494 39 (by decide)).trans g_1480
              have g_1509 : fs_1485[51]? = some (.ref top_) := (ga_1494 51 (by decide)).trans g_1481
              have g_1510 : fs_1485[52]? = some (.ref masks_) := (ga_1494 52 (by decide)).trans g_1482
              have ga_1511 : ∀ i, i ∉ [28, 29, 30, 31, 33, 38, 39] → fs_1485[i]? = fs[i]? := fun i hi => (ga_1494 i (fun z => hi (by simp only [List.mem_cons, List.not_mem_nil, or_false] at z ⊢; omega))).trans (ga_1483 i hi)
              have RQ_1512 := RQ_810.next (by rw [hs_1361]; decide) (by rw [hs_1361]; decide)
              have hb_1513 := Nat.le_trans PT_1486.1 PT_1486.2.1
              refine s_Model_filter_170 ?_
              have hk_1514 := kd_3 hs_1361
              have hE_1527 := HY_1487 (by rw [hk_1514]; decide)
              rw [hE_1527] at g_1493
              refine x_callV (As := []) (b := m) (rest := []) (F1 := 4) (L1 := 87) (mc := 0) (ms := 0) d_Model_filter_171 cV_Model_257 (f_nextH (x0 := (skP fa asz (skP fa asz (skP fa asz p)))) l_1488 e_1489 g_1490 g_1491 g_1492 g_1493 g_1505 g_1504 e_1500 (by rw [← hE_1527]; exact PT_1486.2.1) hasz (by omega) (by omega)) e_1489 ⟨by decide, rfl⟩ ⟨by omega, by show 8 + (1 + 11) + 87 ≤ _; omega⟩ ⟨by omega, by omega⟩ (Nat.le_of_ble_eq_true rfl) (fun v_1529 h_1528 p_1530 => ?_)
              obtain ⟨rfl, y_1515, fs_1516, PT_1517, HY_1518, l_1519, e_1520, g_1521, g_1522, g_1523, g_1524, ga_1525, r_1526⟩ := p_1530
              have e_1531 := r_1526 asked_ _ (by simp only [List.mem_cons, List.not_mem_nil, or_false, not_or]; exact (xw_neC e_1500 e_1489 (by simp))) e_1500
              have e_1532 := r_1526 top_ _ (by simp only [List.mem_cons, List.not_mem_nil, or_false, not_or]; exact (xw_neC e_1501 e_1489 (by simp))) e_1501
              have e_1533 := r_1526 masks_ _ (by simp only [List.mem_cons, List.not_mem_nil, or_false, not_or]; exact (xw_neC e_1502 e_1489 (by simp))) e_1502
              have r_1534 := r_1503.trans (r_1526.mono (by simp))
              have g_1535 : fs_1516[4]? = some (.ref asked_) := (ga_1525 4 (by decide)).trans g_1504
              have g_1536 : fs_1516[11]? = some (.int (nI asz)) := (ga_1525 11 (by decide)).trans g_1505
              have g_1537 : fs_1516[33]? = some (.int bd_1402) := (ga_1525 33 (by decide)).trans g_1506
              have g_1538 : fs_1516[38]? = some (.int (nI (st.length + 1))) := (ga_1525 38 (by decide)).trans g_1507
              have g_1539 : fs_1516[39]? = some (.int ((nI mk) &&& 1)) := (ga_1525 39 (by decide)).trans g_1508
              have g_1540 : fs_1516[51]? = some (.ref top_) := (ga_1525 51 (by decide)).trans g_1509
              have g_1541 : fs_1516[52]? = some (.ref masks_) := (ga_1525 52 (by decide)).trans g_1510
              have ga_1542 : ∀ i, i ∉ [28, 29, 30, 31, 33, 38, 39] → fs_1516[i]? = fs[i]? := fun i hi => (ga_1525 i (fun z => hi (by simp only [List.mem_cons, List.not_mem_nil, or_false] at z ⊢; omega))).trans (ga_1511 i hi)
              have RQ_1543 := RQ_1512.next (by rw [hk_1514]; decide) (by rw [hk_1514]; decide)
              have hb_1544 := Nat.le_trans PT_1517.1 PT_1517.2.1
              refine x_le (xw_le_n (xw_le_n (xw_le_n (xw_le_n xw_le_e)))) ?_
              refine s_Model_filter_174 ?_
              have hd_1545 : ¬ depS st = 8 := fun q => z_1400 (by rw [q]; rfl)
              rw [am1 mk hmk] at g_1539
              exact ⟨rfl, _, _, _, _, l_1519, e_1520, g_1537, ga_1542, e_1532, e_1533, r_1534, Or.inr ⟨1, (skP fa asz (skP fa asz (skP fa asz p))), _, fp_1y (s := (p, ph, gr)) hk_781 hN_1366, hd_1545, hb_1430, PT_1517, HY_1518, g_1521, g_1522, g_1523, g_1524, RQ_1543, g_1538, g_1539, ST.push (a := 6) (by omega) (by omega) hmk⟩⟩
            · skip
              refine s_Model_filter_107 ?_
              refine s_Model_filter_112 ?_
              refine x_callV (As := [.int 1, .int (nI (bl fa asz p))]) (b := m) (rest := []) (F1 := 1) (L1 := 20) (mc := 0) (ms := 0) d_Model_filter_113 cV_Model_250 (f_wrongsH (k := bl fa asz p) l_1372 e_1373 g_1374 (by omega) (by omega) (by omega)) e_1373 ⟨by decide, rfl⟩ ⟨by omega, by show 8 + (3 + 11) + 20 ≤ _; omega⟩ ⟨by omega, by omega⟩ (Nat.le_of_ble_eq_true rfl) (fun v_1557 h_1556 p_1558 => ?_)
              obtain ⟨rfl, bd_1546, fs_1547, hw_1548, hw_1549, hw_1550, l_1551, e_1552, g_1553, ga_1554, r_1555⟩ := p_1558
              have e_1559 := r_1555 asked_ _ (by simp only [List.mem_cons, List.not_mem_nil, or_false, not_or]; exact (xw_neC e_1380 e_1373 (by simp))) e_1380
              have e_1560 := r_1555 top_ _ (by simp only [List.mem_cons, List.not_mem_nil, or_false, not_or]; exact (xw_neC e_1381 e_1373 (by simp))) e_1381
              have e_1561 := r_1555 masks_ _ (by simp only [List.mem_cons, List.not_mem_nil, or_false, not_or]; exact (xw_neC e_1382 e_1373 (by simp))) e_1382
              have r_1562 := r_1383.trans (r_1555.mono (by simp))
              have g_1563 : fs_1547[38]? = some (.int (nI st.length)) := (ga_1554 38 (by decide)).trans g_1384
              have g_1564 : fs_1547[39]? = some (.int (nI mk)) := (ga_1554 39 (by decide)).trans g_1385
              have g_1565 : fs_1547[11]? = some (.int (nI asz)) := (ga_1554 11 (by decide)).trans g_1386
              have g_1566 : fs_1547[4]? = some (.ref asked_) := (ga_1554 4 (by decide)).trans g_1387
              have g_1567 : fs_1547[51]? = some (.ref top_) := (ga_1554 51 (by decide)).trans g_1388
              have g_1568 : fs_1547[52]? = some (.ref masks_) := (ga_1554 52 (by decide)).trans g_1389
              have g_1569 : fs_1547[28]? = some (.int (nI (bl fa asz (skP fa asz p)))) := (ga_1554 28 (by decide)).trans g_1390
              have g_1570 : fs_1547[29]? = some (.int (nI (rkd (kdP fa asz (skP fa asz p))))) := (ga_1554 29 (by decide)).trans g_1391
              have g_1571 : fs_1547[30]? = some (.int (nI (bl fa asz (skP fa asz p)))) := (ga_1554 30 (by decide)).trans g_1392
              have g_1572 : fs_1547[31]? = some (.int (nI y_782)) := (ga_1554 31 (by decide)).trans g_1393
              have ga_1573 : ∀ i, i ∉ [28, 29, 30, 31, 33, 38, 39] → fs_1547[i]? = fs[i]? := fun i hi => (ga_1554 i (fun z => hi (by simp only [List.mem_cons, List.not_mem_nil, or_false] at z ⊢; omega))).trans (ga_1394 i hi)
              have hb_1574 : ¬ bd_1546 < 0 := hw_1549 (by decide)
              have hb_1575 : 0 ≤ bd_1546 := Int32.not_lt.mp hb_1574
              refine x_le (xw_le_s (xw_le_n (xw_le_s (xw_le_n xw_le_e)))) ?_
              refine s_Model_filter_116 l_1551 e_1552 g_1553 (fun z => absurd z hb_1574) (fun z_1576 => ?_)
              refine s_Model_filter_123 ?_
              have hd_1577 : depS st = 8 := (nI_eq (b := 8) (by have := cJ_len st; omega) (by decide)).mp z_1401
              exact ⟨rfl, _, _, _, _, l_1551, e_1552, g_1553, ga_1573, e_1560, e_1561, r_1562, Or.inl ⟨Or.inr hd_1577, hb_1574, (fun i9 hi9 => by simp only [List.mem_cons, List.not_mem_nil, or_false] at hi9; rcases hi9 with rfl | rfl | rfl | rfl | rfl <;> first | exact ⟨_, g_1569⟩ | exact ⟨_, g_1570⟩ | exact ⟨_, g_1571⟩ | exact ⟨_, g_1572⟩ | exact ⟨_, g_1564⟩), g_1563⟩⟩
