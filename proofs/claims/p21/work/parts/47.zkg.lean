set_option maxHeartbeats 8000000 in
theorem f_filterH {G : xw_G} {F L : Nat} {h : xw_A} {p y t mk asz : Nat} {bd : Int32} {ph : List PHt} {gr : List GRt} {st : List EV} {fa c1 c2 ca cs ct cm : Nat → Int32} {asked_ top_ masks_ : Nat} {m : Nat} {fs : List Value} (l : fs.length = 62) (e : h m = some (.inr (11, fs))) (g_at : fs[(28 : Nat)]? = some (.int (nI (bl fa asz p)))) (g_kind : fs[(29 : Nat)]? = some (.int (nI (rkd (kdP fa asz p))))) (g_from : fs[(30 : Nat)]? = some (.int (nI (bl fa asz p)))) (g_to : fs[(31 : Nat)]? = some (.int (nI y))) (g_bad : fs[(33 : Nat)]? = some (.int bd)) (g_tops : fs[(38 : Nat)]? = some (.int (nI st.length))) (g_mask : fs[(39 : Nat)]? = some (.int (nI mk))) (g_askedSize : fs[(11 : Nat)]? = some (.int (nI asz))) (g_asked : fs[(4 : Nat)]? = some (.ref asked_)) (e_asked : h asked_ = some (.inl (0, 96, .inl (fa)))) (g_top : fs[(51 : Nat)]? = some (.ref top_)) (e_top : h top_ = some (.inl (0, 60, .inl (ct)))) (g_masks : fs[(52 : Nat)]? = some (.ref masks_)) (e_masks : h masks_ = some (.inl (0, 60, .inl (cm)))) (n_top_masks : top_ ≠ masks_) (hasz : asz ≤ 96) (PT : PtO fa asz (bl fa asz p) y (nI (rkd (kdP fa asz p)))) (HY : ¬ kdP fa asz p = 1 → y = skP fa asz p) (RQ : RqT fa asz c1 c2 ca cs t p ph []) (ST : StR st ct cm) (hbd : bd < 0) (hst : st.length < 60) (hmk : mk ≤ 3) (hdp : kdP fa asz p = 11 ∨ kdP fa asz p = 3) (hF : 5 ≤ F) (hL : 107 ≤ L) :
    xw_Met G m_Model_filter F L 0 0 [.ref m] h (fun v h' => v = none ∧ ∃ (bd' : Int32) (ct' cm' : Nat → Int32) (fs' : List Value), fs'.length = 62 ∧ h' m = some (.inr (11, fs')) ∧ fs'[(33 : Nat)]? = some (.int bd') ∧ (∀ i : Nat, i ∉ [28, 29, 30, 31, 33, 38, 39] → fs'[i]? = fs[i]?) ∧ h' top_ = some (.inl (0, 60, .inl ct')) ∧ h' masks_ = some (.inl (0, 60, .inl cm')) ∧ FrO [m, top_, masks_] h h' ∧ (((flP fa asz (p, ph, gr) = none ∨ depS st = 8) ∧ ¬ bd' < 0 ∧ INT fs' [28, 29, 30, 31, 39] ∧ fs'[(38 : Nat)]? = some (.int (nI st.length))) ∨ ∃ (pm p' y' : Nat), flP fa asz (p, ph, gr) = some (pm, (p', ph, gr)) ∧ ¬ depS st = 8 ∧ bd' < 0 ∧ PtO fa asz (bl fa asz p') y' (nI (rkd (kdP fa asz p'))) ∧ (¬ kdP fa asz p' = 1 → y' = skP fa asz p') ∧ fs'[(28 : Nat)]? = some (.int (nI (bl fa asz p'))) ∧ fs'[(29 : Nat)]? = some (.int (nI (rkd (kdP fa asz p')))) ∧ fs'[(30 : Nat)]? = some (.int (nI (bl fa asz p'))) ∧ fs'[(31 : Nat)]? = some (.int (nI y')) ∧ RqT fa asz c1 c2 ca cs t p' ph [] ∧ fs'[(38 : Nat)]? = some (.int (nI (st.length + 1))) ∧ fs'[(39 : Nat)]? = some (.int (nI (mk &&& pm))) ∧ StR ((6, mk) :: st) ct' cm')) (fun _ _ => False) := by
  refine xw_Met.of rfl (by decide) (Nat.le_of_ble_eq_true rfl) ?_
  have hbd2 : ¬ 0 ≤ bd := Int32.not_le.mpr hbd
  have hxy0 := PT.1
  have hy97 := PT.2.1
  have ga0 : ∀ i : Nat, i ∉ [28, 29, 30, 31, 33, 38, 39] → fs[i]? = fs[i]? := fun _ _ => rfl
  have r0 : FrO [m, top_, masks_] h h := FrO.rf
  refine s_Model_filter_0 l e g_from g_kind (fun z_1 => ?_) (fun z_2 => ?_)
  · skip
    refine s_Model_filter_18 ?_
    refine s_Model_filter_19 (fun z_3 => ?_) (fun z => absurd z (by decide))
    refine s_Model_filter_28 ?_
    refine x_callV (As := []) (b := m) (rest := []) (F1 := 2) (L1 := 41) (mc := 0) (ms := 0) d_Model_filter_29 cV_Model_237 (f_isFilterH (pp := p) l e g_kind g_to g_askedSize g_asked e_asked (by have := PT.2.1; omega) hasz HY (by omega) (by omega)) e ⟨by decide, rfl⟩ ⟨by omega, by show 8 + (1 + 11) + 41 ≤ _; omega⟩ ⟨by omega, by omega⟩ (Nat.le_of_ble_eq_true rfl) (fun v_7 h_6 p_8 => ?_)
    obtain ⟨⟨c_4, rfl, hc_5⟩, rfl⟩ := p_8
    refine s_Model_filter_32 (fun z_9 => ?_) (fun z_10 => ?_)
    · skip
      refine s_Model_filter_78 ?_
      refine s_Model_filter_79 (fun z => absurd z (by decide)) (fun z_11 => ?_)
      refine s_Model_filter_85 ?_
      refine s_Model_filter_90 l e g_from ?_
      have hs_12 := (hc_5.resolve_right (fun q => absurd (q.1.symm.trans z_9) (by decide))).2
      have hN_13 := flN_n hs_12
      refine x_callV (As := [.int 1, .int (nI (bl fa asz p))]) (b := m) (rest := []) (F1 := 1) (L1 := 20) (mc := 0) (ms := 0) d_Model_filter_94 cV_Model_250 (f_wrongsH (k := bl fa asz p) l e g_bad (by omega) (by omega) (by omega)) e ⟨by decide, rfl⟩ ⟨by omega, by show 8 + (3 + 11) + 20 ≤ _; omega⟩ ⟨by omega, by omega⟩ (Nat.le_of_ble_eq_true rfl) (fun v_25 h_24 p_26 => ?_)
      obtain ⟨rfl, bd_14, fs_15, hw_16, hw_17, hw_18, l_19, e_20, g_21, ga_22, r_23⟩ := p_26
      have e_27 := r_23 asked_ _ (by simp only [List.mem_cons, List.not_mem_nil, or_false, not_or]; exact (xw_neC e_asked e (by simp))) e_asked
      have e_28 := r_23 top_ _ (by simp only [List.mem_cons, List.not_mem_nil, or_false, not_or]; exact (xw_neC e_top e (by simp))) e_top
      have e_29 := r_23 masks_ _ (by simp only [List.mem_cons, List.not_mem_nil, or_false, not_or]; exact (xw_neC e_masks e (by simp))) e_masks
      have r_30 := r0.trans (r_23.mono (by simp))
      have g_31 : fs_15[(28 : Nat)]? = some (.int (nI (bl fa asz p))) := (ga_22 28 (by decide)).trans g_at
      have g_32 : fs_15[(29 : Nat)]? = some (.int (nI (rkd (kdP fa asz p)))) := (ga_22 29 (by decide)).trans g_kind
      have g_33 : fs_15[(30 : Nat)]? = some (.int (nI (bl fa asz p))) := (ga_22 30 (by decide)).trans g_from
      have g_34 : fs_15[(31 : Nat)]? = some (.int (nI y)) := (ga_22 31 (by decide)).trans g_to
      have g_35 : fs_15[(38 : Nat)]? = some (.int (nI st.length)) := (ga_22 38 (by decide)).trans g_tops
      have g_36 : fs_15[(39 : Nat)]? = some (.int (nI mk)) := (ga_22 39 (by decide)).trans g_mask
      have g_37 : fs_15[(11 : Nat)]? = some (.int (nI asz)) := (ga_22 11 (by decide)).trans g_askedSize
      have g_38 : fs_15[(4 : Nat)]? = some (.ref asked_) := (ga_22 4 (by decide)).trans g_asked
      have g_39 : fs_15[(51 : Nat)]? = some (.ref top_) := (ga_22 51 (by decide)).trans g_top
      have g_40 : fs_15[(52 : Nat)]? = some (.ref masks_) := (ga_22 52 (by decide)).trans g_masks
      have ga_41 : ∀ i : Nat, i ∉ [28, 29, 30, 31, 33, 38, 39] → fs_15[i]? = fs[i]? := fun i hi => (ga_22 i (fun z => hi (by simp only [List.mem_cons, List.not_mem_nil, or_false] at z ⊢; omega))).trans (ga0 i hi)
      have hb_42 : ¬ bd_14 < 0 := hw_17 (by decide)
      have hb_43 : 0 ≤ bd_14 := Int32.not_lt.mp hb_42
      refine s_Model_filter_97 ?_
      refine x_callV (As := []) (b := m) (rest := [.ref m]) (F1 := 1) (L1 := 20) (mc := 0) (ms := 0) d_Model_filter_99 cV_Model_288 (f_depth (n := st.length) l_19 e_20 g_35 g_39 e_28 (by omega) (by omega) (by omega)) e_20 ⟨by decide, rfl⟩ ⟨by omega, by show 8 + (3 + 11) + 20 ≤ _; omega⟩ ⟨by omega, by omega⟩ (Nat.le_of_ble_eq_true rfl) (fun v_45 h_44 p_46 => ?_)
      obtain ⟨rfl, rfl⟩ := p_46
      rw [cntD_dep ST]
      refine s_Model_filter_102 (fun z_47 => ?_) (fun z_48 => ?_)
      · skip
        refine s_Model_filter_111 ?_
        refine s_Model_filter_112 ?_
        refine x_callV (As := [.int 0, .int (nI (bl fa asz p))]) (b := m) (rest := []) (F1 := 1) (L1 := 20) (mc := 0) (ms := 0) d_Model_filter_113 cV_Model_250 (f_wrongsH (k := bl fa asz p) l_19 e_20 g_21 (by omega) (by omega) (by omega)) e_20 ⟨by decide, rfl⟩ ⟨by omega, by show 8 + (3 + 11) + 20 ≤ _; omega⟩ ⟨by omega, by omega⟩ (Nat.le_of_ble_eq_true rfl) (fun v_60 h_59 p_61 => ?_)
        obtain ⟨rfl, bd_49, fs_50, hw_51, hw_52, hw_53, l_54, e_55, g_56, ga_57, r_58⟩ := p_61
        have e_62 := r_58 asked_ _ (by simp only [List.mem_cons, List.not_mem_nil, or_false, not_or]; exact (xw_neC e_27 e_20 (by simp))) e_27
        have e_63 := r_58 top_ _ (by simp only [List.mem_cons, List.not_mem_nil, or_false, not_or]; exact (xw_neC e_28 e_20 (by simp))) e_28
        have e_64 := r_58 masks_ _ (by simp only [List.mem_cons, List.not_mem_nil, or_false, not_or]; exact (xw_neC e_29 e_20 (by simp))) e_29
        have r_65 := r_30.trans (r_58.mono (by simp))
        have g_66 : fs_50[(28 : Nat)]? = some (.int (nI (bl fa asz p))) := (ga_57 28 (by decide)).trans g_31
        have g_67 : fs_50[(29 : Nat)]? = some (.int (nI (rkd (kdP fa asz p)))) := (ga_57 29 (by decide)).trans g_32
        have g_68 : fs_50[(30 : Nat)]? = some (.int (nI (bl fa asz p))) := (ga_57 30 (by decide)).trans g_33
        have g_69 : fs_50[(31 : Nat)]? = some (.int (nI y)) := (ga_57 31 (by decide)).trans g_34
        have g_70 : fs_50[(38 : Nat)]? = some (.int (nI st.length)) := (ga_57 38 (by decide)).trans g_35
        have g_71 : fs_50[(39 : Nat)]? = some (.int (nI mk)) := (ga_57 39 (by decide)).trans g_36
        have g_72 : fs_50[(11 : Nat)]? = some (.int (nI asz)) := (ga_57 11 (by decide)).trans g_37
        have g_73 : fs_50[(4 : Nat)]? = some (.ref asked_) := (ga_57 4 (by decide)).trans g_38
        have g_74 : fs_50[(51 : Nat)]? = some (.ref top_) := (ga_57 51 (by decide)).trans g_39
        have g_75 : fs_50[(52 : Nat)]? = some (.ref masks_) := (ga_57 52 (by decide)).trans g_40
        have ga_76 : ∀ i : Nat, i ∉ [28, 29, 30, 31, 33, 38, 39] → fs_50[i]? = fs[i]? := fun i hi => (ga_57 i (fun z => hi (by simp only [List.mem_cons, List.not_mem_nil, or_false] at z ⊢; omega))).trans (ga_41 i hi)
        have hb_77 : ¬ bd_49 < 0 := by rw [hw_53 hb_42]; exact hb_42
        have hb_78 : 0 ≤ bd_49 := Int32.not_lt.mp hb_77
        refine x_le (xw_le_s (xw_le_n (xw_le_s (xw_le_n xw_le_e)))) ?_
        refine s_Model_filter_116 l_54 e_55 g_56 (fun z => absurd z hb_77) (fun z_79 => ?_)
        refine s_Model_filter_123 ?_
        have hk_80 : ¬ kdP fa asz p = 11 := fun q => z_1 (by rw [q]; rfl)
        have hd_81 : ¬ depS st = 8 := fun q => z_47 (by rw [q]; rfl)
        exact ⟨rfl, _, _, _, _, l_54, e_55, g_56, ga_76, e_63, e_64, r_65, Or.inl ⟨Or.inl (fp_0n hk_80 hN_13), hb_77, (fun i9 hi9 => by simp only [List.mem_cons, List.not_mem_nil, or_false] at hi9; rcases hi9 with rfl | rfl | rfl | rfl | rfl <;> first | exact ⟨_, g_66⟩ | exact ⟨_, g_67⟩ | exact ⟨_, g_68⟩ | exact ⟨_, g_69⟩ | exact ⟨_, g_71⟩), g_70⟩⟩
      · skip
        refine s_Model_filter_107 ?_
        refine s_Model_filter_112 ?_
        refine x_callV (As := [.int 1, .int (nI (bl fa asz p))]) (b := m) (rest := []) (F1 := 1) (L1 := 20) (mc := 0) (ms := 0) d_Model_filter_113 cV_Model_250 (f_wrongsH (k := bl fa asz p) l_19 e_20 g_21 (by omega) (by omega) (by omega)) e_20 ⟨by decide, rfl⟩ ⟨by omega, by show 8 + (3 + 11) + 20 ≤ _; omega⟩ ⟨by omega, by omega⟩ (Nat.le_of_ble_eq_true rfl) (fun v_93 h_92 p_94 => ?_)
        obtain ⟨rfl, bd_82, fs_83, hw_84, hw_85, hw_86, l_87, e_88, g_89, ga_90, r_91⟩ := p_94
        have e_95 := r_91 asked_ _ (by simp only [List.mem_cons, List.not_mem_nil, or_false, not_or]; exact (xw_neC e_27 e_20 (by simp))) e_27
        have e_96 := r_91 top_ _ (by simp only [List.mem_cons, List.not_mem_nil, or_false, not_or]; exact (xw_neC e_28 e_20 (by simp))) e_28
        have e_97 := r_91 masks_ _ (by simp only [List.mem_cons, List.not_mem_nil, or_false, not_or]; exact (xw_neC e_29 e_20 (by simp))) e_29
        have r_98 := r_30.trans (r_91.mono (by simp))
        have g_99 : fs_83[(28 : Nat)]? = some (.int (nI (bl fa asz p))) := (ga_90 28 (by decide)).trans g_31
        have g_100 : fs_83[(29 : Nat)]? = some (.int (nI (rkd (kdP fa asz p)))) := (ga_90 29 (by decide)).trans g_32
        have g_101 : fs_83[(30 : Nat)]? = some (.int (nI (bl fa asz p))) := (ga_90 30 (by decide)).trans g_33
        have g_102 : fs_83[(31 : Nat)]? = some (.int (nI y)) := (ga_90 31 (by decide)).trans g_34
        have g_103 : fs_83[(38 : Nat)]? = some (.int (nI st.length)) := (ga_90 38 (by decide)).trans g_35
        have g_104 : fs_83[(39 : Nat)]? = some (.int (nI mk)) := (ga_90 39 (by decide)).trans g_36
        have g_105 : fs_83[(11 : Nat)]? = some (.int (nI asz)) := (ga_90 11 (by decide)).trans g_37
        have g_106 : fs_83[(4 : Nat)]? = some (.ref asked_) := (ga_90 4 (by decide)).trans g_38
        have g_107 : fs_83[(51 : Nat)]? = some (.ref top_) := (ga_90 51 (by decide)).trans g_39
        have g_108 : fs_83[(52 : Nat)]? = some (.ref masks_) := (ga_90 52 (by decide)).trans g_40
        have ga_109 : ∀ i : Nat, i ∉ [28, 29, 30, 31, 33, 38, 39] → fs_83[i]? = fs[i]? := fun i hi => (ga_90 i (fun z => hi (by simp only [List.mem_cons, List.not_mem_nil, or_false] at z ⊢; omega))).trans (ga_41 i hi)
        have hb_110 : ¬ bd_82 < 0 := by rw [hw_86 hb_42]; exact hb_42
        have hb_111 : 0 ≤ bd_82 := Int32.not_lt.mp hb_110
        refine x_le (xw_le_s (xw_le_n (xw_le_s (xw_le_n xw_le_e)))) ?_
        refine s_Model_filter_116 l_87 e_88 g_89 (fun z => absurd z hb_110) (fun z_112 => ?_)
        refine s_Model_filter_123 ?_
        have hk_113 : ¬ kdP fa asz p = 11 := fun q => z_1 (by rw [q]; rfl)
        have hd_114 : depS st = 8 := (nI_eq (b := 8) (by have := cJ_len st; omega) (by decide)).mp z_48
        exact ⟨rfl, _, _, _, _, l_87, e_88, g_89, ga_109, e_96, e_97, r_98, Or.inl ⟨Or.inl (fp_0n hk_113 hN_13), hb_110, (fun i9 hi9 => by simp only [List.mem_cons, List.not_mem_nil, or_false] at hi9; rcases hi9 with rfl | rfl | rfl | rfl | rfl <;> first | exact ⟨_, g_99⟩ | exact ⟨_, g_100⟩ | exact ⟨_, g_101⟩ | exact ⟨_, g_102⟩ | exact ⟨_, g_104⟩), g_103⟩⟩
    · skip
      refine s_Model_filter_35 l e g_to g_from (fun z_115 => ?_) (fun z_116 => ?_)
      · skip
        refine s_Model_filter_78 ?_
        refine s_Model_filter_79 (fun z => absurd z (by decide)) (fun z_117 => ?_)
        refine s_Model_filter_85 ?_
        refine s_Model_filter_90 l e g_from ?_
        have hs_118 := (hc_5.resolve_left (fun q => z_10 q.1)).2
        have hE_119 := HY (by rw [hs_118]; decide)
        have kw9 := kd_w (Or.inr hs_118)
        have hz_121 := z_115
        rw [hE_119, pk_sub (by omega)] at hz_121
        have hl_120 : ¬ skP fa asz p = bl fa asz p + 1 := fun q => hz_121 (by rw [show skP fa asz p - bl fa asz p = 1 by omega]; rfl)
        have hN_122 := flN_c (fun q => hl_120 q.1)
        refine x_callV (As := [.int 1, .int (nI (bl fa asz p))]) (b := m) (rest := []) (F1 := 1) (L1 := 20) (mc := 0) (ms := 0) d_Model_filter_94 cV_Model_250 (f_wrongsH (k := bl fa asz p) l e g_bad (by omega) (by omega) (by omega)) e ⟨by decide, rfl⟩ ⟨by omega, by show 8 + (3 + 11) + 20 ≤ _; omega⟩ ⟨by omega, by omega⟩ (Nat.le_of_ble_eq_true rfl) (fun v_134 h_133 p_135 => ?_)
        obtain ⟨rfl, bd_123, fs_124, hw_125, hw_126, hw_127, l_128, e_129, g_130, ga_131, r_132⟩ := p_135
        have e_136 := r_132 asked_ _ (by simp only [List.mem_cons, List.not_mem_nil, or_false, not_or]; exact (xw_neC e_asked e (by simp))) e_asked
        have e_137 := r_132 top_ _ (by simp only [List.mem_cons, List.not_mem_nil, or_false, not_or]; exact (xw_neC e_top e (by simp))) e_top
        have e_138 := r_132 masks_ _ (by simp only [List.mem_cons, List.not_mem_nil, or_false, not_or]; exact (xw_neC e_masks e (by simp))) e_masks
        have r_139 := r0.trans (r_132.mono (by simp))
        have g_140 : fs_124[(28 : Nat)]? = some (.int (nI (bl fa asz p))) := (ga_131 28 (by decide)).trans g_at
        have g_141 : fs_124[(29 : Nat)]? = some (.int (nI (rkd (kdP fa asz p)))) := (ga_131 29 (by decide)).trans g_kind
        have g_142 : fs_124[(30 : Nat)]? = some (.int (nI (bl fa asz p))) := (ga_131 30 (by decide)).trans g_from
        have g_143 : fs_124[(31 : Nat)]? = some (.int (nI y)) := (ga_131 31 (by decide)).trans g_to
        have g_144 : fs_124[(38 : Nat)]? = some (.int (nI st.length)) := (ga_131 38 (by decide)).trans g_tops
        have g_145 : fs_124[(39 : Nat)]? = some (.int (nI mk)) := (ga_131 39 (by decide)).trans g_mask
        have g_146 : fs_124[(11 : Nat)]? = some (.int (nI asz)) := (ga_131 11 (by decide)).trans g_askedSize
        have g_147 : fs_124[(4 : Nat)]? = some (.ref asked_) := (ga_131 4 (by decide)).trans g_asked
        have g_148 : fs_124[(51 : Nat)]? = some (.ref top_) := (ga_131 51 (by decide)).trans g_top
        have g_149 : fs_124[(52 : Nat)]? = some (.ref masks_) := (ga_131 52 (by decide)).trans g_masks
        have ga_150 : ∀ i : Nat, i ∉ [28, 29, 30, 31, 33, 38, 39] → fs_124[i]? = fs[i]? := fun i hi => (ga_131 i (fun z => hi (by simp only [List.mem_cons, List.not_mem_nil, or_false] at z ⊢; omega))).trans (ga0 i hi)
        have hb_151 : ¬ bd_123 < 0 := hw_126 (by decide)
        have hb_152 : 0 ≤ bd_123 := Int32.not_lt.mp hb_151
        refine s_Model_filter_97 ?_
        refine x_callV (As := []) (b := m) (rest := [.ref m]) (F1 := 1) (L1 := 20) (mc := 0) (ms := 0) d_Model_filter_99 cV_Model_288 (f_depth (n := st.length) l_128 e_129 g_144 g_148 e_137 (by omega) (by omega) (by omega)) e_129 ⟨by decide, rfl⟩ ⟨by omega, by show 8 + (3 + 11) + 20 ≤ _; omega⟩ ⟨by omega, by omega⟩ (Nat.le_of_ble_eq_true rfl) (fun v_154 h_153 p_155 => ?_)
        obtain ⟨rfl, rfl⟩ := p_155
        rw [cntD_dep ST]
        refine s_Model_filter_102 (fun z_156 => ?_) (fun z_157 => ?_)
        · skip
          refine s_Model_filter_111 ?_
          refine s_Model_filter_112 ?_
          refine x_callV (As := [.int 0, .int (nI (bl fa asz p))]) (b := m) (rest := []) (F1 := 1) (L1 := 20) (mc := 0) (ms := 0) d_Model_filter_113 cV_Model_250 (f_wrongsH (k := bl fa asz p) l_128 e_129 g_130 (by omega) (by omega) (by omega)) e_129 ⟨by decide, rfl⟩ ⟨by omega, by show 8 + (3 + 11) + 20 ≤ _; omega⟩ ⟨by omega, by omega⟩ (Nat.le_of_ble_eq_true rfl) (fun v_169 h_168 p_170 => ?_)
          obtain ⟨rfl, bd_158, fs_159, hw_160, hw_161, hw_162, l_163, e_164, g_165, ga_166, r_167⟩ := p_170
          have e_171 := r_167 asked_ _ (by simp only [List.mem_cons, List.not_mem_nil, or_false, not_or]; exact (xw_neC e_136 e_129 (by simp))) e_136
          have e_172 := r_167 top_ _ (by simp only [List.mem_cons, List.not_mem_nil, or_false, not_or]; exact (xw_neC e_137 e_129 (by simp))) e_137
          have e_173 := r_167 masks_ _ (by simp only [List.mem_cons, List.not_mem_nil, or_false, not_or]; exact (xw_neC e_138 e_129 (by simp))) e_138
          have r_174 := r_139.trans (r_167.mono (by simp))
          have g_175 : fs_159[(28 : Nat)]? = some (.int (nI (bl fa asz p))) := (ga_166 28 (by decide)).trans g_140
          have g_176 : fs_159[(29 : Nat)]? = some (.int (nI (rkd (kdP fa asz p)))) := (ga_166 29 (by decide)).trans g_141
          have g_177 : fs_159[(30 : Nat)]? = some (.int (nI (bl fa asz p))) := (ga_166 30 (by decide)).trans g_142
          have g_178 : fs_159[(31 : Nat)]? = some (.int (nI y)) := (ga_166 31 (by decide)).trans g_143
          have g_179 : fs_159[(38 : Nat)]? = some (.int (nI st.length)) := (ga_166 38 (by decide)).trans g_144
          have g_180 : fs_159[(39 : Nat)]? = some (.int (nI mk)) := (ga_166 39 (by decide)).trans g_145
          have g_181 : fs_159[(11 : Nat)]? = some (.int (nI asz)) := (ga_166 11 (by decide)).trans g_146
          have g_182 : fs_159[(4 : Nat)]? = some (.ref asked_) := (ga_166 4 (by decide)).trans g_147
          have g_183 : fs_159[(51 : Nat)]? = some (.ref top_) := (ga_166 51 (by decide)).trans g_148
          have g_184 : fs_159[(52 : Nat)]? = some (.ref masks_) := (ga_166 52 (by decide)).trans g_149
          have ga_185 : ∀ i : Nat, i ∉ [28, 29, 30, 31, 33, 38, 39] → fs_159[i]? = fs[i]? := fun i hi => (ga_166 i (fun z => hi (by simp only [List.mem_cons, List.not_mem_nil, or_false] at z ⊢; omega))).trans (ga_150 i hi)
          have hb_186 : ¬ bd_158 < 0 := by rw [hw_162 hb_151]; exact hb_151
          have hb_187 : 0 ≤ bd_158 := Int32.not_lt.mp hb_186
          refine x_le (xw_le_s (xw_le_n (xw_le_s (xw_le_n xw_le_e)))) ?_
          refine s_Model_filter_116 l_163 e_164 g_165 (fun z => absurd z hb_186) (fun z_188 => ?_)
          refine s_Model_filter_123 ?_
          have hk_189 : ¬ kdP fa asz p = 11 := fun q => z_1 (by rw [q]; rfl)
          have hd_190 : ¬ depS st = 8 := fun q => z_156 (by rw [q]; rfl)
          exact ⟨rfl, _, _, _, _, l_163, e_164, g_165, ga_185, e_172, e_173, r_174, Or.inl ⟨Or.inl (fp_0n hk_189 hN_122), hb_186, (fun i9 hi9 => by simp only [List.mem_cons, List.not_mem_nil, or_false] at hi9; rcases hi9 with rfl | rfl | rfl | rfl | rfl <;> first | exact ⟨_, g_175⟩ | exact ⟨_, g_176⟩ | exact ⟨_, g_177⟩ | exact ⟨_, g_178⟩ | exact ⟨_, g_180⟩), g_179⟩⟩
        · skip
          refine s_Model_filter_107 ?_
          refine s_Model_filter_112 ?_
          refine x_callV (As := [.int 1, .int (nI (bl fa asz p))]) (b := m) (rest := []) (F1 := 1) (L1 := 20) (mc := 0) (ms := 0) d_Model_filter_113 cV_Model_250 (f_wrongsH (k := bl fa asz p) l_128 e_129 g_130 (by omega) (by omega) (by omega)) e_129 ⟨by decide, rfl⟩ ⟨by omega, by show 8 + (3 + 11) + 20 ≤ _; omega⟩ ⟨by omega, by omega⟩ (Nat.le_of_ble_eq_true rfl) (fun v_202 h_201 p_203 => ?_)
          obtain ⟨rfl, bd_191, fs_192, hw_193, hw_194, hw_195, l_196, e_197, g_198, ga_199, r_200⟩ := p_203
          have e_204 := r_200 asked_ _ (by simp only [List.mem_cons, List.not_mem_nil, or_false, not_or]; exact (xw_neC e_136 e_129 (by simp))) e_136
          have e_205 := r_200 top_ _ (by simp only [List.mem_cons, List.not_mem_nil, or_false, not_or]; exact (xw_neC e_137 e_129 (by simp))) e_137
          have e_206 := r_200 masks_ _ (by simp only [List.mem_cons, List.not_mem_nil, or_false, not_or]; exact (xw_neC e_138 e_129 (by simp))) e_138
          have r_207 := r_139.trans (r_200.mono (by simp))
          have g_208 : fs_192[(28 : Nat)]? = some (.int (nI (bl fa asz p))) := (ga_199 28 (by decide)).trans g_140
          have g_209 : fs_192[(29 : Nat)]? = some (.int (nI (rkd (kdP fa asz p)))) := (ga_199 29 (by decide)).trans g_141
          have g_210 : fs_192[(30 : Nat)]? = some (.int (nI (bl fa asz p))) := (ga_199 30 (by decide)).trans g_142
          have g_211 : fs_192[(31 : Nat)]? = some (.int (nI y)) := (ga_199 31 (by decide)).trans g_143
          have g_212 : fs_192[(38 : Nat)]? = some (.int (nI st.length)) := (ga_199 38 (by decide)).trans g_144
          have g_213 : fs_192[(39 : Nat)]? = some (.int (nI mk)) := (ga_199 39 (by decide)).trans g_145
          have g_214 : fs_192[(11 : Nat)]? = some (.int (nI asz)) := (ga_199 11 (by decide)).trans g_146
          have g_215 : fs_192[(4 : Nat)]? = some (.ref asked_) := (ga_199 4 (by decide)).trans g_147
          have g_216 : fs_192[(51 : Nat)]? = some (.ref top_) := (ga_199 51 (by decide)).trans g_148
          have g_217 : fs_192[(52 : Nat)]? = some (.ref masks_) := (ga_199 52 (by decide)).trans g_149
          have ga_218 : ∀ i : Nat, i ∉ [28, 29, 30, 31, 33, 38, 39] → fs_192[i]? = fs[i]? := fun i hi => (ga_199 i (fun z => hi (by simp only [List.mem_cons, List.not_mem_nil, or_false] at z ⊢; omega))).trans (ga_150 i hi)
          have hb_219 : ¬ bd_191 < 0 := by rw [hw_195 hb_151]; exact hb_151
          have hb_220 : 0 ≤ bd_191 := Int32.not_lt.mp hb_219
          refine x_le (xw_le_s (xw_le_n (xw_le_s (xw_le_n xw_le_e)))) ?_
          refine s_Model_filter_116 l_196 e_197 g_198 (fun z => absurd z hb_219) (fun z_221 => ?_)
          refine s_Model_filter_123 ?_
          have hk_222 : ¬ kdP fa asz p = 11 := fun q => z_1 (by rw [q]; rfl)
          have hd_223 : depS st = 8 := (nI_eq (b := 8) (by have := cJ_len st; omega) (by decide)).mp z_157
          exact ⟨rfl, _, _, _, _, l_196, e_197, g_198, ga_218, e_205, e_206, r_207, Or.inl ⟨Or.inl (fp_0n hk_222 hN_122), hb_219, (fun i9 hi9 => by simp only [List.mem_cons, List.not_mem_nil, or_false] at hi9; rcases hi9 with rfl | rfl | rfl | rfl | rfl <;> first | exact ⟨_, g_208⟩ | exact ⟨_, g_209⟩ | exact ⟨_, g_210⟩ | exact ⟨_, g_211⟩ | exact ⟨_, g_213⟩), g_212⟩⟩
      · skip
        refine s_Model_filter_48 l e g_from ?_
        refine x_callV (As := [.int (nI (bl fa asz p))]) (b := m) (rest := []) (F1 := 1) (L1 := 20) (mc := 0) (ms := 0) d_Model_filter_53 cV_Model_221 (f_q (x := bl fa asz p) l e g_askedSize g_asked e_asked (by omega) (by omega) (by omega) (by omega)) e ⟨by decide, rfl⟩ ⟨by omega, by show 8 + (2 + 11) + 20 ≤ _; omega⟩ ⟨by omega, by omega⟩ (Nat.le_of_ble_eq_true rfl) (fun v_225 h_224 p_226 => ?_)
        obtain ⟨rfl, rfl⟩ := p_226
        refine s_Model_filter_56 (fun z_227 => ?_) (fun z_228 => ?_)
        · skip
          refine s_Model_filter_74 ?_
          refine s_Model_filter_79 (fun z_229 => ?_) (fun z => absurd z (by decide))
          refine s_Model_filter_89 ?_
          refine s_Model_filter_90 l e g_from ?_
          have hs_230 := (hc_5.resolve_left (fun q => z_10 q.1)).2
          have hE_231 := HY (by rw [hs_230]; decide)
          have kw9 := kd_w (Or.inr hs_230)
          have hz_233 := z_116
          rw [hE_231, pk_sub (by omega)] at hz_233
          have hl_232 : skP fa asz p = bl fa asz p + 1 := by have := (nI_eq (b := 1) (by omega) (by decide)).mp hz_233; omega
          have hq_234 := z_227
          rw [qv_in (show bl fa asz p < asz by omega)] at hq_234
          have hN_235 := flN_a hs_230 hl_232 hq_234
          refine x_callV (As := [.int 0, .int (nI (bl fa asz p))]) (b := m) (rest := []) (F1 := 1) (L1 := 20) (mc := 0) (ms := 0) d_Model_filter_94 cV_Model_250 (f_wrongsH (k := bl fa asz p) l e g_bad (by omega) (by omega) (by omega)) e ⟨by decide, rfl⟩ ⟨by omega, by show 8 + (3 + 11) + 20 ≤ _; omega⟩ ⟨by omega, by omega⟩ (Nat.le_of_ble_eq_true rfl) (fun v_247 h_246 p_248 => ?_)
          obtain ⟨rfl, bd_236, fs_237, hw_238, hw_239, hw_240, l_241, e_242, g_243, ga_244, r_245⟩ := p_248
          have e_249 := r_245 asked_ _ (by simp only [List.mem_cons, List.not_mem_nil, or_false, not_or]; exact (xw_neC e_asked e (by simp))) e_asked
          have e_250 := r_245 top_ _ (by simp only [List.mem_cons, List.not_mem_nil, or_false, not_or]; exact (xw_neC e_top e (by simp))) e_top
          have e_251 := r_245 masks_ _ (by simp only [List.mem_cons, List.not_mem_nil, or_false, not_or]; exact (xw_neC e_masks e (by simp))) e_masks
          have r_252 := r0.trans (r_245.mono (by simp))
          have g_253 : fs_237[(28 : Nat)]? = some (.int (nI (bl fa asz p))) := (ga_244 28 (by decide)).trans g_at
          have g_254 : fs_237[(29 : Nat)]? = some (.int (nI (rkd (kdP fa asz p)))) := (ga_244 29 (by decide)).trans g_kind
          have g_255 : fs_237[(30 : Nat)]? = some (.int (nI (bl fa asz p))) := (ga_244 30 (by decide)).trans g_from
          have g_256 : fs_237[(31 : Nat)]? = some (.int (nI y)) := (ga_244 31 (by decide)).trans g_to
          have g_257 : fs_237[(38 : Nat)]? = some (.int (nI st.length)) := (ga_244 38 (by decide)).trans g_tops
          have g_258 : fs_237[(39 : Nat)]? = some (.int (nI mk)) := (ga_244 39 (by decide)).trans g_mask
          have g_259 : fs_237[(11 : Nat)]? = some (.int (nI asz)) := (ga_244 11 (by decide)).trans g_askedSize
          have g_260 : fs_237[(4 : Nat)]? = some (.ref asked_) := (ga_244 4 (by decide)).trans g_asked
          have g_261 : fs_237[(51 : Nat)]? = some (.ref top_) := (ga_244 51 (by decide)).trans g_top
          have g_262 : fs_237[(52 : Nat)]? = some (.ref masks_) := (ga_244 52 (by decide)).trans g_masks
          have ga_263 : ∀ i : Nat, i ∉ [28, 29, 30, 31, 33, 38, 39] → fs_237[i]? = fs[i]? := fun i hi => (ga_244 i (fun z => hi (by simp only [List.mem_cons, List.not_mem_nil, or_false] at z ⊢; omega))).trans (ga0 i hi)
          have hb_264 : bd_236 < 0 := by rw [hw_238 rfl]; exact hbd
          have hb_265 : ¬ 0 ≤ bd_236 := Int32.not_le.mpr hb_264
          refine s_Model_filter_97 ?_
          refine x_callV (As := []) (b := m) (rest := [.ref m]) (F1 := 1) (L1 := 20) (mc := 0) (ms := 0) d_Model_filter_99 cV_Model_288 (f_depth (n := st.length) l_241 e_242 g_257 g_261 e_250 (by omega) (by omega) (by omega)) e_242 ⟨by decide, rfl⟩ ⟨by omega, by show 8 + (3 + 11) + 20 ≤ _; omega⟩ ⟨by omega, by omega⟩ (Nat.le_of_ble_eq_true rfl) (fun v_267 h_266 p_268 => ?_)
          obtain ⟨rfl, rfl⟩ := p_268
          rw [cntD_dep ST]
          refine s_Model_filter_102 (fun z_269 => ?_) (fun z_270 => ?_)
          · skip
            refine s_Model_filter_111 ?_
            refine s_Model_filter_112 ?_
            refine x_callV (As := [.int 0, .int (nI (bl fa asz p))]) (b := m) (rest := []) (F1 := 1) (L1 := 20) (mc := 0) (ms := 0) d_Model_filter_113 cV_Model_250 (f_wrongsH (k := bl fa asz p) l_241 e_242 g_243 (by omega) (by omega) (by omega)) e_242 ⟨by decide, rfl⟩ ⟨by omega, by show 8 + (3 + 11) + 20 ≤ _; omega⟩ ⟨by omega, by omega⟩ (Nat.le_of_ble_eq_true rfl) (fun v_282 h_281 p_283 => ?_)
            obtain ⟨rfl, bd_271, fs_272, hw_273, hw_274, hw_275, l_276, e_277, g_278, ga_279, r_280⟩ := p_283
            have e_284 := r_280 asked_ _ (by simp only [List.mem_cons, List.not_mem_nil, or_false, not_or]; exact (xw_neC e_249 e_242 (by simp))) e_249
            have e_285 := r_280 top_ _ (by simp only [List.mem_cons, List.not_mem_nil, or_false, not_or]; exact (xw_neC e_250 e_242 (by simp))) e_250
            have e_286 := r_280 masks_ _ (by simp only [List.mem_cons, List.not_mem_nil, or_false, not_or]; exact (xw_neC e_251 e_242 (by simp))) e_251
            have r_287 := r_252.trans (r_280.mono (by simp))
            have g_288 : fs_272[(28 : Nat)]? = some (.int (nI (bl fa asz p))) := (ga_279 28 (by decide)).trans g_253
            have g_289 : fs_272[(29 : Nat)]? = some (.int (nI (rkd (kdP fa asz p)))) := (ga_279 29 (by decide)).trans g_254
            have g_290 : fs_272[(30 : Nat)]? = some (.int (nI (bl fa asz p))) := (ga_279 30 (by decide)).trans g_255
            have g_291 : fs_272[(31 : Nat)]? = some (.int (nI y)) := (ga_279 31 (by decide)).trans g_256
            have g_292 : fs_272[(38 : Nat)]? = some (.int (nI st.length)) := (ga_279 38 (by decide)).trans g_257
            have g_293 : fs_272[(39 : Nat)]? = some (.int (nI mk)) := (ga_279 39 (by decide)).trans g_258
            have g_294 : fs_272[(11 : Nat)]? = some (.int (nI asz)) := (ga_279 11 (by decide)).trans g_259
            have g_295 : fs_272[(4 : Nat)]? = some (.ref asked_) := (ga_279 4 (by decide)).trans g_260
            have g_296 : fs_272[(51 : Nat)]? = some (.ref top_) := (ga_279 51 (by decide)).trans g_261
            have g_297 : fs_272[(52 : Nat)]? = some (.ref masks_) := (ga_279 52 (by decide)).trans g_262
            have ga_298 : ∀ i : Nat, i ∉ [28, 29, 30, 31, 33, 38, 39] → fs_272[i]? = fs[i]? := fun i hi => (ga_279 i (fun z => hi (by simp only [List.mem_cons, List.not_mem_nil, or_false] at z ⊢; omega))).trans (ga_263 i hi)
            have hb_299 : bd_271 < 0 := by rw [hw_273 rfl]; exact hb_264
            have hb_300 : ¬ 0 ≤ bd_271 := Int32.not_le.mpr hb_299
            refine x_le (xw_le_s (xw_le_n (xw_le_s (xw_le_n xw_le_e)))) ?_
            refine s_Model_filter_116 l_276 e_277 g_278 (fun z_301 => ?_) (fun z => absurd hb_299 z)
            refine s_Model_filter_124 ?_
            refine x_callV (As := [.int 6]) (b := m) (rest := []) (F1 := 1) (L1 := 20) (mc := 0) (ms := 0) d_Model_filter_127 cV_Model_285 (f_pushesH (n := st.length) (mk := mk) l_276 e_277 g_292 g_293 g_296 e_285 g_297 e_286 n_top_masks (by omega) (by omega) (by omega)) e_277 ⟨by decide, rfl⟩ ⟨by omega, by show 8 + (2 + 11) + 20 ≤ _; omega⟩ ⟨by omega, by omega⟩ (Nat.le_of_ble_eq_true rfl) (fun v_311 h_310 p_312 => ?_)
            obtain ⟨rfl, fs_302, l_303, e_304, g_305, ga_306, e_307, e_308, r_309⟩ := p_312
            have e_313 := r_309 asked_ _ (by simp only [List.mem_cons, List.not_mem_nil, or_false, not_or]; exact ⟨(xw_neC e_284 e_277 (by simp)), (xw_neC e_284 e_285 (by simp)), (xw_neC e_284 e_286 (by simp))⟩) e_284
            have r_314 := r_287.trans (r_309.mono (by simp))
            have g_315 : fs_302[(28 : Nat)]? = some (.int (nI (bl fa asz p))) := (ga_306 28 (by decide)).trans g_288
            have g_316 : fs_302[(29 : Nat)]? = some (.int (nI (rkd (kdP fa asz p)))) := (ga_306 29 (by decide)).trans g_289
            have g_317 : fs_302[(30 : Nat)]? = some (.int (nI (bl fa asz p))) := (ga_306 30 (by decide)).trans g_290
            have g_318 : fs_302[(31 : Nat)]? = some (.int (nI y)) := (ga_306 31 (by decide)).trans g_291
            have g_319 : fs_302[(39 : Nat)]? = some (.int (nI mk)) := (ga_306 39 (by decide)).trans g_293
            have g_320 : fs_302[(11 : Nat)]? = some (.int (nI asz)) := (ga_306 11 (by decide)).trans g_294
            have g_321 : fs_302[(4 : Nat)]? = some (.ref asked_) := (ga_306 4 (by decide)).trans g_295
            have g_322 : fs_302[(51 : Nat)]? = some (.ref top_) := (ga_306 51 (by decide)).trans g_296
            have g_323 : fs_302[(52 : Nat)]? = some (.ref masks_) := (ga_306 52 (by decide)).trans g_297
            have g_324 : fs_302[(33 : Nat)]? = some (.int bd_271) := (ga_306 33 (by decide)).trans g_278
            have ga_325 : ∀ i : Nat, i ∉ [28, 29, 30, 31, 33, 38, 39] → fs_302[i]? = fs[i]? := fun i hi => (ga_306 i (fun z => hi (by simp only [List.mem_cons, List.not_mem_nil, or_false] at z ⊢; omega))).trans (ga_298 i hi)
            refine s_Model_filter_130 l_303 e_304 g_319 g_317 ?_
            refine x_callV (As := [.int (nI (bl fa asz p))]) (b := m) (rest := [.int (nI mk), .ref m]) (F1 := 1) (L1 := 20) (mc := 0) (ms := 0) d_Model_filter_140 cV_Model_221 (f_q (x := bl fa asz p) l_303 e_304 g_320 g_321 e_313 (by omega) (by omega) (by omega) (by omega)) e_304 ⟨by decide, rfl⟩ ⟨by omega, by show 8 + (2 + 11) + 20 ≤ _; omega⟩ ⟨by omega, by omega⟩ (Nat.le_of_ble_eq_true rfl) (fun v_327 h_326 p_328 => ?_)
            obtain ⟨rfl, rfl⟩ := p_328
            refine s_Model_filter_143 (fun z => absurd z_227 z) (fun z_329 => ?_)
            refine s_Model_filter_148 ?_
            refine s_Model_filter_153 (fun z => absurd z (by decide)) (fun z_330 => ?_)
            refine s_Model_filter_157 ?_
            refine s_Model_filter_162 l_303 e_304 ?_
            refine x_u1 (fun h_331 e_332 f_333 => ?_)
            have e_334 := (f_333 asked_ (xw_neC e_313 e_304 (by simp))).trans e_313
            have e_335 := (f_333 top_ (xw_neC e_307 e_304 (by simp))).trans e_307
            have e_336 := (f_333 masks_ (xw_neC e_308 e_304 (by simp))).trans e_308
            have r_337 := r_314.up (by simp) f_333
            obtain ⟨fs_338, z_339⟩ : ∃ z, z = fs_302.set 39 (.int ((nI mk) &&& 1)) := ⟨_, rfl⟩
            rw [← z_339] at e_332
            have l_340 : fs_338.length = 62 := by rw [z_339]; simp only [List.length_set]; exact l_303
            have g_341 : fs_338[(4 : Nat)]? = some (.ref asked_) := by rw [z_339]; exact (xw_gn (by decide) g_321)
            have g_342 : fs_338[(11 : Nat)]? = some (.int (nI asz)) := by rw [z_339]; exact (xw_gn (by decide) g_320)
            have g_343 : fs_338[(28 : Nat)]? = some (.int (nI (bl fa asz p))) := by rw [z_339]; exact (xw_gn (by decide) g_315)
            have g_344 : fs_338[(29 : Nat)]? = some (.int (nI (rkd (kdP fa asz p)))) := by rw [z_339]; exact (xw_gn (by decide) g_316)
            have g_345 : fs_338[(30 : Nat)]? = some (.int (nI (bl fa asz p))) := by rw [z_339]; exact (xw_gn (by decide) g_317)
            have g_346 : fs_338[(31 : Nat)]? = some (.int (nI y)) := by rw [z_339]; exact (xw_gn (by decide) g_318)
            have g_347 : fs_338[(33 : Nat)]? = some (.int bd_271) := by rw [z_339]; exact (xw_gn (by decide) g_324)
            have g_348 : fs_338[(38 : Nat)]? = some (.int (nI (st.length + 1))) := by rw [z_339]; exact (xw_gn (by decide) g_305)
            have g_349 : fs_338[(39 : Nat)]? = some (.int ((nI mk) &&& 1)) := by rw [z_339]; exact (xw_gs (by simp [l_303]))
            have g_350 : fs_338[(51 : Nat)]? = some (.ref top_) := by rw [z_339]; exact (xw_gn (by decide) g_322)
            have g_351 : fs_338[(52 : Nat)]? = some (.ref masks_) := by rw [z_339]; exact (xw_gn (by decide) g_323)
            have ga_352 : ∀ i : Nat, i ∉ [28, 29, 30, 31, 33, 38, 39] → fs_338[i]? = fs[i]? := fun i hi => by rw [z_339]; exact xw_gn (fun z => hi (by rw [z]; simp)) (ga_325 i hi)
            clear z_339
            have hE_365 := HY (by rw [hs_230]; decide)
            rw [hE_365] at g_346
            refine x_callV (As := []) (b := m) (rest := []) (F1 := 4) (L1 := 87) (mc := 0) (ms := 0) d_Model_filter_167 cV_Model_257 (f_nextH (x0 := (skP fa asz p)) l_340 e_332 g_343 g_344 g_345 g_346 g_342 g_341 e_334 (by rw [← hE_365]; exact PT.2.1) hasz (by omega) (by omega)) e_332 ⟨by decide, rfl⟩ ⟨by omega, by show 8 + (1 + 11) + 87 ≤ _; omega⟩ ⟨by omega, by omega⟩ (Nat.le_of_ble_eq_true rfl) (fun v_367 h_366 p_368 => ?_)
            obtain ⟨rfl, y_353, fs_354, PT_355, HY_356, l_357, e_358, g_359, g_360, g_361, g_362, ga_363, r_364⟩ := p_368
            have e_369 := r_364 asked_ _ (by simp only [List.mem_cons, List.not_mem_nil, or_false, not_or]; exact (xw_neC e_334 e_332 (by simp))) e_334
            have e_370 := r_364 top_ _ (by simp only [List.mem_cons, List.not_mem_nil, or_false, not_or]; exact (xw_neC e_335 e_332 (by simp))) e_335
            have e_371 := r_364 masks_ _ (by simp only [List.mem_cons, List.not_mem_nil, or_false, not_or]; exact (xw_neC e_336 e_332 (by simp))) e_336
            have r_372 := r_337.trans (r_364.mono (by simp))
            have g_373 : fs_354[(4 : Nat)]? = some (.ref asked_) := (ga_363 4 (by decide)).trans g_341
            have g_374 : fs_354[(11 : Nat)]? = some (.int (nI asz)) := (ga_363 11 (by decide)).trans g_342
            have g_375 : fs_354[(33 : Nat)]? = some (.int bd_271) := (ga_363 33 (by decide)).trans g_347
            have g_376 : fs_354[(38 : Nat)]? = some (.int (nI (st.length + 1))) := (ga_363 38 (by decide)).trans g_348
            have g_377 : fs_354[(39 : Nat)]? = some (.int ((nI mk) &&& 1)) := (ga_363 39 (by decide)).trans g_349
            have g_378 : fs_354[(51 : Nat)]? = some (.ref top_) := (ga_363 51 (by decide)).trans g_350
            have g_379 : fs_354[(52 : Nat)]? = some (.ref masks_) := (ga_363 52 (by decide)).trans g_351
            have ga_380 : ∀ i : Nat, i ∉ [28, 29, 30, 31, 33, 38, 39] → fs_354[i]? = fs[i]? := fun i hi => (ga_363 i (fun z => hi (by simp only [List.mem_cons, List.not_mem_nil, or_false] at z ⊢; omega))).trans (ga_352 i hi)
            have RQ_381 := RQ.next (by rw [hs_230]; decide) (by rw [hs_230]; decide)
            have hb_382 := Nat.le_trans PT_355.1 PT_355.2.1
            refine s_Model_filter_170 ?_
            have hk_383 := (kd_3 hs_230).2.2.2.1
            have hE_396 := HY_356 (by rw [hk_383]; decide)
            rw [hE_396] at g_362
            refine x_callV (As := []) (b := m) (rest := []) (F1 := 4) (L1 := 87) (mc := 0) (ms := 0) d_Model_filter_171 cV_Model_257 (f_nextH (x0 := (skP fa asz (skP fa asz p))) l_357 e_358 g_359 g_360 g_361 g_362 g_374 g_373 e_369 (by rw [← hE_396]; exact PT_355.2.1) hasz (by omega) (by omega)) e_358 ⟨by decide, rfl⟩ ⟨by omega, by show 8 + (1 + 11) + 87 ≤ _; omega⟩ ⟨by omega, by omega⟩ (Nat.le_of_ble_eq_true rfl) (fun v_398 h_397 p_399 => ?_)
            obtain ⟨rfl, y_384, fs_385, PT_386, HY_387, l_388, e_389, g_390, g_391, g_392, g_393, ga_394, r_395⟩ := p_399
            have e_400 := r_395 asked_ _ (by simp only [List.mem_cons, List.not_mem_nil, or_false, not_or]; exact (xw_neC e_369 e_358 (by simp))) e_369
            have e_401 := r_395 top_ _ (by simp only [List.mem_cons, List.not_mem_nil, or_false, not_or]; exact (xw_neC e_370 e_358 (by simp))) e_370
            have e_402 := r_395 masks_ _ (by simp only [List.mem_cons, List.not_mem_nil, or_false, not_or]; exact (xw_neC e_371 e_358 (by simp))) e_371
            have r_403 := r_372.trans (r_395.mono (by simp))
            have g_404 : fs_385[(4 : Nat)]? = some (.ref asked_) := (ga_394 4 (by decide)).trans g_373
            have g_405 : fs_385[(11 : Nat)]? = some (.int (nI asz)) := (ga_394 11 (by decide)).trans g_374
            have g_406 : fs_385[(33 : Nat)]? = some (.int bd_271) := (ga_394 33 (by decide)).trans g_375
            have g_407 : fs_385[(38 : Nat)]? = some (.int (nI (st.length + 1))) := (ga_394 38 (by decide)).trans g_376
            have g_408 : fs_385[(39 : Nat)]? = some (.int ((nI mk) &&& 1)) := (ga_394 39 (by decide)).trans g_377
            have g_409 : fs_385[(51 : Nat)]? = some (.ref top_) := (ga_394 51 (by decide)).trans g_378
            have g_410 : fs_385[(52 : Nat)]? = some (.ref masks_) := (ga_394 52 (by decide)).trans g_379
            have ga_411 : ∀ i : Nat, i ∉ [28, 29, 30, 31, 33, 38, 39] → fs_385[i]? = fs[i]? := fun i hi => (ga_394 i (fun z => hi (by simp only [List.mem_cons, List.not_mem_nil, or_false] at z ⊢; omega))).trans (ga_380 i hi)
            have RQ_412 := RQ_381.next (by rw [hk_383]; decide) (by rw [hk_383]; decide)
            have hb_413 := Nat.le_trans PT_386.1 PT_386.2.1
            refine x_le (xw_le_n (xw_le_n (xw_le_n (xw_le_n xw_le_e)))) ?_
            refine s_Model_filter_174 ?_
            have hk_414 : ¬ kdP fa asz p = 11 := fun q => z_1 (by rw [q]; rfl)
            have hd_415 : ¬ depS st = 8 := fun q => z_269 (by rw [q]; rfl)
            rw [am1 mk hmk] at g_408
            exact ⟨rfl, _, _, _, _, l_388, e_389, g_406, ga_411, e_401, e_402, r_403, Or.inr ⟨1, (skP fa asz (skP fa asz p)), _, fp_0y (s := (p, ph, gr)) hk_414 hN_235, hd_415, hb_299, PT_386, HY_387, g_390, g_391, g_392, g_393, RQ_412, g_407, g_408, ST.push (a := 6) (by omega) (by omega) hmk⟩⟩
          · skip
            refine s_Model_filter_107 ?_
            refine s_Model_filter_112 ?_
            refine x_callV (As := [.int 1, .int (nI (bl fa asz p))]) (b := m) (rest := []) (F1 := 1) (L1 := 20) (mc := 0) (ms := 0) d_Model_filter_113 cV_Model_250 (f_wrongsH (k := bl fa asz p) l_241 e_242 g_243 (by omega) (by omega) (by omega)) e_242 ⟨by decide, rfl⟩ ⟨by omega, by show 8 + (3 + 11) + 20 ≤ _; omega⟩ ⟨by omega, by omega⟩ (Nat.le_of_ble_eq_true rfl) (fun v_427 h_426 p_428 => ?_)
            obtain ⟨rfl, bd_416, fs_417, hw_418, hw_419, hw_420, l_421, e_422, g_423, ga_424, r_425⟩ := p_428
            have e_429 := r_425 asked_ _ (by simp only [List.mem_cons, List.not_mem_nil, or_false, not_or]; exact (xw_neC e_249 e_242 (by simp))) e_249
            have e_430 := r_425 top_ _ (by simp only [List.mem_cons, List.not_mem_nil, or_false, not_or]; exact (xw_neC e_250 e_242 (by simp))) e_250
            have e_431 := r_425 masks_ _ (by simp only [List.mem_cons, List.not_mem_nil, or_false, not_or]; exact (xw_neC e_251 e_242 (by simp))) e_251
            have r_432 := r_252.trans (r_425.mono (by simp))
            have g_433 : fs_417[(28 : Nat)]? = some (.int (nI (bl fa asz p))) := (ga_424 28 (by decide)).trans g_253
            have g_434 : fs_417[(29 : Nat)]? = some (.int (nI (rkd (kdP fa asz p)))) := (ga_424 29 (by decide)).trans g_254
            have g_435 : fs_417[(30 : Nat)]? = some (.int (nI (bl fa asz p))) := (ga_424 30 (by decide)).trans g_255
            have g_436 : fs_417[(31 : Nat)]? = some (.int (nI y)) := (ga_424 31 (by decide)).trans g_256
            have g_437 : fs_417[(38 : Nat)]? = some (.int (nI st.length)) := (ga_424 38 (by decide)).trans g_257
            have g_438 : fs_417[(39 : Nat)]? = some (.int (nI mk)) := (ga_424 39 (by decide)).trans g_258
            have g_439 : fs_417[(11 : Nat)]? = some (.int (nI asz)) := (ga_424 11 (by decide)).trans g_259
            have g_440 : fs_417[(4 : Nat)]? = some (.ref asked_) := (ga_424 4 (by decide)).trans g_260
            have g_441 : fs_417[(51 : Nat)]? = some (.ref top_) := (ga_424 51 (by decide)).trans g_261
            have g_442 : fs_417[(52 : Nat)]? = some (.ref masks_) := (ga_424 52 (by decide)).trans g_262
            have ga_443 : ∀ i : Nat, i ∉ [28, 29, 30, 31, 33, 38, 39] → fs_417[i]? = fs[i]? := fun i hi => (ga_424 i (fun z => hi (by simp only [List.mem_cons, List.not_mem_nil, or_false] at z ⊢; omega))).trans (ga_263 i hi)
            have hb_444 : ¬ bd_416 < 0 := hw_419 (by decide)
            have hb_445 : 0 ≤ bd_416 := Int32.not_lt.mp hb_444
            refine x_le (xw_le_s (xw_le_n (xw_le_s (xw_le_n xw_le_e)))) ?_
            refine s_Model_filter_116 l_421 e_422 g_423 (fun z => absurd z hb_444) (fun z_446 => ?_)
            refine s_Model_filter_123 ?_
            have hk_447 : ¬ kdP fa asz p = 11 := fun q => z_1 (by rw [q]; rfl)
            have hd_448 : depS st = 8 := (nI_eq (b := 8) (by have := cJ_len st; omega) (by decide)).mp z_270
            exact ⟨rfl, _, _, _, _, l_421, e_422, g_423, ga_443, e_430, e_431, r_432, Or.inl ⟨Or.inr hd_448, hb_444, (fun i9 hi9 => by simp only [List.mem_cons, List.not_mem_nil, or_false] at hi9; rcases hi9 with rfl | rfl | rfl | rfl | rfl <;> first | exact ⟨_, g_433⟩ | exact ⟨_, g_434⟩ | exact ⟨_, g_435⟩ | exact ⟨_, g_436⟩ | exact ⟨_, g_438⟩), g_437⟩⟩
        · skip
          refine s_Model_filter_61 l e g_from ?_
          refine x_callV (As := [.int (nI (bl fa asz p))]) (b := m) (rest := []) (F1 := 1) (L1 := 20) (mc := 0) (ms := 0) d_Model_filter_66 cV_Model_221 (f_q (x := bl fa asz p) l e g_askedSize g_asked e_asked (by omega) (by omega) (by omega) (by omega)) e ⟨by decide, rfl⟩ ⟨by omega, by show 8 + (2 + 11) + 20 ≤ _; omega⟩ ⟨by omega, by omega⟩ (Nat.le_of_ble_eq_true rfl) (fun v_450 h_449 p_451 => ?_)
          obtain ⟨rfl, rfl⟩ := p_451
          refine s_Model_filter_69 (fun z_452 => ?_) (fun z_453 => ?_)
          · skip
            refine s_Model_filter_78 ?_
            refine s_Model_filter_79 (fun z => absurd z (by decide)) (fun z_454 => ?_)
            refine s_Model_filter_85 ?_
            refine s_Model_filter_90 l e g_from ?_
            have hs_455 := (hc_5.resolve_left (fun q => z_10 q.1)).2
            have hE_456 := HY (by rw [hs_455]; decide)
            have kw9 := kd_w (Or.inr hs_455)
            have hz_458 := z_116
            rw [hE_456, pk_sub (by omega)] at hz_458
            have hl_457 : skP fa asz p = bl fa asz p + 1 := by have := (nI_eq (b := 1) (by omega) (by decide)).mp hz_458; omega
            have hq_459 := z_228
            rw [qv_in (show bl fa asz p < asz by omega)] at hq_459
            have hq_460 := z_452
            rw [qv_in (show bl fa asz p < asz by omega)] at hq_460
            have hN_461 := flN_c (fun q => q.2.elim hq_459 hq_460)
            refine x_callV (As := [.int 1, .int (nI (bl fa asz p))]) (b := m) (rest := []) (F1 := 1) (L1 := 20) (mc := 0) (ms := 0) d_Model_filter_94 cV_Model_250 (f_wrongsH (k := bl fa asz p) l e g_bad (by omega) (by omega) (by omega)) e ⟨by decide, rfl⟩ ⟨by omega, by show 8 + (3 + 11) + 20 ≤ _; omega⟩ ⟨by omega, by omega⟩ (Nat.le_of_ble_eq_true rfl) (fun v_473 h_472 p_474 => ?_)
            obtain ⟨rfl, bd_462, fs_463, hw_464, hw_465, hw_466, l_467, e_468, g_469, ga_470, r_471⟩ := p_474
            have e_475 := r_471 asked_ _ (by simp only [List.mem_cons, List.not_mem_nil, or_false, not_or]; exact (xw_neC e_asked e (by simp))) e_asked
            have e_476 := r_471 top_ _ (by simp only [List.mem_cons, List.not_mem_nil, or_false, not_or]; exact (xw_neC e_top e (by simp))) e_top
            have e_477 := r_471 masks_ _ (by simp only [List.mem_cons, List.not_mem_nil, or_false, not_or]; exact (xw_neC e_masks e (by simp))) e_masks
            have r_478 := r0.trans (r_471.mono (by simp))
            have g_479 : fs_463[(28 : Nat)]? = some (.int (nI (bl fa asz p))) := (ga_470 28 (by decide)).trans g_at
            have g_480 : fs_463[(29 : Nat)]? = some (.int (nI (rkd (kdP fa asz p)))) := (ga_470 29 (by decide)).trans g_kind
            have g_481 : fs_463[(30 : Nat)]? = some (.int (nI (bl fa asz p))) := (ga_470 30 (by decide)).trans g_from
            have g_482 : fs_463[(31 : Nat)]? = some (.int (nI y)) := (ga_470 31 (by decide)).trans g_to
            have g_483 : fs_463[(38 : Nat)]? = some (.int (nI st.length)) := (ga_470 38 (by decide)).trans g_tops
            have g_484 : fs_463[(39 : Nat)]? = some (.int (nI mk)) := (ga_470 39 (by decide)).trans g_mask
            have g_485 : fs_463[(11 : Nat)]? = some (.int (nI asz)) := (ga_470 11 (by decide)).trans g_askedSize
            have g_486 : fs_463[(4 : Nat)]? = some (.ref asked_) := (ga_470 4 (by decide)).trans g_asked
            have g_487 : fs_463[(51 : Nat)]? = some (.ref top_) := (ga_470 51 (by decide)).trans g_top
            have g_488 : fs_463[(52 : Nat)]? = some (.ref masks_) := (ga_470 52 (by decide)).trans g_masks
            have ga_489 : ∀ i : Nat, i ∉ [28, 29, 30, 31, 33, 38, 39] → fs_463[i]? = fs[i]? := fun i hi => (ga_470 i (fun z => hi (by simp only [List.mem_cons, List.not_mem_nil, or_false] at z ⊢; omega))).trans (ga0 i hi)
            have hb_490 : ¬ bd_462 < 0 := hw_465 (by decide)
            have hb_491 : 0 ≤ bd_462 := Int32.not_lt.mp hb_490
            refine s_Model_filter_97 ?_
            refine x_callV (As := []) (b := m) (rest := [.ref m]) (F1 := 1) (L1 := 20) (mc := 0) (ms := 0) d_Model_filter_99 cV_Model_288 (f_depth (n := st.length) l_467 e_468 g_483 g_487 e_476 (by omega) (by omega) (by omega)) e_468 ⟨by decide, rfl⟩ ⟨by omega, by show 8 + (3 + 11) + 20 ≤ _; omega⟩ ⟨by omega, by omega⟩ (Nat.le_of_ble_eq_true rfl) (fun v_493 h_492 p_494 => ?_)
            obtain ⟨rfl, rfl⟩ := p_494
            rw [cntD_dep ST]
            refine s_Model_filter_102 (fun z_495 => ?_) (fun z_496 => ?_)
            · skip
              refine s_Model_filter_111 ?_
              refine s_Model_filter_112 ?_
              refine x_callV (As := [.int 0, .int (nI (bl fa asz p))]) (b := m) (rest := []) (F1 := 1) (L1 := 20) (mc := 0) (ms := 0) d_Model_filter_113 cV_Model_250 (f_wrongsH (k := bl fa asz p) l_467 e_468 g_469 (by omega) (by omega) (by omega)) e_468 ⟨by decide, rfl⟩ ⟨by omega, by show 8 + (3 + 11) + 20 ≤ _; omega⟩ ⟨by omega, by omega⟩ (Nat.le_of_ble_eq_true rfl) (fun v_508 h_507 p_509 => ?_)
              obtain ⟨rfl, bd_497, fs_498, hw_499, hw_500, hw_501, l_502, e_503, g_504, ga_505, r_506⟩ := p_509
              have e_510 := r_506 asked_ _ (by simp only [List.mem_cons, List.not_mem_nil, or_false, not_or]; exact (xw_neC e_475 e_468 (by simp))) e_475
              have e_511 := r_506 top_ _ (by simp only [List.mem_cons, List.not_mem_nil, or_false, not_or]; exact (xw_neC e_476 e_468 (by simp))) e_476
              have e_512 := r_506 masks_ _ (by simp only [List.mem_cons, List.not_mem_nil, or_false, not_or]; exact (xw_neC e_477 e_468 (by simp))) e_477
              have r_513 := r_478.trans (r_506.mono (by simp))
              have g_514 : fs_498[(28 : Nat)]? = some (.int (nI (bl fa asz p))) := (ga_505 28 (by decide)).trans g_479
              have g_515 : fs_498[(29 : Nat)]? = some (.int (nI (rkd (kdP fa asz p)))) := (ga_505 29 (by decide)).trans g_480
              have g_516 : fs_498[(30 : Nat)]? = some (.int (nI (bl fa asz p))) := (ga_505 30 (by decide)).trans g_481
              have g_517 : fs_498[(31 : Nat)]? = some (.int (nI y)) := (ga_505 31 (by decide)).trans g_482
              have g_518 : fs_498[(38 : Nat)]? = some (.int (nI st.length)) := (ga_505 38 (by decide)).trans g_483
              have g_519 : fs_498[(39 : Nat)]? = some (.int (nI mk)) := (ga_505 39 (by decide)).trans g_484
              have g_520 : fs_498[(11 : Nat)]? = some (.int (nI asz)) := (ga_505 11 (by decide)).trans g_485
              have g_521 : fs_498[(4 : Nat)]? = some (.ref asked_) := (ga_505 4 (by decide)).trans g_486
              have g_522 : fs_498[(51 : Nat)]? = some (.ref top_) := (ga_505 51 (by decide)).trans g_487
              have g_523 : fs_498[(52 : Nat)]? = some (.ref masks_) := (ga_505 52 (by decide)).trans g_488
              have ga_524 : ∀ i : Nat, i ∉ [28, 29, 30, 31, 33, 38, 39] → fs_498[i]? = fs[i]? := fun i hi => (ga_505 i (fun z => hi (by simp only [List.mem_cons, List.not_mem_nil, or_false] at z ⊢; omega))).trans (ga_489 i hi)
              have hb_525 : ¬ bd_497 < 0 := by rw [hw_501 hb_490]; exact hb_490
              have hb_526 : 0 ≤ bd_497 := Int32.not_lt.mp hb_525
              refine x_le (xw_le_s (xw_le_n (xw_le_s (xw_le_n xw_le_e)))) ?_
              refine s_Model_filter_116 l_502 e_503 g_504 (fun z => absurd z hb_525) (fun z_527 => ?_)
              refine s_Model_filter_123 ?_
              have hk_528 : ¬ kdP fa asz p = 11 := fun q => z_1 (by rw [q]; rfl)
              have hd_529 : ¬ depS st = 8 := fun q => z_495 (by rw [q]; rfl)
              exact ⟨rfl, _, _, _, _, l_502, e_503, g_504, ga_524, e_511, e_512, r_513, Or.inl ⟨Or.inl (fp_0n hk_528 hN_461), hb_525, (fun i9 hi9 => by simp only [List.mem_cons, List.not_mem_nil, or_false] at hi9; rcases hi9 with rfl | rfl | rfl | rfl | rfl <;> first | exact ⟨_, g_514⟩ | exact ⟨_, g_515⟩ | exact ⟨_, g_516⟩ | exact ⟨_, g_517⟩ | exact ⟨_, g_519⟩), g_518⟩⟩
            · skip
              refine s_Model_filter_107 ?_
              refine s_Model_filter_112 ?_
              refine x_callV (As := [.int 1, .int (nI (bl fa asz p))]) (b := m) (rest := []) (F1 := 1) (L1 := 20) (mc := 0) (ms := 0) d_Model_filter_113 cV_Model_250 (f_wrongsH (k := bl fa asz p) l_467 e_468 g_469 (by omega) (by omega) (by omega)) e_468 ⟨by decide, rfl⟩ ⟨by omega, by show 8 + (3 + 11) + 20 ≤ _; omega⟩ ⟨by omega, by omega⟩ (Nat.le_of_ble_eq_true rfl) (fun v_541 h_540 p_542 => ?_)
              obtain ⟨rfl, bd_530, fs_531, hw_532, hw_533, hw_534, l_535, e_536, g_537, ga_538, r_539⟩ := p_542
              have e_543 := r_539 asked_ _ (by simp only [List.mem_cons, List.not_mem_nil, or_false, not_or]; exact (xw_neC e_475 e_468 (by simp))) e_475
              have e_544 := r_539 top_ _ (by simp only [List.mem_cons, List.not_mem_nil, or_false, not_or]; exact (xw_neC e_476 e_468 (by simp))) e_476
              have e_545 := r_539 masks_ _ (by simp only [List.mem_cons, List.not_mem_nil, or_false, not_or]; exact (xw_neC e_477 e_468 (by simp))) e_477
              have r_546 := r_478.trans (r_539.mono (by simp))
              have g_547 : fs_531[(28 : Nat)]? = some (.int (nI (bl fa asz p))) := (ga_538 28 (by decide)).trans g_479
              have g_548 : fs_531[(29 : Nat)]? = some (.int (nI (rkd (kdP fa asz p)))) := (ga_538 29 (by decide)).trans g_480
              have g_549 : fs_531[(30 : Nat)]? = some (.int (nI (bl fa asz p))) := (ga_538 30 (by decide)).trans g_481
              have g_550 : fs_531[(31 : Nat)]? = some (.int (nI y)) := (ga_538 31 (by decide)).trans g_482
              have g_551 : fs_531[(38 : Nat)]? = some (.int (nI st.length)) := (ga_538 38 (by decide)).trans g_483
              have g_552 : fs_531[(39 : Nat)]? = some (.int (nI mk)) := (ga_538 39 (by decide)).trans g_484
              have g_553 : fs_531[(11 : Nat)]? = some (.int (nI asz)) := (ga_538 11 (by decide)).trans g_485
              have g_554 : fs_531[(4 : Nat)]? = some (.ref asked_) := (ga_538 4 (by decide)).trans g_486
              have g_555 : fs_531[(51 : Nat)]? = some (.ref top_) := (ga_538 51 (by decide)).trans g_487
              have g_556 : fs_531[(52 : Nat)]? = some (.ref masks_) := (ga_538 52 (by decide)).trans g_488
              have ga_557 : ∀ i : Nat, i ∉ [28, 29, 30, 31, 33, 38, 39] → fs_531[i]? = fs[i]? := fun i hi => (ga_538 i (fun z => hi (by simp only [List.mem_cons, List.not_mem_nil, or_false] at z ⊢; omega))).trans (ga_489 i hi)
              have hb_558 : ¬ bd_530 < 0 := by rw [hw_534 hb_490]; exact hb_490
              have hb_559 : 0 ≤ bd_530 := Int32.not_lt.mp hb_558
              refine x_le (xw_le_s (xw_le_n (xw_le_s (xw_le_n xw_le_e)))) ?_
              refine s_Model_filter_116 l_535 e_536 g_537 (fun z => absurd z hb_558) (fun z_560 => ?_)
              refine s_Model_filter_123 ?_
              have hk_561 : ¬ kdP fa asz p = 11 := fun q => z_1 (by rw [q]; rfl)
              have hd_562 : depS st = 8 := (nI_eq (b := 8) (by have := cJ_len st; omega) (by decide)).mp z_496
              exact ⟨rfl, _, _, _, _, l_535, e_536, g_537, ga_557, e_544, e_545, r_546, Or.inl ⟨Or.inl (fp_0n hk_561 hN_461), hb_558, (fun i9 hi9 => by simp only [List.mem_cons, List.not_mem_nil, or_false] at hi9; rcases hi9 with rfl | rfl | rfl | rfl | rfl <;> first | exact ⟨_, g_547⟩ | exact ⟨_, g_548⟩ | exact ⟨_, g_549⟩ | exact ⟨_, g_550⟩ | exact ⟨_, g_552⟩), g_551⟩⟩
          · skip
            refine s_Model_filter_74 ?_
            refine s_Model_filter_79 (fun z_563 => ?_) (fun z => absurd z (by decide))
            refine s_Model_filter_89 ?_
            refine s_Model_filter_90 l e g_from ?_
            have hs_564 := (hc_5.resolve_left (fun q => z_10 q.1)).2
            have hE_565 := HY (by rw [hs_564]; decide)
            have kw9 := kd_w (Or.inr hs_564)
            have hz_567 := z_116
            rw [hE_565, pk_sub (by omega)] at hz_567
            have hl_566 : skP fa asz p = bl fa asz p + 1 := by have := (nI_eq (b := 1) (by omega) (by decide)).mp hz_567; omega
            have hq_568 := z_228
            rw [qv_in (show bl fa asz p < asz by omega)] at hq_568
            have hq_569 := z_453
            rw [qv_in (show bl fa asz p < asz by omega)] at hq_569
            have hN_570 := flN_b hs_564 hl_566 hq_569
            refine x_callV (As := [.int 0, .int (nI (bl fa asz p))]) (b := m) (rest := []) (F1 := 1) (L1 := 20) (mc := 0) (ms := 0) d_Model_filter_94 cV_Model_250 (f_wrongsH (k := bl fa asz p) l e g_bad (by omega) (by omega) (by omega)) e ⟨by decide, rfl⟩ ⟨by omega, by show 8 + (3 + 11) + 20 ≤ _; omega⟩ ⟨by omega, by omega⟩ (Nat.le_of_ble_eq_true rfl) (fun v_582 h_581 p_583 => ?_)
            obtain ⟨rfl, bd_571, fs_572, hw_573, hw_574, hw_575, l_576, e_577, g_578, ga_579, r_580⟩ := p_583
            have e_584 := r_580 asked_ _ (by simp only [List.mem_cons, List.not_mem_nil, or_false, not_or]; exact (xw_neC e_asked e (by simp))) e_asked
            have e_585 := r_580 top_ _ (by simp only [List.mem_cons, List.not_mem_nil, or_false, not_or]; exact (xw_neC e_top e (by simp))) e_top
            have e_586 := r_580 masks_ _ (by simp only [List.mem_cons, List.not_mem_nil, or_false, not_or]; exact (xw_neC e_masks e (by simp))) e_masks
            have r_587 := r0.trans (r_580.mono (by simp))
            have g_588 : fs_572[(28 : Nat)]? = some (.int (nI (bl fa asz p))) := (ga_579 28 (by decide)).trans g_at
            have g_589 : fs_572[(29 : Nat)]? = some (.int (nI (rkd (kdP fa asz p)))) := (ga_579 29 (by decide)).trans g_kind
            have g_590 : fs_572[(30 : Nat)]? = some (.int (nI (bl fa asz p))) := (ga_579 30 (by decide)).trans g_from
            have g_591 : fs_572[(31 : Nat)]? = some (.int (nI y)) := (ga_579 31 (by decide)).trans g_to
            have g_592 : fs_572[(38 : Nat)]? = some (.int (nI st.length)) := (ga_579 38 (by decide)).trans g_tops
            have g_593 : fs_572[(39 : Nat)]? = some (.int (nI mk)) := (ga_579 39 (by decide)).trans g_mask
            have g_594 : fs_572[(11 : Nat)]? = some (.int (nI asz)) := (ga_579 11 (by decide)).trans g_askedSize
            have g_595 : fs_572[(4 : Nat)]? = some (.ref asked_) := (ga_579 4 (by decide)).trans g_asked
            have g_596 : fs_572[(51 : Nat)]? = some (.ref top_) := (ga_579 51 (by decide)).trans g_top
            have g_597 : fs_572[(52 : Nat)]? = some (.ref masks_) := (ga_579 52 (by decide)).trans g_masks
            have ga_598 : ∀ i : Nat, i ∉ [28, 29, 30, 31, 33, 38, 39] → fs_572[i]? = fs[i]? := fun i hi => (ga_579 i (fun z => hi (by simp only [List.mem_cons, List.not_mem_nil, or_false] at z ⊢; omega))).trans (ga0 i hi)
            have hb_599 : bd_571 < 0 := by rw [hw_573 rfl]; exact hbd
            have hb_600 : ¬ 0 ≤ bd_571 := Int32.not_le.mpr hb_599
            refine s_Model_filter_97 ?_
            refine x_callV (As := []) (b := m) (rest := [.ref m]) (F1 := 1) (L1 := 20) (mc := 0) (ms := 0) d_Model_filter_99 cV_Model_288 (f_depth (n := st.length) l_576 e_577 g_592 g_596 e_585 (by omega) (by omega) (by omega)) e_577 ⟨by decide, rfl⟩ ⟨by omega, by show 8 + (3 + 11) + 20 ≤ _; omega⟩ ⟨by omega, by omega⟩ (Nat.le_of_ble_eq_true rfl) (fun v_602 h_601 p_603 => ?_)
            obtain ⟨rfl, rfl⟩ := p_603
            rw [cntD_dep ST]
            refine s_Model_filter_102 (fun z_604 => ?_) (fun z_605 => ?_)
            · skip
              refine s_Model_filter_111 ?_
              refine s_Model_filter_112 ?_
              refine x_callV (As := [.int 0, .int (nI (bl fa asz p))]) (b := m) (rest := []) (F1 := 1) (L1 := 20) (mc := 0) (ms := 0) d_Model_filter_113 cV_Model_250 (f_wrongsH (k := bl fa asz p) l_576 e_577 g_578 (by omega) (by omega) (by omega)) e_577 ⟨by decide, rfl⟩ ⟨by omega, by show 8 + (3 + 11) + 20 ≤ _; omega⟩ ⟨by omega, by omega⟩ (Nat.le_of_ble_eq_true rfl) (fun v_617 h_616 p_618 => ?_)
              obtain ⟨rfl, bd_606, fs_607, hw_608, hw_609, hw_610, l_611, e_612, g_613, ga_614, r_615⟩ := p_618
              have e_619 := r_615 asked_ _ (by simp only [List.mem_cons, List.not_mem_nil, or_false, not_or]; exact (xw_neC e_584 e_577 (by simp))) e_584
              have e_620 := r_615 top_ _ (by simp only [List.mem_cons, List.not_mem_nil, or_false, not_or]; exact (xw_neC e_585 e_577 (by simp))) e_585
              have e_621 := r_615 masks_ _ (by simp only [List.mem_cons, List.not_mem_nil, or_false, not_or]; exact (xw_neC e_586 e_577 (by simp))) e_586
              have r_622 := r_587.trans (r_615.mono (by simp))
              have g_623 : fs_607[(28 : Nat)]? = some (.int (nI (bl fa asz p))) := (ga_614 28 (by decide)).trans g_588
              have g_624 : fs_607[(29 : Nat)]? = some (.int (nI (rkd (kdP fa asz p)))) := (ga_614 29 (by decide)).trans g_589
              have g_625 : fs_607[(30 : Nat)]? = some (.int (nI (bl fa asz p))) := (ga_614 30 (by decide)).trans g_590
              have g_626 : fs_607[(31 : Nat)]? = some (.int (nI y)) := (ga_614 31 (by decide)).trans g_591
              have g_627 : fs_607[(38 : Nat)]? = some (.int (nI st.length)) := (ga_614 38 (by decide)).trans g_592
              have g_628 : fs_607[(39 : Nat)]? = some (.int (nI mk)) := (ga_614 39 (by decide)).trans g_593
              have g_629 : fs_607[(11 : Nat)]? = some (.int (nI asz)) := (ga_614 11 (by decide)).trans g_594
              have g_630 : fs_607[(4 : Nat)]? = some (.ref asked_) := (ga_614 4 (by decide)).trans g_595
              have g_631 : fs_607[(51 : Nat)]? = some (.ref top_) := (ga_614 51 (by decide)).trans g_596
              have g_632 : fs_607[(52 : Nat)]? = some (.ref masks_) := (ga_614 52 (by decide)).trans g_597
              have ga_633 : ∀ i : Nat, i ∉ [28, 29, 30, 31, 33, 38, 39] → fs_607[i]? = fs[i]? := fun i hi => (ga_614 i (fun z => hi (by simp only [List.mem_cons, List.not_mem_nil, or_false] at z ⊢; omega))).trans (ga_598 i hi)
              have hb_634 : bd_606 < 0 := by rw [hw_608 rfl]; exact hb_599
              have hb_635 : ¬ 0 ≤ bd_606 := Int32.not_le.mpr hb_634
              refine x_le (xw_le_s (xw_le_n (xw_le_s (xw_le_n xw_le_e)))) ?_
              refine s_Model_filter_116 l_611 e_612 g_613 (fun z_636 => ?_) (fun z => absurd hb_634 z)
              refine s_Model_filter_124 ?_
              refine x_callV (As := [.int 6]) (b := m) (rest := []) (F1 := 1) (L1 := 20) (mc := 0) (ms := 0) d_Model_filter_127 cV_Model_285 (f_pushesH (n := st.length) (mk := mk) l_611 e_612 g_627 g_628 g_631 e_620 g_632 e_621 n_top_masks (by omega) (by omega) (by omega)) e_612 ⟨by decide, rfl⟩ ⟨by omega, by show 8 + (2 + 11) + 20 ≤ _; omega⟩ ⟨by omega, by omega⟩ (Nat.le_of_ble_eq_true rfl) (fun v_646 h_645 p_647 => ?_)
              obtain ⟨rfl, fs_637, l_638, e_639, g_640, ga_641, e_642, e_643, r_644⟩ := p_647
              have e_648 := r_644 asked_ _ (by simp only [List.mem_cons, List.not_mem_nil, or_false, not_or]; exact ⟨(xw_neC e_619 e_612 (by simp)), (xw_neC e_619 e_620 (by simp)), (xw_neC e_619 e_621 (by simp))⟩) e_619
              have r_649 := r_622.trans (r_644.mono (by simp))
              have g_650 : fs_637[(28 : Nat)]? = some (.int (nI (bl fa asz p))) := (ga_641 28 (by decide)).trans g_623
              have g_651 : fs_637[(29 : Nat)]? = some (.int (nI (rkd (kdP fa asz p)))) := (ga_641 29 (by decide)).trans g_624
              have g_652 : fs_637[(30 : Nat)]? = some (.int (nI (bl fa asz p))) := (ga_641 30 (by decide)).trans g_625
              have g_653 : fs_637[(31 : Nat)]? = some (.int (nI y)) := (ga_641 31 (by decide)).trans g_626
              have g_654 : fs_637[(39 : Nat)]? = some (.int (nI mk)) := (ga_641 39 (by decide)).trans g_628
              have g_655 : fs_637[(11 : Nat)]? = some (.int (nI asz)) := (ga_641 11 (by decide)).trans g_629
              have g_656 : fs_637[(4 : Nat)]? = some (.ref asked_) := (ga_641 4 (by decide)).trans g_630
              have g_657 : fs_637[(51 : Nat)]? = some (.ref top_) := (ga_641 51 (by decide)).trans g_631
              have g_658 : fs_637[(52 : Nat)]? = some (.ref masks_) := (ga_641 52 (by decide)).trans g_632
              have g_659 : fs_637[(33 : Nat)]? = some (.int bd_606) := (ga_641 33 (by decide)).trans g_613
              have ga_660 : ∀ i : Nat, i ∉ [28, 29, 30, 31, 33, 38, 39] → fs_637[i]? = fs[i]? := fun i hi => (ga_641 i (fun z => hi (by simp only [List.mem_cons, List.not_mem_nil, or_false] at z ⊢; omega))).trans (ga_633 i hi)
              refine s_Model_filter_130 l_638 e_639 g_654 g_652 ?_
              refine x_callV (As := [.int (nI (bl fa asz p))]) (b := m) (rest := [.int (nI mk), .ref m]) (F1 := 1) (L1 := 20) (mc := 0) (ms := 0) d_Model_filter_140 cV_Model_221 (f_q (x := bl fa asz p) l_638 e_639 g_655 g_656 e_648 (by omega) (by omega) (by omega) (by omega)) e_639 ⟨by decide, rfl⟩ ⟨by omega, by show 8 + (2 + 11) + 20 ≤ _; omega⟩ ⟨by omega, by omega⟩ (Nat.le_of_ble_eq_true rfl) (fun v_662 h_661 p_663 => ?_)
              obtain ⟨rfl, rfl⟩ := p_663
              refine s_Model_filter_143 (fun z_664 => ?_) (fun z => absurd z z_228)
              refine s_Model_filter_152 ?_
              refine s_Model_filter_153 (fun z_665 => ?_) (fun z => absurd z (by decide))
              refine s_Model_filter_161 ?_
              refine s_Model_filter_162 l_638 e_639 ?_
              refine x_u1 (fun h_666 e_667 f_668 => ?_)
              have e_669 := (f_668 asked_ (xw_neC e_648 e_639 (by simp))).trans e_648
              have e_670 := (f_668 top_ (xw_neC e_642 e_639 (by simp))).trans e_642
              have e_671 := (f_668 masks_ (xw_neC e_643 e_639 (by simp))).trans e_643
              have r_672 := r_649.up (by simp) f_668
              obtain ⟨fs_673, z_674⟩ : ∃ z, z = fs_637.set 39 (.int ((nI mk) &&& 2)) := ⟨_, rfl⟩
              rw [← z_674] at e_667
              have l_675 : fs_673.length = 62 := by rw [z_674]; simp only [List.length_set]; exact l_638
              have g_676 : fs_673[(4 : Nat)]? = some (.ref asked_) := by rw [z_674]; exact (xw_gn (by decide) g_656)
              have g_677 : fs_673[(11 : Nat)]? = some (.int (nI asz)) := by rw [z_674]; exact (xw_gn (by decide) g_655)
              have g_678 : fs_673[(28 : Nat)]? = some (.int (nI (bl fa asz p))) := by rw [z_674]; exact (xw_gn (by decide) g_650)
              have g_679 : fs_673[(29 : Nat)]? = some (.int (nI (rkd (kdP fa asz p)))) := by rw [z_674]; exact (xw_gn (by decide) g_651)
              have g_680 : fs_673[(30 : Nat)]? = some (.int (nI (bl fa asz p))) := by rw [z_674]; exact (xw_gn (by decide) g_652)
              have g_681 : fs_673[(31 : Nat)]? = some (.int (nI y)) := by rw [z_674]; exact (xw_gn (by decide) g_653)
              have g_682 : fs_673[(33 : Nat)]? = some (.int bd_606) := by rw [z_674]; exact (xw_gn (by decide) g_659)
              have g_683 : fs_673[(38 : Nat)]? = some (.int (nI (st.length + 1))) := by rw [z_674]; exact (xw_gn (by decide) g_640)
              have g_684 : fs_673[(39 : Nat)]? = some (.int ((nI mk) &&& 2)) := by rw [z_674]; exact (xw_gs (by simp [l_638]))
              have g_685 : fs_673[(51 : Nat)]? = some (.ref top_) := by rw [z_674]; exact (xw_gn (by decide) g_657)
              have g_686 : fs_673[(52 : Nat)]? = some (.ref masks_) := by rw [z_674]; exact (xw_gn (by decide) g_658)
              have ga_687 : ∀ i : Nat, i ∉ [28, 29, 30, 31, 33, 38, 39] → fs_673[i]? = fs[i]? := fun i hi => by rw [z_674]; exact xw_gn (fun z => hi (by rw [z]; simp)) (ga_660 i hi)
              clear z_674
              have hE_700 := HY (by rw [hs_564]; decide)
              rw [hE_700] at g_681
              refine x_callV (As := []) (b := m) (rest := []) (F1 := 4) (L1 := 87) (mc := 0) (ms := 0) d_Model_filter_167 cV_Model_257 (f_nextH (x0 := (skP fa asz p)) l_675 e_667 g_678 g_679 g_680 g_681 g_677 g_676 e_669 (by rw [← hE_700]; exact PT.2.1) hasz (by omega) (by omega)) e_667 ⟨by decide, rfl⟩ ⟨by omega, by show 8 + (1 + 11) + 87 ≤ _; omega⟩ ⟨by omega, by omega⟩ (Nat.le_of_ble_eq_true rfl) (fun v_702 h_701 p_703 => ?_)
              obtain ⟨rfl, y_688, fs_689, PT_690, HY_691, l_692, e_693, g_694, g_695, g_696, g_697, ga_698, r_699⟩ := p_703
              have e_704 := r_699 asked_ _ (by simp only [List.mem_cons, List.not_mem_nil, or_false, not_or]; exact (xw_neC e_669 e_667 (by simp))) e_669
              have e_705 := r_699 top_ _ (by simp only [List.mem_cons, List.not_mem_nil, or_false, not_or]; exact (xw_neC e_670 e_667 (by simp))) e_670
              have e_706 := r_699 masks_ _ (by simp only [List.mem_cons, List.not_mem_nil, or_false, not_or]; exact (xw_neC e_671 e_667 (by simp))) e_671
              have r_707 := r_672.trans (r_699.mono (by simp))
              have g_708 : fs_689[(4 : Nat)]? = some (.ref asked_) := (ga_698 4 (by decide)).trans g_676
              have g_709 : fs_689[(11 : Nat)]? = some (.int (nI asz)) := (ga_698 11 (by decide)).trans g_677
              have g_710 : fs_689[(33 : Nat)]? = some (.int bd_606) := (ga_698 33 (by decide)).trans g_682
              have g_711 : fs_689[(38 : Nat)]? = some (.int (nI (st.length + 1))) := (ga_698 38 (by decide)).trans g_683
              have g_712 : fs_689[(39 : Nat)]? = some (.int ((nI mk) &&& 2)) := (ga_698 39 (by decide)).trans g_684
              have g_713 : fs_689[(51 : Nat)]? = some (.ref top_) := (ga_698 51 (by decide)).trans g_685
              have g_714 : fs_689[(52 : Nat)]? = some (.ref masks_) := (ga_698 52 (by decide)).trans g_686
              have ga_715 : ∀ i : Nat, i ∉ [28, 29, 30, 31, 33, 38, 39] → fs_689[i]? = fs[i]? := fun i hi => (ga_698 i (fun z => hi (by simp only [List.mem_cons, List.not_mem_nil, or_false] at z ⊢; omega))).trans (ga_687 i hi)
              have RQ_716 := RQ.next (by rw [hs_564]; decide) (by rw [hs_564]; decide)
              have hb_717 := Nat.le_trans PT_690.1 PT_690.2.1
              refine s_Model_filter_170 ?_
              have hk_718 := (kd_3 hs_564).2.2.2.1
              have hE_731 := HY_691 (by rw [hk_718]; decide)
              rw [hE_731] at g_697
              refine x_callV (As := []) (b := m) (rest := []) (F1 := 4) (L1 := 87) (mc := 0) (ms := 0) d_Model_filter_171 cV_Model_257 (f_nextH (x0 := (skP fa asz (skP fa asz p))) l_692 e_693 g_694 g_695 g_696 g_697 g_709 g_708 e_704 (by rw [← hE_731]; exact PT_690.2.1) hasz (by omega) (by omega)) e_693 ⟨by decide, rfl⟩ ⟨by omega, by show 8 + (1 + 11) + 87 ≤ _; omega⟩ ⟨by omega, by omega⟩ (Nat.le_of_ble_eq_true rfl) (fun v_733 h_732 p_734 => ?_)
              obtain ⟨rfl, y_719, fs_720, PT_721, HY_722, l_723, e_724, g_725, g_726, g_727, g_728, ga_729, r_730⟩ := p_734
              have e_735 := r_730 asked_ _ (by simp only [List.mem_cons, List.not_mem_nil, or_false, not_or]; exact (xw_neC e_704 e_693 (by simp))) e_704
              have e_736 := r_730 top_ _ (by simp only [List.mem_cons, List.not_mem_nil, or_false, not_or]; exact (xw_neC e_705 e_693 (by simp))) e_705
              have e_737 := r_730 masks_ _ (by simp only [List.mem_cons, List.not_mem_nil, or_false, not_or]; exact (xw_neC e_706 e_693 (by simp))) e_706
              have r_738 := r_707.trans (r_730.mono (by simp))
              have g_739 : fs_720[(4 : Nat)]? = some (.ref asked_) := (ga_729 4 (by decide)).trans g_708
              have g_740 : fs_720[(11 : Nat)]? = some (.int (nI asz)) := (ga_729 11 (by decide)).trans g_709
              have g_741 : fs_720[(33 : Nat)]? = some (.int bd_606) := (ga_729 33 (by decide)).trans g_710
              have g_742 : fs_720[(38 : Nat)]? = some (.int (nI (st.length + 1))) := (ga_729 38 (by decide)).trans g_711
              have g_743 : fs_720[(39 : Nat)]? = some (.int ((nI mk) &&& 2)) := (ga_729 39 (by decide)).trans g_712
              have g_744 : fs_720[(51 : Nat)]? = some (.ref top_) := (ga_729 51 (by decide)).trans g_713
              have g_745 : fs_720[(52 : Nat)]? = some (.ref masks_) := (ga_729 52 (by decide)).trans g_714
              have ga_746 : ∀ i : Nat, i ∉ [28, 29, 30, 31, 33, 38, 39] → fs_720[i]? = fs[i]? := fun i hi => (ga_729 i (fun z => hi (by simp only [List.mem_cons, List.not_mem_nil, or_false] at z ⊢; omega))).trans (ga_715 i hi)
              have RQ_747 := RQ_716.next (by rw [hk_718]; decide) (by rw [hk_718]; decide)
              have hb_748 := Nat.le_trans PT_721.1 PT_721.2.1
              refine x_le (xw_le_n (xw_le_n (xw_le_n (xw_le_n xw_le_e)))) ?_
              refine s_Model_filter_174 ?_
              have hk_749 : ¬ kdP fa asz p = 11 := fun q => z_1 (by rw [q]; rfl)
              have hd_750 : ¬ depS st = 8 := fun q => z_604 (by rw [q]; rfl)
              rw [am2 mk hmk] at g_743
              exact ⟨rfl, _, _, _, _, l_723, e_724, g_741, ga_746, e_736, e_737, r_738, Or.inr ⟨2, (skP fa asz (skP fa asz p)), _, fp_0y (s := (p, ph, gr)) hk_749 hN_570, hd_750, hb_634, PT_721, HY_722, g_725, g_726, g_727, g_728, RQ_747, g_742, g_743, ST.push (a := 6) (by omega) (by omega) hmk⟩⟩
            · skip
              refine s_Model_filter_107 ?_
              refine s_Model_filter_112 ?_
              refine x_callV (As := [.int 1, .int (nI (bl fa asz p))]) (b := m) (rest := []) (F1 := 1) (L1 := 20) (mc := 0) (ms := 0) d_Model_filter_113 cV_Model_250 (f_wrongsH (k := bl fa asz p) l_576 e_577 g_578 (by omega) (by omega) (by omega)) e_577 ⟨by decide, rfl⟩ ⟨by omega, by show 8 + (3 + 11) + 20 ≤ _; omega⟩ ⟨by omega, by omega⟩ (Nat.le_of_ble_eq_true rfl) (fun v_762 h_761 p_763 => ?_)
              obtain ⟨rfl, bd_751, fs_752, hw_753, hw_754, hw_755, l_756, e_757, g_758, ga_759, r_760⟩ := p_763
              have e_764 := r_760 asked_ _ (by simp only [List.mem_cons, List.not_mem_nil, or_false, not_or]; exact (xw_neC e_584 e_577 (by simp))) e_584
              have e_765 := r_760 top_ _ (by simp only [List.mem_cons, List.not_mem_nil, or_false, not_or]; exact (xw_neC e_585 e_577 (by simp))) e_585
              have e_766 := r_760 masks_ _ (by simp only [List.mem_cons, List.not_mem_nil, or_false, not_or]; exact (xw_neC e_586 e_577 (by simp))) e_586
              have r_767 := r_587.trans (r_760.mono (by simp))
              have g_768 : fs_752[(28 : Nat)]? = some (.int (nI (bl fa asz p))) := (ga_759 28 (by decide)).trans g_588
              have g_769 : fs_752[(29 : Nat)]? = some (.int (nI (rkd (kdP fa asz p)))) := (ga_759 29 (by decide)).trans g_589
              have g_770 : fs_752[(30 : Nat)]? = some (.int (nI (bl fa asz p))) := (ga_759 30 (by decide)).trans g_590
              have g_771 : fs_752[(31 : Nat)]? = some (.int (nI y)) := (ga_759 31 (by decide)).trans g_591
              have g_772 : fs_752[(38 : Nat)]? = some (.int (nI st.length)) := (ga_759 38 (by decide)).trans g_592
              have g_773 : fs_752[(39 : Nat)]? = some (.int (nI mk)) := (ga_759 39 (by decide)).trans g_593
              have g_774 : fs_752[(11 : Nat)]? = some (.int (nI asz)) := (ga_759 11 (by decide)).trans g_594
              have g_775 : fs_752[(4 : Nat)]? = some (.ref asked_) := (ga_759 4 (by decide)).trans g_595
              have g_776 : fs_752[(51 : Nat)]? = some (.ref top_) := (ga_759 51 (by decide)).trans g_596
              have g_777 : fs_752[(52 : Nat)]? = some (.ref masks_) := (ga_759 52 (by decide)).trans g_597
              have ga_778 : ∀ i : Nat, i ∉ [28, 29, 30, 31, 33, 38, 39] → fs_752[i]? = fs[i]? := fun i hi => (ga_759 i (fun z => hi (by simp only [List.mem_cons, List.not_mem_nil, or_false] at z ⊢; omega))).trans (ga_598 i hi)
              have hb_779 : ¬ bd_751 < 0 := hw_754 (by decide)
              have hb_780 : 0 ≤ bd_751 := Int32.not_lt.mp hb_779
              refine x_le (xw_le_s (xw_le_n (xw_le_s (xw_le_n xw_le_e)))) ?_
              refine s_Model_filter_116 l_756 e_757 g_758 (fun z => absurd z hb_779) (fun z_781 => ?_)
              refine s_Model_filter_123 ?_
              have hk_782 : ¬ kdP fa asz p = 11 := fun q => z_1 (by rw [q]; rfl)
              have hd_783 : depS st = 8 := (nI_eq (b := 8) (by have := cJ_len st; omega) (by decide)).mp z_605
              exact ⟨rfl, _, _, _, _, l_756, e_757, g_758, ga_778, e_765, e_766, r_767, Or.inl ⟨Or.inr hd_783, hb_779, (fun i9 hi9 => by simp only [List.mem_cons, List.not_mem_nil, or_false] at hi9; rcases hi9 with rfl | rfl | rfl | rfl | rfl <;> first | exact ⟨_, g_768⟩ | exact ⟨_, g_769⟩ | exact ⟨_, g_770⟩ | exact ⟨_, g_771⟩ | exact ⟨_, g_773⟩), g_772⟩⟩
  · skip
    refine s_Model_filter_14 ?_
    refine s_Model_filter_19 (fun z => absurd z (by decide)) (fun z_784 => ?_)
    refine s_Model_filter_24 ?_
    have hk_785 : kdP fa asz p = 11 := ((rk_iff _ (kdP_le fa asz p)).2.2.2.2.2.1).mp ((nI_eq (b := 6) (by have := rk_le _ (kdP_le fa asz p); omega) (by decide)).mp z_2)
    have hE_798 := HY (by rw [hk_785]; decide)
    rw [hE_798] at g_to
    refine x_callV (As := []) (b := m) (rest := []) (F1 := 4) (L1 := 87) (mc := 0) (ms := 0) d_Model_filter_25 cV_Model_257 (f_nextH (x0 := (skP fa asz p)) l e g_at g_kind g_from g_to g_askedSize g_asked e_asked (by rw [← hE_798]; exact PT.2.1) hasz (by omega) (by omega)) e ⟨by decide, rfl⟩ ⟨by omega, by show 8 + (1 + 11) + 87 ≤ _; omega⟩ ⟨by omega, by omega⟩ (Nat.le_of_ble_eq_true rfl) (fun v_800 h_799 p_801 => ?_)
    obtain ⟨rfl, y_786, fs_787, PT_788, HY_789, l_790, e_791, g_792, g_793, g_794, g_795, ga_796, r_797⟩ := p_801
    have e_802 := r_797 asked_ _ (by simp only [List.mem_cons, List.not_mem_nil, or_false, not_or]; exact (xw_neC e_asked e (by simp))) e_asked
    have e_803 := r_797 top_ _ (by simp only [List.mem_cons, List.not_mem_nil, or_false, not_or]; exact (xw_neC e_top e (by simp))) e_top
    have e_804 := r_797 masks_ _ (by simp only [List.mem_cons, List.not_mem_nil, or_false, not_or]; exact (xw_neC e_masks e (by simp))) e_masks
    have r_805 := r0.trans (r_797.mono (by simp))
    have g_806 : fs_787[(33 : Nat)]? = some (.int bd) := (ga_796 33 (by decide)).trans g_bad
    have g_807 : fs_787[(38 : Nat)]? = some (.int (nI st.length)) := (ga_796 38 (by decide)).trans g_tops
    have g_808 : fs_787[(39 : Nat)]? = some (.int (nI mk)) := (ga_796 39 (by decide)).trans g_mask
    have g_809 : fs_787[(11 : Nat)]? = some (.int (nI asz)) := (ga_796 11 (by decide)).trans g_askedSize
    have g_810 : fs_787[(4 : Nat)]? = some (.ref asked_) := (ga_796 4 (by decide)).trans g_asked
    have g_811 : fs_787[(51 : Nat)]? = some (.ref top_) := (ga_796 51 (by decide)).trans g_top
    have g_812 : fs_787[(52 : Nat)]? = some (.ref masks_) := (ga_796 52 (by decide)).trans g_masks
    have ga_813 : ∀ i : Nat, i ∉ [28, 29, 30, 31, 33, 38, 39] → fs_787[i]? = fs[i]? := fun i hi => (ga_796 i (fun z => hi (by simp only [List.mem_cons, List.not_mem_nil, or_false] at z ⊢; omega))).trans (ga0 i hi)
    have RQ_814 := RQ.next (by rw [hk_785]; decide) (by rw [hk_785]; decide)
    have hb_815 := Nat.le_trans PT_788.1 PT_788.2.1
    refine s_Model_filter_28 ?_
    refine x_callV (As := []) (b := m) (rest := []) (F1 := 2) (L1 := 41) (mc := 0) (ms := 0) d_Model_filter_29 cV_Model_237 (f_isFilterH (pp := (skP fa asz p)) l_790 e_791 g_793 g_795 g_809 g_810 e_802 (by have := PT_788.2.1; omega) hasz HY_789 (by omega) (by omega)) e_791 ⟨by decide, rfl⟩ ⟨by omega, by show 8 + (1 + 11) + 41 ≤ _; omega⟩ ⟨by omega, by omega⟩ (Nat.le_of_ble_eq_true rfl) (fun v_819 h_818 p_820 => ?_)
    obtain ⟨⟨c_816, rfl, hc_817⟩, rfl⟩ := p_820
    refine s_Model_filter_32 (fun z_821 => ?_) (fun z_822 => ?_)
    · skip
      refine s_Model_filter_78 ?_
      refine s_Model_filter_79 (fun z => absurd z (by decide)) (fun z_823 => ?_)
      refine s_Model_filter_85 ?_
      refine s_Model_filter_90 l_790 e_791 g_794 ?_
      have hs_824 := (hc_817.resolve_right (fun q => absurd (q.1.symm.trans z_821) (by decide))).2
      have hN_825 := flN_n hs_824
      refine x_callV (As := [.int 1, .int (nI (bl fa asz (skP fa asz p)))]) (b := m) (rest := []) (F1 := 1) (L1 := 20) (mc := 0) (ms := 0) d_Model_filter_94 cV_Model_250 (f_wrongsH (k := bl fa asz (skP fa asz p)) l_790 e_791 g_806 (by omega) (by omega) (by omega)) e_791 ⟨by decide, rfl⟩ ⟨by omega, by show 8 + (3 + 11) + 20 ≤ _; omega⟩ ⟨by omega, by omega⟩ (Nat.le_of_ble_eq_true rfl) (fun v_837 h_836 p_838 => ?_)
      obtain ⟨rfl, bd_826, fs_827, hw_828, hw_829, hw_830, l_831, e_832, g_833, ga_834, r_835⟩ := p_838
      have e_839 := r_835 asked_ _ (by simp only [List.mem_cons, List.not_mem_nil, or_false, not_or]; exact (xw_neC e_802 e_791 (by simp))) e_802
      have e_840 := r_835 top_ _ (by simp only [List.mem_cons, List.not_mem_nil, or_false, not_or]; exact (xw_neC e_803 e_791 (by simp))) e_803
      have e_841 := r_835 masks_ _ (by simp only [List.mem_cons, List.not_mem_nil, or_false, not_or]; exact (xw_neC e_804 e_791 (by simp))) e_804
      have r_842 := r_805.trans (r_835.mono (by simp))
      have g_843 : fs_827[(38 : Nat)]? = some (.int (nI st.length)) := (ga_834 38 (by decide)).trans g_807
      have g_844 : fs_827[(39 : Nat)]? = some (.int (nI mk)) := (ga_834 39 (by decide)).trans g_808
      have g_845 : fs_827[(11 : Nat)]? = some (.int (nI asz)) := (ga_834 11 (by decide)).trans g_809
      have g_846 : fs_827[(4 : Nat)]? = some (.ref asked_) := (ga_834 4 (by decide)).trans g_810
      have g_847 : fs_827[(51 : Nat)]? = some (.ref top_) := (ga_834 51 (by decide)).trans g_811
      have g_848 : fs_827[(52 : Nat)]? = some (.ref masks_) := (ga_834 52 (by decide)).trans g_812
      have g_849 : fs_827[(28 : Nat)]? = some (.int (nI (bl fa asz (skP fa asz p)))) := (ga_834 28 (by decide)).trans g_792
      have g_850 : fs_827[(29 : Nat)]? = some (.int (nI (rkd (kdP fa asz (skP fa asz p))))) := (ga_834 29 (by decide)).trans g_793
      have g_851 : fs_827[(30 : Nat)]? = some (.int (nI (bl fa asz (skP fa asz p)))) := (ga_834 30 (by decide)).trans g_794
      have g_852 : fs_827[(31 : Nat)]? = some (.int (nI y_786)) := (ga_834 31 (by decide)).trans g_795
      have ga_853 : ∀ i : Nat, i ∉ [28, 29, 30, 31, 33, 38, 39] → fs_827[i]? = fs[i]? := fun i hi => (ga_834 i (fun z => hi (by simp only [List.mem_cons, List.not_mem_nil, or_false] at z ⊢; omega))).trans (ga_813 i hi)
      have hb_854 : ¬ bd_826 < 0 := hw_829 (by decide)
      have hb_855 : 0 ≤ bd_826 := Int32.not_lt.mp hb_854
      refine s_Model_filter_97 ?_
      refine x_callV (As := []) (b := m) (rest := [.ref m]) (F1 := 1) (L1 := 20) (mc := 0) (ms := 0) d_Model_filter_99 cV_Model_288 (f_depth (n := st.length) l_831 e_832 g_843 g_847 e_840 (by omega) (by omega) (by omega)) e_832 ⟨by decide, rfl⟩ ⟨by omega, by show 8 + (3 + 11) + 20 ≤ _; omega⟩ ⟨by omega, by omega⟩ (Nat.le_of_ble_eq_true rfl) (fun v_857 h_856 p_858 => ?_)
      obtain ⟨rfl, rfl⟩ := p_858
      rw [cntD_dep ST]
      refine s_Model_filter_102 (fun z_859 => ?_) (fun z_860 => ?_)
      · skip
        refine s_Model_filter_111 ?_
        refine s_Model_filter_112 ?_
        refine x_callV (As := [.int 0, .int (nI (bl fa asz p))]) (b := m) (rest := []) (F1 := 1) (L1 := 20) (mc := 0) (ms := 0) d_Model_filter_113 cV_Model_250 (f_wrongsH (k := bl fa asz p) l_831 e_832 g_833 (by omega) (by omega) (by omega)) e_832 ⟨by decide, rfl⟩ ⟨by omega, by show 8 + (3 + 11) + 20 ≤ _; omega⟩ ⟨by omega, by omega⟩ (Nat.le_of_ble_eq_true rfl) (fun v_872 h_871 p_873 => ?_)
        obtain ⟨rfl, bd_861, fs_862, hw_863, hw_864, hw_865, l_866, e_867, g_868, ga_869, r_870⟩ := p_873
        have e_874 := r_870 asked_ _ (by simp only [List.mem_cons, List.not_mem_nil, or_false, not_or]; exact (xw_neC e_839 e_832 (by simp))) e_839
        have e_875 := r_870 top_ _ (by simp only [List.mem_cons, List.not_mem_nil, or_false, not_or]; exact (xw_neC e_840 e_832 (by simp))) e_840
        have e_876 := r_870 masks_ _ (by simp only [List.mem_cons, List.not_mem_nil, or_false, not_or]; exact (xw_neC e_841 e_832 (by simp))) e_841
        have r_877 := r_842.trans (r_870.mono (by simp))
        have g_878 : fs_862[(38 : Nat)]? = some (.int (nI st.length)) := (ga_869 38 (by decide)).trans g_843
        have g_879 : fs_862[(39 : Nat)]? = some (.int (nI mk)) := (ga_869 39 (by decide)).trans g_844
        have g_880 : fs_862[(11 : Nat)]? = some (.int (nI asz)) := (ga_869 11 (by decide)).trans g_845
        have g_881 : fs_862[(4 : Nat)]? = some (.ref asked_) := (ga_869 4 (by decide)).trans g_846
        have g_882 : fs_862[(51 : Nat)]? = some (.ref top_) := (ga_869 51 (by decide)).trans g_847
        have g_883 : fs_862[(52 : Nat)]? = some (.ref masks_) := (ga_869 52 (by decide)).trans g_848
        have g_884 : fs_862[(28 : Nat)]? = some (.int (nI (bl fa asz (skP fa asz p)))) := (ga_869 28 (by decide)).trans g_849
        have g_885 : fs_862[(29 : Nat)]? = some (.int (nI (rkd (kdP fa asz (skP fa asz p))))) := (ga_869 29 (by decide)).trans g_850
        have g_886 : fs_862[(30 : Nat)]? = some (.int (nI (bl fa asz (skP fa asz p)))) := (ga_869 30 (by decide)).trans g_851
        have g_887 : fs_862[(31 : Nat)]? = some (.int (nI y_786)) := (ga_869 31 (by decide)).trans g_852
        have ga_888 : ∀ i : Nat, i ∉ [28, 29, 30, 31, 33, 38, 39] → fs_862[i]? = fs[i]? := fun i hi => (ga_869 i (fun z => hi (by simp only [List.mem_cons, List.not_mem_nil, or_false] at z ⊢; omega))).trans (ga_853 i hi)
        have hb_889 : ¬ bd_861 < 0 := by rw [hw_865 hb_854]; exact hb_854
        have hb_890 : 0 ≤ bd_861 := Int32.not_lt.mp hb_889
        refine x_le (xw_le_s (xw_le_n (xw_le_s (xw_le_n xw_le_e)))) ?_
        refine s_Model_filter_116 l_866 e_867 g_868 (fun z => absurd z hb_889) (fun z_891 => ?_)
        refine s_Model_filter_123 ?_
        have hd_892 : ¬ depS st = 8 := fun q => z_859 (by rw [q]; rfl)
        exact ⟨rfl, _, _, _, _, l_866, e_867, g_868, ga_888, e_875, e_876, r_877, Or.inl ⟨Or.inl (fp_1n hk_785 hN_825), hb_889, (fun i9 hi9 => by simp only [List.mem_cons, List.not_mem_nil, or_false] at hi9; rcases hi9 with rfl | rfl | rfl | rfl | rfl <;> first | exact ⟨_, g_884⟩ | exact ⟨_, g_885⟩ | exact ⟨_, g_886⟩ | exact ⟨_, g_887⟩ | exact ⟨_, g_879⟩), g_878⟩⟩
      · skip
        refine s_Model_filter_107 ?_
        refine s_Model_filter_112 ?_
        refine x_callV (As := [.int 1, .int (nI (bl fa asz p))]) (b := m) (rest := []) (F1 := 1) (L1 := 20) (mc := 0) (ms := 0) d_Model_filter_113 cV_Model_250 (f_wrongsH (k := bl fa asz p) l_831 e_832 g_833 (by omega) (by omega) (by omega)) e_832 ⟨by decide, rfl⟩ ⟨by omega, by show 8 + (3 + 11) + 20 ≤ _; omega⟩ ⟨by omega, by omega⟩ (Nat.le_of_ble_eq_true rfl) (fun v_904 h_903 p_905 => ?_)
        obtain ⟨rfl, bd_893, fs_894, hw_895, hw_896, hw_897, l_898, e_899, g_900, ga_901, r_902⟩ := p_905
        have e_906 := r_902 asked_ _ (by simp only [List.mem_cons, List.not_mem_nil, or_false, not_or]; exact (xw_neC e_839 e_832 (by simp))) e_839
        have e_907 := r_902 top_ _ (by simp only [List.mem_cons, List.not_mem_nil, or_false, not_or]; exact (xw_neC e_840 e_832 (by simp))) e_840
        have e_908 := r_902 masks_ _ (by simp only [List.mem_cons, List.not_mem_nil, or_false, not_or]; exact (xw_neC e_841 e_832 (by simp))) e_841
        have r_909 := r_842.trans (r_902.mono (by simp))
        have g_910 : fs_894[(38 : Nat)]? = some (.int (nI st.length)) := (ga_901 38 (by decide)).trans g_843
        have g_911 : fs_894[(39 : Nat)]? = some (.int (nI mk)) := (ga_901 39 (by decide)).trans g_844
        have g_912 : fs_894[(11 : Nat)]? = some (.int (nI asz)) := (ga_901 11 (by decide)).trans g_845
        have g_913 : fs_894[(4 : Nat)]? = some (.ref asked_) := (ga_901 4 (by decide)).trans g_846
        have g_914 : fs_894[(51 : Nat)]? = some (.ref top_) := (ga_901 51 (by decide)).trans g_847
        have g_915 : fs_894[(52 : Nat)]? = some (.ref masks_) := (ga_901 52 (by decide)).trans g_848
        have g_916 : fs_894[(28 : Nat)]? = some (.int (nI (bl fa asz (skP fa asz p)))) := (ga_901 28 (by decide)).trans g_849
        have g_917 : fs_894[(29 : Nat)]? = some (.int (nI (rkd (kdP fa asz (skP fa asz p))))) := (ga_901 29 (by decide)).trans g_850
        have g_918 : fs_894[(30 : Nat)]? = some (.int (nI (bl fa asz (skP fa asz p)))) := (ga_901 30 (by decide)).trans g_851
        have g_919 : fs_894[(31 : Nat)]? = some (.int (nI y_786)) := (ga_901 31 (by decide)).trans g_852
        have ga_920 : ∀ i : Nat, i ∉ [28, 29, 30, 31, 33, 38, 39] → fs_894[i]? = fs[i]? := fun i hi => (ga_901 i (fun z => hi (by simp only [List.mem_cons, List.not_mem_nil, or_false] at z ⊢; omega))).trans (ga_853 i hi)
        have hb_921 : ¬ bd_893 < 0 := by rw [hw_897 hb_854]; exact hb_854
        have hb_922 : 0 ≤ bd_893 := Int32.not_lt.mp hb_921
        refine x_le (xw_le_s (xw_le_n (xw_le_s (xw_le_n xw_le_e)))) ?_
        refine s_Model_filter_116 l_898 e_899 g_900 (fun z => absurd z hb_921) (fun z_923 => ?_)
        refine s_Model_filter_123 ?_
        have hd_924 : depS st = 8 := (nI_eq (b := 8) (by have := cJ_len st; omega) (by decide)).mp z_860
        exact ⟨rfl, _, _, _, _, l_898, e_899, g_900, ga_920, e_907, e_908, r_909, Or.inl ⟨Or.inl (fp_1n hk_785 hN_825), hb_921, (fun i9 hi9 => by simp only [List.mem_cons, List.not_mem_nil, or_false] at hi9; rcases hi9 with rfl | rfl | rfl | rfl | rfl <;> first | exact ⟨_, g_916⟩ | exact ⟨_, g_917⟩ | exact ⟨_, g_918⟩ | exact ⟨_, g_919⟩ | exact ⟨_, g_911⟩), g_910⟩⟩
    · skip
      refine s_Model_filter_35 l_790 e_791 g_795 g_794 (fun z_925 => ?_) (fun z_926 => ?_)
      · skip
        refine s_Model_filter_78 ?_
        refine s_Model_filter_79 (fun z => absurd z (by decide)) (fun z_927 => ?_)
        refine s_Model_filter_85 ?_
        refine s_Model_filter_90 l_790 e_791 g_794 ?_
        have hs_928 := (hc_817.resolve_left (fun q => z_822 q.1)).2
        have hE_929 := HY_789 (by rw [hs_928]; decide)
        have kw9 := kd_w (Or.inr hs_928)
        have hz_931 := z_925
        rw [hE_929, pk_sub (by omega)] at hz_931
        have hl_930 : ¬ skP fa asz (skP fa asz p) = bl fa asz (skP fa asz p) + 1 := fun q => hz_931 (by rw [show skP fa asz (skP fa asz p) - bl fa asz (skP fa asz p) = 1 by omega]; rfl)
        have hN_932 := flN_c (fun q => hl_930 q.1)
        refine x_callV (As := [.int 1, .int (nI (bl fa asz (skP fa asz p)))]) (b := m) (rest := []) (F1 := 1) (L1 := 20) (mc := 0) (ms := 0) d_Model_filter_94 cV_Model_250 (f_wrongsH (k := bl fa asz (skP fa asz p)) l_790 e_791 g_806 (by omega) (by omega) (by omega)) e_791 ⟨by decide, rfl⟩ ⟨by omega, by show 8 + (3 + 11) + 20 ≤ _; omega⟩ ⟨by omega, by omega⟩ (Nat.le_of_ble_eq_true rfl) (fun v_944 h_943 p_945 => ?_)
        obtain ⟨rfl, bd_933, fs_934, hw_935, hw_936, hw_937, l_938, e_939, g_940, ga_941, r_942⟩ := p_945
        have e_946 := r_942 asked_ _ (by simp only [List.mem_cons, List.not_mem_nil, or_false, not_or]; exact (xw_neC e_802 e_791 (by simp))) e_802
        have e_947 := r_942 top_ _ (by simp only [List.mem_cons, List.not_mem_nil, or_false, not_or]; exact (xw_neC e_803 e_791 (by simp))) e_803
        have e_948 := r_942 masks_ _ (by simp only [List.mem_cons, List.not_mem_nil, or_false, not_or]; exact (xw_neC e_804 e_791 (by simp))) e_804
        have r_949 := r_805.trans (r_942.mono (by simp))
        have g_950 : fs_934[(38 : Nat)]? = some (.int (nI st.length)) := (ga_941 38 (by decide)).trans g_807
        have g_951 : fs_934[(39 : Nat)]? = some (.int (nI mk)) := (ga_941 39 (by decide)).trans g_808
        have g_952 : fs_934[(11 : Nat)]? = some (.int (nI asz)) := (ga_941 11 (by decide)).trans g_809
        have g_953 : fs_934[(4 : Nat)]? = some (.ref asked_) := (ga_941 4 (by decide)).trans g_810
        have g_954 : fs_934[(51 : Nat)]? = some (.ref top_) := (ga_941 51 (by decide)).trans g_811
        have g_955 : fs_934[(52 : Nat)]? = some (.ref masks_) := (ga_941 52 (by decide)).trans g_812
        have g_956 : fs_934[(28 : Nat)]? = some (.int (nI (bl fa asz (skP fa asz p)))) := (ga_941 28 (by decide)).trans g_792
        have g_957 : fs_934[(29 : Nat)]? = some (.int (nI (rkd (kdP fa asz (skP fa asz p))))) := (ga_941 29 (by decide)).trans g_793
        have g_958 : fs_934[(30 : Nat)]? = some (.int (nI (bl fa asz (skP fa asz p)))) := (ga_941 30 (by decide)).trans g_794
        have g_959 : fs_934[(31 : Nat)]? = some (.int (nI y_786)) := (ga_941 31 (by decide)).trans g_795
        have ga_960 : ∀ i : Nat, i ∉ [28, 29, 30, 31, 33, 38, 39] → fs_934[i]? = fs[i]? := fun i hi => (ga_941 i (fun z => hi (by simp only [List.mem_cons, List.not_mem_nil, or_false] at z ⊢; omega))).trans (ga_813 i hi)
        have hb_961 : ¬ bd_933 < 0 := hw_936 (by decide)
        have hb_962 : 0 ≤ bd_933 := Int32.not_lt.mp hb_961
        refine s_Model_filter_97 ?_
        refine x_callV (As := []) (b := m) (rest := [.ref m]) (F1 := 1) (L1 := 20) (mc := 0) (ms := 0) d_Model_filter_99 cV_Model_288 (f_depth (n := st.length) l_938 e_939 g_950 g_954 e_947 (by omega) (by omega) (by omega)) e_939 ⟨by decide, rfl⟩ ⟨by omega, by show 8 + (3 + 11) + 20 ≤ _; omega⟩ ⟨by omega, by omega⟩ (Nat.le_of_ble_eq_true rfl) (fun v_964 h_963 p_965 => ?_)
        obtain ⟨rfl, rfl⟩ := p_965
        rw [cntD_dep ST]
        refine s_Model_filter_102 (fun z_966 => ?_) (fun z_967 => ?_)
        · skip
          refine s_Model_filter_111 ?_
          refine s_Model_filter_112 ?_
          refine x_callV (As := [.int 0, .int (nI (bl fa asz p))]) (b := m) (rest := []) (F1 := 1) (L1 := 20) (mc := 0) (ms := 0) d_Model_filter_113 cV_Model_250 (f_wrongsH (k := bl fa asz p) l_938 e_939 g_940 (by omega) (by omega) (by omega)) e_939 ⟨by decide, rfl⟩ ⟨by omega, by show 8 + (3 + 11) + 20 ≤ _; omega⟩ ⟨by omega, by omega⟩ (Nat.le_of_ble_eq_true rfl) (fun v_979 h_978 p_980 => ?_)
          obtain ⟨rfl, bd_968, fs_969, hw_970, hw_971, hw_972, l_973, e_974, g_975, ga_976, r_977⟩ := p_980
          have e_981 := r_977 asked_ _ (by simp only [List.mem_cons, List.not_mem_nil, or_false, not_or]; exact (xw_neC e_946 e_939 (by simp))) e_946
          have e_982 := r_977 top_ _ (by simp only [List.mem_cons, List.not_mem_nil, or_false, not_or]; exact (xw_neC e_947 e_939 (by simp))) e_947
          have e_983 := r_977 masks_ _ (by simp only [List.mem_cons, List.not_mem_nil, or_false, not_or]; exact (xw_neC e_948 e_939 (by simp))) e_948
          have r_984 := r_949.trans (r_977.mono (by simp))
          have g_985 : fs_969[(38 : Nat)]? = some (.int (nI st.length)) := (ga_976 38 (by decide)).trans g_950
          have g_986 : fs_969[(39 : Nat)]? = some (.int (nI mk)) := (ga_976 39 (by decide)).trans g_951
          have g_987 : fs_969[(11 : Nat)]? = some (.int (nI asz)) := (ga_976 11 (by decide)).trans g_952
          have g_988 : fs_969[(4 : Nat)]? = some (.ref asked_) := (ga_976 4 (by decide)).trans g_953
          have g_989 : fs_969[(51 : Nat)]? = some (.ref top_) := (ga_976 51 (by decide)).trans g_954
          have g_990 : fs_969[(52 : Nat)]? = some (.ref masks_) := (ga_976 52 (by decide)).trans g_955
          have g_991 : fs_969[(28 : Nat)]? = some (.int (nI (bl fa asz (skP fa asz p)))) := (ga_976 28 (by decide)).trans g_956
          have g_992 : fs_969[(29 : Nat)]? = some (.int (nI (rkd (kdP fa asz (skP fa asz p))))) := (ga_976 29 (by decide)).trans g_957
          have g_993 : fs_969[(30 : Nat)]? = some (.int (nI (bl fa asz (skP fa asz p)))) := (ga_976 30 (by decide)).trans g_958
          have g_994 : fs_969[(31 : Nat)]? = some (.int (nI y_786)) := (ga_976 31 (by decide)).trans g_959
          have ga_995 : ∀ i : Nat, i ∉ [28, 29, 30, 31, 33, 38, 39] → fs_969[i]? = fs[i]? := fun i hi => (ga_976 i (fun z => hi (by simp only [List.mem_cons, List.not_mem_nil, or_false] at z ⊢; omega))).trans (ga_960 i hi)
          have hb_996 : ¬ bd_968 < 0 := by rw [hw_972 hb_961]; exact hb_961
          have hb_997 : 0 ≤ bd_968 := Int32.not_lt.mp hb_996
          refine x_le (xw_le_s (xw_le_n (xw_le_s (xw_le_n xw_le_e)))) ?_
          refine s_Model_filter_116 l_973 e_974 g_975 (fun z => absurd z hb_996) (fun z_998 => ?_)
          refine s_Model_filter_123 ?_
          have hd_999 : ¬ depS st = 8 := fun q => z_966 (by rw [q]; rfl)
          exact ⟨rfl, _, _, _, _, l_973, e_974, g_975, ga_995, e_982, e_983, r_984, Or.inl ⟨Or.inl (fp_1n hk_785 hN_932), hb_996, (fun i9 hi9 => by simp only [List.mem_cons, List.not_mem_nil, or_false] at hi9; rcases hi9 with rfl | rfl | rfl | rfl | rfl <;> first | exact ⟨_, g_991⟩ | exact ⟨_, g_992⟩ | exact ⟨_, g_993⟩ | exact ⟨_, g_994⟩ | exact ⟨_, g_986⟩), g_985⟩⟩
        · skip
          refine s_Model_filter_107 ?_
          refine s_Model_filter_112 ?_
          refine x_callV (As := [.int 1, .int (nI (bl fa asz p))]) (b := m) (rest := []) (F1 := 1) (L1 := 20) (mc := 0) (ms := 0) d_Model_filter_113 cV_Model_250 (f_wrongsH (k := bl fa asz p) l_938 e_939 g_940 (by omega) (by omega) (by omega)) e_939 ⟨by decide, rfl⟩ ⟨by omega, by show 8 + (3 + 11) + 20 ≤ _; omega⟩ ⟨by omega, by omega⟩ (Nat.le_of_ble_eq_true rfl) (fun v_1011 h_1010 p_1012 => ?_)
          obtain ⟨rfl, bd_1000, fs_1001, hw_1002, hw_1003, hw_1004, l_1005, e_1006, g_1007, ga_1008, r_1009⟩ := p_1012
          have e_1013 := r_1009 asked_ _ (by simp only [List.mem_cons, List.not_mem_nil, or_false, not_or]; exact (xw_neC e_946 e_939 (by simp))) e_946
          have e_1014 := r_1009 top_ _ (by simp only [List.mem_cons, List.not_mem_nil, or_false, not_or]; exact (xw_neC e_947 e_939 (by simp))) e_947
          have e_1015 := r_1009 masks_ _ (by simp only [List.mem_cons, List.not_mem_nil, or_false, not_or]; exact (xw_neC e_948 e_939 (by simp))) e_948
          have r_1016 := r_949.trans (r_1009.mono (by simp))
          have g_1017 : fs_1001[(38 : Nat)]? = some (.int (nI st.length)) := (ga_1008 38 (by decide)).trans g_950
          have g_1018 : fs_1001[(39 : Nat)]? = some (.int (nI mk)) := (ga_1008 39 (by decide)).trans g_951
          have g_1019 : fs_1001[(11 : Nat)]? = some (.int (nI asz)) := (ga_1008 11 (by decide)).trans g_952
          have g_1020 : fs_1001[(4 : Nat)]? = some (.ref asked_) := (ga_1008 4 (by decide)).trans g_953
          have g_1021 : fs_1001[(51 : Nat)]? = some (.ref top_) := (ga_1008 51 (by decide)).trans g_954
          have g_1022 : fs_1001[(52 : Nat)]? = some (.ref masks_) := (ga_1008 52 (by decide)).trans g_955
          have g_1023 : fs_1001[(28 : Nat)]? = some (.int (nI (bl fa asz (skP fa asz p)))) := (ga_1008 28 (by decide)).trans g_956
          have g_1024 : fs_1001[(29 : Nat)]? = some (.int (nI (rkd (kdP fa asz (skP fa asz p))))) := (ga_1008 29 (by decide)).trans g_957
          have g_1025 : fs_1001[(30 : Nat)]? = some (.int (nI (bl fa asz (skP fa asz p)))) := (ga_1008 30 (by decide)).trans g_958
          have g_1026 : fs_1001[(31 : Nat)]? = some (.int (nI y_786)) := (ga_1008 31 (by decide)).trans g_959
          have ga_1027 : ∀ i : Nat, i ∉ [28, 29, 30, 31, 33, 38, 39] → fs_1001[i]? = fs[i]? := fun i hi => (ga_1008 i (fun z => hi (by simp only [List.mem_cons, List.not_mem_nil, or_false] at z ⊢; omega))).trans (ga_960 i hi)
          have hb_1028 : ¬ bd_1000 < 0 := by rw [hw_1004 hb_961]; exact hb_961
          have hb_1029 : 0 ≤ bd_1000 := Int32.not_lt.mp hb_1028
          refine x_le (xw_le_s (xw_le_n (xw_le_s (xw_le_n xw_le_e)))) ?_
          refine s_Model_filter_116 l_1005 e_1006 g_1007 (fun z => absurd z hb_1028) (fun z_1030 => ?_)
          refine s_Model_filter_123 ?_
          have hd_1031 : depS st = 8 := (nI_eq (b := 8) (by have := cJ_len st; omega) (by decide)).mp z_967
          exact ⟨rfl, _, _, _, _, l_1005, e_1006, g_1007, ga_1027, e_1014, e_1015, r_1016, Or.inl ⟨Or.inl (fp_1n hk_785 hN_932), hb_1028, (fun i9 hi9 => by simp only [List.mem_cons, List.not_mem_nil, or_false] at hi9; rcases hi9 with rfl | rfl | rfl | rfl | rfl <;> first | exact ⟨_, g_1023⟩ | exact ⟨_, g_1024⟩ | exact ⟨_, g_1025⟩ | exact ⟨_, g_1026⟩ | exact ⟨_, g_1018⟩), g_1017⟩⟩
      · skip
        refine s_Model_filter_48 l_790 e_791 g_794 ?_
        refine x_callV (As := [.int (nI (bl fa asz (skP fa asz p)))]) (b := m) (rest := []) (F1 := 1) (L1 := 20) (mc := 0) (ms := 0) d_Model_filter_53 cV_Model_221 (f_q (x := bl fa asz (skP fa asz p)) l_790 e_791 g_809 g_810 e_802 (by omega) (by omega) (by omega) (by omega)) e_791 ⟨by decide, rfl⟩ ⟨by omega, by show 8 + (2 + 11) + 20 ≤ _; omega⟩ ⟨by omega, by omega⟩ (Nat.le_of_ble_eq_true rfl) (fun v_1033 h_1032 p_1034 => ?_)
        obtain ⟨rfl, rfl⟩ := p_1034
        refine s_Model_filter_56 (fun z_1035 => ?_) (fun z_1036 => ?_)
        · skip
          refine s_Model_filter_74 ?_
          refine s_Model_filter_79 (fun z_1037 => ?_) (fun z => absurd z (by decide))
          refine s_Model_filter_89 ?_
          refine s_Model_filter_90 l_790 e_791 g_794 ?_
          have hs_1038 := (hc_817.resolve_left (fun q => z_822 q.1)).2
          have hE_1039 := HY_789 (by rw [hs_1038]; decide)
          have kw9 := kd_w (Or.inr hs_1038)
          have hz_1041 := z_926
          rw [hE_1039, pk_sub (by omega)] at hz_1041
          have hl_1040 : skP fa asz (skP fa asz p) = bl fa asz (skP fa asz p) + 1 := by have := (nI_eq (b := 1) (by omega) (by decide)).mp hz_1041; omega
          have hq_1042 := z_1035
          rw [qv_in (show bl fa asz (skP fa asz p) < asz by omega)] at hq_1042
          have hN_1043 := flN_a hs_1038 hl_1040 hq_1042
          refine x_callV (As := [.int 0, .int (nI (bl fa asz (skP fa asz p)))]) (b := m) (rest := []) (F1 := 1) (L1 := 20) (mc := 0) (ms := 0) d_Model_filter_94 cV_Model_250 (f_wrongsH (k := bl fa asz (skP fa asz p)) l_790 e_791 g_806 (by omega) (by omega) (by omega)) e_791 ⟨by decide, rfl⟩ ⟨by omega, by show 8 + (3 + 11) + 20 ≤ _; omega⟩ ⟨by omega, by omega⟩ (Nat.le_of_ble_eq_true rfl) (fun v_1055 h_1054 p_1056 => ?_)
          obtain ⟨rfl, bd_1044, fs_1045, hw_1046, hw_1047, hw_1048, l_1049, e_1050, g_1051, ga_1052, r_1053⟩ := p_1056
          have e_1057 := r_1053 asked_ _ (by simp only [List.mem_cons, List.not_mem_nil, or_false, not_or]; exact (xw_neC e_802 e_791 (by simp))) e_802
          have e_1058 := r_1053 top_ _ (by simp only [List.mem_cons, List.not_mem_nil, or_false, not_or]; exact (xw_neC e_803 e_791 (by simp))) e_803
          have e_1059 := r_1053 masks_ _ (by simp only [List.mem_cons, List.not_mem_nil, or_false, not_or]; exact (xw_neC e_804 e_791 (by simp))) e_804
          have r_1060 := r_805.trans (r_1053.mono (by simp))
          have g_1061 : fs_1045[(38 : Nat)]? = some (.int (nI st.length)) := (ga_1052 38 (by decide)).trans g_807
          have g_1062 : fs_1045[(39 : Nat)]? = some (.int (nI mk)) := (ga_1052 39 (by decide)).trans g_808
          have g_1063 : fs_1045[(11 : Nat)]? = some (.int (nI asz)) := (ga_1052 11 (by decide)).trans g_809
          have g_1064 : fs_1045[(4 : Nat)]? = some (.ref asked_) := (ga_1052 4 (by decide)).trans g_810
          have g_1065 : fs_1045[(51 : Nat)]? = some (.ref top_) := (ga_1052 51 (by decide)).trans g_811
          have g_1066 : fs_1045[(52 : Nat)]? = some (.ref masks_) := (ga_1052 52 (by decide)).trans g_812
          have g_1067 : fs_1045[(28 : Nat)]? = some (.int (nI (bl fa asz (skP fa asz p)))) := (ga_1052 28 (by decide)).trans g_792
          have g_1068 : fs_1045[(29 : Nat)]? = some (.int (nI (rkd (kdP fa asz (skP fa asz p))))) := (ga_1052 29 (by decide)).trans g_793
          have g_1069 : fs_1045[(30 : Nat)]? = some (.int (nI (bl fa asz (skP fa asz p)))) := (ga_1052 30 (by decide)).trans g_794
          have g_1070 : fs_1045[(31 : Nat)]? = some (.int (nI y_786)) := (ga_1052 31 (by decide)).trans g_795
          have ga_1071 : ∀ i : Nat, i ∉ [28, 29, 30, 31, 33, 38, 39] → fs_1045[i]? = fs[i]? := fun i hi => (ga_1052 i (fun z => hi (by simp only [List.mem_cons, List.not_mem_nil, or_false] at z ⊢; omega))).trans (ga_813 i hi)
          have hb_1072 : bd_1044 < 0 := by rw [hw_1046 rfl]; exact hbd
          have hb_1073 : ¬ 0 ≤ bd_1044 := Int32.not_le.mpr hb_1072
          refine s_Model_filter_97 ?_
          refine x_callV (As := []) (b := m) (rest := [.ref m]) (F1 := 1) (L1 := 20) (mc := 0) (ms := 0) d_Model_filter_99 cV_Model_288 (f_depth (n := st.length) l_1049 e_1050 g_1061 g_1065 e_1058 (by omega) (by omega) (by omega)) e_1050 ⟨by decide, rfl⟩ ⟨by omega, by show 8 + (3 + 11) + 20 ≤ _; omega⟩ ⟨by omega, by omega⟩ (Nat.le_of_ble_eq_true rfl) (fun v_1075 h_1074 p_1076 => ?_)
          obtain ⟨rfl, rfl⟩ := p_1076
          rw [cntD_dep ST]
          refine s_Model_filter_102 (fun z_1077 => ?_) (fun z_1078 => ?_)
          · skip
            refine s_Model_filter_111 ?_
            refine s_Model_filter_112 ?_
            refine x_callV (As := [.int 0, .int (nI (bl fa asz p))]) (b := m) (rest := []) (F1 := 1) (L1 := 20) (mc := 0) (ms := 0) d_Model_filter_113 cV_Model_250 (f_wrongsH (k := bl fa asz p) l_1049 e_1050 g_1051 (by omega) (by omega) (by omega)) e_1050 ⟨by decide, rfl⟩ ⟨by omega, by show 8 + (3 + 11) + 20 ≤ _; omega⟩ ⟨by omega, by omega⟩ (Nat.le_of_ble_eq_true rfl) (fun v_1090 h_1089 p_1091 => ?_)
            obtain ⟨rfl, bd_1079, fs_1080, hw_1081, hw_1082, hw_1083, l_1084, e_1085, g_1086, ga_1087, r_1088⟩ := p_1091
            have e_1092 := r_1088 asked_ _ (by simp only [List.mem_cons, List.not_mem_nil, or_false, not_or]; exact (xw_neC e_1057 e_1050 (by simp))) e_1057
            have e_1093 := r_1088 top_ _ (by simp only [List.mem_cons, List.not_mem_nil, or_false, not_or]; exact (xw_neC e_1058 e_1050 (by simp))) e_1058
            have e_1094 := r_1088 masks_ _ (by simp only [List.mem_cons, List.not_mem_nil, or_false, not_or]; exact (xw_neC e_1059 e_1050 (by simp))) e_1059
            have r_1095 := r_1060.trans (r_1088.mono (by simp))
            have g_1096 : fs_1080[(38 : Nat)]? = some (.int (nI st.length)) := (ga_1087 38 (by decide)).trans g_1061
            have g_1097 : fs_1080[(39 : Nat)]? = some (.int (nI mk)) := (ga_1087 39 (by decide)).trans g_1062
            have g_1098 : fs_1080[(11 : Nat)]? = some (.int (nI asz)) := (ga_1087 11 (by decide)).trans g_1063
            have g_1099 : fs_1080[(4 : Nat)]? = some (.ref asked_) := (ga_1087 4 (by decide)).trans g_1064
            have g_1100 : fs_1080[(51 : Nat)]? = some (.ref top_) := (ga_1087 51 (by decide)).trans g_1065
            have g_1101 : fs_1080[(52 : Nat)]? = some (.ref masks_) := (ga_1087 52 (by decide)).trans g_1066
            have g_1102 : fs_1080[(28 : Nat)]? = some (.int (nI (bl fa asz (skP fa asz p)))) := (ga_1087 28 (by decide)).trans g_1067
            have g_1103 : fs_1080[(29 : Nat)]? = some (.int (nI (rkd (kdP fa asz (skP fa asz p))))) := (ga_1087 29 (by decide)).trans g_1068
            have g_1104 : fs_1080[(30 : Nat)]? = some (.int (nI (bl fa asz (skP fa asz p)))) := (ga_1087 30 (by decide)).trans g_1069
            have g_1105 : fs_1080[(31 : Nat)]? = some (.int (nI y_786)) := (ga_1087 31 (by decide)).trans g_1070
            have ga_1106 : ∀ i : Nat, i ∉ [28, 29, 30, 31, 33, 38, 39] → fs_1080[i]? = fs[i]? := fun i hi => (ga_1087 i (fun z => hi (by simp only [List.mem_cons, List.not_mem_nil, or_false] at z ⊢; omega))).trans (ga_1071 i hi)
            have hb_1107 : bd_1079 < 0 := by rw [hw_1081 rfl]; exact hb_1072
            have hb_1108 : ¬ 0 ≤ bd_1079 := Int32.not_le.mpr hb_1107
            refine x_le (xw_le_s (xw_le_n (xw_le_s (xw_le_n xw_le_e)))) ?_
            refine s_Model_filter_116 l_1084 e_1085 g_1086 (fun z_1109 => ?_) (fun z => absurd hb_1107 z)
            refine s_Model_filter_124 ?_
            refine x_callV (As := [.int 6]) (b := m) (rest := []) (F1 := 1) (L1 := 20) (mc := 0) (ms := 0) d_Model_filter_127 cV_Model_285 (f_pushesH (n := st.length) (mk := mk) l_1084 e_1085 g_1096 g_1097 g_1100 e_1093 g_1101 e_1094 n_top_masks (by omega) (by omega) (by omega)) e_1085 ⟨by decide, rfl⟩ ⟨by omega, by show 8 + (2 + 11) + 20 ≤ _; omega⟩ ⟨by omega, by omega⟩ (Nat.le_of_ble_eq_true rfl) (fun v_1119 h_1118 p_1120 => ?_)
            obtain ⟨rfl, fs_1110, l_1111, e_1112, g_1113, ga_1114, e_1115, e_1116, r_1117⟩ := p_1120
            have e_1121 := r_1117 asked_ _ (by simp only [List.mem_cons, List.not_mem_nil, or_false, not_or]; exact ⟨(xw_neC e_1092 e_1085 (by simp)), (xw_neC e_1092 e_1093 (by simp)), (xw_neC e_1092 e_1094 (by simp))⟩) e_1092
            have r_1122 := r_1095.trans (r_1117.mono (by simp))
            have g_1123 : fs_1110[(39 : Nat)]? = some (.int (nI mk)) := (ga_1114 39 (by decide)).trans g_1097
            have g_1124 : fs_1110[(11 : Nat)]? = some (.int (nI asz)) := (ga_1114 11 (by decide)).trans g_1098
            have g_1125 : fs_1110[(4 : Nat)]? = some (.ref asked_) := (ga_1114 4 (by decide)).trans g_1099
            have g_1126 : fs_1110[(51 : Nat)]? = some (.ref top_) := (ga_1114 51 (by decide)).trans g_1100
            have g_1127 : fs_1110[(52 : Nat)]? = some (.ref masks_) := (ga_1114 52 (by decide)).trans g_1101
            have g_1128 : fs_1110[(28 : Nat)]? = some (.int (nI (bl fa asz (skP fa asz p)))) := (ga_1114 28 (by decide)).trans g_1102
            have g_1129 : fs_1110[(29 : Nat)]? = some (.int (nI (rkd (kdP fa asz (skP fa asz p))))) := (ga_1114 29 (by decide)).trans g_1103
            have g_1130 : fs_1110[(30 : Nat)]? = some (.int (nI (bl fa asz (skP fa asz p)))) := (ga_1114 30 (by decide)).trans g_1104
            have g_1131 : fs_1110[(31 : Nat)]? = some (.int (nI y_786)) := (ga_1114 31 (by decide)).trans g_1105
            have g_1132 : fs_1110[(33 : Nat)]? = some (.int bd_1079) := (ga_1114 33 (by decide)).trans g_1086
            have ga_1133 : ∀ i : Nat, i ∉ [28, 29, 30, 31, 33, 38, 39] → fs_1110[i]? = fs[i]? := fun i hi => (ga_1114 i (fun z => hi (by simp only [List.mem_cons, List.not_mem_nil, or_false] at z ⊢; omega))).trans (ga_1106 i hi)
            refine s_Model_filter_130 l_1111 e_1112 g_1123 g_1130 ?_
            refine x_callV (As := [.int (nI (bl fa asz (skP fa asz p)))]) (b := m) (rest := [.int (nI mk), .ref m]) (F1 := 1) (L1 := 20) (mc := 0) (ms := 0) d_Model_filter_140 cV_Model_221 (f_q (x := bl fa asz (skP fa asz p)) l_1111 e_1112 g_1124 g_1125 e_1121 (by omega) (by omega) (by omega) (by omega)) e_1112 ⟨by decide, rfl⟩ ⟨by omega, by show 8 + (2 + 11) + 20 ≤ _; omega⟩ ⟨by omega, by omega⟩ (Nat.le_of_ble_eq_true rfl) (fun v_1135 h_1134 p_1136 => ?_)
            obtain ⟨rfl, rfl⟩ := p_1136
            refine s_Model_filter_143 (fun z => absurd z_1035 z) (fun z_1137 => ?_)
            refine s_Model_filter_148 ?_
            refine s_Model_filter_153 (fun z_1138 => ?_) (fun z => absurd z (by decide))
            refine s_Model_filter_161 ?_
            refine s_Model_filter_162 l_1111 e_1112 ?_
            refine x_u1 (fun h_1139 e_1140 f_1141 => ?_)
            have e_1142 := (f_1141 asked_ (xw_neC e_1121 e_1112 (by simp))).trans e_1121
            have e_1143 := (f_1141 top_ (xw_neC e_1115 e_1112 (by simp))).trans e_1115
            have e_1144 := (f_1141 masks_ (xw_neC e_1116 e_1112 (by simp))).trans e_1116
            have r_1145 := r_1122.up (by simp) f_1141
            obtain ⟨fs_1146, z_1147⟩ : ∃ z, z = fs_1110.set 39 (.int ((nI mk) &&& 2)) := ⟨_, rfl⟩
            rw [← z_1147] at e_1140
            have l_1148 : fs_1146.length = 62 := by rw [z_1147]; simp only [List.length_set]; exact l_1111
            have g_1149 : fs_1146[(4 : Nat)]? = some (.ref asked_) := by rw [z_1147]; exact (xw_gn (by decide) g_1125)
            have g_1150 : fs_1146[(11 : Nat)]? = some (.int (nI asz)) := by rw [z_1147]; exact (xw_gn (by decide) g_1124)
            have g_1151 : fs_1146[(28 : Nat)]? = some (.int (nI (bl fa asz (skP fa asz p)))) := by rw [z_1147]; exact (xw_gn (by decide) g_1128)
            have g_1152 : fs_1146[(29 : Nat)]? = some (.int (nI (rkd (kdP fa asz (skP fa asz p))))) := by rw [z_1147]; exact (xw_gn (by decide) g_1129)
            have g_1153 : fs_1146[(30 : Nat)]? = some (.int (nI (bl fa asz (skP fa asz p)))) := by rw [z_1147]; exact (xw_gn (by decide) g_1130)
            have g_1154 : fs_1146[(31 : Nat)]? = some (.int (nI y_786)) := by rw [z_1147]; exact (xw_gn (by decide) g_1131)
            have g_1155 : fs_1146[(33 : Nat)]? = some (.int bd_1079) := by rw [z_1147]; exact (xw_gn (by decide) g_1132)
            have g_1156 : fs_1146[(38 : Nat)]? = some (.int (nI (st.length + 1))) := by rw [z_1147]; exact (xw_gn (by decide) g_1113)
            have g_1157 : fs_1146[(39 : Nat)]? = some (.int ((nI mk) &&& 2)) := by rw [z_1147]; exact (xw_gs (by simp [l_1111]))
            have g_1158 : fs_1146[(51 : Nat)]? = some (.ref top_) := by rw [z_1147]; exact (xw_gn (by decide) g_1126)
            have g_1159 : fs_1146[(52 : Nat)]? = some (.ref masks_) := by rw [z_1147]; exact (xw_gn (by decide) g_1127)
            have ga_1160 : ∀ i : Nat, i ∉ [28, 29, 30, 31, 33, 38, 39] → fs_1146[i]? = fs[i]? := fun i hi => by rw [z_1147]; exact xw_gn (fun z => hi (by rw [z]; simp)) (ga_1133 i hi)
            clear z_1147
            have hE_1173 := HY_789 (by rw [hs_1038]; decide)
            rw [hE_1173] at g_1154
            refine x_callV (As := []) (b := m) (rest := []) (F1 := 4) (L1 := 87) (mc := 0) (ms := 0) d_Model_filter_167 cV_Model_257 (f_nextH (x0 := (skP fa asz (skP fa asz p))) l_1148 e_1140 g_1151 g_1152 g_1153 g_1154 g_1150 g_1149 e_1142 (by rw [← hE_1173]; exact PT_788.2.1) hasz (by omega) (by omega)) e_1140 ⟨by decide, rfl⟩ ⟨by omega, by show 8 + (1 + 11) + 87 ≤ _; omega⟩ ⟨by omega, by omega⟩ (Nat.le_of_ble_eq_true rfl) (fun v_1175 h_1174 p_1176 => ?_)
            obtain ⟨rfl, y_1161, fs_1162, PT_1163, HY_1164, l_1165, e_1166, g_1167, g_1168, g_1169, g_1170, ga_1171, r_1172⟩ := p_1176
            have e_1177 := r_1172 asked_ _ (by simp only [List.mem_cons, List.not_mem_nil, or_false, not_or]; exact (xw_neC e_1142 e_1140 (by simp))) e_1142
            have e_1178 := r_1172 top_ _ (by simp only [List.mem_cons, List.not_mem_nil, or_false, not_or]; exact (xw_neC e_1143 e_1140 (by simp))) e_1143
            have e_1179 := r_1172 masks_ _ (by simp only [List.mem_cons, List.not_mem_nil, or_false, not_or]; exact (xw_neC e_1144 e_1140 (by simp))) e_1144
            have r_1180 := r_1145.trans (r_1172.mono (by simp))
            have g_1181 : fs_1162[(4 : Nat)]? = some (.ref asked_) := (ga_1171 4 (by decide)).trans g_1149
            have g_1182 : fs_1162[(11 : Nat)]? = some (.int (nI asz)) := (ga_1171 11 (by decide)).trans g_1150
            have g_1183 : fs_1162[(33 : Nat)]? = some (.int bd_1079) := (ga_1171 33 (by decide)).trans g_1155
            have g_1184 : fs_1162[(38 : Nat)]? = some (.int (nI (st.length + 1))) := (ga_1171 38 (by decide)).trans g_1156
            have g_1185 : fs_1162[(39 : Nat)]? = some (.int ((nI mk) &&& 2)) := (ga_1171 39 (by decide)).trans g_1157
            have g_1186 : fs_1162[(51 : Nat)]? = some (.ref top_) := (ga_1171 51 (by decide)).trans g_1158
            have g_1187 : fs_1162[(52 : Nat)]? = some (.ref masks_) := (ga_1171 52 (by decide)).trans g_1159
            have ga_1188 : ∀ i : Nat, i ∉ [28, 29, 30, 31, 33, 38, 39] → fs_1162[i]? = fs[i]? := fun i hi => (ga_1171 i (fun z => hi (by simp only [List.mem_cons, List.not_mem_nil, or_false] at z ⊢; omega))).trans (ga_1160 i hi)
            have RQ_1189 := RQ_814.next (by rw [hs_1038]; decide) (by rw [hs_1038]; decide)
            have hb_1190 := Nat.le_trans PT_1163.1 PT_1163.2.1
            refine s_Model_filter_170 ?_
            have hk_1191 := (kd_3 hs_1038).2.2.2.1
            have hE_1204 := HY_1164 (by rw [hk_1191]; decide)
            rw [hE_1204] at g_1170
            refine x_callV (As := []) (b := m) (rest := []) (F1 := 4) (L1 := 87) (mc := 0) (ms := 0) d_Model_filter_171 cV_Model_257 (f_nextH (x0 := (skP fa asz (skP fa asz (skP fa asz p)))) l_1165 e_1166 g_1167 g_1168 g_1169 g_1170 g_1182 g_1181 e_1177 (by rw [← hE_1204]; exact PT_1163.2.1) hasz (by omega) (by omega)) e_1166 ⟨by decide, rfl⟩ ⟨by omega, by show 8 + (1 + 11) + 87 ≤ _; omega⟩ ⟨by omega, by omega⟩ (Nat.le_of_ble_eq_true rfl) (fun v_1206 h_1205 p_1207 => ?_)
            obtain ⟨rfl, y_1192, fs_1193, PT_1194, HY_1195, l_1196, e_1197, g_1198, g_1199, g_1200, g_1201, ga_1202, r_1203⟩ := p_1207
            have e_1208 := r_1203 asked_ _ (by simp only [List.mem_cons, List.not_mem_nil, or_false, not_or]; exact (xw_neC e_1177 e_1166 (by simp))) e_1177
            have e_1209 := r_1203 top_ _ (by simp only [List.mem_cons, List.not_mem_nil, or_false, not_or]; exact (xw_neC e_1178 e_1166 (by simp))) e_1178
            have e_1210 := r_1203 masks_ _ (by simp only [List.mem_cons, List.not_mem_nil, or_false, not_or]; exact (xw_neC e_1179 e_1166 (by simp))) e_1179
            have r_1211 := r_1180.trans (r_1203.mono (by simp))
            have g_1212 : fs_1193[(4 : Nat)]? = some (.ref asked_) := (ga_1202 4 (by decide)).trans g_1181
            have g_1213 : fs_1193[(11 : Nat)]? = some (.int (nI asz)) := (ga_1202 11 (by decide)).trans g_1182
            have g_1214 : fs_1193[(33 : Nat)]? = some (.int bd_1079) := (ga_1202 33 (by decide)).trans g_1183
            have g_1215 : fs_1193[(38 : Nat)]? = some (.int (nI (st.length + 1))) := (ga_1202 38 (by decide)).trans g_1184
            have g_1216 : fs_1193[(39 : Nat)]? = some (.int ((nI mk) &&& 2)) := (ga_1202 39 (by decide)).trans g_1185
            have g_1217 : fs_1193[(51 : Nat)]? = some (.ref top_) := (ga_1202 51 (by decide)).trans g_1186
            have g_1218 : fs_1193[(52 : Nat)]? = some (.ref masks_) := (ga_1202 52 (by decide)).trans g_1187
            have ga_1219 : ∀ i : Nat, i ∉ [28, 29, 30, 31, 33, 38, 39] → fs_1193[i]? = fs[i]? := fun i hi => (ga_1202 i (fun z => hi (by simp only [List.mem_cons, List.not_mem_nil, or_false] at z ⊢; omega))).trans (ga_1188 i hi)
            have RQ_1220 := RQ_1189.next (by rw [hk_1191]; decide) (by rw [hk_1191]; decide)
            have hb_1221 := Nat.le_trans PT_1194.1 PT_1194.2.1
            refine x_le (xw_le_n (xw_le_n (xw_le_n (xw_le_n xw_le_e)))) ?_
            refine s_Model_filter_174 ?_
            have hd_1222 : ¬ depS st = 8 := fun q => z_1077 (by rw [q]; rfl)
            rw [am2 mk hmk] at g_1216
            exact ⟨rfl, _, _, _, _, l_1196, e_1197, g_1214, ga_1219, e_1209, e_1210, r_1211, Or.inr ⟨2, (skP fa asz (skP fa asz (skP fa asz p))), _, fp_1y (s := (p, ph, gr)) hk_785 hN_1043, hd_1222, hb_1107, PT_1194, HY_1195, g_1198, g_1199, g_1200, g_1201, RQ_1220, g_1215, g_1216, ST.push (a := 6) (by omega) (by omega) hmk⟩⟩
          · skip
            refine s_Model_filter_107 ?_
            refine s_Model_filter_112 ?_
            refine x_callV (As := [.int 1, .int (nI (bl fa asz p))]) (b := m) (rest := []) (F1 := 1) (L1 := 20) (mc := 0) (ms := 0) d_Model_filter_113 cV_Model_250 (f_wrongsH (k := bl fa asz p) l_1049 e_1050 g_1051 (by omega) (by omega) (by omega)) e_1050 ⟨by decide, rfl⟩ ⟨by omega, by show 8 + (3 + 11) + 20 ≤ _; omega⟩ ⟨by omega, by omega⟩ (Nat.le_of_ble_eq_true rfl) (fun v_1234 h_1233 p_1235 => ?_)
            obtain ⟨rfl, bd_1223, fs_1224, hw_1225, hw_1226, hw_1227, l_1228, e_1229, g_1230, ga_1231, r_1232⟩ := p_1235
            have e_1236 := r_1232 asked_ _ (by simp only [List.mem_cons, List.not_mem_nil, or_false, not_or]; exact (xw_neC e_1057 e_1050 (by simp))) e_1057
            have e_1237 := r_1232 top_ _ (by simp only [List.mem_cons, List.not_mem_nil, or_false, not_or]; exact (xw_neC e_1058 e_1050 (by simp))) e_1058
            have e_1238 := r_1232 masks_ _ (by simp only [List.mem_cons, List.not_mem_nil, or_false, not_or]; exact (xw_neC e_1059 e_1050 (by simp))) e_1059
            have r_1239 := r_1060.trans (r_1232.mono (by simp))
            have g_1240 : fs_1224[(38 : Nat)]? = some (.int (nI st.length)) := (ga_1231 38 (by decide)).trans g_1061
            have g_1241 : fs_1224[(39 : Nat)]? = some (.int (nI mk)) := (ga_1231 39 (by decide)).trans g_1062
            have g_1242 : fs_1224[(11 : Nat)]? = some (.int (nI asz)) := (ga_1231 11 (by decide)).trans g_1063
            have g_1243 : fs_1224[(4 : Nat)]? = some (.ref asked_) := (ga_1231 4 (by decide)).trans g_1064
            have g_1244 : fs_1224[(51 : Nat)]? = some (.ref top_) := (ga_1231 51 (by decide)).trans g_1065
            have g_1245 : fs_1224[(52 : Nat)]? = some (.ref masks_) := (ga_1231 52 (by decide)).trans g_1066
            have g_1246 : fs_1224[(28 : Nat)]? = some (.int (nI (bl fa asz (skP fa asz p)))) := (ga_1231 28 (by decide)).trans g_1067
            have g_1247 : fs_1224[(29 : Nat)]? = some (.int (nI (rkd (kdP fa asz (skP fa asz p))))) := (ga_1231 29 (by decide)).trans g_1068
            have g_1248 : fs_1224[(30 : Nat)]? = some (.int (nI (bl fa asz (skP fa asz p)))) := (ga_1231 30 (by decide)).trans g_1069
            have g_1249 : fs_1224[(31 : Nat)]? = some (.int (nI y_786)) := (ga_1231 31 (by decide)).trans g_1070
            have ga_1250 : ∀ i : Nat, i ∉ [28, 29, 30, 31, 33, 38, 39] → fs_1224[i]? = fs[i]? := fun i hi => (ga_1231 i (fun z => hi (by simp only [List.mem_cons, List.not_mem_nil, or_false] at z ⊢; omega))).trans (ga_1071 i hi)
            have hb_1251 : ¬ bd_1223 < 0 := hw_1226 (by decide)
            have hb_1252 : 0 ≤ bd_1223 := Int32.not_lt.mp hb_1251
            refine x_le (xw_le_s (xw_le_n (xw_le_s (xw_le_n xw_le_e)))) ?_
            refine s_Model_filter_116 l_1228 e_1229 g_1230 (fun z => absurd z hb_1251) (fun z_1253 => ?_)
            refine s_Model_filter_123 ?_
            have hd_1254 : depS st = 8 := (nI_eq (b := 8) (by have := cJ_len st; omega) (by decide)).mp z_1078
            exact ⟨rfl, _, _, _, _, l_1228, e_1229, g_1230, ga_1250, e_1237, e_1238, r_1239, Or.inl ⟨Or.inr hd_1254, hb_1251, (fun i9 hi9 => by simp only [List.mem_cons, List.not_mem_nil, or_false] at hi9; rcases hi9 with rfl | rfl | rfl | rfl | rfl <;> first | exact ⟨_, g_1246⟩ | exact ⟨_, g_1247⟩ | exact ⟨_, g_1248⟩ | exact ⟨_, g_1249⟩ | exact ⟨_, g_1241⟩), g_1240⟩⟩
        · skip
          refine s_Model_filter_61 l_790 e_791 g_794 ?_
          refine x_callV (As := [.int (nI (bl fa asz (skP fa asz p)))]) (b := m) (rest := []) (F1 := 1) (L1 := 20) (mc := 0) (ms := 0) d_Model_filter_66 cV_Model_221 (f_q (x := bl fa asz (skP fa asz p)) l_790 e_791 g_809 g_810 e_802 (by omega) (by omega) (by omega) (by omega)) e_791 ⟨by decide, rfl⟩ ⟨by omega, by show 8 + (2 + 11) + 20 ≤ _; omega⟩ ⟨by omega, by omega⟩ (Nat.le_of_ble_eq_true rfl) (fun v_1256 h_1255 p_1257 => ?_)
          obtain ⟨rfl, rfl⟩ := p_1257
          refine s_Model_filter_69 (fun z_1258 => ?_) (fun z_1259 => ?_)
          · skip
            refine s_Model_filter_78 ?_
            refine s_Model_filter_79 (fun z => absurd z (by decide)) (fun z_1260 => ?_)
            refine s_Model_filter_85 ?_
            refine s_Model_filter_90 l_790 e_791 g_794 ?_
            have hs_1261 := (hc_817.resolve_left (fun q => z_822 q.1)).2
            have hE_1262 := HY_789 (by rw [hs_1261]; decide)
            have kw9 := kd_w (Or.inr hs_1261)
            have hz_1264 := z_926
            rw [hE_1262, pk_sub (by omega)] at hz_1264
            have hl_1263 : skP fa asz (skP fa asz p) = bl fa asz (skP fa asz p) + 1 := by have := (nI_eq (b := 1) (by omega) (by decide)).mp hz_1264; omega
            have hq_1265 := z_1036
            rw [qv_in (show bl fa asz (skP fa asz p) < asz by omega)] at hq_1265
            have hq_1266 := z_1258
            rw [qv_in (show bl fa asz (skP fa asz p) < asz by omega)] at hq_1266
            have hN_1267 := flN_c (fun q => q.2.elim hq_1265 hq_1266)
            refine x_callV (As := [.int 1, .int (nI (bl fa asz (skP fa asz p)))]) (b := m) (rest := []) (F1 := 1) (L1 := 20) (mc := 0) (ms := 0) d_Model_filter_94 cV_Model_250 (f_wrongsH (k := bl fa asz (skP fa asz p)) l_790 e_791 g_806 (by omega) (by omega) (by omega)) e_791 ⟨by decide, rfl⟩ ⟨by omega, by show 8 + (3 + 11) + 20 ≤ _; omega⟩ ⟨by omega, by omega⟩ (Nat.le_of_ble_eq_true rfl) (fun v_1279 h_1278 p_1280 => ?_)
            obtain ⟨rfl, bd_1268, fs_1269, hw_1270, hw_1271, hw_1272, l_1273, e_1274, g_1275, ga_1276, r_1277⟩ := p_1280
            have e_1281 := r_1277 asked_ _ (by simp only [List.mem_cons, List.not_mem_nil, or_false, not_or]; exact (xw_neC e_802 e_791 (by simp))) e_802
            have e_1282 := r_1277 top_ _ (by simp only [List.mem_cons, List.not_mem_nil, or_false, not_or]; exact (xw_neC e_803 e_791 (by simp))) e_803
            have e_1283 := r_1277 masks_ _ (by simp only [List.mem_cons, List.not_mem_nil, or_false, not_or]; exact (xw_neC e_804 e_791 (by simp))) e_804
            have r_1284 := r_805.trans (r_1277.mono (by simp))
            have g_1285 : fs_1269[(38 : Nat)]? = some (.int (nI st.length)) := (ga_1276 38 (by decide)).trans g_807
            have g_1286 : fs_1269[(39 : Nat)]? = some (.int (nI mk)) := (ga_1276 39 (by decide)).trans g_808
            have g_1287 : fs_1269[(11 : Nat)]? = some (.int (nI asz)) := (ga_1276 11 (by decide)).trans g_809
            have g_1288 : fs_1269[(4 : Nat)]? = some (.ref asked_) := (ga_1276 4 (by decide)).trans g_810
            have g_1289 : fs_1269[(51 : Nat)]? = some (.ref top_) := (ga_1276 51 (by decide)).trans g_811
            have g_1290 : fs_1269[(52 : Nat)]? = some (.ref masks_) := (ga_1276 52 (by decide)).trans g_812
            have g_1291 : fs_1269[(28 : Nat)]? = some (.int (nI (bl fa asz (skP fa asz p)))) := (ga_1276 28 (by decide)).trans g_792
            have g_1292 : fs_1269[(29 : Nat)]? = some (.int (nI (rkd (kdP fa asz (skP fa asz p))))) := (ga_1276 29 (by decide)).trans g_793
            have g_1293 : fs_1269[(30 : Nat)]? = some (.int (nI (bl fa asz (skP fa asz p)))) := (ga_1276 30 (by decide)).trans g_794
            have g_1294 : fs_1269[(31 : Nat)]? = some (.int (nI y_786)) := (ga_1276 31 (by decide)).trans g_795
            have ga_1295 : ∀ i : Nat, i ∉ [28, 29, 30, 31, 33, 38, 39] → fs_1269[i]? = fs[i]? := fun i hi => (ga_1276 i (fun z => hi (by simp only [List.mem_cons, List.not_mem_nil, or_false] at z ⊢; omega))).trans (ga_813 i hi)
            have hb_1296 : ¬ bd_1268 < 0 := hw_1271 (by decide)
            have hb_1297 : 0 ≤ bd_1268 := Int32.not_lt.mp hb_1296
            refine s_Model_filter_97 ?_
            refine x_callV (As := []) (b := m) (rest := [.ref m]) (F1 := 1) (L1 := 20) (mc := 0) (ms := 0) d_Model_filter_99 cV_Model_288 (f_depth (n := st.length) l_1273 e_1274 g_1285 g_1289 e_1282 (by omega) (by omega) (by omega)) e_1274 ⟨by decide, rfl⟩ ⟨by omega, by show 8 + (3 + 11) + 20 ≤ _; omega⟩ ⟨by omega, by omega⟩ (Nat.le_of_ble_eq_true rfl) (fun v_1299 h_1298 p_1300 => ?_)
            obtain ⟨rfl, rfl⟩ := p_1300
            rw [cntD_dep ST]
            refine s_Model_filter_102 (fun z_1301 => ?_) (fun z_1302 => ?_)
            · skip
              refine s_Model_filter_111 ?_
              refine s_Model_filter_112 ?_
              refine x_callV (As := [.int 0, .int (nI (bl fa asz p))]) (b := m) (rest := []) (F1 := 1) (L1 := 20) (mc := 0) (ms := 0) d_Model_filter_113 cV_Model_250 (f_wrongsH (k := bl fa asz p) l_1273 e_1274 g_1275 (by omega) (by omega) (by omega)) e_1274 ⟨by decide, rfl⟩ ⟨by omega, by show 8 + (3 + 11) + 20 ≤ _; omega⟩ ⟨by omega, by omega⟩ (Nat.le_of_ble_eq_true rfl) (fun v_1314 h_1313 p_1315 => ?_)
              obtain ⟨rfl, bd_1303, fs_1304, hw_1305, hw_1306, hw_1307, l_1308, e_1309, g_1310, ga_1311, r_1312⟩ := p_1315
              have e_1316 := r_1312 asked_ _ (by simp only [List.mem_cons, List.not_mem_nil, or_false, not_or]; exact (xw_neC e_1281 e_1274 (by simp))) e_1281
              have e_1317 := r_1312 top_ _ (by simp only [List.mem_cons, List.not_mem_nil, or_false, not_or]; exact (xw_neC e_1282 e_1274 (by simp))) e_1282
              have e_1318 := r_1312 masks_ _ (by simp only [List.mem_cons, List.not_mem_nil, or_false, not_or]; exact (xw_neC e_1283 e_1274 (by simp))) e_1283
              have r_1319 := r_1284.trans (r_1312.mono (by simp))
              have g_1320 : fs_1304[(38 : Nat)]? = some (.int (nI st.length)) := (ga_1311 38 (by decide)).trans g_1285
              have g_1321 : fs_1304[(39 : Nat)]? = some (.int (nI mk)) := (ga_1311 39 (by decide)).trans g_1286
              have g_1322 : fs_1304[(11 : Nat)]? = some (.int (nI asz)) := (ga_1311 11 (by decide)).trans g_1287
              have g_1323 : fs_1304[(4 : Nat)]? = some (.ref asked_) := (ga_1311 4 (by decide)).trans g_1288
              have g_1324 : fs_1304[(51 : Nat)]? = some (.ref top_) := (ga_1311 51 (by decide)).trans g_1289
              have g_1325 : fs_1304[(52 : Nat)]? = some (.ref masks_) := (ga_1311 52 (by decide)).trans g_1290
              have g_1326 : fs_1304[(28 : Nat)]? = some (.int (nI (bl fa asz (skP fa asz p)))) := (ga_1311 28 (by decide)).trans g_1291
              have g_1327 : fs_1304[(29 : Nat)]? = some (.int (nI (rkd (kdP fa asz (skP fa asz p))))) := (ga_1311 29 (by decide)).trans g_1292
              have g_1328 : fs_1304[(30 : Nat)]? = some (.int (nI (bl fa asz (skP fa asz p)))) := (ga_1311 30 (by decide)).trans g_1293
              have g_1329 : fs_1304[(31 : Nat)]? = some (.int (nI y_786)) := (ga_1311 31 (by decide)).trans g_1294
              have ga_1330 : ∀ i : Nat, i ∉ [28, 29, 30, 31, 33, 38, 39] → fs_1304[i]? = fs[i]? := fun i hi => (ga_1311 i (fun z => hi (by simp only [List.mem_cons, List.not_mem_nil, or_false] at z ⊢; omega))).trans (ga_1295 i hi)
              have hb_1331 : ¬ bd_1303 < 0 := by rw [hw_1307 hb_1296]; exact hb_1296
              have hb_1332 : 0 ≤ bd_1303 := Int32.not_lt.mp hb_1331
              refine x_le (xw_le_s (xw_le_n (xw_le_s (xw_le_n xw_le_e)))) ?_
              refine s_Model_filter_116 l_1308 e_1309 g_1310 (fun z => absurd z hb_1331) (fun z_1333 => ?_)
              refine s_Model_filter_123 ?_
              have hd_1334 : ¬ depS st = 8 := fun q => z_1301 (by rw [q]; rfl)
              exact ⟨rfl, _, _, _, _, l_1308, e_1309, g_1310, ga_1330, e_1317, e_1318, r_1319, Or.inl ⟨Or.inl (fp_1n hk_785 hN_1267), hb_1331, (fun i9 hi9 => by simp only [List.mem_cons, List.not_mem_nil, or_false] at hi9; rcases hi9 with rfl | rfl | rfl | rfl | rfl <;> first | exact ⟨_, g_1326⟩ | exact ⟨_, g_1327⟩ | exact ⟨_, g_1328⟩ | exact ⟨_, g_1329⟩ | exact ⟨_, g_1321⟩), g_1320⟩⟩
            · skip
              refine s_Model_filter_107 ?_
              refine s_Model_filter_112 ?_
              refine x_callV (As := [.int 1, .int (nI (bl fa asz p))]) (b := m) (rest := []) (F1 := 1) (L1 := 20) (mc := 0) (ms := 0) d_Model_filter_113 cV_Model_250 (f_wrongsH (k := bl fa asz p) l_1273 e_1274 g_1275 (by omega) (by omega) (by omega)) e_1274 ⟨by decide, rfl⟩ ⟨by omega, by show 8 + (3 + 11) + 20 ≤ _; omega⟩ ⟨by omega, by omega⟩ (Nat.le_of_ble_eq_true rfl) (fun v_1346 h_1345 p_1347 => ?_)
              obtain ⟨rfl, bd_1335, fs_1336, hw_1337, hw_1338, hw_1339, l_1340, e_1341, g_1342, ga_1343, r_1344⟩ := p_1347
              have e_1348 := r_1344 asked_ _ (by simp only [List.mem_cons, List.not_mem_nil, or_false, not_or]; exact (xw_neC e_1281 e_1274 (by simp))) e_1281
              have e_1349 := r_1344 top_ _ (by simp only [List.mem_cons, List.not_mem_nil, or_false, not_or]; exact (xw_neC e_1282 e_1274 (by simp))) e_1282
              have e_1350 := r_1344 masks_ _ (by simp only [List.mem_cons, List.not_mem_nil, or_false, not_or]; exact (xw_neC e_1283 e_1274 (by simp))) e_1283
              have r_1351 := r_1284.trans (r_1344.mono (by simp))
              have g_1352 : fs_1336[(38 : Nat)]? = some (.int (nI st.length)) := (ga_1343 38 (by decide)).trans g_1285
              have g_1353 : fs_1336[(39 : Nat)]? = some (.int (nI mk)) := (ga_1343 39 (by decide)).trans g_1286
              have g_1354 : fs_1336[(11 : Nat)]? = some (.int (nI asz)) := (ga_1343 11 (by decide)).trans g_1287
              have g_1355 : fs_1336[(4 : Nat)]? = some (.ref asked_) := (ga_1343 4 (by decide)).trans g_1288
              have g_1356 : fs_1336[(51 : Nat)]? = some (.ref top_) := (ga_1343 51 (by decide)).trans g_1289
              have g_1357 : fs_1336[(52 : Nat)]? = some (.ref masks_) := (ga_1343 52 (by decide)).trans g_1290
              have g_1358 : fs_1336[(28 : Nat)]? = some (.int (nI (bl fa asz (skP fa asz p)))) := (ga_1343 28 (by decide)).trans g_1291
              have g_1359 : fs_1336[(29 : Nat)]? = some (.int (nI (rkd (kdP fa asz (skP fa asz p))))) := (ga_1343 29 (by decide)).trans g_1292
              have g_1360 : fs_1336[(30 : Nat)]? = some (.int (nI (bl fa asz (skP fa asz p)))) := (ga_1343 30 (by decide)).trans g_1293
              have g_1361 : fs_1336[(31 : Nat)]? = some (.int (nI y_786)) := (ga_1343 31 (by decide)).trans g_1294
              have ga_1362 : ∀ i : Nat, i ∉ [28, 29, 30, 31, 33, 38, 39] → fs_1336[i]? = fs[i]? := fun i hi => (ga_1343 i (fun z => hi (by simp only [List.mem_cons, List.not_mem_nil, or_false] at z ⊢; omega))).trans (ga_1295 i hi)
              have hb_1363 : ¬ bd_1335 < 0 := by rw [hw_1339 hb_1296]; exact hb_1296
              have hb_1364 : 0 ≤ bd_1335 := Int32.not_lt.mp hb_1363
              refine x_le (xw_le_s (xw_le_n (xw_le_s (xw_le_n xw_le_e)))) ?_
              refine s_Model_filter_116 l_1340 e_1341 g_1342 (fun z => absurd z hb_1363) (fun z_1365 => ?_)
              refine s_Model_filter_123 ?_
              have hd_1366 : depS st = 8 := (nI_eq (b := 8) (by have := cJ_len st; omega) (by decide)).mp z_1302
              exact ⟨rfl, _, _, _, _, l_1340, e_1341, g_1342, ga_1362, e_1349, e_1350, r_1351, Or.inl ⟨Or.inl (fp_1n hk_785 hN_1267), hb_1363, (fun i9 hi9 => by simp only [List.mem_cons, List.not_mem_nil, or_false] at hi9; rcases hi9 with rfl | rfl | rfl | rfl | rfl <;> first | exact ⟨_, g_1358⟩ | exact ⟨_, g_1359⟩ | exact ⟨_, g_1360⟩ | exact ⟨_, g_1361⟩ | exact ⟨_, g_1353⟩), g_1352⟩⟩
          · skip
            refine s_Model_filter_74 ?_
            refine s_Model_filter_79 (fun z_1367 => ?_) (fun z => absurd z (by decide))
            refine s_Model_filter_89 ?_
            refine s_Model_filter_90 l_790 e_791 g_794 ?_
            have hs_1368 := (hc_817.resolve_left (fun q => z_822 q.1)).2
            have hE_1369 := HY_789 (by rw [hs_1368]; decide)
            have kw9 := kd_w (Or.inr hs_1368)
            have hz_1371 := z_926
            rw [hE_1369, pk_sub (by omega)] at hz_1371
            have hl_1370 : skP fa asz (skP fa asz p) = bl fa asz (skP fa asz p) + 1 := by have := (nI_eq (b := 1) (by omega) (by decide)).mp hz_1371; omega
            have hq_1372 := z_1036
            rw [qv_in (show bl fa asz (skP fa asz p) < asz by omega)] at hq_1372
            have hq_1373 := z_1259
            rw [qv_in (show bl fa asz (skP fa asz p) < asz by omega)] at hq_1373
            have hN_1374 := flN_b hs_1368 hl_1370 hq_1373
            refine x_callV (As := [.int 0, .int (nI (bl fa asz (skP fa asz p)))]) (b := m) (rest := []) (F1 := 1) (L1 := 20) (mc := 0) (ms := 0) d_Model_filter_94 cV_Model_250 (f_wrongsH (k := bl fa asz (skP fa asz p)) l_790 e_791 g_806 (by omega) (by omega) (by omega)) e_791 ⟨by decide, rfl⟩ ⟨by omega, by show 8 + (3 + 11) + 20 ≤ _; omega⟩ ⟨by omega, by omega⟩ (Nat.le_of_ble_eq_true rfl) (fun v_1386 h_1385 p_1387 => ?_)
            obtain ⟨rfl, bd_1375, fs_1376, hw_1377, hw_1378, hw_1379, l_1380, e_1381, g_1382, ga_1383, r_1384⟩ := p_1387
            have e_1388 := r_1384 asked_ _ (by simp only [List.mem_cons, List.not_mem_nil, or_false, not_or]; exact (xw_neC e_802 e_791 (by simp))) e_802
            have e_1389 := r_1384 top_ _ (by simp only [List.mem_cons, List.not_mem_nil, or_false, not_or]; exact (xw_neC e_803 e_791 (by simp))) e_803
            have e_1390 := r_1384 masks_ _ (by simp only [List.mem_cons, List.not_mem_nil, or_false, not_or]; exact (xw_neC e_804 e_791 (by simp))) e_804
            have r_1391 := r_805.trans (r_1384.mono (by simp))
            have g_1392 : fs_1376[(38 : Nat)]? = some (.int (nI st.length)) := (ga_1383 38 (by decide)).trans g_807
            have g_1393 : fs_1376[(39 : Nat)]? = some (.int (nI mk)) := (ga_1383 39 (by decide)).trans g_808
            have g_1394 : fs_1376[(11 : Nat)]? = some (.int (nI asz)) := (ga_1383 11 (by decide)).trans g_809
            have g_1395 : fs_1376[(4 : Nat)]? = some (.ref asked_) := (ga_1383 4 (by decide)).trans g_810
            have g_1396 : fs_1376[(51 : Nat)]? = some (.ref top_) := (ga_1383 51 (by decide)).trans g_811
            have g_1397 : fs_1376[(52 : Nat)]? = some (.ref masks_) := (ga_1383 52 (by decide)).trans g_812
            have g_1398 : fs_1376[(28 : Nat)]? = some (.int (nI (bl fa asz (skP fa asz p)))) := (ga_1383 28 (by decide)).trans g_792
            have g_1399 : fs_1376[(29 : Nat)]? = some (.int (nI (rkd (kdP fa asz (skP fa asz p))))) := (ga_1383 29 (by decide)).trans g_793
            have g_1400 : fs_1376[(30 : Nat)]? = some (.int (nI (bl fa asz (skP fa asz p)))) := (ga_1383 30 (by decide)).trans g_794
            have g_1401 : fs_1376[(31 : Nat)]? = some (.int (nI y_786)) := (ga_1383 31 (by decide)).trans g_795
            have ga_1402 : ∀ i : Nat, i ∉ [28, 29, 30, 31, 33, 38, 39] → fs_1376[i]? = fs[i]? := fun i hi => (ga_1383 i (fun z => hi (by simp only [List.mem_cons, List.not_mem_nil, or_false] at z ⊢; omega))).trans (ga_813 i hi)
            have hb_1403 : bd_1375 < 0 := by rw [hw_1377 rfl]; exact hbd
            have hb_1404 : ¬ 0 ≤ bd_1375 := Int32.not_le.mpr hb_1403
            refine s_Model_filter_97 ?_
            refine x_callV (As := []) (b := m) (rest := [.ref m]) (F1 := 1) (L1 := 20) (mc := 0) (ms := 0) d_Model_filter_99 cV_Model_288 (f_depth (n := st.length) l_1380 e_1381 g_1392 g_1396 e_1389 (by omega) (by omega) (by omega)) e_1381 ⟨by decide, rfl⟩ ⟨by omega, by show 8 + (3 + 11) + 20 ≤ _; omega⟩ ⟨by omega, by omega⟩ (Nat.le_of_ble_eq_true rfl) (fun v_1406 h_1405 p_1407 => ?_)
            obtain ⟨rfl, rfl⟩ := p_1407
            rw [cntD_dep ST]
            refine s_Model_filter_102 (fun z_1408 => ?_) (fun z_1409 => ?_)
            · skip
              refine s_Model_filter_111 ?_
              refine s_Model_filter_112 ?_
              refine x_callV (As := [.int 0, .int (nI (bl fa asz p))]) (b := m) (rest := []) (F1 := 1) (L1 := 20) (mc := 0) (ms := 0) d_Model_filter_113 cV_Model_250 (f_wrongsH (k := bl fa asz p) l_1380 e_1381 g_1382 (by omega) (by omega) (by omega)) e_1381 ⟨by decide, rfl⟩ ⟨by omega, by show 8 + (3 + 11) + 20 ≤ _; omega⟩ ⟨by omega, by omega⟩ (Nat.le_of_ble_eq_true rfl) (fun v_1421 h_1420 p_1422 => ?_)
              obtain ⟨rfl, bd_1410, fs_1411, hw_1412, hw_1413, hw_1414, l_1415, e_1416, g_1417, ga_1418, r_1419⟩ := p_1422
              have e_1423 := r_1419 asked_ _ (by simp only [List.mem_cons, List.not_mem_nil, or_false, not_or]; exact (xw_neC e_1388 e_1381 (by simp))) e_1388
              have e_1424 := r_1419 top_ _ (by simp only [List.mem_cons, List.not_mem_nil, or_false, not_or]; exact (xw_neC e_1389 e_1381 (by simp))) e_1389
              have e_1425 := r_1419 masks_ _ (by simp only [List.mem_cons, List.not_mem_nil, or_false, not_or]; exact (xw_neC e_1390 e_1381 (by simp))) e_1390
              have r_1426 := r_1391.trans (r_1419.mono (by simp))
              have g_1427 : fs_1411[(38 : Nat)]? = some (.int (nI st.length)) := (ga_1418 38 (by decide)).trans g_1392
              have g_1428 : fs_1411[(39 : Nat)]? = some (.int (nI mk)) := (ga_1418 39 (by decide)).trans g_1393
              have g_1429 : fs_1411[(11 : Nat)]? = some (.int (nI asz)) := (ga_1418 11 (by decide)).trans g_1394
              have g_1430 : fs_1411[(4 : Nat)]? = some (.ref asked_) := (ga_1418 4 (by decide)).trans g_1395
              have g_1431 : fs_1411[(51 : Nat)]? = some (.ref top_) := (ga_1418 51 (by decide)).trans g_1396
              have g_1432 : fs_1411[(52 : Nat)]? = some (.ref masks_) := (ga_1418 52 (by decide)).trans g_1397
              have g_1433 : fs_1411[(28 : Nat)]? = some (.int (nI (bl fa asz (skP fa asz p)))) := (ga_1418 28 (by decide)).trans g_1398
              have g_1434 : fs_1411[(29 : Nat)]? = some (.int (nI (rkd (kdP fa asz (skP fa asz p))))) := (ga_1418 29 (by decide)).trans g_1399
              have g_1435 : fs_1411[(30 : Nat)]? = some (.int (nI (bl fa asz (skP fa asz p)))) := (ga_1418 30 (by decide)).trans g_1400
              have g_1436 : fs_1411[(31 : Nat)]? = some (.int (nI y_786)) := (ga_1418 31 (by decide)).trans g_1401
              have ga_1437 : ∀ i : Nat, i ∉ [28, 29, 30, 31, 33, 38, 39] → fs_1411[i]? = fs[i]? := fun i hi => (ga_1418 i (fun z => hi (by simp only [List.mem_cons, List.not_mem_nil, or_false] at z ⊢; omega))).trans (ga_1402 i hi)
              have hb_1438 : bd_1410 < 0 := by rw [hw_1412 rfl]; exact hb_1403
              have hb_1439 : ¬ 0 ≤ bd_1410 := Int32.not_le.mpr hb_1438
              refine x_le (xw_le_s (xw_le_n (xw_le_s (xw_le_n xw_le_e)))) ?_
              refine s_Model_filter_116 l_1415 e_1416 g_1417 (fun z_1440 => ?_) (fun z => absurd hb_1438 z)
              refine s_Model_filter_124 ?_
              refine x_callV (As := [.int 6]) (b := m) (rest := []) (F1 := 1) (L1 := 20) (mc := 0) (ms := 0) d_Model_filter_127 cV_Model_285 (f_pushesH (n := st.length) (mk := mk) l_1415 e_1416 g_1427 g_1428 g_1431 e_1424 g_1432 e_1425 n_top_masks (by omega) (by omega) (by omega)) e_1416 ⟨by decide, rfl⟩ ⟨by omega, by show 8 + (2 + 11) + 20 ≤ _; omega⟩ ⟨by omega, by omega⟩ (Nat.le_of_ble_eq_true rfl) (fun v_1450 h_1449 p_1451 => ?_)
              obtain ⟨rfl, fs_1441, l_1442, e_1443, g_1444, ga_1445, e_1446, e_1447, r_1448⟩ := p_1451
              have e_1452 := r_1448 asked_ _ (by simp only [List.mem_cons, List.not_mem_nil, or_false, not_or]; exact ⟨(xw_neC e_1423 e_1416 (by simp)), (xw_neC e_1423 e_1424 (by simp)), (xw_neC e_1423 e_1425 (by simp))⟩) e_1423
              have r_1453 := r_1426.trans (r_1448.mono (by simp))
              have g_1454 : fs_1441[(39 : Nat)]? = some (.int (nI mk)) := (ga_1445 39 (by decide)).trans g_1428
              have g_1455 : fs_1441[(11 : Nat)]? = some (.int (nI asz)) := (ga_1445 11 (by decide)).trans g_1429
              have g_1456 : fs_1441[(4 : Nat)]? = some (.ref asked_) := (ga_1445 4 (by decide)).trans g_1430
              have g_1457 : fs_1441[(51 : Nat)]? = some (.ref top_) := (ga_1445 51 (by decide)).trans g_1431
              have g_1458 : fs_1441[(52 : Nat)]? = some (.ref masks_) := (ga_1445 52 (by decide)).trans g_1432
              have g_1459 : fs_1441[(28 : Nat)]? = some (.int (nI (bl fa asz (skP fa asz p)))) := (ga_1445 28 (by decide)).trans g_1433
              have g_1460 : fs_1441[(29 : Nat)]? = some (.int (nI (rkd (kdP fa asz (skP fa asz p))))) := (ga_1445 29 (by decide)).trans g_1434
              have g_1461 : fs_1441[(30 : Nat)]? = some (.int (nI (bl fa asz (skP fa asz p)))) := (ga_1445 30 (by decide)).trans g_1435
              have g_1462 : fs_1441[(31 : Nat)]? = some (.int (nI y_786)) := (ga_1445 31 (by decide)).trans g_1436
              have g_1463 : fs_1441[(33 : Nat)]? = some (.int bd_1410) := (ga_1445 33 (by decide)).trans g_1417
              have ga_1464 : ∀ i : Nat, i ∉ [28, 29, 30, 31, 33, 38, 39] → fs_1441[i]? = fs[i]? := fun i hi => (ga_1445 i (fun z => hi (by simp only [List.mem_cons, List.not_mem_nil, or_false] at z ⊢; omega))).trans (ga_1437 i hi)
              refine s_Model_filter_130 l_1442 e_1443 g_1454 g_1461 ?_
              refine x_callV (As := [.int (nI (bl fa asz (skP fa asz p)))]) (b := m) (rest := [.int (nI mk), .ref m]) (F1 := 1) (L1 := 20) (mc := 0) (ms := 0) d_Model_filter_140 cV_Model_221 (f_q (x := bl fa asz (skP fa asz p)) l_1442 e_1443 g_1455 g_1456 e_1452 (by omega) (by omega) (by omega) (by omega)) e_1443 ⟨by decide, rfl⟩ ⟨by omega, by show 8 + (2 + 11) + 20 ≤ _; omega⟩ ⟨by omega, by omega⟩ (Nat.le_of_ble_eq_true rfl) (fun v_1466 h_1465 p_1467 => ?_)
              obtain ⟨rfl, rfl⟩ := p_1467
              refine s_Model_filter_143 (fun z_1468 => ?_) (fun z => absurd z z_1036)
              refine s_Model_filter_152 ?_
              refine s_Model_filter_153 (fun z => absurd z (by decide)) (fun z_1469 => ?_)
              refine s_Model_filter_157 ?_
              refine s_Model_filter_162 l_1442 e_1443 ?_
              refine x_u1 (fun h_1470 e_1471 f_1472 => ?_)
              have e_1473 := (f_1472 asked_ (xw_neC e_1452 e_1443 (by simp))).trans e_1452
              have e_1474 := (f_1472 top_ (xw_neC e_1446 e_1443 (by simp))).trans e_1446
              have e_1475 := (f_1472 masks_ (xw_neC e_1447 e_1443 (by simp))).trans e_1447
              have r_1476 := r_1453.up (by simp) f_1472
              obtain ⟨fs_1477, z_1478⟩ : ∃ z, z = fs_1441.set 39 (.int ((nI mk) &&& 1)) := ⟨_, rfl⟩
              rw [← z_1478] at e_1471
              have l_1479 : fs_1477.length = 62 := by rw [z_1478]; simp only [List.length_set]; exact l_1442
              have g_1480 : fs_1477[(4 : Nat)]? = some (.ref asked_) := by rw [z_1478]; exact (xw_gn (by decide) g_1456)
              have g_1481 : fs_1477[(11 : Nat)]? = some (.int (nI asz)) := by rw [z_1478]; exact (xw_gn (by decide) g_1455)
              have g_1482 : fs_1477[(28 : Nat)]? = some (.int (nI (bl fa asz (skP fa asz p)))) := by rw [z_1478]; exact (xw_gn (by decide) g_1459)
              have g_1483 : fs_1477[(29 : Nat)]? = some (.int (nI (rkd (kdP fa asz (skP fa asz p))))) := by rw [z_1478]; exact (xw_gn (by decide) g_1460)
              have g_1484 : fs_1477[(30 : Nat)]? = some (.int (nI (bl fa asz (skP fa asz p)))) := by rw [z_1478]; exact (xw_gn (by decide) g_1461)
              have g_1485 : fs_1477[(31 : Nat)]? = some (.int (nI y_786)) := by rw [z_1478]; exact (xw_gn (by decide) g_1462)
              have g_1486 : fs_1477[(33 : Nat)]? = some (.int bd_1410) := by rw [z_1478]; exact (xw_gn (by decide) g_1463)
              have g_1487 : fs_1477[(38 : Nat)]? = some (.int (nI (st.length + 1))) := by rw [z_1478]; exact (xw_gn (by decide) g_1444)
              have g_1488 : fs_1477[(39 : Nat)]? = some (.int ((nI mk) &&& 1)) := by rw [z_1478]; exact (xw_gs (by simp [l_1442]))
              have g_1489 : fs_1477[(51 : Nat)]? = some (.ref top_) := by rw [z_1478]; exact (xw_gn (by decide) g_1457)
              have g_1490 : fs_1477[(52 : Nat)]? = some (.ref masks_) := by rw [z_1478]; exact (xw_gn (by decide) g_1458)
              have ga_1491 : ∀ i : Nat, i ∉ [28, 29, 30, 31, 33, 38, 39] → fs_1477[i]? = fs[i]? := fun i hi => by rw [z_1478]; exact xw_gn (fun z => hi (by rw [z]; simp)) (ga_1464 i hi)
              clear z_1478
              have hE_1504 := HY_789 (by rw [hs_1368]; decide)
              rw [hE_1504] at g_1485
              refine x_callV (As := []) (b := m) (rest := []) (F1 := 4) (L1 := 87) (mc := 0) (ms := 0) d_Model_filter_167 cV_Model_257 (f_nextH (x0 := (skP fa asz (skP fa asz p))) l_1479 e_1471 g_1482 g_1483 g_1484 g_1485 g_1481 g_1480 e_1473 (by rw [← hE_1504]; exact PT_788.2.1) hasz (by omega) (by omega)) e_1471 ⟨by decide, rfl⟩ ⟨by omega, by show 8 + (1 + 11) + 87 ≤ _; omega⟩ ⟨by omega, by omega⟩ (Nat.le_of_ble_eq_true rfl) (fun v_1506 h_1505 p_1507 => ?_)
              obtain ⟨rfl, y_1492, fs_1493, PT_1494, HY_1495, l_1496, e_1497, g_1498, g_1499, g_1500, g_1501, ga_1502, r_1503⟩ := p_1507
              have e_1508 := r_1503 asked_ _ (by simp only [List.mem_cons, List.not_mem_nil, or_false, not_or]; exact (xw_neC e_1473 e_1471 (by simp))) e_1473
              have e_1509 := r_1503 top_ _ (by simp only [List.mem_cons, List.not_mem_nil, or_false, not_or]; exact (xw_neC e_1474 e_1471 (by simp))) e_1474
              have e_1510 := r_1503 masks_ _ (by simp only [List.mem_cons, List.not_mem_nil, or_false, not_or]; exact (xw_neC e_1475 e_1471 (by simp))) e_1475
              have r_1511 := r_1476.trans (r_1503.mono (by simp))
              have g_1512 : fs_1493[(4 : Nat)]? = some (.ref asked_) := (ga_1502 4 (by decide)).trans g_1480
              have g_1513 : fs_1493[(11 : Nat)]? = some (.int (nI asz)) := (ga_1502 11 (by decide)).trans g_1481
              have g_1514 : fs_1493[(33 : Nat)]? = some (.int bd_1410) := (ga_1502 33 (by decide)).trans g_1486
              have g_1515 : fs_1493[(38 : Nat)]? = some (.int (nI (st.length + 1))) := (ga_1502 38 (by decide)).trans g_1487
              have g_1516 : fs_1493[(39 : Nat)]? = some (.int ((nI mk) &&& 1)) := (ga_1502 39 (by decide)).trans g_1488
              have g_1517 : fs_1493[(51 : Nat)]? = some (.ref top_) := (ga_1502 51 (by decide)).trans g_1489
              have g_1518 : fs_1493[(52 : Nat)]? = some (.ref masks_) := (ga_1502 52 (by decide)).trans g_1490
              have ga_1519 : ∀ i : Nat, i ∉ [28, 29, 30, 31, 33, 38, 39] → fs_1493[i]? = fs[i]? := fun i hi => (ga_1502 i (fun z => hi (by simp only [List.mem_cons, List.not_mem_nil, or_false] at z ⊢; omega))).trans (ga_1491 i hi)
              have RQ_1520 := RQ_814.next (by rw [hs_1368]; decide) (by rw [hs_1368]; decide)
              have hb_1521 := Nat.le_trans PT_1494.1 PT_1494.2.1
              refine s_Model_filter_170 ?_
              have hk_1522 := (kd_3 hs_1368).2.2.2.1
              have hE_1535 := HY_1495 (by rw [hk_1522]; decide)
              rw [hE_1535] at g_1501
              refine x_callV (As := []) (b := m) (rest := []) (F1 := 4) (L1 := 87) (mc := 0) (ms := 0) d_Model_filter_171 cV_Model_257 (f_nextH (x0 := (skP fa asz (skP fa asz (skP fa asz p)))) l_1496 e_1497 g_1498 g_1499 g_1500 g_1501 g_1513 g_1512 e_1508 (by rw [← hE_1535]; exact PT_1494.2.1) hasz (by omega) (by omega)) e_1497 ⟨by decide, rfl⟩ ⟨by omega, by show 8 + (1 + 11) + 87 ≤ _; omega⟩ ⟨by omega, by omega⟩ (Nat.le_of_ble_eq_true rfl) (fun v_1537 h_1536 p_1538 => ?_)
              obtain ⟨rfl, y_1523, fs_1524, PT_1525, HY_1526, l_1527, e_1528, g_1529, g_1530, g_1531, g_1532, ga_1533, r_1534⟩ := p_1538
              have e_1539 := r_1534 asked_ _ (by simp only [List.mem_cons, List.not_mem_nil, or_false, not_or]; exact (xw_neC e_1508 e_1497 (by simp))) e_1508
              have e_1540 := r_1534 top_ _ (by simp only [List.mem_cons, List.not_mem_nil, or_false, not_or]; exact (xw_neC e_1509 e_1497 (by simp))) e_1509
              have e_1541 := r_1534 masks_ _ (by simp only [List.mem_cons, List.not_mem_nil, or_false, not_or]; exact (xw_neC e_1510 e_1497 (by simp))) e_1510
              have r_1542 := r_1511.trans (r_1534.mono (by simp))
              have g_1543 : fs_1524[(4 : Nat)]? = some (.ref asked_) := (ga_1533 4 (by decide)).trans g_1512
              have g_1544 : fs_1524[(11 : Nat)]? = some (.int (nI asz)) := (ga_1533 11 (by decide)).trans g_1513
              have g_1545 : fs_1524[(33 : Nat)]? = some (.int bd_1410) := (ga_1533 33 (by decide)).trans g_1514
              have g_1546 : fs_1524[(38 : Nat)]? = some (.int (nI (st.length + 1))) := (ga_1533 38 (by decide)).trans g_1515
              have g_1547 : fs_1524[(39 : Nat)]? = some (.int ((nI mk) &&& 1)) := (ga_1533 39 (by decide)).trans g_1516
              have g_1548 : fs_1524[(51 : Nat)]? = some (.ref top_) := (ga_1533 51 (by decide)).trans g_1517
              have g_1549 : fs_1524[(52 : Nat)]? = some (.ref masks_) := (ga_1533 52 (by decide)).trans g_1518
              have ga_1550 : ∀ i : Nat, i ∉ [28, 29, 30, 31, 33, 38, 39] → fs_1524[i]? = fs[i]? := fun i hi => (ga_1533 i (fun z => hi (by simp only [List.mem_cons, List.not_mem_nil, or_false] at z ⊢; omega))).trans (ga_1519 i hi)
              have RQ_1551 := RQ_1520.next (by rw [hk_1522]; decide) (by rw [hk_1522]; decide)
              have hb_1552 := Nat.le_trans PT_1525.1 PT_1525.2.1
              refine x_le (xw_le_n (xw_le_n (xw_le_n (xw_le_n xw_le_e)))) ?_
              refine s_Model_filter_174 ?_
              have hd_1553 : ¬ depS st = 8 := fun q => z_1408 (by rw [q]; rfl)
              rw [am1 mk hmk] at g_1547
              exact ⟨rfl, _, _, _, _, l_1527, e_1528, g_1545, ga_1550, e_1540, e_1541, r_1542, Or.inr ⟨1, (skP fa asz (skP fa asz (skP fa asz p))), _, fp_1y (s := (p, ph, gr)) hk_785 hN_1374, hd_1553, hb_1438, PT_1525, HY_1526, g_1529, g_1530, g_1531, g_1532, RQ_1551, g_1546, g_1547, ST.push (a := 6) (by omega) (by omega) hmk⟩⟩
            · skip
              refine s_Model_filter_107 ?_
              refine s_Model_filter_112 ?_
              refine x_callV (As := [.int 1, .int (nI (bl fa asz p))]) (b := m) (rest := []) (F1 := 1) (L1 := 20) (mc := 0) (ms := 0) d_Model_filter_113 cV_Model_250 (f_wrongsH (k := bl fa asz p) l_1380 e_1381 g_1382 (by omega) (by omega) (by omega)) e_1381 ⟨by decide, rfl⟩ ⟨by omega, by show 8 + (3 + 11) + 20 ≤ _; omega⟩ ⟨by omega, by omega⟩ (Nat.le_of_ble_eq_true rfl) (fun v_1565 h_1564 p_1566 => ?_)
              obtain ⟨rfl, bd_1554, fs_1555, hw_1556, hw_1557, hw_1558, l_1559, e_1560, g_1561, ga_1562, r_1563⟩ := p_1566
              have e_1567 := r_1563 asked_ _ (by simp only [List.mem_cons, List.not_mem_nil, or_false, not_or]; exact (xw_neC e_1388 e_1381 (by simp))) e_1388
              have e_1568 := r_1563 top_ _ (by simp only [List.mem_cons, List.not_mem_nil, or_false, not_or]; exact (xw_neC e_1389 e_1381 (by simp))) e_1389
              have e_1569 := r_1563 masks_ _ (by simp only [List.mem_cons, List.not_mem_nil, or_false, not_or]; exact (xw_neC e_1390 e_1381 (by simp))) e_1390
              have r_1570 := r_1391.trans (r_1563.mono (by simp))
              have g_1571 : fs_1555[(38 : Nat)]? = some (.int (nI st.length)) := (ga_1562 38 (by decide)).trans g_1392
              have g_1572 : fs_1555[(39 : Nat)]? = some (.int (nI mk)) := (ga_1562 39 (by decide)).trans g_1393
              have g_1573 : fs_1555[(11 : Nat)]? = some (.int (nI asz)) := (ga_1562 11 (by decide)).trans g_1394
              have g_1574 : fs_1555[(4 : Nat)]? = some (.ref asked_) := (ga_1562 4 (by decide)).trans g_1395
              have g_1575 : fs_1555[(51 : Nat)]? = some (.ref top_) := (ga_1562 51 (by decide)).trans g_1396
              have g_1576 : fs_1555[(52 : Nat)]? = some (.ref masks_) := (ga_1562 52 (by decide)).trans g_1397
              have g_1577 : fs_1555[(28 : Nat)]? = some (.int (nI (bl fa asz (skP fa asz p)))) := (ga_1562 28 (by decide)).trans g_1398
              have g_1578 : fs_1555[(29 : Nat)]? = some (.int (nI (rkd (kdP fa asz (skP fa asz p))))) := (ga_1562 29 (by decide)).trans g_1399
              have g_1579 : fs_1555[(30 : Nat)]? = some (.int (nI (bl fa asz (skP fa asz p)))) := (ga_1562 30 (by decide)).trans g_1400
              have g_1580 : fs_1555[(31 : Nat)]? = some (.int (nI y_786)) := (ga_1562 31 (by decide)).trans g_1401
              have ga_1581 : ∀ i : Nat, i ∉ [28, 29, 30, 31, 33, 38, 39] → fs_1555[i]? = fs[i]? := fun i hi => (ga_1562 i (fun z => hi (by simp only [List.mem_cons, List.not_mem_nil, or_false] at z ⊢; omega))).trans (ga_1402 i hi)
              have hb_1582 : ¬ bd_1554 < 0 := hw_1557 (by decide)
              have hb_1583 : 0 ≤ bd_1554 := Int32.not_lt.mp hb_1582
              refine x_le (xw_le_s (xw_le_n (xw_le_s (xw_le_n xw_le_e)))) ?_
              refine s_Model_filter_116 l_1559 e_1560 g_1561 (fun z => absurd z hb_1582) (fun z_1584 => ?_)
              refine s_Model_filter_123 ?_
              have hd_1585 : depS st = 8 := (nI_eq (b := 8) (by have := cJ_len st; omega) (by decide)).mp z_1409
              exact ⟨rfl, _, _, _, _, l_1559, e_1560, g_1561, ga_1581, e_1568, e_1569, r_1570, Or.inl ⟨Or.inr hd_1585, hb_1582, (fun i9 hi9 => by simp only [List.mem_cons, List.not_mem_nil, or_false] at hi9; rcases hi9 with rfl | rfl | rfl | rfl | rfl <;> first | exact ⟨_, g_1577⟩ | exact ⟨_, g_1578⟩ | exact ⟨_, g_1579⟩ | exact ⟨_, g_1580⟩ | exact ⟨_, g_1572⟩), g_1571⟩⟩
