/-! the reference in general states: by program (wip/tools/gen3.py, gen4.py, gen5.py) -/
set_option maxHeartbeats 4000000 in
theorem f_part {G : xw_G} {F L : Nat} {h : xw_A} {x0 asz : Nat} {k0 f0 t0 : Int32} {fa : Nat → Int32} {asked_ : Nat} {m : Nat} {fs : List Value} (l : fs.length = 62) (e : h m = some (.inr (11, fs))) (g_at : fs[(28 : Nat)]? = some (.int (nI x0))) (g_kind : fs[(29 : Nat)]? = some (.int k0)) (g_from : fs[(30 : Nat)]? = some (.int f0)) (g_to : fs[(31 : Nat)]? = some (.int t0)) (g_askedSize : fs[(11 : Nat)]? = some (.int (nI asz))) (g_asked : fs[(4 : Nat)]? = some (.ref asked_)) (e_asked : h asked_ = some (.inl (0, 96, .inl (fa)))) (hx0 : x0 ≤ 97) (hasz : asz ≤ 96) (hF : 3 ≤ F) (hL : 66 ≤ L) :
    xw_Met G m_Model_part F L 0 0 [.ref m] h (fun v h' => v = none ∧ ∃ (x y : Nat) (kd : Int32) (fs' : List Value), x0 ≤ x ∧ PtO fa asz x y kd ∧ fs'.length = 62 ∧ h' m = some (.inr (11, fs')) ∧ fs'[(28 : Nat)]? = some (.int (nI x)) ∧ fs'[(29 : Nat)]? = some (.int kd) ∧ fs'[(30 : Nat)]? = some (.int (nI x)) ∧ fs'[(31 : Nat)]? = some (.int (nI y)) ∧ (∀ i : Nat, i ∉ [28, 29, 30, 31] → fs'[i]? = fs[i]?) ∧ FrO [m] h h') (fun _ _ => False) := by
  refine xw_Met.of rfl (by decide) (Nat.le_of_ble_eq_true rfl) ?_
  have ga0 : ∀ i : Nat, i ∉ [28, 29, 30, 31] → fs[i]? = fs[i]? := fun _ _ => rfl
  have r0 : FrO [m] h h := FrO.rf
  refine lp_pt1 (gs := fs) (h0 := h) (x0 := x0) g_asked g_askedSize e_asked ⟨_, e⟩ hasz (by omega) (by omega) (fun h_1 x_2 fs_3 hb_4 hx_5 l_6 e_7 g_8 ga_9 fr_10 hm_11 => ?_) 98 (x0) _ _ (by omega) (by omega) l e g_at (fun _ _ => rfl) FrO.rf (Nat.le_refl _)
  have e_12 := fr_10 asked_ _ (by simp only [List.mem_cons, List.not_mem_nil, or_false, not_or]; exact (xw_neC e_asked e (by simp))) e_asked
  have r_13 := r0.trans (fr_10.mono (by simp))
  have g_14 : fs_3[(29 : Nat)]? = some (.int k0) := (ga_9 29 (by decide)).trans g_kind
  have g_15 : fs_3[(30 : Nat)]? = some (.int f0) := (ga_9 30 (by decide)).trans g_from
  have g_16 : fs_3[(31 : Nat)]? = some (.int t0) := (ga_9 31 (by decide)).trans g_to
  have g_17 : fs_3[(11 : Nat)]? = some (.int (nI asz)) := (ga_9 11 (by decide)).trans g_askedSize
  have g_18 : fs_3[(4 : Nat)]? = some (.ref asked_) := (ga_9 4 (by decide)).trans g_asked
  have ga_19 : ∀ i : Nat, i ∉ [28, 29, 30, 31] → fs_3[i]? = fs[i]? := fun i hi => (ga_9 i (fun z => hi (by simp only [List.mem_cons, List.not_mem_nil, or_false] at z ⊢; omega))).trans (ga0 i hi)
  refine s_Model_part_26 l_6 e_7 g_8 ?_
  rw [xw_up_up]
  refine x_u1 (fun h_20 e_21 f_22 => ?_)
  have e_23 := (f_22 asked_ (xw_neC e_12 e_7 (by simp))).trans e_12
  have r_24 := r_13.up (by simp) f_22
  obtain ⟨fs_25, z_26⟩ : ∃ z, z = (fs_3.set 30 (.int (nI x_2))).set 31 (.int ((nI x_2) + 1)) := ⟨_, rfl⟩
  rw [← z_26] at e_21
  have l_27 : fs_25.length = 62 := by rw [z_26]; simp only [List.length_set]; exact l_6
  have g_28 : fs_25[(4 : Nat)]? = some (.ref asked_) := by rw [z_26]; exact (xw_gn (by decide) (xw_gn (by decide) g_18))
  have g_29 : fs_25[(11 : Nat)]? = some (.int (nI asz)) := by rw [z_26]; exact (xw_gn (by decide) (xw_gn (by decide) g_17))
  have g_30 : fs_25[(28 : Nat)]? = some (.int (nI x_2)) := by rw [z_26]; exact (xw_gn (by decide) (xw_gn (by decide) g_8))
  have g_31 : fs_25[(29 : Nat)]? = some (.int k0) := by rw [z_26]; exact (xw_gn (by decide) (xw_gn (by decide) g_14))
  have g_32 : fs_25[(30 : Nat)]? = some (.int (nI x_2)) := by rw [z_26]; exact (xw_gn (by decide) (xw_gs (by simp [l_6])))
  have g_33 : fs_25[(31 : Nat)]? = some (.int ((nI x_2) + 1)) := by rw [z_26]; exact (xw_gs (by simp [l_6]))
  have ga_34 : ∀ i : Nat, i ∉ [28, 29, 30, 31] → fs_25[i]? = fs[i]? := fun i hi => by rw [z_26]; exact xw_gn (fun z => hi (by rw [z]; simp)) (xw_gn (fun z => hi (by rw [z]; simp)) (ga_19 i hi))
  clear z_26
  refine x_callV (As := [.int (nI x_2)]) (b := m) (rest := []) (F1 := 1) (L1 := 20) (mc := 0) (ms := 0) d_Model_part_49 cV_Model_221 (f_q (x := x_2) l_27 e_21 g_29 g_28 e_23 (by omega) (by omega) (by omega) (by omega)) e_21 ⟨by decide, rfl⟩ ⟨by omega, by show 8 + (2 + 11) + 20 ≤ _; omega⟩ ⟨by omega, by omega⟩ (Nat.le_of_ble_eq_true rfl) (fun v_36 h_35 p_37 => ?_)
  obtain ⟨rfl, rfl⟩ := p_37
  rw [nI_1] at g_33
  refine s_Model_part_52 l_27 e_21 g_30 g_29 (fun z_38 => ?_) (fun z_39 => ?_)
  · skip
    have hxa : x_2 < asz := Nat.lt_of_not_le (fun q => absurd z_38 (fun q2 => absurd (nI_le q (by omega)) (Int32.not_le.mpr q2)))
    refine s_Model_part_80 ?_
    refine x_callS (As := [.int (qv fa asz x_2)]) (rest := []) (F1 := 2) (L1 := 42) (mc := 0) (ms := 0) d_Model_part_81 cS_Model_146 (f_isSign (by omega) (by omega)) ⟨by omega, by show 8 + (1 + 11) + 42 ≤ _; omega⟩ ⟨by omega, by omega⟩ (Nat.le_of_ble_eq_true rfl) (fun v_41 h_40 p_42 => ?_)
    obtain ⟨rfl, rfl⟩ := p_42
    refine s_Model_part_84 (fun z_43 => ?_) (fun z_44 => ?_)
    · skip
      refine s_Model_part_198 (fun z_45 => ?_) (fun z_46 => ?_)
      · skip
        refine s_Model_part_275 (fun z_47 => ?_) (fun z_48 => ?_)
        · skip
          refine s_Model_part_286 (fun z_49 => ?_) (fun z_50 => ?_)
          · skip
            refine s_Model_part_296 (fun z_51 => ?_) (fun z_52 => ?_)
            · skip
              refine s_Model_part_306 (fun z_53 => ?_) (fun z_54 => ?_)
              · skip
                refine s_Model_part_317 (fun z_55 => ?_) (fun z_56 => ?_)
                · skip
                  refine s_Model_part_328 (fun z_57 => ?_) (fun z_58 => ?_)
                  · skip
                    refine s_Model_part_339 (fun z_59 => ?_) (fun z_60 => ?_)
                    · skip
                      refine s_Model_part_350 (fun z_61 => ?_) (fun z_62 => ?_)
                      · skip
                        refine s_Model_part_361 ?_
                        refine s_Model_part_363 l_27 e_21 ?_
                        refine x_u1 (fun h_63 e_64 f_65 => ?_)
                        have e_66 := (f_65 asked_ (xw_neC e_23 e_21 (by simp))).trans e_23
                        have r_67 := r_24.up (by simp) f_65
                        obtain ⟨fs_68, z_69⟩ : ∃ z, z = fs_25.set 29 (.int 15) := ⟨_, rfl⟩
                        rw [← z_69] at e_64
                        have l_70 : fs_68.length = 62 := by rw [z_69]; simp only [List.length_set]; exact l_27
                        have g_71 : fs_68[(4 : Nat)]? = some (.ref asked_) := by rw [z_69]; exact (xw_gn (by decide) g_28)
                        have g_72 : fs_68[(11 : Nat)]? = some (.int (nI asz)) := by rw [z_69]; exact (xw_gn (by decide) g_29)
                        have g_73 : fs_68[(28 : Nat)]? = some (.int (nI x_2)) := by rw [z_69]; exact (xw_gn (by decide) g_30)
                        have g_74 : fs_68[(29 : Nat)]? = some (.int 15) := by rw [z_69]; exact (xw_gs (by simp [l_27]))
                        have g_75 : fs_68[(30 : Nat)]? = some (.int (nI x_2)) := by rw [z_69]; exact (xw_gn (by decide) g_32)
                        have g_76 : fs_68[(31 : Nat)]? = some (.int (nI (x_2 + 1))) := by rw [z_69]; exact (xw_gn (by decide) g_33)
                        have ga_77 : ∀ i : Nat, i ∉ [28, 29, 30, 31] → fs_68[i]? = fs[i]? := fun i hi => by rw [z_69]; exact xw_gn (fun z => hi (by rw [z]; simp)) (ga_34 i hi)
                        clear z_69
                        refine s_Model_part_366 ?_
                        exact ⟨rfl, x_2, (x_2 + 1), _, _, hx_5, ⟨by omega, by omega, fun _ => by omega, fun q => absurd q (by decide), fun q => absurd q (by decide)⟩, l_70, e_64, g_73, g_74, g_75, g_76, ga_77, r_67⟩
                      · skip
                        refine s_Model_part_356 ?_
                        refine s_Model_part_363 l_27 e_21 ?_
                        refine x_u1 (fun h_78 e_79 f_80 => ?_)
                        have e_81 := (f_80 asked_ (xw_neC e_23 e_21 (by simp))).trans e_23
                        have r_82 := r_24.up (by simp) f_80
                        obtain ⟨fs_83, z_84⟩ : ∃ z, z = fs_25.set 29 (.int 10) := ⟨_, rfl⟩
                        rw [← z_84] at e_79
                        have l_85 : fs_83.length = 62 := by rw [z_84]; simp only [List.length_set]; exact l_27
                        have g_86 : fs_83[(4 : Nat)]? = some (.ref asked_) := by rw [z_84]; exact (xw_gn (by decide) g_28)
                        have g_87 : fs_83[(11 : Nat)]? = some (.int (nI asz)) := by rw [z_84]; exact (xw_gn (by decide) g_29)
                        have g_88 : fs_83[(28 : Nat)]? = some (.int (nI x_2)) := by rw [z_84]; exact (xw_gn (by decide) g_30)
                        have g_89 : fs_83[(29 : Nat)]? = some (.int 10) := by rw [z_84]; exact (xw_gs (by simp [l_27]))
                        have g_90 : fs_83[(30 : Nat)]? = some (.int (nI x_2)) := by rw [z_84]; exact (xw_gn (by decide) g_32)
                        have g_91 : fs_83[(31 : Nat)]? = some (.int (nI (x_2 + 1))) := by rw [z_84]; exact (xw_gn (by decide) g_33)
                        have ga_92 : ∀ i : Nat, i ∉ [28, 29, 30, 31] → fs_83[i]? = fs[i]? := fun i hi => by rw [z_84]; exact xw_gn (fun z => hi (by rw [z]; simp)) (ga_34 i hi)
                        clear z_84
                        refine s_Model_part_366 ?_
                        exact ⟨rfl, x_2, (x_2 + 1), _, _, hx_5, ⟨by omega, by omega, fun _ => by omega, fun q => absurd q (by decide), fun q => absurd q (by decide)⟩, l_85, e_79, g_88, g_89, g_90, g_91, ga_92, r_82⟩
                    · skip
                      refine s_Model_part_345 ?_
                      refine s_Model_part_363 l_27 e_21 ?_
                      refine x_u1 (fun h_93 e_94 f_95 => ?_)
                      have e_96 := (f_95 asked_ (xw_neC e_23 e_21 (by simp))).trans e_23
                      have r_97 := r_24.up (by simp) f_95
                      obtain ⟨fs_98, z_99⟩ : ∃ z, z = fs_25.set 29 (.int 9) := ⟨_, rfl⟩
                      rw [← z_99] at e_94
                      have l_100 : fs_98.length = 62 := by rw [z_99]; simp only [List.length_set]; exact l_27
                      have g_101 : fs_98[(4 : Nat)]? = some (.ref asked_) := by rw [z_99]; exact (xw_gn (by decide) g_28)
                      have g_102 : fs_98[(11 : Nat)]? = some (.int (nI asz)) := by rw [z_99]; exact (xw_gn (by decide) g_29)
                      have g_103 : fs_98[(28 : Nat)]? = some (.int (nI x_2)) := by rw [z_99]; exact (xw_gn (by decide) g_30)
                      have g_104 : fs_98[(29 : Nat)]? = some (.int 9) := by rw [z_99]; exact (xw_gs (by simp [l_27]))
                      have g_105 : fs_98[(30 : Nat)]? = some (.int (nI x_2)) := by rw [z_99]; exact (xw_gn (by decide) g_32)
                      have g_106 : fs_98[(31 : Nat)]? = some (.int (nI (x_2 + 1))) := by rw [z_99]; exact (xw_gn (by decide) g_33)
                      have ga_107 : ∀ i : Nat, i ∉ [28, 29, 30, 31] → fs_98[i]? = fs[i]? := fun i hi => by rw [z_99]; exact xw_gn (fun z => hi (by rw [z]; simp)) (ga_34 i hi)
                      clear z_99
                      refine s_Model_part_366 ?_
                      exact ⟨rfl, x_2, (x_2 + 1), _, _, hx_5, ⟨by omega, by omega, fun _ => by omega, fun q => absurd q (by decide), fun q => absurd q (by decide)⟩, l_100, e_94, g_103, g_104, g_105, g_106, ga_107, r_97⟩
                  · skip
                    refine s_Model_part_334 ?_
                    refine s_Model_part_363 l_27 e_21 ?_
                    refine x_u1 (fun h_108 e_109 f_110 => ?_)
                    have e_111 := (f_110 asked_ (xw_neC e_23 e_21 (by simp))).trans e_23
                    have r_112 := r_24.up (by simp) f_110
                    obtain ⟨fs_113, z_114⟩ : ∃ z, z = fs_25.set 29 (.int 8) := ⟨_, rfl⟩
                    rw [← z_114] at e_109
                    have l_115 : fs_113.length = 62 := by rw [z_114]; simp only [List.length_set]; exact l_27
                    have g_116 : fs_113[(4 : Nat)]? = some (.ref asked_) := by rw [z_114]; exact (xw_gn (by decide) g_28)
                    have g_117 : fs_113[(11 : Nat)]? = some (.int (nI asz)) := by rw [z_114]; exact (xw_gn (by decide) g_29)
                    have g_118 : fs_113[(28 : Nat)]? = some (.int (nI x_2)) := by rw [z_114]; exact (xw_gn (by decide) g_30)
                    have g_119 : fs_113[(29 : Nat)]? = some (.int 8) := by rw [z_114]; exact (xw_gs (by simp [l_27]))
                    have g_120 : fs_113[(30 : Nat)]? = some (.int (nI x_2)) := by rw [z_114]; exact (xw_gn (by decide) g_32)
                    have g_121 : fs_113[(31 : Nat)]? = some (.int (nI (x_2 + 1))) := by rw [z_114]; exact (xw_gn (by decide) g_33)
                    have ga_122 : ∀ i : Nat, i ∉ [28, 29, 30, 31] → fs_113[i]? = fs[i]? := fun i hi => by rw [z_114]; exact xw_gn (fun z => hi (by rw [z]; simp)) (ga_34 i hi)
                    clear z_114
                    refine s_Model_part_366 ?_
                    exact ⟨rfl, x_2, (x_2 + 1), _, _, hx_5, ⟨by omega, by omega, fun _ => by omega, fun q => absurd q (by decide), fun q => absurd q (by decide)⟩, l_115, e_109, g_118, g_119, g_120, g_121, ga_122, r_112⟩
                · skip
                  refine s_Model_part_323 ?_
                  refine s_Model_part_363 l_27 e_21 ?_
                  refine x_u1 (fun h_123 e_124 f_125 => ?_)
                  have e_126 := (f_125 asked_ (xw_neC e_23 e_21 (by simp))).trans e_23
                  have r_127 := r_24.up (by simp) f_125
                  obtain ⟨fs_128, z_129⟩ : ∃ z, z = fs_25.set 29 (.int 7) := ⟨_, rfl⟩
                  rw [← z_129] at e_124
                  have l_130 : fs_128.length = 62 := by rw [z_129]; simp only [List.length_set]; exact l_27
                  have g_131 : fs_128[(4 : Nat)]? = some (.ref asked_) := by rw [z_129]; exact (xw_gn (by decide) g_28)
                  have g_132 : fs_128[(11 : Nat)]? = some (.int (nI asz)) := by rw [z_129]; exact (xw_gn (by decide) g_29)
                  have g_133 : fs_128[(28 : Nat)]? = some (.int (nI x_2)) := by rw [z_129]; exact (xw_gn (by decide) g_30)
                  have g_134 : fs_128[(29 : Nat)]? = some (.int 7) := by rw [z_129]; exact (xw_gs (by simp [l_27]))
                  have g_135 : fs_128[(30 : Nat)]? = some (.int (nI x_2)) := by rw [z_129]; exact (xw_gn (by decide) g_32)
                  have g_136 : fs_128[(31 : Nat)]? = some (.int (nI (x_2 + 1))) := by rw [z_129]; exact (xw_gn (by decide) g_33)
                  have ga_137 : ∀ i : Nat, i ∉ [28, 29, 30, 31] → fs_128[i]? = fs[i]? := fun i hi => by rw [z_129]; exact xw_gn (fun z => hi (by rw [z]; simp)) (ga_34 i hi)
                  clear z_129
                  refine s_Model_part_366 ?_
                  exact ⟨rfl, x_2, (x_2 + 1), _, _, hx_5, ⟨by omega, by omega, fun _ => by omega, fun q => absurd q (by decide), fun q => absurd q (by decide)⟩, l_130, e_124, g_133, g_134, g_135, g_136, ga_137, r_127⟩
              · skip
                refine s_Model_part_312 ?_
                refine s_Model_part_363 l_27 e_21 ?_
                refine x_u1 (fun h_138 e_139 f_140 => ?_)
                have e_141 := (f_140 asked_ (xw_neC e_23 e_21 (by simp))).trans e_23
                have r_142 := r_24.up (by simp) f_140
                obtain ⟨fs_143, z_144⟩ : ∃ z, z = fs_25.set 29 (.int 6) := ⟨_, rfl⟩
                rw [← z_144] at e_139
                have l_145 : fs_143.length = 62 := by rw [z_144]; simp only [List.length_set]; exact l_27
                have g_146 : fs_143[(4 : Nat)]? = some (.ref asked_) := by rw [z_144]; exact (xw_gn (by decide) g_28)
                have g_147 : fs_143[(11 : Nat)]? = some (.int (nI asz)) := by rw [z_144]; exact (xw_gn (by decide) g_29)
                have g_148 : fs_143[(28 : Nat)]? = some (.int (nI x_2)) := by rw [z_144]; exact (xw_gn (by decide) g_30)
                have g_149 : fs_143[(29 : Nat)]? = some (.int 6) := by rw [z_144]; exact (xw_gs (by simp [l_27]))
                have g_150 : fs_143[(30 : Nat)]? = some (.int (nI x_2)) := by rw [z_144]; exact (xw_gn (by decide) g_32)
                have g_151 : fs_143[(31 : Nat)]? = some (.int (nI (x_2 + 1))) := by rw [z_144]; exact (xw_gn (by decide) g_33)
                have ga_152 : ∀ i : Nat, i ∉ [28, 29, 30, 31] → fs_143[i]? = fs[i]? := fun i hi => by rw [z_144]; exact xw_gn (fun z => hi (by rw [z]; simp)) (ga_34 i hi)
                clear z_144
                refine s_Model_part_366 ?_
                exact ⟨rfl, x_2, (x_2 + 1), _, _, hx_5, ⟨by omega, by omega, fun _ => by omega, fun q => absurd q (by decide), fun q => absurd q (by decide)⟩, l_145, e_139, g_148, g_149, g_150, g_151, ga_152, r_142⟩
            · skip
              refine s_Model_part_302 ?_
              refine s_Model_part_363 l_27 e_21 ?_
              refine x_u1 (fun h_153 e_154 f_155 => ?_)
              have e_156 := (f_155 asked_ (xw_neC e_23 e_21 (by simp))).trans e_23
              have r_157 := r_24.up (by simp) f_155
              obtain ⟨fs_158, z_159⟩ : ∃ z, z = fs_25.set 29 (.int 5) := ⟨_, rfl⟩
              rw [← z_159] at e_154
              have l_160 : fs_158.length = 62 := by rw [z_159]; simp only [List.length_set]; exact l_27
              have g_161 : fs_158[(4 : Nat)]? = some (.ref asked_) := by rw [z_159]; exact (xw_gn (by decide) g_28)
              have g_162 : fs_158[(11 : Nat)]? = some (.int (nI asz)) := by rw [z_159]; exact (xw_gn (by decide) g_29)
              have g_163 : fs_158[(28 : Nat)]? = some (.int (nI x_2)) := by rw [z_159]; exact (xw_gn (by decide) g_30)
              have g_164 : fs_158[(29 : Nat)]? = some (.int 5) := by rw [z_159]; exact (xw_gs (by simp [l_27]))
              have g_165 : fs_158[(30 : Nat)]? = some (.int (nI x_2)) := by rw [z_159]; exact (xw_gn (by decide) g_32)
              have g_166 : fs_158[(31 : Nat)]? = some (.int (nI (x_2 + 1))) := by rw [z_159]; exact (xw_gn (by decide) g_33)
              have ga_167 : ∀ i : Nat, i ∉ [28, 29, 30, 31] → fs_158[i]? = fs[i]? := fun i hi => by rw [z_159]; exact xw_gn (fun z => hi (by rw [z]; simp)) (ga_34 i hi)
              clear z_159
              refine s_Model_part_366 ?_
              exact ⟨rfl, x_2, (x_2 + 1), _, _, hx_5, ⟨by omega, by omega, fun _ => by omega, fun q => absurd q (by decide), fun q => absurd q (by decide)⟩, l_160, e_154, g_163, g_164, g_165, g_166, ga_167, r_157⟩
          · skip
            refine s_Model_part_292 ?_
            refine s_Model_part_363 l_27 e_21 ?_
            refine x_u1 (fun h_168 e_169 f_170 => ?_)
            have e_171 := (f_170 asked_ (xw_neC e_23 e_21 (by simp))).trans e_23
            have r_172 := r_24.up (by simp) f_170
            obtain ⟨fs_173, z_174⟩ : ∃ z, z = fs_25.set 29 (.int 4) := ⟨_, rfl⟩
            rw [← z_174] at e_169
            have l_175 : fs_173.length = 62 := by rw [z_174]; simp only [List.length_set]; exact l_27
            have g_176 : fs_173[(4 : Nat)]? = some (.ref asked_) := by rw [z_174]; exact (xw_gn (by decide) g_28)
            have g_177 : fs_173[(11 : Nat)]? = some (.int (nI asz)) := by rw [z_174]; exact (xw_gn (by decide) g_29)
            have g_178 : fs_173[(28 : Nat)]? = some (.int (nI x_2)) := by rw [z_174]; exact (xw_gn (by decide) g_30)
            have g_179 : fs_173[(29 : Nat)]? = some (.int 4) := by rw [z_174]; exact (xw_gs (by simp [l_27]))
            have g_180 : fs_173[(30 : Nat)]? = some (.int (nI x_2)) := by rw [z_174]; exact (xw_gn (by decide) g_32)
            have g_181 : fs_173[(31 : Nat)]? = some (.int (nI (x_2 + 1))) := by rw [z_174]; exact (xw_gn (by decide) g_33)
            have ga_182 : ∀ i : Nat, i ∉ [28, 29, 30, 31] → fs_173[i]? = fs[i]? := fun i hi => by rw [z_174]; exact xw_gn (fun z => hi (by rw [z]; simp)) (ga_34 i hi)
            clear z_174
            refine s_Model_part_366 ?_
            exact ⟨rfl, x_2, (x_2 + 1), _, _, hx_5, ⟨by omega, by omega, fun _ => by omega, fun q => absurd q (by decide), fun q => absurd q (by decide)⟩, l_175, e_169, g_178, g_179, g_180, g_181, ga_182, r_172⟩
        · skip
          refine s_Model_part_282 ?_
          refine s_Model_part_363 l_27 e_21 ?_
          refine x_u1 (fun h_183 e_184 f_185 => ?_)
          have e_186 := (f_185 asked_ (xw_neC e_23 e_21 (by simp))).trans e_23
          have r_187 := r_24.up (by simp) f_185
          obtain ⟨fs_188, z_189⟩ : ∃ z, z = fs_25.set 29 (.int 3) := ⟨_, rfl⟩
          rw [← z_189] at e_184
          have l_190 : fs_188.length = 62 := by rw [z_189]; simp only [List.length_set]; exact l_27
          have g_191 : fs_188[(4 : Nat)]? = some (.ref asked_) := by rw [z_189]; exact (xw_gn (by decide) g_28)
          have g_192 : fs_188[(11 : Nat)]? = some (.int (nI asz)) := by rw [z_189]; exact (xw_gn (by decide) g_29)
          have g_193 : fs_188[(28 : Nat)]? = some (.int (nI x_2)) := by rw [z_189]; exact (xw_gn (by decide) g_30)
          have g_194 : fs_188[(29 : Nat)]? = some (.int 3) := by rw [z_189]; exact (xw_gs (by simp [l_27]))
          have g_195 : fs_188[(30 : Nat)]? = some (.int (nI x_2)) := by rw [z_189]; exact (xw_gn (by decide) g_32)
          have g_196 : fs_188[(31 : Nat)]? = some (.int (nI (x_2 + 1))) := by rw [z_189]; exact (xw_gn (by decide) g_33)
          have ga_197 : ∀ i : Nat, i ∉ [28, 29, 30, 31] → fs_188[i]? = fs[i]? := fun i hi => by rw [z_189]; exact xw_gn (fun z => hi (by rw [z]; simp)) (ga_34 i hi)
          clear z_189
          refine s_Model_part_366 ?_
          exact ⟨rfl, x_2, (x_2 + 1), _, _, hx_5, ⟨by omega, by omega, fun _ => by omega, fun q => absurd q (by decide), fun q => absurd q (by decide)⟩, l_190, e_184, g_193, g_194, g_195, g_196, ga_197, r_187⟩
      · skip
        refine lp_pt3 (gs := fs_25) (h0 := h_20) (x0 := x_2 + 1) g_28 g_29 e_23 ⟨_, e_21⟩ hasz (by omega) (by omega) (fun h_198 x_199 fs_200 hb_201 hx_202 l_203 e_204 g_205 ga_206 fr_207 hm_208 => ?_) 98 (x_2 + 1) _ _ (by omega) (by omega) l_27 e_21 g_33 (fun _ _ => rfl) FrO.rf ⟨Nat.le_refl _, by omega⟩
        have e_209 := fr_207 asked_ _ (by simp only [List.mem_cons, List.not_mem_nil, or_false, not_or]; exact (xw_neC e_23 e_21 (by simp))) e_23
        have r_210 := r_24.trans (fr_207.mono (by simp))
        have g_211 : fs_200[(4 : Nat)]? = some (.ref asked_) := (ga_206 4 (by decide)).trans g_28
        have g_212 : fs_200[(11 : Nat)]? = some (.int (nI asz)) := (ga_206 11 (by decide)).trans g_29
        have g_213 : fs_200[(28 : Nat)]? = some (.int (nI x_2)) := (ga_206 28 (by decide)).trans g_30
        have g_214 : fs_200[(29 : Nat)]? = some (.int k0) := (ga_206 29 (by decide)).trans g_31
        have g_215 : fs_200[(30 : Nat)]? = some (.int (nI x_2)) := (ga_206 30 (by decide)).trans g_32
        have ga_216 : ∀ i : Nat, i ∉ [28, 29, 30, 31] → fs_200[i]? = fs[i]? := fun i hi => (ga_206 i (fun z => hi (by simp only [List.mem_cons, List.not_mem_nil, or_false] at z ⊢; omega))).trans (ga_34 i hi)
        refine s_Model_part_241 l_203 e_204 g_205 g_212 (fun z_217 => ?_) (fun z_218 => ?_)
        · skip
          refine s_Model_part_257 ?_
          refine s_Model_part_259 l_203 e_204 g_205 ?_
          rw [xw_up_up]
          refine x_u1 (fun h_219 e_220 f_221 => ?_)
          have e_222 := (f_221 asked_ (xw_neC e_209 e_204 (by simp))).trans e_209
          have r_223 := r_210.up (by simp) f_221
          obtain ⟨fs_224, z_225⟩ : ∃ z, z = (fs_200.set 29 (.int 15)).set 31 (.int ((nI x_199) + 1)) := ⟨_, rfl⟩
          rw [← z_225] at e_220
          have l_226 : fs_224.length = 62 := by rw [z_225]; simp only [List.length_set]; exact l_203
          have g_227 : fs_224[(4 : Nat)]? = some (.ref asked_) := by rw [z_225]; exact (xw_gn (by decide) (xw_gn (by decide) g_211))
          have g_228 : fs_224[(11 : Nat)]? = some (.int (nI asz)) := by rw [z_225]; exact (xw_gn (by decide) (xw_gn (by decide) g_212))
          have g_229 : fs_224[(28 : Nat)]? = some (.int (nI x_2)) := by rw [z_225]; exact (xw_gn (by decide) (xw_gn (by decide) g_213))
          have g_230 : fs_224[(29 : Nat)]? = some (.int 15) := by rw [z_225]; exact (xw_gn (by decide) (xw_gs (by simp [l_203])))
          have g_231 : fs_224[(30 : Nat)]? = some (.int (nI x_2)) := by rw [z_225]; exact (xw_gn (by decide) (xw_gn (by decide) g_215))
          have g_232 : fs_224[(31 : Nat)]? = some (.int ((nI x_199) + 1)) := by rw [z_225]; exact (xw_gs (by simp [l_203]))
          have ga_233 : ∀ i : Nat, i ∉ [28, 29, 30, 31] → fs_224[i]? = fs[i]? := fun i hi => by rw [z_225]; exact xw_gn (fun z => hi (by rw [z]; simp)) (xw_gn (fun z => hi (by rw [z]; simp)) (ga_216 i hi))
          clear z_225
          refine s_Model_part_366 ?_
          rw [nI_1] at g_232
          exact ⟨rfl, x_2, (x_199 + 1), _, _, hx_5, ⟨by omega, by omega, fun _ => by omega, fun q => absurd q (by decide), fun q => absurd q (by decide)⟩, l_226, e_220, g_229, g_230, g_231, g_232, ga_233, r_223⟩
        · skip
          refine s_Model_part_253 ?_
          refine s_Model_part_259 l_203 e_204 g_205 ?_
          rw [xw_up_up]
          refine x_u1 (fun h_234 e_235 f_236 => ?_)
          have e_237 := (f_236 asked_ (xw_neC e_209 e_204 (by simp))).trans e_209
          have r_238 := r_210.up (by simp) f_236
          obtain ⟨fs_239, z_240⟩ : ∃ z, z = (fs_200.set 29 (.int 2)).set 31 (.int ((nI x_199) + 1)) := ⟨_, rfl⟩
          rw [← z_240] at e_235
          have l_241 : fs_239.length = 62 := by rw [z_240]; simp only [List.length_set]; exact l_203
          have g_242 : fs_239[(4 : Nat)]? = some (.ref asked_) := by rw [z_240]; exact (xw_gn (by decide) (xw_gn (by decide) g_211))
          have g_243 : fs_239[(11 : Nat)]? = some (.int (nI asz)) := by rw [z_240]; exact (xw_gn (by decide) (xw_gn (by decide) g_212))
          have g_244 : fs_239[(28 : Nat)]? = some (.int (nI x_2)) := by rw [z_240]; exact (xw_gn (by decide) (xw_gn (by decide) g_213))
          have g_245 : fs_239[(29 : Nat)]? = some (.int 2) := by rw [z_240]; exact (xw_gn (by decide) (xw_gs (by simp [l_203])))
          have g_246 : fs_239[(30 : Nat)]? = some (.int (nI x_2)) := by rw [z_240]; exact (xw_gn (by decide) (xw_gn (by decide) g_215))
          have g_247 : fs_239[(31 : Nat)]? = some (.int ((nI x_199) + 1)) := by rw [z_240]; exact (xw_gs (by simp [l_203]))
          have ga_248 : ∀ i : Nat, i ∉ [28, 29, 30, 31] → fs_239[i]? = fs[i]? := fun i hi => by rw [z_240]; exact xw_gn (fun z => hi (by rw [z]; simp)) (xw_gn (fun z => hi (by rw [z]; simp)) (ga_216 i hi))
          clear z_240
          refine s_Model_part_366 ?_
          rw [nI_1] at g_247
          have hq34 : qv fa asz x_199 = 34 := hm_208.2.resolve_left (fun q => z_218 (nI_le q (by omega)))
          exact ⟨rfl, x_2, (x_199 + 1), _, _, hx_5, ⟨by omega, by omega, fun _ => by omega, fun q => absurd q (by decide), fun _ => ⟨by omega, by rw [Nat.add_sub_cancel, hq34]; decide⟩⟩, l_241, e_235, g_244, g_245, g_246, g_247, ga_248, r_238⟩
    · skip
      refine lp_pt2 (gs := fs_25) (h0 := h_20) (x0 := x_2 + 1) g_28 g_29 e_23 ⟨_, e_21⟩ hasz (by omega) (by omega) (fun h_249 x_250 fs_251 hb_252 hx_253 l_254 e_255 g_256 ga_257 fr_258 hm_259 => ?_) 98 (x_2 + 1) _ _ (by omega) (by omega) l_27 e_21 g_33 (fun _ _ => rfl) FrO.rf (Nat.le_refl _)
      have e_260 := fr_258 asked_ _ (by simp only [List.mem_cons, List.not_mem_nil, or_false, not_or]; exact (xw_neC e_23 e_21 (by simp))) e_23
      have r_261 := r_24.trans (fr_258.mono (by simp))
      have g_262 : fs_251[(4 : Nat)]? = some (.ref asked_) := (ga_257 4 (by decide)).trans g_28
      have g_263 : fs_251[(11 : Nat)]? = some (.int (nI asz)) := (ga_257 11 (by decide)).trans g_29
      have g_264 : fs_251[(28 : Nat)]? = some (.int (nI x_2)) := (ga_257 28 (by decide)).trans g_30
      have g_265 : fs_251[(29 : Nat)]? = some (.int k0) := (ga_257 29 (by decide)).trans g_31
      have g_266 : fs_251[(30 : Nat)]? = some (.int (nI x_2)) := (ga_257 30 (by decide)).trans g_32
      have ga_267 : ∀ i : Nat, i ∉ [28, 29, 30, 31] → fs_251[i]? = fs[i]? := fun i hi => (ga_257 i (fun z => hi (by simp only [List.mem_cons, List.not_mem_nil, or_false] at z ⊢; omega))).trans (ga_34 i hi)
      refine s_Model_part_114 ?_
      refine x_callV (As := [.int 65, .int 78, .int 68, .int 0]) (b := m) (rest := [.ref m]) (F1 := 2) (L1 := 41) (mc := 0) (ms := 0) d_Model_part_123 cV_Model_230 (f_spells l_254 e_255 g_266 g_256 g_263 g_262 e_260 (by omega) (by omega) (by omega) (by omega)) e_255 ⟨by decide, rfl⟩ ⟨by omega, by show 8 + (6 + 11) + 41 ≤ _; omega⟩ ⟨by omega, by omega⟩ (Nat.le_of_ble_eq_true rfl) (fun v_271 h_270 p_272 => ?_)
      obtain ⟨⟨y_268, rfl, hy_269⟩, rfl⟩ := p_272
      refine s_Model_part_126 (fun z_273 => ?_) (fun z_274 => ?_)
      · skip
        refine s_Model_part_134 ?_
        refine x_callV (As := [.int 79, .int 82, .int 0, .int 0]) (b := m) (rest := [.ref m]) (F1 := 2) (L1 := 41) (mc := 0) (ms := 0) d_Model_part_141 cV_Model_230 (f_spells l_254 e_255 g_266 g_256 g_263 g_262 e_260 (by omega) (by omega) (by omega) (by omega)) e_255 ⟨by decide, rfl⟩ ⟨by omega, by show 8 + (6 + 11) + 41 ≤ _; omega⟩ ⟨by omega, by omega⟩ (Nat.le_of_ble_eq_true rfl) (fun v_278 h_277 p_279 => ?_)
        obtain ⟨⟨y_275, rfl, hy_276⟩, rfl⟩ := p_279
        refine s_Model_part_144 (fun z_280 => ?_) (fun z_281 => ?_)
        · skip
          refine s_Model_part_152 ?_
          refine x_callV (As := [.int 78, .int 79, .int 84, .int 0]) (b := m) (rest := [.ref m]) (F1 := 2) (L1 := 41) (mc := 0) (ms := 0) d_Model_part_160 cV_Model_230 (f_spells l_254 e_255 g_266 g_256 g_263 g_262 e_260 (by omega) (by omega) (by omega) (by omega)) e_255 ⟨by decide, rfl⟩ ⟨by omega, by show 8 + (6 + 11) + 41 ≤ _; omega⟩ ⟨by omega, by omega⟩ (Nat.le_of_ble_eq_true rfl) (fun v_285 h_284 p_286 => ?_)
          obtain ⟨⟨y_282, rfl, hy_283⟩, rfl⟩ := p_286
          refine s_Model_part_163 (fun z_287 => ?_) (fun z_288 => ?_)
          · skip
            refine s_Model_part_171 ?_
            refine x_callV (As := [.int 78, .int 69, .int 65, .int 82]) (b := m) (rest := [.ref m]) (F1 := 2) (L1 := 41) (mc := 0) (ms := 0) d_Model_part_180 cV_Model_230 (f_spells l_254 e_255 g_266 g_256 g_263 g_262 e_260 (by omega) (by omega) (by omega) (by omega)) e_255 ⟨by decide, rfl⟩ ⟨by omega, by show 8 + (6 + 11) + 41 ≤ _; omega⟩ ⟨by omega, by omega⟩ (Nat.le_of_ble_eq_true rfl) (fun v_292 h_291 p_293 => ?_)
            obtain ⟨⟨y_289, rfl, hy_290⟩, rfl⟩ := p_293
            refine x_le (xw_le_n (xw_le_n xw_le_e)) ?_
            refine s_Model_part_183 (fun z_294 => ?_) (fun z_295 => ?_)
            · skip
              refine s_Model_part_191 ?_
              refine s_Model_part_192 l_254 e_255 ?_
              refine x_u1 (fun h_296 e_297 f_298 => ?_)
              have e_299 := (f_298 asked_ (xw_neC e_260 e_255 (by simp))).trans e_260
              have r_300 := r_261.up (by simp) f_298
              obtain ⟨fs_301, z_302⟩ : ∃ z, z = fs_251.set 29 (.int 1) := ⟨_, rfl⟩
              rw [← z_302] at e_297
              have l_303 : fs_301.length = 62 := by rw [z_302]; simp only [List.length_set]; exact l_254
              have g_304 : fs_301[(4 : Nat)]? = some (.ref asked_) := by rw [z_302]; exact (xw_gn (by decide) g_262)
              have g_305 : fs_301[(11 : Nat)]? = some (.int (nI asz)) := by rw [z_302]; exact (xw_gn (by decide) g_263)
              have g_306 : fs_301[(28 : Nat)]? = some (.int (nI x_2)) := by rw [z_302]; exact (xw_gn (by decide) g_264)
              have g_307 : fs_301[(29 : Nat)]? = some (.int 1) := by rw [z_302]; exact (xw_gs (by simp [l_254]))
              have g_308 : fs_301[(30 : Nat)]? = some (.int (nI x_2)) := by rw [z_302]; exact (xw_gn (by decide) g_266)
              have g_309 : fs_301[(31 : Nat)]? = some (.int (nI x_250)) := by rw [z_302]; exact (xw_gn (by decide) g_256)
              have ga_310 : ∀ i : Nat, i ∉ [28, 29, 30, 31] → fs_301[i]? = fs[i]? := fun i hi => by rw [z_302]; exact xw_gn (fun z => hi (by rw [z]; simp)) (ga_267 i hi)
              clear z_302
              refine s_Model_part_366 ?_
              exact ⟨rfl, x_2, x_250, _, _, hx_5, ⟨by omega, by omega, fun _ => by omega, fun _ => hm_259, fun q => absurd q (by decide)⟩, l_303, e_297, g_306, g_307, g_308, g_309, ga_310, r_300⟩
            · skip
              refine s_Model_part_186 ?_
              refine s_Model_part_192 l_254 e_255 ?_
              refine x_u1 (fun h_311 e_312 f_313 => ?_)
              have e_314 := (f_313 asked_ (xw_neC e_260 e_255 (by simp))).trans e_260
              have r_315 := r_261.up (by simp) f_313
              obtain ⟨fs_316, z_317⟩ : ∃ z, z = fs_251.set 29 (.int 14) := ⟨_, rfl⟩
              rw [← z_317] at e_312
              have l_318 : fs_316.length = 62 := by rw [z_317]; simp only [List.length_set]; exact l_254
              have g_319 : fs_316[(4 : Nat)]? = some (.ref asked_) := by rw [z_317]; exact (xw_gn (by decide) g_262)
              have g_320 : fs_316[(11 : Nat)]? = some (.int (nI asz)) := by rw [z_317]; exact (xw_gn (by decide) g_263)
              have g_321 : fs_316[(28 : Nat)]? = some (.int (nI x_2)) := by rw [z_317]; exact (xw_gn (by decide) g_264)
              have g_322 : fs_316[(29 : Nat)]? = some (.int 14) := by rw [z_317]; exact (xw_gs (by simp [l_254]))
              have g_323 : fs_316[(30 : Nat)]? = some (.int (nI x_2)) := by rw [z_317]; exact (xw_gn (by decide) g_266)
              have g_324 : fs_316[(31 : Nat)]? = some (.int (nI x_250)) := by rw [z_317]; exact (xw_gn (by decide) g_256)
              have ga_325 : ∀ i : Nat, i ∉ [28, 29, 30, 31] → fs_316[i]? = fs[i]? := fun i hi => by rw [z_317]; exact xw_gn (fun z => hi (by rw [z]; simp)) (ga_267 i hi)
              clear z_317
              refine s_Model_part_366 ?_
              exact ⟨rfl, x_2, x_250, _, _, hx_5, ⟨by omega, by omega, fun _ => by omega, fun _ => hm_259, fun q => absurd q (by decide)⟩, l_318, e_312, g_321, g_322, g_323, g_324, ga_325, r_315⟩
          · skip
            refine s_Model_part_166 ?_
            refine s_Model_part_192 l_254 e_255 ?_
            refine x_u1 (fun h_326 e_327 f_328 => ?_)
            have e_329 := (f_328 asked_ (xw_neC e_260 e_255 (by simp))).trans e_260
            have r_330 := r_261.up (by simp) f_328
            obtain ⟨fs_331, z_332⟩ : ∃ z, z = fs_251.set 29 (.int 13) := ⟨_, rfl⟩
            rw [← z_332] at e_327
            have l_333 : fs_331.length = 62 := by rw [z_332]; simp only [List.length_set]; exact l_254
            have g_334 : fs_331[(4 : Nat)]? = some (.ref asked_) := by rw [z_332]; exact (xw_gn (by decide) g_262)
            have g_335 : fs_331[(11 : Nat)]? = some (.int (nI asz)) := by rw [z_332]; exact (xw_gn (by decide) g_263)
            have g_336 : fs_331[(28 : Nat)]? = some (.int (nI x_2)) := by rw [z_332]; exact (xw_gn (by decide) g_264)
            have g_337 : fs_331[(29 : Nat)]? = some (.int 13) := by rw [z_332]; exact (xw_gs (by simp [l_254]))
            have g_338 : fs_331[(30 : Nat)]? = some (.int (nI x_2)) := by rw [z_332]; exact (xw_gn (by decide) g_266)
            have g_339 : fs_331[(31 : Nat)]? = some (.int (nI x_250)) := by rw [z_332]; exact (xw_gn (by decide) g_256)
            have ga_340 : ∀ i : Nat, i ∉ [28, 29, 30, 31] → fs_331[i]? = fs[i]? := fun i hi => by rw [z_332]; exact xw_gn (fun z => hi (by rw [z]; simp)) (ga_267 i hi)
            clear z_332
            refine s_Model_part_366 ?_
            exact ⟨rfl, x_2, x_250, _, _, hx_5, ⟨by omega, by omega, fun _ => by omega, fun _ => hm_259, fun q => absurd q (by decide)⟩, l_333, e_327, g_336, g_337, g_338, g_339, ga_340, r_330⟩
        · skip
          refine s_Model_part_147 ?_
          refine s_Model_part_192 l_254 e_255 ?_
          refine x_u1 (fun h_341 e_342 f_343 => ?_)
          have e_344 := (f_343 asked_ (xw_neC e_260 e_255 (by simp))).trans e_260
          have r_345 := r_261.up (by simp) f_343
          obtain ⟨fs_346, z_347⟩ : ∃ z, z = fs_251.set 29 (.int 12) := ⟨_, rfl⟩
          rw [← z_347] at e_342
          have l_348 : fs_346.length = 62 := by rw [z_347]; simp only [List.length_set]; exact l_254
          have g_349 : fs_346[(4 : Nat)]? = some (.ref asked_) := by rw [z_347]; exact (xw_gn (by decide) g_262)
          have g_350 : fs_346[(11 : Nat)]? = some (.int (nI asz)) := by rw [z_347]; exact (xw_gn (by decide) g_263)
          have g_351 : fs_346[(28 : Nat)]? = some (.int (nI x_2)) := by rw [z_347]; exact (xw_gn (by decide) g_264)
          have g_352 : fs_346[(29 : Nat)]? = some (.int 12) := by rw [z_347]; exact (xw_gs (by simp [l_254]))
          have g_353 : fs_346[(30 : Nat)]? = some (.int (nI x_2)) := by rw [z_347]; exact (xw_gn (by decide) g_266)
          have g_354 : fs_346[(31 : Nat)]? = some (.int (nI x_250)) := by rw [z_347]; exact (xw_gn (by decide) g_256)
          have ga_355 : ∀ i : Nat, i ∉ [28, 29, 30, 31] → fs_346[i]? = fs[i]? := fun i hi => by rw [z_347]; exact xw_gn (fun z => hi (by rw [z]; simp)) (ga_267 i hi)
          clear z_347
          refine s_Model_part_366 ?_
          exact ⟨rfl, x_2, x_250, _, _, hx_5, ⟨by omega, by omega, fun _ => by omega, fun _ => hm_259, fun q => absurd q (by decide)⟩, l_348, e_342, g_351, g_352, g_353, g_354, ga_355, r_345⟩
      · skip
        refine s_Model_part_129 ?_
        refine s_Model_part_192 l_254 e_255 ?_
        refine x_u1 (fun h_356 e_357 f_358 => ?_)
        have e_359 := (f_358 asked_ (xw_neC e_260 e_255 (by simp))).trans e_260
        have r_360 := r_261.up (by simp) f_358
        obtain ⟨fs_361, z_362⟩ : ∃ z, z = fs_251.set 29 (.int 11) := ⟨_, rfl⟩
        rw [← z_362] at e_357
        have l_363 : fs_361.length = 62 := by rw [z_362]; simp only [List.length_set]; exact l_254
        have g_364 : fs_361[(4 : Nat)]? = some (.ref asked_) := by rw [z_362]; exact (xw_gn (by decide) g_262)
        have g_365 : fs_361[(11 : Nat)]? = some (.int (nI asz)) := by rw [z_362]; exact (xw_gn (by decide) g_263)
        have g_366 : fs_361[(28 : Nat)]? = some (.int (nI x_2)) := by rw [z_362]; exact (xw_gn (by decide) g_264)
        have g_367 : fs_361[(29 : Nat)]? = some (.int 11) := by rw [z_362]; exact (xw_gs (by simp [l_254]))
        have g_368 : fs_361[(30 : Nat)]? = some (.int (nI x_2)) := by rw [z_362]; exact (xw_gn (by decide) g_266)
        have g_369 : fs_361[(31 : Nat)]? = some (.int (nI x_250)) := by rw [z_362]; exact (xw_gn (by decide) g_256)
        have ga_370 : ∀ i : Nat, i ∉ [28, 29, 30, 31] → fs_361[i]? = fs[i]? := fun i hi => by rw [z_362]; exact xw_gn (fun z => hi (by rw [z]; simp)) (ga_267 i hi)
        clear z_362
        refine s_Model_part_366 ?_
        exact ⟨rfl, x_2, x_250, _, _, hx_5, ⟨by omega, by omega, fun _ => by omega, fun _ => hm_259, fun q => absurd q (by decide)⟩, l_363, e_357, g_366, g_367, g_368, g_369, ga_370, r_360⟩
  · skip
    refine s_Model_part_64 l_27 e_21 g_30 ?_
    rw [xw_up_up]
    refine x_u1 (fun h_371 e_372 f_373 => ?_)
    have e_374 := (f_373 asked_ (xw_neC e_23 e_21 (by simp))).trans e_23
    have r_375 := r_24.up (by simp) f_373
    obtain ⟨fs_376, z_377⟩ : ∃ z, z = (fs_25.set 29 (.int 0)).set 31 (.int (nI x_2)) := ⟨_, rfl⟩
    rw [← z_377] at e_372
    have l_378 : fs_376.length = 62 := by rw [z_377]; simp only [List.length_set]; exact l_27
    have g_379 : fs_376[(4 : Nat)]? = some (.ref asked_) := by rw [z_377]; exact (xw_gn (by decide) (xw_gn (by decide) g_28))
    have g_380 : fs_376[(11 : Nat)]? = some (.int (nI asz)) := by rw [z_377]; exact (xw_gn (by decide) (xw_gn (by decide) g_29))
    have g_381 : fs_376[(28 : Nat)]? = some (.int (nI x_2)) := by rw [z_377]; exact (xw_gn (by decide) (xw_gn (by decide) g_30))
    have g_382 : fs_376[(29 : Nat)]? = some (.int 0) := by rw [z_377]; exact (xw_gn (by decide) (xw_gs (by simp [l_27])))
    have g_383 : fs_376[(30 : Nat)]? = some (.int (nI x_2)) := by rw [z_377]; exact (xw_gn (by decide) (xw_gn (by decide) g_32))
    have g_384 : fs_376[(31 : Nat)]? = some (.int (nI x_2)) := by rw [z_377]; exact (xw_gs (by simp [l_27]))
    have ga_385 : ∀ i : Nat, i ∉ [28, 29, 30, 31] → fs_376[i]? = fs[i]? := fun i hi => by rw [z_377]; exact xw_gn (fun z => hi (by rw [z]; simp)) (xw_gn (fun z => hi (by rw [z]; simp)) (ga_34 i hi))
    clear z_377
    refine s_Model_part_366 ?_
    exact ⟨rfl, x_2, x_2, _, _, hx_5, ⟨Nat.le_refl _, by omega, fun q => absurd rfl q, fun q => absurd q (by decide), fun q => absurd q (by decide)⟩, l_378, e_372, g_381, g_382, g_383, g_384, ga_385, r_375⟩
