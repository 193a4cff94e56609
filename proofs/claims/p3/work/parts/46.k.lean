/-! the reference in general states: by program (wip/tools/gen5.py, gen6.py, gen7.py) -/
def FoP (m out_ top_ masks_ : Nat) (gs : List Value) (fa : Nat → Int32) (asz x g : Nat) (h0 h : xw_A) : Prop :=
  ∃ (x' y' o' n' b' : Nat) (kd' bd' mk' : Int32) (co' ct' cm' : Nat → Int32) (fs : List Value), PtO fa asz x' y' kd' ∧ x ≤ x' ∧ (bd' < 0 → x < x' ∨ b' = 0) ∧ cntD ct' n' ≤ 9 ∧ o' + cntJ ct' n' ≤ 2 * g ∧ b' ≤ 1 ∧ (∀ k, k < n' → ¬ ct' k < 1) ∧ (bd' < 0 → cntD ct' n' ≤ 8 ∧ o' + cntJ ct' n' + b' = 2 * g ∧ hgt co' o' = some (cntJ ct' n' + b') ∧ ∀ k, k < o' → co' k < 0 ∨ ∃ j, j < g ∧ co' k = nI j) ∧ fs.length = 62 ∧ h m = some (.inr (11, fs)) ∧ fs[(28 : Nat)]? = some (.int (nI x')) ∧ fs[(29 : Nat)]? = some (.int kd') ∧ fs[(30 : Nat)]? = some (.int (nI x')) ∧ fs[(31 : Nat)]? = some (.int (nI y')) ∧ fs[(33 : Nat)]? = some (.int bd') ∧ fs[(37 : Nat)]? = some (.int (nI o')) ∧ fs[(38 : Nat)]? = some (.int (nI n')) ∧ fs[(39 : Nat)]? = some (.int mk') ∧ fs[(61 : Nat)]? = some (.int (nI b')) ∧ (∀ i : Nat, i ∉ [28, 29, 30, 31, 33, 37, 38, 39, 61] → fs[i]? = gs[i]?) ∧ h out_ = some (.inl (0, 60, .inl co')) ∧ h top_ = some (.inl (0, 60, .inl ct')) ∧ h masks_ = some (.inl (0, 60, .inl cm')) ∧ FrO [m, out_, top_, masks_] h0 h
set_option maxHeartbeats 4000000 in
theorem f_followsJ {G : xw_G} {F L bc bs : Nat} {pr : Option Value → xw_A → Prop} {px : String → xw_A → Prop} {h : xw_A} {x y t g o n asz : Nat} {kd bd mk : Int32} {fa ca cs co ct cm : Nat → Int32} {asked_ out_ top_ masks_ : Nat} {m : Nat} {fs : List Value} (l : fs.length = 62) (e : h m = some (.inr (11, fs))) (g_at : fs[(28 : Nat)]? = some (.int (nI x))) (g_kind : fs[(29 : Nat)]? = some (.int kd)) (g_from : fs[(30 : Nat)]? = some (.int (nI x))) (g_to : fs[(31 : Nat)]? = some (.int (nI y))) (g_bad : fs[(33 : Nat)]? = some (.int bd)) (g_outs : fs[(37 : Nat)]? = some (.int (nI o))) (g_tops : fs[(38 : Nat)]? = some (.int (nI n))) (g_mask : fs[(39 : Nat)]? = some (.int mk)) (g_askedSize : fs[(11 : Nat)]? = some (.int (nI asz))) (g_behind : fs[(61 : Nat)]? = some (.int (nI 1))) (g_asked : fs[(4 : Nat)]? = some (.ref asked_)) (e_asked : h asked_ = some (.inl (0, 96, .inl (fa)))) (g_out : fs[(50 : Nat)]? = some (.ref out_)) (e_out : h out_ = some (.inl (0, 60, .inl (co)))) (g_top : fs[(51 : Nat)]? = some (.ref top_)) (e_top : h top_ = some (.inl (0, 60, .inl (ct)))) (g_masks : fs[(52 : Nat)]? = some (.ref masks_)) (e_masks : h masks_ = some (.inl (0, 60, .inl (cm)))) (n_out_top : out_ ≠ top_) (n_out_masks : out_ ≠ masks_) (n_top_masks : top_ ≠ masks_) {j bg : Int32} (hj1 : ¬ j < 1) (hj5 : j < 5) (hasz : asz ≤ 96) (PT : PtO fa asz x y kd) (J : JO fa asz t x) (TK : TkO ca cs t x) (hg12 : g ≤ 12) (hD8 : cntD ct n ≤ 8) (hT1 : ∀ k, k < n → ¬ ct k < 1) (hoJ : o + cntJ ct n + 1 = 2 * g) (hH : hgt co o = some (cntJ ct n + 1)) (hC : ∀ k, k < o → co k < 0 ∨ ∃ j, j < g ∧ co k = nI j) (hbd : bd < 0) (hF : 5 ≤ F) (hL : 107 ≤ L) (kk : ∀ h', FoP m out_ top_ masks_ fs fa asz x g h h' → pr none h') : xw G m_Model_follows F L bc bs pr px 170 [some (.ref m), some (.int j), none] [.int bg] h := by
  have hxy0 := PT.1
  have hy97 := PT.2.1
  have hJD := cntJD ct n
  have ga0 : ∀ i : Nat, i ∉ [28, 29, 30, 31, 33, 37, 38, 39, 61] → fs[i]? = fs[i]? := fun _ _ => rfl
  have r0 : FrO [m, out_, top_, masks_] h h := FrO.rf
  refine s_Model_follows_170 (fun z_1 => ?_) (fun z_2 => ?_)
  · skip
    refine s_Model_follows_185 ?_
    refine s_Model_follows_186 l e g_from ?_
    refine x_callV (As := [.int 0, .int (nI x)]) (b := m) (rest := []) (F1 := 1) (L1 := 20) (mc := 0) (ms := 0) d_Model_follows_190 cV_Model_250 (f_wrongs (k := x) l e g_bad (by omega) (by omega) (by omega)) e ⟨by decide, rfl⟩ ⟨by omega, by show 8 + (3 + 11) + 20 ≤ _; omega⟩ ⟨by omega, by omega⟩ (Nat.le_of_ble_eq_true rfl) (fun v_13 h_12 p_14 => ?_)
    obtain ⟨rfl, bd_3, fs_4, hw_5, hk_6, l_7, e_8, g_9, ga_10, r_11⟩ := p_14
    have e_15 := r_11 asked_ _ (by simp only [List.mem_cons, List.not_mem_nil, or_false, not_or]; exact (xw_neC e_asked e (by simp))) e_asked
    have e_16 := r_11 out_ _ (by simp only [List.mem_cons, List.not_mem_nil, or_false, not_or]; exact (xw_neC e_out e (by simp))) e_out
    have e_17 := r_11 top_ _ (by simp only [List.mem_cons, List.not_mem_nil, or_false, not_or]; exact (xw_neC e_top e (by simp))) e_top
    have e_18 := r_11 masks_ _ (by simp only [List.mem_cons, List.not_mem_nil, or_false, not_or]; exact (xw_neC e_masks e (by simp))) e_masks
    have r_19 := r0.trans (r_11.mono (by simp))
    have g_20 : fs_4[(28 : Nat)]? = some (.int (nI x)) := (ga_10 28 (by decide)).trans g_at
    have g_21 : fs_4[(29 : Nat)]? = some (.int kd) := (ga_10 29 (by decide)).trans g_kind
    have g_22 : fs_4[(30 : Nat)]? = some (.int (nI x)) := (ga_10 30 (by decide)).trans g_from
    have g_23 : fs_4[(31 : Nat)]? = some (.int (nI y)) := (ga_10 31 (by decide)).trans g_to
    have g_24 : fs_4[(37 : Nat)]? = some (.int (nI o)) := (ga_10 37 (by decide)).trans g_outs
    have g_25 : fs_4[(38 : Nat)]? = some (.int (nI n)) := (ga_10 38 (by decide)).trans g_tops
    have g_26 : fs_4[(39 : Nat)]? = some (.int mk) := (ga_10 39 (by decide)).trans g_mask
    have g_27 : fs_4[(11 : Nat)]? = some (.int (nI asz)) := (ga_10 11 (by decide)).trans g_askedSize
    have g_28 : fs_4[(61 : Nat)]? = some (.int (nI 1)) := (ga_10 61 (by decide)).trans g_behind
    have g_29 : fs_4[(4 : Nat)]? = some (.ref asked_) := (ga_10 4 (by decide)).trans g_asked
    have g_30 : fs_4[(50 : Nat)]? = some (.ref out_) := (ga_10 50 (by decide)).trans g_out
    have g_31 : fs_4[(51 : Nat)]? = some (.ref top_) := (ga_10 51 (by decide)).trans g_top
    have g_32 : fs_4[(52 : Nat)]? = some (.ref masks_) := (ga_10 52 (by decide)).trans g_masks
    have ga_33 : ∀ i : Nat, i ∉ [28, 29, 30, 31, 33, 37, 38, 39, 61] → fs_4[i]? = fs[i]? := fun i hi => (ga_10 i (fun z => hi (by simp only [List.mem_cons, List.not_mem_nil, or_false] at z ⊢; omega))).trans (ga0 i hi)
    refine s_Model_follows_193 l_7 e_8 g_9 (fun z_34 => ?_) (fun z_35 => ?_)
    · skip
      refine s_Model_follows_201 ?_
      refine x_callV (As := [.int j]) (b := m) (rest := []) (F1 := 2) (L1 := 41) (mc := 0) (ms := 0) d_Model_follows_203 cV_Model_300 (f_joins l_7 e_8 g_24 g_25 g_26 g_30 e_16 g_31 e_17 g_32 e_18 n_out_top n_out_masks n_top_masks (by omega) hj1 (by omega) (by omega)) e_8 ⟨by decide, rfl⟩ ⟨by omega, by show 8 + (2 + 11) + 41 ≤ _; omega⟩ ⟨by omega, by omega⟩ (Nat.le_of_ble_eq_true rfl) (fun v_37 h_36 p_38 => ?_)
      obtain ⟨rfl, n1, o1, co1, fs1, hS1, hO1, hK1, hD1, hV1, hE1, hX1, l1, e1, go1, gt1, ga1, eo1, et1, ⟨cm1, em1⟩, r1⟩ := p_38
      have e_39 := r1 asked_ _ (by simp only [List.mem_cons, List.not_mem_nil, or_false, not_or]; exact ⟨(xw_neC e_15 e_8 (by simp)), (xw_neC e_15 e_16 (by simp)), (xw_neC e_15 e_17 (by simp)), (xw_neC e_15 e_18 (by simp))⟩) e_15
      have r_40 := r_19.trans (r1.mono (by simp))
      have g_41 : fs1[(28 : Nat)]? = some (.int (nI x)) := (ga1 28 (by decide)).trans g_20
      have g_42 : fs1[(29 : Nat)]? = some (.int kd) := (ga1 29 (by decide)).trans g_21
      have g_43 : fs1[(30 : Nat)]? = some (.int (nI x)) := (ga1 30 (by decide)).trans g_22
      have g_44 : fs1[(31 : Nat)]? = some (.int (nI y)) := (ga1 31 (by decide)).trans g_23
      have g_45 : fs1[(39 : Nat)]? = some (.int mk) := (ga1 39 (by decide)).trans g_26
      have g_46 : fs1[(11 : Nat)]? = some (.int (nI asz)) := (ga1 11 (by decide)).trans g_27
      have g_47 : fs1[(61 : Nat)]? = some (.int (nI 1)) := (ga1 61 (by decide)).trans g_28
      have g_48 : fs1[(4 : Nat)]? = some (.ref asked_) := (ga1 4 (by decide)).trans g_29
      have g_49 : fs1[(50 : Nat)]? = some (.ref out_) := (ga1 50 (by decide)).trans g_30
      have g_50 : fs1[(51 : Nat)]? = some (.ref top_) := (ga1 51 (by decide)).trans g_31
      have g_51 : fs1[(52 : Nat)]? = some (.ref masks_) := (ga1 52 (by decide)).trans g_32
      have g_52 : fs1[(33 : Nat)]? = some (.int bd_3) := (ga1 33 (by decide)).trans g_9
      have ga_53 : ∀ i : Nat, i ∉ [28, 29, 30, 31, 33, 37, 38, 39, 61] → fs1[i]? = fs[i]? := fun i hi => (ga1 i (fun z => hi (by simp only [List.mem_cons, List.not_mem_nil, or_false] at z ⊢; omega))).trans (ga_33 i hi)
      refine s_Model_follows_206 (fun z => absurd z z_1) (fun z_54 => ?_)
      refine s_Model_follows_211 ?_
      refine x_callV (As := []) (b := m) (rest := []) (F1 := 4) (L1 := 87) (mc := 0) (ms := 0) d_Model_follows_212 cV_Model_257 (f_next (x0 := y) l1 e1 g_41 g_42 g_43 g_44 g_46 g_48 e_39 PT.2.1 hasz (by omega) (by omega)) e1 ⟨by decide, rfl⟩ ⟨by omega, by show 8 + (1 + 11) + 87 ≤ _; omega⟩ ⟨by omega, by omega⟩ (Nat.le_of_ble_eq_true rfl) (fun v_70 h_69 p_71 => ?_)
      obtain ⟨rfl, x_55, y_56, kd_57, fs_58, hx_59, PT_60, l_61, e_62, g_63, g_64, g_65, g_66, ga_67, r_68⟩ := p_71
      have e_72 := r_68 asked_ _ (by simp only [List.mem_cons, List.not_mem_nil, or_false, not_or]; exact (xw_neC e_39 e1 (by simp))) e_39
      have e_73 := r_68 out_ _ (by simp only [List.mem_cons, List.not_mem_nil, or_false, not_or]; exact (xw_neC eo1 e1 (by simp))) eo1
      have e_74 := r_68 top_ _ (by simp only [List.mem_cons, List.not_mem_nil, or_false, not_or]; exact (xw_neC et1 e1 (by simp))) et1
      have e_75 := r_68 masks_ _ (by simp only [List.mem_cons, List.not_mem_nil, or_false, not_or]; exact (xw_neC em1 e1 (by simp))) em1
      have r_76 := r_40.trans (r_68.mono (by simp))
      have g_77 : fs_58[(39 : Nat)]? = some (.int mk) := (ga_67 39 (by decide)).trans g_45
      have g_78 : fs_58[(11 : Nat)]? = some (.int (nI asz)) := (ga_67 11 (by decide)).trans g_46
      have g_79 : fs_58[(61 : Nat)]? = some (.int (nI 1)) := (ga_67 61 (by decide)).trans g_47
      have g_80 : fs_58[(4 : Nat)]? = some (.ref asked_) := (ga_67 4 (by decide)).trans g_48
      have g_81 : fs_58[(50 : Nat)]? = some (.ref out_) := (ga_67 50 (by decide)).trans g_49
      have g_82 : fs_58[(51 : Nat)]? = some (.ref top_) := (ga_67 51 (by decide)).trans g_50
      have g_83 : fs_58[(52 : Nat)]? = some (.ref masks_) := (ga_67 52 (by decide)).trans g_51
      have g_84 : fs_58[(33 : Nat)]? = some (.int bd_3) := (ga_67 33 (by decide)).trans g_52
      have g_85 : fs_58[(37 : Nat)]? = some (.int (nI o1)) := (ga_67 37 (by decide)).trans go1
      have g_86 : fs_58[(38 : Nat)]? = some (.int (nI (n1 + 1))) := (ga_67 38 (by decide)).trans gt1
      have ga_87 : ∀ i : Nat, i ∉ [28, 29, 30, 31, 33, 37, 38, 39, 61] → fs_58[i]? = fs[i]? := fun i hi => (ga_67 i (fun z => hi (by simp only [List.mem_cons, List.not_mem_nil, or_false] at z ⊢; omega))).trans (ga_53 i hi)
      have J_88 := J.mono (Nat.le_trans PT.1 hx_59)
      have TK_89 := TK.mono (Nat.le_trans PT.1 hx_59)
      have hm_90 := Nat.le_trans PT.1 hx_59
      have hb_91 := Nat.le_trans PT_60.1 PT_60.2.1
      refine s_Model_follows_215 l_61 e_62 ?_
      obtain ⟨h_92, z_95⟩ : ∃ z, z = xw_up h_69 m (.inr (11, (fs_58.set 61 (.int 0)))) := ⟨_, rfl⟩
      rw [← z_95]
      have e_93 : h_92 m = some (.inr (11, (fs_58.set 61 (.int 0)))) := by rw [z_95]; exact xw_up_s _ _ _
      have f_94 : ∀ q, q ≠ m → h_92 q = h_69 q := fun q hq => by rw [z_95]; exact xw_up_n _ _ hq
      clear z_95
      have e_96 := (f_94 asked_ (xw_neC e_72 e_62 (by simp))).trans e_72
      have e_97 := (f_94 out_ (xw_neC e_73 e_62 (by simp))).trans e_73
      have e_98 := (f_94 top_ (xw_neC e_74 e_62 (by simp))).trans e_74
      have e_99 := (f_94 masks_ (xw_neC e_75 e_62 (by simp))).trans e_75
      have r_100 := r_76.up (by simp) f_94
      obtain ⟨fs_101, z_102⟩ : ∃ z, z = fs_58.set 61 (.int 0) := ⟨_, rfl⟩
      rw [← z_102] at e_93
      have l_103 : fs_101.length = 62 := by rw [z_102]; simp only [List.length_set]; exact l_61
      have g_104 : fs_101[(4 : Nat)]? = some (.ref asked_) := by rw [z_102]; exact (xw_gn (by decide) g_80)
      have g_105 : fs_101[(11 : Nat)]? = some (.int (nI asz)) := by rw [z_102]; exact (xw_gn (by decide) g_78)
      have g_106 : fs_101[(28 : Nat)]? = some (.int (nI x_55)) := by rw [z_102]; exact (xw_gn (by decide) g_63)
      have g_107 : fs_101[(29 : Nat)]? = some (.int kd_57) := by rw [z_102]; exact (xw_gn (by decide) g_64)
      have g_108 : fs_101[(30 : Nat)]? = some (.int (nI x_55)) := by rw [z_102]; exact (xw_gn (by decide) g_65)
      have g_109 : fs_101[(31 : Nat)]? = some (.int (nI y_56)) := by rw [z_102]; exact (xw_gn (by decide) g_66)
      have g_110 : fs_101[(33 : Nat)]? = some (.int bd_3) := by rw [z_102]; exact (xw_gn (by decide) g_84)
      have g_111 : fs_101[(37 : Nat)]? = some (.int (nI o1)) := by rw [z_102]; exact (xw_gn (by decide) g_85)
      have g_112 : fs_101[(38 : Nat)]? = some (.int (nI (n1 + 1))) := by rw [z_102]; exact (xw_gn (by decide) g_86)
      have g_113 : fs_101[(39 : Nat)]? = some (.int mk) := by rw [z_102]; exact (xw_gn (by decide) g_77)
      have g_114 : fs_101[(50 : Nat)]? = some (.ref out_) := by rw [z_102]; exact (xw_gn (by decide) g_81)
      have g_115 : fs_101[(51 : Nat)]? = some (.ref top_) := by rw [z_102]; exact (xw_gn (by decide) g_82)
      have g_116 : fs_101[(52 : Nat)]? = some (.ref masks_) := by rw [z_102]; exact (xw_gn (by decide) g_83)
      have g_117 : fs_101[(61 : Nat)]? = some (.int 0) := by rw [z_102]; exact (xw_gs (by simp [l_61]))
      have ga_118 : ∀ i : Nat, i ∉ [28, 29, 30, 31, 33, 37, 38, 39, 61] → fs_101[i]? = fs[i]? := fun i hi => by rw [z_102]; exact xw_gn (fun z => hi (by rw [z]; simp)) (ga_87 i hi)
      clear z_102
      have hJ5 : cntJ (upd ct n1 j) (n1 + 1) = cntJ ct n1 + 1 := by rw [cntJ_up, if_pos hj5]
      have hD5 : cntD (upd ct n1 j) (n1 + 1) = cntD ct n1 := by rw [cntD_up, if_pos hj5]; rfl
      have hle1 := cntJD ct n1
      exact kk _ ⟨x_55, y_56, o1, (n1 + 1), 0, kd_57, bd_3, _, _, _, _, _, PT_60, by omega, fun _ => Or.inr rfl, by rw [hD5]; omega, by rw [hJ5]; omega, by omega, fun k hk => by by_cases q : k = n1; (rw [q, pk_us]; exact hj1); (rw [pk_un q]; exact hT1 k (by omega)), fun q => ⟨by rw [hD5]; omega, by rw [hJ5]; omega, by rw [hJ5]; exact hV1 hH, fun k hk => (hE1 k hk).elim Or.inl (fun q9 => by rw [q9.2]; exact hC k q9.1)⟩, l_103, e_93, g_106, g_107, g_108, g_109, g_110, g_111, g_112, g_113, g_117, ga_118, e_97, e_98, e_99, r_100⟩
    · skip
      refine s_Model_follows_200 ?_
      exact kk _ ⟨x, y, o, n, 1, kd, bd_3, _, _, _, _, _, PT, by omega, fun q => absurd q z_35, by omega, by omega, by omega, hT1, fun q => absurd q z_35, l_7, e_8, g_20, g_21, g_22, g_23, g_9, g_24, g_25, g_26, g_28, ga_33, e_16, e_17, e_18, r_19⟩
  · skip
    refine s_Model_follows_177 (fun z_119 => ?_) (fun z_120 => ?_)
    · skip
      refine s_Model_follows_185 ?_
      refine s_Model_follows_186 l e g_from ?_
      refine x_callV (As := [.int 0, .int (nI x)]) (b := m) (rest := []) (F1 := 1) (L1 := 20) (mc := 0) (ms := 0) d_Model_follows_190 cV_Model_250 (f_wrongs (k := x) l e g_bad (by omega) (by omega) (by omega)) e ⟨by decide, rfl⟩ ⟨by omega, by show 8 + (3 + 11) + 20 ≤ _; omega⟩ ⟨by omega, by omega⟩ (Nat.le_of_ble_eq_true rfl) (fun v_131 h_130 p_132 => ?_)
      obtain ⟨rfl, bd_121, fs_122, hw_123, hk_124, l_125, e_126, g_127, ga_128, r_129⟩ := p_132
      have e_133 := r_129 asked_ _ (by simp only [List.mem_cons, List.not_mem_nil, or_false, not_or]; exact (xw_neC e_asked e (by simp))) e_asked
      have e_134 := r_129 out_ _ (by simp only [List.mem_cons, List.not_mem_nil, or_false, not_or]; exact (xw_neC e_out e (by simp))) e_out
      have e_135 := r_129 top_ _ (by simp only [List.mem_cons, List.not_mem_nil, or_false, not_or]; exact (xw_neC e_top e (by simp))) e_top
      have e_136 := r_129 masks_ _ (by simp only [List.mem_cons, List.not_mem_nil, or_false, not_or]; exact (xw_neC e_masks e (by simp))) e_masks
      have r_137 := r0.trans (r_129.mono (by simp))
      have g_138 : fs_122[(28 : Nat)]? = some (.int (nI x)) := (ga_128 28 (by decide)).trans g_at
      have g_139 : fs_122[(29 : Nat)]? = some (.int kd) := (ga_128 29 (by decide)).trans g_kind
      have g_140 : fs_122[(30 : Nat)]? = some (.int (nI x)) := (ga_128 30 (by decide)).trans g_from
      have g_141 : fs_122[(31 : Nat)]? = some (.int (nI y)) := (ga_128 31 (by decide)).trans g_to
      have g_142 : fs_122[(37 : Nat)]? = some (.int (nI o)) := (ga_128 37 (by decide)).trans g_outs
      have g_143 : fs_122[(38 : Nat)]? = some (.int (nI n)) := (ga_128 38 (by decide)).trans g_tops
      have g_144 : fs_122[(39 : Nat)]? = some (.int mk) := (ga_128 39 (by decide)).trans g_mask
      have g_145 : fs_122[(11 : Nat)]? = some (.int (nI asz)) := (ga_128 11 (by decide)).trans g_askedSize
      have g_146 : fs_122[(61 : Nat)]? = some (.int (nI 1)) := (ga_128 61 (by decide)).trans g_behind
      have g_147 : fs_122[(4 : Nat)]? = some (.ref asked_) := (ga_128 4 (by decide)).trans g_asked
      have g_148 : fs_122[(50 : Nat)]? = some (.ref out_) := (ga_128 50 (by decide)).trans g_out
      have g_149 : fs_122[(51 : Nat)]? = some (.ref top_) := (ga_128 51 (by decide)).trans g_top
      have g_150 : fs_122[(52 : Nat)]? = some (.ref masks_) := (ga_128 52 (by decide)).trans g_masks
      have ga_151 : ∀ i : Nat, i ∉ [28, 29, 30, 31, 33, 37, 38, 39, 61] → fs_122[i]? = fs[i]? := fun i hi => (ga_128 i (fun z => hi (by simp only [List.mem_cons, List.not_mem_nil, or_false] at z ⊢; omega))).trans (ga0 i hi)
      refine s_Model_follows_193 l_125 e_126 g_127 (fun z_152 => ?_) (fun z_153 => ?_)
      · skip
        refine s_Model_follows_201 ?_
        refine x_callV (As := [.int j]) (b := m) (rest := []) (F1 := 2) (L1 := 41) (mc := 0) (ms := 0) d_Model_follows_203 cV_Model_300 (f_joins l_125 e_126 g_142 g_143 g_144 g_148 e_134 g_149 e_135 g_150 e_136 n_out_top n_out_masks n_top_masks (by omega) hj1 (by omega) (by omega)) e_126 ⟨by decide, rfl⟩ ⟨by omega, by show 8 + (2 + 11) + 41 ≤ _; omega⟩ ⟨by omega, by omega⟩ (Nat.le_of_ble_eq_true rfl) (fun v_155 h_154 p_156 => ?_)
        obtain ⟨rfl, n1, o1, co1, fs1, hS1, hO1, hK1, hD1, hV1, hE1, hX1, l1, e1, go1, gt1, ga1, eo1, et1, ⟨cm1, em1⟩, r1⟩ := p_156
        have e_157 := r1 asked_ _ (by simp only [List.mem_cons, List.not_mem_nil, or_false, not_or]; exact ⟨(xw_neC e_133 e_126 (by simp)), (xw_neC e_133 e_134 (by simp)), (xw_neC e_133 e_135 (by simp)), (xw_neC e_133 e_136 (by simp))⟩) e_133
        have r_158 := r_137.trans (r1.mono (by simp))
        have g_159 : fs1[(28 : Nat)]? = some (.int (nI x)) := (ga1 28 (by decide)).trans g_138
        have g_160 : fs1[(29 : Nat)]? = some (.int kd) := (ga1 29 (by decide)).trans g_139
        have g_161 : fs1[(30 : Nat)]? = some (.int (nI x)) := (ga1 30 (by decide)).trans g_140
        have g_162 : fs1[(31 : Nat)]? = some (.int (nI y)) := (ga1 31 (by decide)).trans g_141
        have g_163 : fs1[(39 : Nat)]? = some (.int mk) := (ga1 39 (by decide)).trans g_144
        have g_164 : fs1[(11 : Nat)]? = some (.int (nI asz)) := (ga1 11 (by decide)).trans g_145
        have g_165 : fs1[(61 : Nat)]? = some (.int (nI 1)) := (ga1 61 (by decide)).trans g_146
        have g_166 : fs1[(4 : Nat)]? = some (.ref asked_) := (ga1 4 (by decide)).trans g_147
        have g_167 : fs1[(50 : Nat)]? = some (.ref out_) := (ga1 50 (by decide)).trans g_148
        have g_168 : fs1[(51 : Nat)]? = some (.ref top_) := (ga1 51 (by decide)).trans g_149
        have g_169 : fs1[(52 : Nat)]? = some (.ref masks_) := (ga1 52 (by decide)).trans g_150
        have g_170 : fs1[(33 : Nat)]? = some (.int bd_121) := (ga1 33 (by decide)).trans g_127
        have ga_171 : ∀ i : Nat, i ∉ [28, 29, 30, 31, 33, 37, 38, 39, 61] → fs1[i]? = fs[i]? := fun i hi => (ga1 i (fun z => hi (by simp only [List.mem_cons, List.not_mem_nil, or_false] at z ⊢; omega))).trans (ga_151 i hi)
        refine s_Model_follows_206 (fun z_172 => ?_) (fun z => absurd z_2 z)
        refine s_Model_follows_215 l1 e1 ?_
        obtain ⟨h_173, z_176⟩ : ∃ z, z = xw_up h_154 m (.inr (11, (fs1.set 61 (.int 0)))) := ⟨_, rfl⟩
        rw [← z_176]
        have e_174 : h_173 m = some (.inr (11, (fs1.set 61 (.int 0)))) := by rw [z_176]; exact xw_up_s _ _ _
        have f_175 : ∀ q, q ≠ m → h_173 q = h_154 q := fun q hq => by rw [z_176]; exact xw_up_n _ _ hq
        clear z_176
        have e_177 := (f_175 asked_ (xw_neC e_157 e1 (by simp))).trans e_157
        have e_178 := (f_175 out_ (xw_neC eo1 e1 (by simp))).trans eo1
        have e_179 := (f_175 top_ (xw_neC et1 e1 (by simp))).trans et1
        have e_180 := (f_175 masks_ (xw_neC em1 e1 (by simp))).trans em1
        have r_181 := r_158.up (by simp) f_175
        obtain ⟨fs_182, z_183⟩ : ∃ z, z = fs1.set 61 (.int 0) := ⟨_, rfl⟩
        rw [← z_183] at e_174
        have l_184 : fs_182.length = 62 := by rw [z_183]; simp only [List.length_set]; exact l1
        have g_185 : fs_182[(4 : Nat)]? = some (.ref asked_) := by rw [z_183]; exact (xw_gn (by decide) g_166)
        have g_186 : fs_182[(11 : Nat)]? = some (.int (nI asz)) := by rw [z_183]; exact (xw_gn (by decide) g_164)
        have g_187 : fs_182[(28 : Nat)]? = some (.int (nI x)) := by rw [z_183]; exact (xw_gn (by decide) g_159)
        have g_188 : fs_182[(29 : Nat)]? = some (.int kd) := by rw [z_183]; exact (xw_gn (by decide) g_160)
        have g_189 : fs_182[(30 : Nat)]? = some (.int (nI x)) := by rw [z_183]; exact (xw_gn (by decide) g_161)
        have g_190 : fs_182[(31 : Nat)]? = some (.int (nI y)) := by rw [z_183]; exact (xw_gn (by decide) g_162)
        have g_191 : fs_182[(33 : Nat)]? = some (.int bd_121) := by rw [z_183]; exact (xw_gn (by decide) g_170)
        have g_192 : fs_182[(37 : Nat)]? = some (.int (nI o1)) := by rw [z_183]; exact (xw_gn (by decide) go1)
        have g_193 : fs_182[(38 : Nat)]? = some (.int (nI (n1 + 1))) := by rw [z_183]; exact (xw_gn (by decide) gt1)
        have g_194 : fs_182[(39 : Nat)]? = some (.int mk) := by rw [z_183]; exact (xw_gn (by decide) g_163)
        have g_195 : fs_182[(50 : Nat)]? = some (.ref out_) := by rw [z_183]; exact (xw_gn (by decide) g_167)
        have g_196 : fs_182[(51 : Nat)]? = some (.ref top_) := by rw [z_183]; exact (xw_gn (by decide) g_168)
        have g_197 : fs_182[(52 : Nat)]? = some (.ref masks_) := by rw [z_183]; exact (xw_gn (by decide) g_169)
        have g_198 : fs_182[(61 : Nat)]? = some (.int 0) := by rw [z_183]; exact (xw_gs (by simp [l1]))
        have ga_199 : ∀ i : Nat, i ∉ [28, 29, 30, 31, 33, 37, 38, 39, 61] → fs_182[i]? = fs[i]? := fun i hi => by rw [z_183]; exact xw_gn (fun z => hi (by rw [z]; simp)) (ga_171 i hi)
        clear z_183
        have hJ5 : cntJ (upd ct n1 j) (n1 + 1) = cntJ ct n1 + 1 := by rw [cntJ_up, if_pos hj5]
        have hD5 : cntD (upd ct n1 j) (n1 + 1) = cntD ct n1 := by rw [cntD_up, if_pos hj5]; rfl
        have hle1 := cntJD ct n1
        exact kk _ ⟨x, y, o1, (n1 + 1), 0, kd, bd_121, _, _, _, _, _, PT, by omega, fun _ => Or.inr rfl, by rw [hD5]; omega, by rw [hJ5]; omega, by omega, fun k hk => by by_cases q : k = n1; (rw [q, pk_us]; exact hj1); (rw [pk_un q]; exact hT1 k (by omega)), fun q => ⟨by rw [hD5]; omega, by rw [hJ5]; omega, by rw [hJ5]; exact hV1 hH, fun k hk => (hE1 k hk).elim Or.inl (fun q9 => by rw [q9.2]; exact hC k q9.1)⟩, l_184, e_174, g_187, g_188, g_189, g_190, g_191, g_192, g_193, g_194, g_198, ga_199, e_178, e_179, e_180, r_181⟩
      · skip
        refine s_Model_follows_200 ?_
        exact kk _ ⟨x, y, o, n, 1, kd, bd_121, _, _, _, _, _, PT, by omega, fun q => absurd q z_153, by omega, by omega, by omega, hT1, fun q => absurd q z_153, l_125, e_126, g_138, g_139, g_140, g_141, g_127, g_142, g_143, g_144, g_146, ga_151, e_134, e_135, e_136, r_137⟩
    · skip
      refine s_Model_follows_181 ?_
      refine s_Model_follows_186 l e g_from ?_
      refine x_callV (As := [.int 1, .int (nI x)]) (b := m) (rest := []) (F1 := 1) (L1 := 20) (mc := 0) (ms := 0) d_Model_follows_190 cV_Model_250 (f_wrongs (k := x) l e g_bad (by omega) (by omega) (by omega)) e ⟨by decide, rfl⟩ ⟨by omega, by show 8 + (3 + 11) + 20 ≤ _; omega⟩ ⟨by omega, by omega⟩ (Nat.le_of_ble_eq_true rfl) (fun v_210 h_209 p_211 => ?_)
      obtain ⟨rfl, bd_200, fs_201, hw_202, hk_203, l_204, e_205, g_206, ga_207, r_208⟩ := p_211
      have e_212 := r_208 asked_ _ (by simp only [List.mem_cons, List.not_mem_nil, or_false, not_or]; exact (xw_neC e_asked e (by simp))) e_asked
      have e_213 := r_208 out_ _ (by simp only [List.mem_cons, List.not_mem_nil, or_false, not_or]; exact (xw_neC e_out e (by simp))) e_out
      have e_214 := r_208 top_ _ (by simp only [List.mem_cons, List.not_mem_nil, or_false, not_or]; exact (xw_neC e_top e (by simp))) e_top
      have e_215 := r_208 masks_ _ (by simp only [List.mem_cons, List.not_mem_nil, or_false, not_or]; exact (xw_neC e_masks e (by simp))) e_masks
      have r_216 := r0.trans (r_208.mono (by simp))
      have g_217 : fs_201[(28 : Nat)]? = some (.int (nI x)) := (ga_207 28 (by decide)).trans g_at
      have g_218 : fs_201[(29 : Nat)]? = some (.int kd) := (ga_207 29 (by decide)).trans g_kind
      have g_219 : fs_201[(30 : Nat)]? = some (.int (nI x)) := (ga_207 30 (by decide)).trans g_from
      have g_220 : fs_201[(31 : Nat)]? = some (.int (nI y)) := (ga_207 31 (by decide)).trans g_to
      have g_221 : fs_201[(37 : Nat)]? = some (.int (nI o)) := (ga_207 37 (by decide)).trans g_outs
      have g_222 : fs_201[(38 : Nat)]? = some (.int (nI n)) := (ga_207 38 (by decide)).trans g_tops
      have g_223 : fs_201[(39 : Nat)]? = some (.int mk) := (ga_207 39 (by decide)).trans g_mask
      have g_224 : fs_201[(11 : Nat)]? = some (.int (nI asz)) := (ga_207 11 (by decide)).trans g_askedSize
      have g_225 : fs_201[(61 : Nat)]? = some (.int (nI 1)) := (ga_207 61 (by decide)).trans g_behind
      have g_226 : fs_201[(4 : Nat)]? = some (.ref asked_) := (ga_207 4 (by decide)).trans g_asked
      have g_227 : fs_201[(50 : Nat)]? = some (.ref out_) := (ga_207 50 (by decide)).trans g_out
      have g_228 : fs_201[(51 : Nat)]? = some (.ref top_) := (ga_207 51 (by decide)).trans g_top
      have g_229 : fs_201[(52 : Nat)]? = some (.ref masks_) := (ga_207 52 (by decide)).trans g_masks
      have ga_230 : ∀ i : Nat, i ∉ [28, 29, 30, 31, 33, 37, 38, 39, 61] → fs_201[i]? = fs[i]? := fun i hi => (ga_207 i (fun z => hi (by simp only [List.mem_cons, List.not_mem_nil, or_false] at z ⊢; omega))).trans (ga0 i hi)
      refine s_Model_follows_193 l_204 e_205 g_206 (fun z => absurd (hw_202 z).1 (by decide)) (fun z_231 => ?_)
      refine s_Model_follows_200 ?_
      exact kk _ ⟨x, y, o, n, 1, kd, bd_200, _, _, _, _, _, PT, by omega, fun q => absurd q z_231, by omega, by omega, by omega, hT1, fun q => absurd q z_231, l_204, e_205, g_217, g_218, g_219, g_220, g_206, g_221, g_222, g_223, g_225, ga_230, e_213, e_214, e_215, r_216⟩
set_option maxHeartbeats 4000000 in
theorem f_followsC {G : xw_G} {F L bc bs : Nat} {pr : Option Value → xw_A → Prop} {px : String → xw_A → Prop} {h : xw_A} {x y t g o n asz : Nat} {kd bd mk : Int32} {fa ca cs co ct cm : Nat → Int32} {asked_ out_ top_ masks_ : Nat} {m : Nat} {fs : List Value} (l : fs.length = 62) (e : h m = some (.inr (11, fs))) (g_at : fs[(28 : Nat)]? = some (.int (nI x))) (g_kind : fs[(29 : Nat)]? = some (.int kd)) (g_from : fs[(30 : Nat)]? = some (.int (nI x))) (g_to : fs[(31 : Nat)]? = some (.int (nI y))) (g_bad : fs[(33 : Nat)]? = some (.int bd)) (g_outs : fs[(37 : Nat)]? = some (.int (nI o))) (g_tops : fs[(38 : Nat)]? = some (.int (nI n))) (g_mask : fs[(39 : Nat)]? = some (.int mk)) (g_askedSize : fs[(11 : Nat)]? = some (.int (nI asz))) (g_behind : fs[(61 : Nat)]? = some (.int (nI 1))) (g_asked : fs[(4 : Nat)]? = some (.ref asked_)) (e_asked : h asked_ = some (.inl (0, 96, .inl (fa)))) (g_out : fs[(50 : Nat)]? = some (.ref out_)) (e_out : h out_ = some (.inl (0, 60, .inl (co)))) (g_top : fs[(51 : Nat)]? = some (.ref top_)) (e_top : h top_ = some (.inl (0, 60, .inl (ct)))) (g_masks : fs[(52 : Nat)]? = some (.ref masks_)) (e_masks : h masks_ = some (.inl (0, 60, .inl (cm)))) (n_out_top : out_ ≠ top_) (n_out_masks : out_ ≠ masks_) (n_top_masks : top_ ≠ masks_) (hasz : asz ≤ 96) (PT : PtO fa asz x y kd) (J : JO fa asz t x) (TK : TkO ca cs t x) (hg12 : g ≤ 12) (hD8 : cntD ct n ≤ 8) (hT1 : ∀ k, k < n → ¬ ct k < 1) (hoJ : o + cntJ ct n + 1 = 2 * g) (hH : hgt co o = some (cntJ ct n + 1)) (hC : ∀ k, k < o → co k < 0 ∨ ∃ j, j < g ∧ co k = nI j) (hbd : bd < 0) (hk0 : ¬ kd = 0) (hF : 5 ≤ F) (hL : 107 ≤ L) (kk : ∀ h', FoP m out_ top_ masks_ fs fa asz x g h h' → pr none h') : xw G m_Model_follows F L bc bs pr px 8 [some (.ref m), none, none] [] h := by
  have hxy0 := PT.1
  have hy97 := PT.2.1
  have hJD := cntJD ct n
  have ga0 : ∀ i : Nat, i ∉ [28, 29, 30, 31, 33, 37, 38, 39, 61] → fs[i]? = fs[i]? := fun _ _ => rfl
  have r0 : FrO [m, out_, top_, masks_] h h := FrO.rf
  refine s_Model_follows_8 ?_
  refine x_callV (As := [.int 1]) (b := m) (rest := []) (F1 := 1) (L1 := 20) (mc := 0) (ms := 0) d_Model_follows_10 cV_Model_281 (f_reduces l e g_outs g_tops g_out e_out g_top e_top n_out_top (by omega) (by decide) (by omega) (by omega)) e ⟨by decide, rfl⟩ ⟨by omega, by show 8 + (2 + 11) + 20 ≤ _; omega⟩ ⟨by omega, by omega⟩ (Nat.le_of_ble_eq_true rfl) (fun v_2 h_1 p_3 => ?_)
  obtain ⟨rfl, n1, o1, co1, fs1, hS1, hO1, hK1, hD1, hV1, hE1, hX1, l1, e1, go1, gt1, ga1, eo1, r1⟩ := p_3
  have e_4 := r1 asked_ _ (by simp only [List.mem_cons, List.not_mem_nil, or_false, not_or]; exact ⟨(xw_neC e_asked e (by simp)), (xw_neC e_asked e_out (by simp))⟩) e_asked
  have e_5 := r1 top_ _ (by simp only [List.mem_cons, List.not_mem_nil, or_false, not_or]; exact ⟨(xw_neC e_top e (by simp)), (Ne.symm n_out_top)⟩) e_top
  have e_6 := r1 masks_ _ (by simp only [List.mem_cons, List.not_mem_nil, or_false, not_or]; exact ⟨(xw_neC e_masks e (by simp)), (Ne.symm n_out_masks)⟩) e_masks
  have r_7 := r0.trans (r1.mono (by simp))
  have g_8 : fs1[(28 : Nat)]? = some (.int (nI x)) := (ga1 28 (by decide)).trans g_at
  have g_9 : fs1[(29 : Nat)]? = some (.int kd) := (ga1 29 (by decide)).trans g_kind
  have g_10 : fs1[(30 : Nat)]? = some (.int (nI x)) := (ga1 30 (by decide)).trans g_from
  have g_11 : fs1[(31 : Nat)]? = some (.int (nI y)) := (ga1 31 (by decide)).trans g_to
  have g_12 : fs1[(33 : Nat)]? = some (.int bd) := (ga1 33 (by decide)).trans g_bad
  have g_13 : fs1[(39 : Nat)]? = some (.int mk) := (ga1 39 (by decide)).trans g_mask
  have g_14 : fs1[(11 : Nat)]? = some (.int (nI asz)) := (ga1 11 (by decide)).trans g_askedSize
  have g_15 : fs1[(61 : Nat)]? = some (.int (nI 1)) := (ga1 61 (by decide)).trans g_behind
  have g_16 : fs1[(4 : Nat)]? = some (.ref asked_) := (ga1 4 (by decide)).trans g_asked
  have g_17 : fs1[(50 : Nat)]? = some (.ref out_) := (ga1 50 (by decide)).trans g_out
  have g_18 : fs1[(51 : Nat)]? = some (.ref top_) := (ga1 51 (by decide)).trans g_top
  have g_19 : fs1[(52 : Nat)]? = some (.ref masks_) := (ga1 52 (by decide)).trans g_masks
  have ga_20 : ∀ i : Nat, i ∉ [28, 29, 30, 31, 33, 37, 38, 39, 61] → fs1[i]? = fs[i]? := fun i hi => (ga1 i (fun z => hi (by simp only [List.mem_cons, List.not_mem_nil, or_false] at z ⊢; omega))).trans (ga0 i hi)
  refine s_Model_follows_13 l1 e1 gt1 (fun z_21 => ?_) (fun z_22 => ?_)
  · skip
    refine s_Model_follows_25 ?_
    refine s_Model_follows_26 l1 e1 g_10 ?_
    refine x_callV (As := [.int 0, .int (nI x)]) (b := m) (rest := []) (F1 := 1) (L1 := 20) (mc := 0) (ms := 0) d_Model_follows_30 cV_Model_250 (f_wrongs (k := x) l1 e1 g_12 (by omega) (by omega) (by omega)) e1 ⟨by decide, rfl⟩ ⟨by omega, by show 8 + (3 + 11) + 20 ≤ _; omega⟩ ⟨by omega, by omega⟩ (Nat.le_of_ble_eq_true rfl) (fun v_33 h_32 p_34 => ?_)
    obtain ⟨rfl, bd_23, fs_24, hw_25, hk_26, l_27, e_28, g_29, ga_30, r_31⟩ := p_34
    have e_35 := r_31 asked_ _ (by simp only [List.mem_cons, List.not_mem_nil, or_false, not_or]; exact (xw_neC e_4 e1 (by simp))) e_4
    have e_36 := r_31 out_ _ (by simp only [List.mem_cons, List.not_mem_nil, or_false, not_or]; exact (xw_neC eo1 e1 (by simp))) eo1
    have e_37 := r_31 top_ _ (by simp only [List.mem_cons, List.not_mem_nil, or_false, not_or]; exact (xw_neC e_5 e1 (by simp))) e_5
    have e_38 := r_31 masks_ _ (by simp only [List.mem_cons, List.not_mem_nil, or_false, not_or]; exact (xw_neC e_6 e1 (by simp))) e_6
    have r_39 := r_7.trans (r_31.mono (by simp))
    have g_40 : fs_24[(28 : Nat)]? = some (.int (nI x)) := (ga_30 28 (by decide)).trans g_8
    have g_41 : fs_24[(29 : Nat)]? = some (.int kd) := (ga_30 29 (by decide)).trans g_9
    have g_42 : fs_24[(30 : Nat)]? = some (.int (nI x)) := (ga_30 30 (by decide)).trans g_10
    have g_43 : fs_24[(31 : Nat)]? = some (.int (nI y)) := (ga_30 31 (by decide)).trans g_11
    have g_44 : fs_24[(39 : Nat)]? = some (.int mk) := (ga_30 39 (by decide)).trans g_13
    have g_45 : fs_24[(11 : Nat)]? = some (.int (nI asz)) := (ga_30 11 (by decide)).trans g_14
    have g_46 : fs_24[(61 : Nat)]? = some (.int (nI 1)) := (ga_30 61 (by decide)).trans g_15
    have g_47 : fs_24[(4 : Nat)]? = some (.ref asked_) := (ga_30 4 (by decide)).trans g_16
    have g_48 : fs_24[(50 : Nat)]? = some (.ref out_) := (ga_30 50 (by decide)).trans g_17
    have g_49 : fs_24[(51 : Nat)]? = some (.ref top_) := (ga_30 51 (by decide)).trans g_18
    have g_50 : fs_24[(52 : Nat)]? = some (.ref masks_) := (ga_30 52 (by decide)).trans g_19
    have g_51 : fs_24[(37 : Nat)]? = some (.int (nI o1)) := (ga_30 37 (by decide)).trans go1
    have g_52 : fs_24[(38 : Nat)]? = some (.int (nI n1)) := (ga_30 38 (by decide)).trans gt1
    have ga_53 : ∀ i : Nat, i ∉ [28, 29, 30, 31, 33, 37, 38, 39, 61] → fs_24[i]? = fs[i]? := fun i hi => (ga_30 i (fun z => hi (by simp only [List.mem_cons, List.not_mem_nil, or_false] at z ⊢; omega))).trans (ga_20 i hi)
    refine s_Model_follows_33 l_27 e_28 g_29 (fun z_54 => ?_) (fun z_55 => ?_)
    · skip
      obtain ⟨n2, rfl⟩ : ∃ n2, n1 = n2 + 1 := ⟨n1 - 1, by have q9 : ¬ n1 = 0 := fun q => z_21 (by rw [q]; rfl); omega⟩
      rw [Nat.add_sub_cancel] at hX1
      have hle1 := cntJD ct (n2 + 1)
      have hn2n : n2 < n := by omega
      have h5 : ¬ ct n2 < 5 := by rcases hX1 with q | q | q; (omega); (exact q); (exact absurd q (hT1 n2 hn2n))
      have hcJ : cntJ ct (n2 + 1) = cntJ ct n2 := by rw [cntJ, if_neg h5]; rfl
      have hcD : cntD ct (n2 + 1) = cntD ct n2 + 1 := by rw [cntD, if_neg h5]
      refine s_Model_follows_41 l_27 e_28 g_52 g_50 e_38 (by rw [nI_pred]; exact vp_in_nI (by omega) (by decide)) ?_
      rw [xw_up_up]
      refine x_u1 (fun h_56 e_57 f_58 => ?_)
      have e_59 := (f_58 asked_ (xw_neC e_35 e_28 (by simp))).trans e_35
      have e_60 := (f_58 out_ (xw_neC e_36 e_28 (by simp))).trans e_36
      have e_61 := (f_58 top_ (xw_neC e_37 e_28 (by simp))).trans e_37
      have e_62 := (f_58 masks_ (xw_neC e_38 e_28 (by simp))).trans e_38
      have r_63 := r_39.up (by simp) f_58
      obtain ⟨fs_64, z_65⟩ : ∃ z, z = (fs_24.set 38 (.int ((nI (n2 + 1)) - 1))).set 39 (.int (cm ((nI (n2 + 1)) - 1).toNatClampNeg)) := ⟨_, rfl⟩
      rw [← z_65] at e_57
      have l_66 : fs_64.length = 62 := by rw [z_65]; simp only [List.length_set]; exact l_27
      have g_67 : fs_64[(4 : Nat)]? = some (.ref asked_) := by rw [z_65]; exact (xw_gn (by decide) (xw_gn (by decide) g_47))
      have g_68 : fs_64[(11 : Nat)]? = some (.int (nI asz)) := by rw [z_65]; exact (xw_gn (by decide) (xw_gn (by decide) g_45))
      have g_69 : fs_64[(28 : Nat)]? = some (.int (nI x)) := by rw [z_65]; exact (xw_gn (by decide) (xw_gn (by decide) g_40))
      have g_70 : fs_64[(29 : Nat)]? = some (.int kd) := by rw [z_65]; exact (xw_gn (by decide) (xw_gn (by decide) g_41))
      have g_71 : fs_64[(30 : Nat)]? = some (.int (nI x)) := by rw [z_65]; exact (xw_gn (by decide) (xw_gn (by decide) g_42))
      have g_72 : fs_64[(31 : Nat)]? = some (.int (nI y)) := by rw [z_65]; exact (xw_gn (by decide) (xw_gn (by decide) g_43))
      have g_73 : fs_64[(33 : Nat)]? = some (.int bd_23) := by rw [z_65]; exact (xw_gn (by decide) (xw_gn (by decide) g_29))
      have g_74 : fs_64[(37 : Nat)]? = some (.int (nI o1)) := by rw [z_65]; exact (xw_gn (by decide) (xw_gn (by decide) g_51))
      have g_75 : fs_64[(38 : Nat)]? = some (.int ((nI (n2 + 1)) - 1)) := by rw [z_65]; exact (xw_gn (by decide) (xw_gs (by simp [l_27])))
      have g_76 : fs_64[(39 : Nat)]? = some (.int (cm ((nI (n2 + 1)) - 1).toNatClampNeg)) := by rw [z_65]; exact (xw_gs (by simp [l_27]))
      have g_77 : fs_64[(50 : Nat)]? = some (.ref out_) := by rw [z_65]; exact (xw_gn (by decide) (xw_gn (by decide) g_48))
      have g_78 : fs_64[(51 : Nat)]? = some (.ref top_) := by rw [z_65]; exact (xw_gn (by decide) (xw_gn (by decide) g_49))
      have g_79 : fs_64[(52 : Nat)]? = some (.ref masks_) := by rw [z_65]; exact (xw_gn (by decide) (xw_gn (by decide) g_50))
      have g_80 : fs_64[(61 : Nat)]? = some (.int (nI 1)) := by rw [z_65]; exact (xw_gn (by decide) (xw_gn (by decide) g_46))
      have ga_81 : ∀ i : Nat, i ∉ [28, 29, 30, 31, 33, 37, 38, 39, 61] → fs_64[i]? = fs[i]? := fun i hi => by rw [z_65]; exact xw_gn (fun z => hi (by rw [z]; simp)) (xw_gn (fun z => hi (by rw [z]; simp)) (ga_53 i hi))
      clear z_65
      rw [nI_pred] at g_75
      refine x_callV (As := []) (b := m) (rest := []) (F1 := 1) (L1 := 20) (mc := 0) (ms := 0) d_Model_follows_65 cV_Model_275 (f_closesFilters (n := n2) l_66 e_57 g_75 g_76 g_78 e_61 g_79 e_62 n_top_masks (by omega) (by omega) (by omega)) e_57 ⟨by decide, rfl⟩ ⟨by omega, by show 8 + (1 + 11) + 20 ≤ _; omega⟩ ⟨by omega, by omega⟩ (Nat.le_of_ble_eq_true rfl) (fun v_95 h_94 p_96 => ?_)
      obtain ⟨rfl, n_82, mk_83, fs_84, hn_85, hJ_86, hD_87, l_88, e_89, g_90, g_91, ga_92, r_93⟩ := p_96
      have e_97 := r_93 asked_ _ (by simp only [List.mem_cons, List.not_mem_nil, or_false, not_or]; exact (xw_neC e_59 e_57 (by simp))) e_59
      have e_98 := r_93 out_ _ (by simp only [List.mem_cons, List.not_mem_nil, or_false, not_or]; exact (xw_neC e_60 e_57 (by simp))) e_60
      have e_99 := r_93 top_ _ (by simp only [List.mem_cons, List.not_mem_nil, or_false, not_or]; exact (xw_neC e_61 e_57 (by simp))) e_61
      have e_100 := r_93 masks_ _ (by simp only [List.mem_cons, List.not_mem_nil, or_false, not_or]; exact (xw_neC e_62 e_57 (by simp))) e_62
      have r_101 := r_63.trans (r_93.mono (by simp))
      have g_102 : fs_84[(4 : Nat)]? = some (.ref asked_) := (ga_92 4 (by decide)).trans g_67
      have g_103 : fs_84[(11 : Nat)]? = some (.int (nI asz)) := (ga_92 11 (by decide)).trans g_68
      have g_104 : fs_84[(28 : Nat)]? = some (.int (nI x)) := (ga_92 28 (by decide)).trans g_69
      have g_105 : fs_84[(29 : Nat)]? = some (.int kd) := (ga_92 29 (by decide)).trans g_70
      have g_106 : fs_84[(30 : Nat)]? = some (.int (nI x)) := (ga_92 30 (by decide)).trans g_71
      have g_107 : fs_84[(31 : Nat)]? = some (.int (nI y)) := (ga_92 31 (by decide)).trans g_72
      have g_108 : fs_84[(33 : Nat)]? = some (.int bd_23) := (ga_92 33 (by decide)).trans g_73
      have g_109 : fs_84[(37 : Nat)]? = some (.int (nI o1)) := (ga_92 37 (by decide)).trans g_74
      have g_110 : fs_84[(50 : Nat)]? = some (.ref out_) := (ga_92 50 (by decide)).trans g_77
      have g_111 : fs_84[(51 : Nat)]? = some (.ref top_) := (ga_92 51 (by decide)).trans g_78
      have g_112 : fs_84[(52 : Nat)]? = some (.ref masks_) := (ga_92 52 (by decide)).trans g_79
      have g_113 : fs_84[(61 : Nat)]? = some (.int (nI 1)) := (ga_92 61 (by decide)).trans g_80
      have ga_114 : ∀ i : Nat, i ∉ [28, 29, 30, 31, 33, 37, 38, 39, 61] → fs_84[i]? = fs[i]? := fun i hi => (ga_92 i (fun z => hi (by simp only [List.mem_cons, List.not_mem_nil, or_false] at z ⊢; omega))).trans (ga_81 i hi)
      refine s_Model_follows_68 ?_
      refine x_callV (As := []) (b := m) (rest := []) (F1 := 4) (L1 := 87) (mc := 0) (ms := 0) d_Model_follows_69 cV_Model_257 (f_next (x0 := y) l_88 e_89 g_104 g_105 g_106 g_107 g_103 g_102 e_97 PT.2.1 hasz (by omega) (by omega)) e_89 ⟨by decide, rfl⟩ ⟨by omega, by show 8 + (1 + 11) + 87 ≤ _; omega⟩ ⟨by omega, by omega⟩ (Nat.le_of_ble_eq_true rfl) (fun v_130 h_129 p_131 => ?_)
      obtain ⟨rfl, x_115, y_116, kd_117, fs_118, hx_119, PT_120, l_121, e_122, g_123, g_124, g_125, g_126, ga_127, r_128⟩ := p_131
      have e_132 := r_128 asked_ _ (by simp only [List.mem_cons, List.not_mem_nil, or_false, not_or]; exact (xw_neC e_97 e_89 (by simp))) e_97
      have e_133 := r_128 out_ _ (by simp only [List.mem_cons, List.not_mem_nil, or_false, not_or]; exact (xw_neC e_98 e_89 (by simp))) e_98
      have e_134 := r_128 top_ _ (by simp only [List.mem_cons, List.not_mem_nil, or_false, not_or]; exact (xw_neC e_99 e_89 (by simp))) e_99
      have e_135 := r_128 masks_ _ (by simp only [List.mem_cons, List.not_mem_nil, or_false, not_or]; exact (xw_neC e_100 e_89 (by simp))) e_100
      have r_136 := r_101.trans (r_128.mono (by simp))
      have g_137 : fs_118[(4 : Nat)]? = some (.ref asked_) := (ga_127 4 (by decide)).trans g_102
      have g_138 : fs_118[(11 : Nat)]? = some (.int (nI asz)) := (ga_127 11 (by decide)).trans g_103
      have g_139 : fs_118[(33 : Nat)]? = some (.int bd_23) := (ga_127 33 (by decide)).trans g_108
      have g_140 : fs_118[(37 : Nat)]? = some (.int (nI o1)) := (ga_127 37 (by decide)).trans g_109
      have g_141 : fs_118[(50 : Nat)]? = some (.ref out_) := (ga_127 50 (by decide)).trans g_110
      have g_142 : fs_118[(51 : Nat)]? = some (.ref top_) := (ga_127 51 (by decide)).trans g_111
      have g_143 : fs_118[(52 : Nat)]? = some (.ref masks_) := (ga_127 52 (by decide)).trans g_112
      have g_144 : fs_118[(61 : Nat)]? = some (.int (nI 1)) := (ga_127 61 (by decide)).trans g_113
      have g_145 : fs_118[(38 : Nat)]? = some (.int (nI n_82)) := (ga_127 38 (by decide)).trans g_90
      have g_146 : fs_118[(39 : Nat)]? = some (.int mk_83) := (ga_127 39 (by decide)).trans g_91
      have ga_147 : ∀ i : Nat, i ∉ [28, 29, 30, 31, 33, 37, 38, 39, 61] → fs_118[i]? = fs[i]? := fun i hi => (ga_127 i (fun z => hi (by simp only [List.mem_cons, List.not_mem_nil, or_false] at z ⊢; omega))).trans (ga_114 i hi)
      have J_148 := J.mono (Nat.le_trans PT.1 hx_119)
      have TK_149 := TK.mono (Nat.le_trans PT.1 hx_119)
      have hm_150 := Nat.le_trans PT.1 hx_119
      have hb_151 := Nat.le_trans PT_120.1 PT_120.2.1
      refine x_le (xw_le_n (xw_le_n (xw_le_n xw_le_e))) ?_
      refine s_Model_follows_72 ?_
      have hpr := Nat.lt_of_lt_of_le (PT.2.2.1 hk0) hx_119
      exact kk _ ⟨x_115, y_116, o1, n_82, 1, kd_117, bd_23, _, _, _, _, _, PT_120, by omega, fun _ => Or.inl hpr, by omega, by omega, by omega, fun k hk => hT1 k (by omega), fun q => ⟨by omega, by omega, by rw [hV1 hH, hJ_86, hcJ], fun k hk => (hE1 k hk).elim Or.inl (fun q9 => by rw [q9.2]; exact hC k q9.1)⟩, l_121, e_122, g_123, g_124, g_125, g_126, g_139, g_140, g_145, g_146, g_144, ga_147, e_133, e_134, e_135, r_136⟩
    · skip
      refine s_Model_follows_40 ?_
      have hle1 := cntJD ct n1
      exact kk _ ⟨x, y, o1, n1, 1, kd, bd_23, _, _, _, _, _, PT, by omega, fun q => absurd q z_55, by omega, by omega, by omega, fun k hk => hT1 k (by omega), fun q => absurd q z_55, l_27, e_28, g_40, g_41, g_42, g_43, g_29, g_51, g_52, g_44, g_46, ga_53, e_36, e_37, e_38, r_39⟩
  · skip
    refine s_Model_follows_21 ?_
    refine s_Model_follows_26 l1 e1 g_10 ?_
    refine x_callV (As := [.int 1, .int (nI x)]) (b := m) (rest := []) (F1 := 1) (L1 := 20) (mc := 0) (ms := 0) d_Model_follows_30 cV_Model_250 (f_wrongs (k := x) l1 e1 g_12 (by omega) (by omega) (by omega)) e1 ⟨by decide, rfl⟩ ⟨by omega, by show 8 + (3 + 11) + 20 ≤ _; omega⟩ ⟨by omega, by omega⟩ (Nat.le_of_ble_eq_true rfl) (fun v_162 h_161 p_163 => ?_)
    obtain ⟨rfl, bd_152, fs_153, hw_154, hk_155, l_156, e_157, g_158, ga_159, r_160⟩ := p_163
    have e_164 := r_160 asked_ _ (by simp only [List.mem_cons, List.not_mem_nil, or_false, not_or]; exact (xw_neC e_4 e1 (by simp))) e_4
    have e_165 := r_160 out_ _ (by simp only [List.mem_cons, List.not_mem_nil, or_false, not_or]; exact (xw_neC eo1 e1 (by simp))) eo1
    have e_166 := r_160 top_ _ (by simp only [List.mem_cons, List.not_mem_nil, or_false, not_or]; exact (xw_neC e_5 e1 (by simp))) e_5
    have e_167 := r_160 masks_ _ (by simp only [List.mem_cons, List.not_mem_nil, or_false, not_or]; exact (xw_neC e_6 e1 (by simp))) e_6
    have r_168 := r_7.trans (r_160.mono (by simp))
    have g_169 : fs_153[(28 : Nat)]? = some (.int (nI x)) := (ga_159 28 (by decide)).trans g_8
    have g_170 : fs_153[(29 : Nat)]? = some (.int kd) := (ga_159 29 (by decide)).trans g_9
    have g_171 : fs_153[(30 : Nat)]? = some (.int (nI x)) := (ga_159 30 (by decide)).trans g_10
    have g_172 : fs_153[(31 : Nat)]? = some (.int (nI y)) := (ga_159 31 (by decide)).trans g_11
    have g_173 : fs_153[(39 : Nat)]? = some (.int mk) := (ga_159 39 (by decide)).trans g_13
    have g_174 : fs_153[(11 : Nat)]? = some (.int (nI asz)) := (ga_159 11 (by decide)).trans g_14
    have g_175 : fs_153[(61 : Nat)]? = some (.int (nI 1)) := (ga_159 61 (by decide)).trans g_15
    have g_176 : fs_153[(4 : Nat)]? = some (.ref asked_) := (ga_159 4 (by decide)).trans g_16
    have g_177 : fs_153[(50 : Nat)]? = some (.ref out_) := (ga_159 50 (by decide)).trans g_17
    have g_178 : fs_153[(51 : Nat)]? = some (.ref top_) := (ga_159 51 (by decide)).trans g_18
    have g_179 : fs_153[(52 : Nat)]? = some (.ref masks_) := (ga_159 52 (by decide)).trans g_19
    have g_180 : fs_153[(37 : Nat)]? = some (.int (nI o1)) := (ga_159 37 (by decide)).trans go1
    have g_181 : fs_153[(38 : Nat)]? = some (.int (nI n1)) := (ga_159 38 (by decide)).trans gt1
    have ga_182 : ∀ i : Nat, i ∉ [28, 29, 30, 31, 33, 37, 38, 39, 61] → fs_153[i]? = fs[i]? := fun i hi => (ga_159 i (fun z => hi (by simp only [List.mem_cons, List.not_mem_nil, or_false] at z ⊢; omega))).trans (ga_20 i hi)
    refine s_Model_follows_33 l_156 e_157 g_158 (fun z => absurd (hw_154 z).1 (by decide)) (fun z_183 => ?_)
    refine s_Model_follows_40 ?_
    have hle1 := cntJD ct n1
    exact kk _ ⟨x, y, o1, n1, 1, kd, bd_152, _, _, _, _, _, PT, by omega, fun q => absurd q z_183, by omega, by omega, by omega, fun k hk => hT1 k (by omega), fun q => absurd q z_183, l_156, e_157, g_169, g_170, g_171, g_172, g_158, g_180, g_181, g_173, g_175, ga_182, e_165, e_166, e_167, r_168⟩
set_option maxHeartbeats 4000000 in
theorem f_follows {G : xw_G} {F L : Nat} {h : xw_A} {x y t g o n asz : Nat} {kd bd mk : Int32} {fa ca cs co ct cm : Nat → Int32} {asked_ out_ top_ masks_ : Nat} {m : Nat} {fs : List Value} (l : fs.length = 62) (e : h m = some (.inr (11, fs))) (g_at : fs[(28 : Nat)]? = some (.int (nI x))) (g_kind : fs[(29 : Nat)]? = some (.int kd)) (g_from : fs[(30 : Nat)]? = some (.int (nI x))) (g_to : fs[(31 : Nat)]? = some (.int (nI y))) (g_bad : fs[(33 : Nat)]? = some (.int bd)) (g_outs : fs[(37 : Nat)]? = some (.int (nI o))) (g_tops : fs[(38 : Nat)]? = some (.int (nI n))) (g_mask : fs[(39 : Nat)]? = some (.int mk)) (g_askedSize : fs[(11 : Nat)]? = some (.int (nI asz))) (g_behind : fs[(61 : Nat)]? = some (.int (nI 1))) (g_asked : fs[(4 : Nat)]? = some (.ref asked_)) (e_asked : h asked_ = some (.inl (0, 96, .inl (fa)))) (g_out : fs[(50 : Nat)]? = some (.ref out_)) (e_out : h out_ = some (.inl (0, 60, .inl (co)))) (g_top : fs[(51 : Nat)]? = some (.ref top_)) (e_top : h top_ = some (.inl (0, 60, .inl (ct)))) (g_masks : fs[(52 : Nat)]? = some (.ref masks_)) (e_masks : h masks_ = some (.inl (0, 60, .inl (cm)))) (n_out_top : out_ ≠ top_) (n_out_masks : out_ ≠ masks_) (n_top_masks : top_ ≠ masks_) (hasz : asz ≤ 96) (PT : PtO fa asz x y kd) (J : JO fa asz t x) (TK : TkO ca cs t x) (hg12 : g ≤ 12) (hD8 : cntD ct n ≤ 8) (hT1 : ∀ k, k < n → ¬ ct k < 1) (hoJ : o + cntJ ct n + 1 = 2 * g) (hH : hgt co o = some (cntJ ct n + 1)) (hC : ∀ k, k < o → co k < 0 ∨ ∃ j, j < g ∧ co k = nI j) (hbd : bd < 0) (hF : 5 ≤ F) (hL : 107 ≤ L) :
    xw_Met G m_Model_follows F L 0 0 [.ref m] h (fun v h' => v = none ∧ FoP m out_ top_ masks_ fs fa asz x g h h') (fun _ _ => False) := by
  refine xw_Met.of rfl (by decide) (Nat.le_of_ble_eq_true rfl) ?_
  have ga0 : ∀ i : Nat, i ∉ [28, 29, 30, 31, 33, 37, 38, 39, 61] → fs[i]? = fs[i]? := fun _ _ => rfl
  have r0 : FrO [m, out_, top_, masks_] h h := FrO.rf
  refine s_Model_follows_0 l e g_kind (fun z_1 => ?_) (fun z_2 => ?_)
  · skip
    refine s_Model_follows_73 l e g_kind (fun z_3 => ?_) (fun z_4 => ?_)
    · skip
      refine s_Model_follows_86 l e g_kind (fun z_5 => ?_) (fun z_6 => ?_)
      · skip
        refine s_Model_follows_99 l e g_kind (fun z_7 => ?_) (fun z_8 => ?_)
        · skip
          refine s_Model_follows_112 ?_
          refine s_Model_follows_113 l e g_kind (fun z_9 => ?_) (fun z_10 => ?_)
          · skip
            refine s_Model_follows_165 ?_
            exact f_followsJ l e g_at g_kind g_from g_to g_bad g_outs g_tops g_mask g_askedSize g_behind g_asked e_asked g_out e_out g_top e_top g_masks e_masks n_out_top n_out_masks n_top_masks (by decide) (by decide) hasz PT J TK hg12 hD8 hT1 hoJ hH hC hbd (by omega) (by omega) (fun h9 q9 => ⟨rfl, q9⟩)
          · skip
            refine s_Model_follows_122 l e g_kind (fun z_11 => ?_) (fun z_12 => ?_)
            · skip
              refine s_Model_follows_165 ?_
              exact f_followsJ l e g_at g_kind g_from g_to g_bad g_outs g_tops g_mask g_askedSize g_behind g_asked e_asked g_out e_out g_top e_top g_masks e_masks n_out_top n_out_masks n_top_masks (by decide) (by decide) hasz PT J TK hg12 hD8 hT1 hoJ hH hC hbd (by omega) (by omega) (fun h9 q9 => ⟨rfl, q9⟩)
            · skip
              refine s_Model_follows_131 l e g_kind (fun z_13 => ?_) (fun z_14 => ?_)
              · skip
                refine s_Model_follows_165 ?_
                exact f_followsJ l e g_at g_kind g_from g_to g_bad g_outs g_tops g_mask g_askedSize g_behind g_asked e_asked g_out e_out g_top e_top g_masks e_masks n_out_top n_out_masks n_top_masks (by decide) (by decide) hasz PT J TK hg12 hD8 hT1 hoJ hH hC hbd (by omega) (by omega) (fun h9 q9 => ⟨rfl, q9⟩)
              · skip
                refine s_Model_follows_140 l e g_kind (fun z_15 => ?_) (fun z_16 => ?_)
                · skip
                  refine s_Model_follows_165 ?_
                  exact f_followsJ l e g_at g_kind g_from g_to g_bad g_outs g_tops g_mask g_askedSize g_behind g_asked e_asked g_out e_out g_top e_top g_masks e_masks n_out_top n_out_masks n_top_masks (by decide) (by decide) hasz PT J TK hg12 hD8 hT1 hoJ hH hC hbd (by omega) (by omega) (fun h9 q9 => ⟨rfl, q9⟩)
                · skip
                  refine s_Model_follows_149 l e g_kind (fun z_17 => ?_) (fun z_18 => ?_)
                  · skip
                    refine s_Model_follows_165 ?_
                    exact f_followsJ l e g_at g_kind g_from g_to g_bad g_outs g_tops g_mask g_askedSize g_behind g_asked e_asked g_out e_out g_top e_top g_masks e_masks n_out_top n_out_masks n_top_masks (by decide) (by decide) hasz PT J TK hg12 hD8 hT1 hoJ hH hC hbd (by omega) (by omega) (fun h9 q9 => ⟨rfl, q9⟩)
                  · skip
                    refine s_Model_follows_157 l e g_kind (fun z_19 => ?_) (fun z_20 => ?_)
                    · skip
                      refine s_Model_follows_169 ?_
                      exact f_followsJ l e g_at g_kind g_from g_to g_bad g_outs g_tops g_mask g_askedSize g_behind g_asked e_asked g_out e_out g_top e_top g_masks e_masks n_out_top n_out_masks n_top_masks (by decide) (by decide) hasz PT J TK hg12 hD8 hT1 hoJ hH hC hbd (by omega) (by omega) (fun h9 q9 => ⟨rfl, q9⟩)
                    · skip
                      refine s_Model_follows_165 ?_
                      exact f_followsJ l e g_at g_kind g_from g_to g_bad g_outs g_tops g_mask g_askedSize g_behind g_asked e_asked g_out e_out g_top e_top g_masks e_masks n_out_top n_out_masks n_top_masks (by decide) (by decide) hasz PT J TK hg12 hD8 hT1 hoJ hH hC hbd (by omega) (by omega) (fun h9 q9 => ⟨rfl, q9⟩)
        · skip
          refine s_Model_follows_108 ?_
          refine s_Model_follows_113 l e g_kind (fun z_21 => ?_) (fun z_22 => ?_)
          · skip
            refine s_Model_follows_165 ?_
            exact f_followsJ l e g_at g_kind g_from g_to g_bad g_outs g_tops g_mask g_askedSize g_behind g_asked e_asked g_out e_out g_top e_top g_masks e_masks n_out_top n_out_masks n_top_masks (by decide) (by decide) hasz PT J TK hg12 hD8 hT1 hoJ hH hC hbd (by omega) (by omega) (fun h9 q9 => ⟨rfl, q9⟩)
          · skip
            refine s_Model_follows_122 l e g_kind (fun z => absurd (z_8.symm.trans z) (by decide)) (fun z_23 => ?_)
            refine s_Model_follows_131 l e g_kind (fun z => absurd (z_8.symm.trans z) (by decide)) (fun z_24 => ?_)
            refine s_Model_follows_140 l e g_kind (fun z => absurd (z_8.symm.trans z) (by decide)) (fun z_25 => ?_)
            refine s_Model_follows_149 l e g_kind (fun z => absurd (z_8.symm.trans z) (by decide)) (fun z_26 => ?_)
            refine s_Model_follows_157 l e g_kind (fun z_27 => ?_) (fun z => absurd (z_8.symm.trans z) (by decide))
            refine s_Model_follows_169 ?_
            exact f_followsJ l e g_at g_kind g_from g_to g_bad g_outs g_tops g_mask g_askedSize g_behind g_asked e_asked g_out e_out g_top e_top g_masks e_masks n_out_top n_out_masks n_top_masks (by decide) (by decide) hasz PT J TK hg12 hD8 hT1 hoJ hH hC hbd (by omega) (by omega) (fun h9 q9 => ⟨rfl, q9⟩)
      · skip
        refine s_Model_follows_95 ?_
        refine s_Model_follows_113 l e g_kind (fun z_28 => ?_) (fun z_29 => ?_)
        · skip
          refine s_Model_follows_165 ?_
          exact f_followsJ l e g_at g_kind g_from g_to g_bad g_outs g_tops g_mask g_askedSize g_behind g_asked e_asked g_out e_out g_top e_top g_masks e_masks n_out_top n_out_masks n_top_masks (by decide) (by decide) hasz PT J TK hg12 hD8 hT1 hoJ hH hC hbd (by omega) (by omega) (fun h9 q9 => ⟨rfl, q9⟩)
        · skip
          refine s_Model_follows_122 l e g_kind (fun z => absurd (z_6.symm.trans z) (by decide)) (fun z_30 => ?_)
          refine s_Model_follows_131 l e g_kind (fun z => absurd (z_6.symm.trans z) (by decide)) (fun z_31 => ?_)
          refine s_Model_follows_140 l e g_kind (fun z => absurd (z_6.symm.trans z) (by decide)) (fun z_32 => ?_)
          refine s_Model_follows_149 l e g_kind (fun z => absurd (z_6.symm.trans z) (by decide)) (fun z_33 => ?_)
          refine s_Model_follows_157 l e g_kind (fun z_34 => ?_) (fun z => absurd (z_6.symm.trans z) (by decide))
          refine s_Model_follows_169 ?_
          exact f_followsJ l e g_at g_kind g_from g_to g_bad g_outs g_tops g_mask g_askedSize g_behind g_asked e_asked g_out e_out g_top e_top g_masks e_masks n_out_top n_out_masks n_top_masks (by decide) (by decide) hasz PT J TK hg12 hD8 hT1 hoJ hH hC hbd (by omega) (by omega) (fun h9 q9 => ⟨rfl, q9⟩)
    · skip
      refine s_Model_follows_82 ?_
      refine s_Model_follows_113 l e g_kind (fun z_35 => ?_) (fun z_36 => ?_)
      · skip
        refine s_Model_follows_165 ?_
        exact f_followsJ l e g_at g_kind g_from g_to g_bad g_outs g_tops g_mask g_askedSize g_behind g_asked e_asked g_out e_out g_top e_top g_masks e_masks n_out_top n_out_masks n_top_masks (by decide) (by decide) hasz PT J TK hg12 hD8 hT1 hoJ hH hC hbd (by omega) (by omega) (fun h9 q9 => ⟨rfl, q9⟩)
      · skip
        refine s_Model_follows_122 l e g_kind (fun z => absurd (z_4.symm.trans z) (by decide)) (fun z_37 => ?_)
        refine s_Model_follows_131 l e g_kind (fun z => absurd (z_4.symm.trans z) (by decide)) (fun z_38 => ?_)
        refine s_Model_follows_140 l e g_kind (fun z => absurd (z_4.symm.trans z) (by decide)) (fun z_39 => ?_)
        refine s_Model_follows_149 l e g_kind (fun z => absurd (z_4.symm.trans z) (by decide)) (fun z_40 => ?_)
        refine s_Model_follows_157 l e g_kind (fun z_41 => ?_) (fun z => absurd (z_4.symm.trans z) (by decide))
        refine s_Model_follows_169 ?_
        exact f_followsJ l e g_at g_kind g_from g_to g_bad g_outs g_tops g_mask g_askedSize g_behind g_asked e_asked g_out e_out g_top e_top g_masks e_masks n_out_top n_out_masks n_top_masks (by decide) (by decide) hasz PT J TK hg12 hD8 hT1 hoJ hH hC hbd (by omega) (by omega) (fun h9 q9 => ⟨rfl, q9⟩)
  · skip
    exact f_followsC l e g_at g_kind g_from g_to g_bad g_outs g_tops g_mask g_askedSize g_behind g_asked e_asked g_out e_out g_top e_top g_masks e_masks n_out_top n_out_masks n_top_masks hasz PT J TK hg12 hD8 hT1 hoJ hH hC hbd (by rw [z_2]; decide) (by omega) (by omega) (fun h9 q9 => ⟨rfl, q9⟩)
