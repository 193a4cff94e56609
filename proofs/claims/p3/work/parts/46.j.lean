/-! the reference in general states: by program (wip/tools/gen5.py, gen6.py, gen7.py) -/
set_option maxHeartbeats 8000000 in
theorem f_atom {G : xw_G} {F L : Nat} {h : xw_A} {x y p t g o n asz : Nat} {kd bd mk : Int32} {fa c1 c2 ca cs c5 c6 c7 c8 c9 co ct cm : Nat → Int32} {m asked_ firstToken_ starred_ tokenAt_ tokenSize_ groupKind_ groupPhrase_ groupSize_ groupMask_ groupFar_ out_ top_ masks_ : Nat} {fs : List Value} (l : fs.length = 62) (e : h m = some (.inr (11, fs))) (g_at : fs[(28 : Nat)]? = some (.int (nI x))) (g_kind : fs[(29 : Nat)]? = some (.int kd)) (g_from : fs[(30 : Nat)]? = some (.int (nI x))) (g_to : fs[(31 : Nat)]? = some (.int (nI y))) (g_bad : fs[(33 : Nat)]? = some (.int bd)) (g_phrases : fs[(34 : Nat)]? = some (.int (nI p))) (g_tokens : fs[(35 : Nat)]? = some (.int (nI t))) (g_groups : fs[(36 : Nat)]? = some (.int (nI g))) (g_outs : fs[(37 : Nat)]? = some (.int (nI o))) (g_tops : fs[(38 : Nat)]? = some (.int (nI n))) (g_mask : fs[(39 : Nat)]? = some (.int mk)) (g_askedSize : fs[(11 : Nat)]? = some (.int (nI asz))) (g_behind : fs[(61 : Nat)]? = some (.int 0)) (g_asked : fs[(4 : Nat)]? = some (.ref asked_)) (e_asked : h asked_ = some (.inl (0, 96, .inl fa))) (g_firstToken : fs[(41 : Nat)]? = some (.ref firstToken_)) (e_firstToken : h firstToken_ = some (.inl (0, 13, .inl c1))) (g_starred : fs[(42 : Nat)]? = some (.ref starred_)) (e_starred : h starred_ = some (.inl (0, 13, .inl c2))) (g_tokenAt : fs[(43 : Nat)]? = some (.ref tokenAt_)) (e_tokenAt : h tokenAt_ = some (.inl (0, 60, .inl ca))) (g_tokenSize : fs[(44 : Nat)]? = some (.ref tokenSize_)) (e_tokenSize : h tokenSize_ = some (.inl (0, 60, .inl cs))) (g_groupKind : fs[(45 : Nat)]? = some (.ref groupKind_)) (e_groupKind : h groupKind_ = some (.inl (0, 13, .inl c5))) (g_groupPhrase : fs[(46 : Nat)]? = some (.ref groupPhrase_)) (e_groupPhrase : h groupPhrase_ = some (.inl (0, 13, .inl c6))) (g_groupSize : fs[(47 : Nat)]? = some (.ref groupSize_)) (e_groupSize : h groupSize_ = some (.inl (0, 13, .inl c7))) (g_groupMask : fs[(48 : Nat)]? = some (.ref groupMask_)) (e_groupMask : h groupMask_ = some (.inl (0, 13, .inl c8))) (g_groupFar : fs[(49 : Nat)]? = some (.ref groupFar_)) (e_groupFar : h groupFar_ = some (.inl (0, 13, .inl c9))) (g_out : fs[(50 : Nat)]? = some (.ref out_)) (e_out : h out_ = some (.inl (0, 60, .inl co))) (g_top : fs[(51 : Nat)]? = some (.ref top_)) (e_top : h top_ = some (.inl (0, 60, .inl ct))) (g_masks : fs[(52 : Nat)]? = some (.ref masks_)) (e_masks : h masks_ = some (.inl (0, 60, .inl cm))) (ND : NDl [m, asked_, firstToken_, starred_, tokenAt_, tokenSize_, groupKind_, groupPhrase_, groupSize_, groupMask_, groupFar_, out_, top_, masks_]) (hasz : asz ≤ 96) (PT : PtO fa asz x y kd) (J : JO fa asz t x) (TK : TkO ca cs t x) (hp12 : p ≤ 12) (hgp : g ≤ p) (hD8 : cntD ct n ≤ 8) (hT1 : ∀ k, k < n → ¬ ct k < 1) (PH : PhO c1 p t) (GR : GrO c6 c7 g p) (hoJ : o + cntJ ct n = 2 * g) (hH : hgt co o = some (cntJ ct n)) (hC : ∀ k, k < o → co k < 0 ∨ ∃ j, j < g ∧ co k = nI j) (hbd : bd < 0) (hF : 8 ≤ F) (hL : 170 ≤ L) :
    xw_Met G m_Model_atom F L 0 0 [.ref m] h (fun v h' => v = none ∧ ∃ (x' b' : Nat) (kd' bd' : Int32), x ≤ x' ∧ (bd' < 0 → x < x') ∧ QSt m asked_ firstToken_ starred_ tokenAt_ tokenSize_ groupKind_ groupPhrase_ groupSize_ groupMask_ groupFar_ out_ top_ masks_ fs h fa asz x' b' kd' bd' h') (fun _ _ => False) := by
  refine xw_Met.of rfl (by decide) (Nat.le_of_ble_eq_true rfl) ?_
  have hxy0 := PT.1
  have hy97 := PT.2.1
  have hJD := cntJD ct n
  have ga0 : ∀ i : Nat, i ∉ [28, 29, 30, 31, 33, 34, 35, 36, 37, 38, 39, 61] → fs[i]? = fs[i]? := fun _ _ => rfl
  have r0 : FrO [m, firstToken_, starred_, tokenAt_, tokenSize_, groupKind_, groupPhrase_, groupSize_, groupMask_, groupFar_, out_, top_, masks_] h h := FrO.rf
  refine s_Model_atom_0 l e g_kind (fun z_1 => ?_) (fun z_2 => ?_)
  · skip
    refine s_Model_atom_42 l e g_kind (fun z_3 => ?_) (fun z_4 => ?_)
    · skip
      refine s_Model_atom_58 ?_
      have hk_5 : ¬ kd = 0 := by rw [z_3]; decide
      refine x_callV (As := []) (b := m) (rest := []) (F1 := 5) (L1 := 107) (mc := 0) (ms := 0) d_Model_atom_59 cV_Model_291 (f_filter l e g_at g_kind g_from g_to g_bad g_tops g_mask g_askedSize g_asked e_asked g_top e_top g_masks e_masks (nd_ne ND (i := 12) (j := 13) rfl rfl (by decide)) hasz PT J TK hbd (by omega) hk_5 hD8 (by omega) (by omega)) e ⟨by decide, rfl⟩ ⟨by omega, by show 8 + (4 + 11) + 107 ≤ _; omega⟩ ⟨by omega, by omega⟩ (Nat.le_of_ble_eq_true rfl) (fun v_33 h_32 p_34 => ?_)
      obtain ⟨rfl, x_6, y_7, n_8, kd_9, bd_10, mk_11, ct_12, cm_13, fs_14, PT_15, hx_16, HB_17, HN_18, l_19, e_20, g_21, g_22, g_23, g_24, g_25, g_26, g_27, ga_28, e_29, e_30, r_31⟩ := p_34
      have e_35 := r_31 asked_ _ (by simp only [List.mem_cons, List.not_mem_nil, or_false, not_or]; exact ⟨(Ne.symm (nd_ne ND (i := 0) (j := 1) rfl rfl (by decide))), (nd_ne ND (i := 1) (j := 12) rfl rfl (by decide)), (nd_ne ND (i := 1) (j := 13) rfl rfl (by decide))⟩) e_asked
      have e_36 := r_31 firstToken_ _ (by simp only [List.mem_cons, List.not_mem_nil, or_false, not_or]; exact ⟨(Ne.symm (nd_ne ND (i := 0) (j := 2) rfl rfl (by decide))), (nd_ne ND (i := 2) (j := 12) rfl rfl (by decide)), (nd_ne ND (i := 2) (j := 13) rfl rfl (by decide))⟩) e_firstToken
      have e_37 := r_31 starred_ _ (by simp only [List.mem_cons, List.not_mem_nil, or_false, not_or]; exact ⟨(Ne.symm (nd_ne ND (i := 0) (j := 3) rfl rfl (by decide))), (nd_ne ND (i := 3) (j := 12) rfl rfl (by decide)), (nd_ne ND (i := 3) (j := 13) rfl rfl (by decide))⟩) e_starred
      have e_38 := r_31 tokenAt_ _ (by simp only [List.mem_cons, List.not_mem_nil, or_false, not_or]; exact ⟨(Ne.symm (nd_ne ND (i := 0) (j := 4) rfl rfl (by decide))), (nd_ne ND (i := 4) (j := 12) rfl rfl (by decide)), (nd_ne ND (i := 4) (j := 13) rfl rfl (by decide))⟩) e_tokenAt
      have e_39 := r_31 tokenSize_ _ (by simp only [List.mem_cons, List.not_mem_nil, or_false, not_or]; exact ⟨(Ne.symm (nd_ne ND (i := 0) (j := 5) rfl rfl (by decide))), (nd_ne ND (i := 5) (j := 12) rfl rfl (by decide)), (nd_ne ND (i := 5) (j := 13) rfl rfl (by decide))⟩) e_tokenSize
      have e_40 := r_31 groupKind_ _ (by simp only [List.mem_cons, List.not_mem_nil, or_false, not_or]; exact ⟨(Ne.symm (nd_ne ND (i := 0) (j := 6) rfl rfl (by decide))), (nd_ne ND (i := 6) (j := 12) rfl rfl (by decide)), (nd_ne ND (i := 6) (j := 13) rfl rfl (by decide))⟩) e_groupKind
      have e_41 := r_31 groupPhrase_ _ (by simp only [List.mem_cons, List.not_mem_nil, or_false, not_or]; exact ⟨(Ne.symm (nd_ne ND (i := 0) (j := 7) rfl rfl (by decide))), (nd_ne ND (i := 7) (j := 12) rfl rfl (by decide)), (nd_ne ND (i := 7) (j := 13) rfl rfl (by decide))⟩) e_groupPhrase
      have e_42 := r_31 groupSize_ _ (by simp only [List.mem_cons, List.not_mem_nil, or_false, not_or]; exact ⟨(Ne.symm (nd_ne ND (i := 0) (j := 8) rfl rfl (by decide))), (nd_ne ND (i := 8) (j := 12) rfl rfl (by decide)), (nd_ne ND (i := 8) (j := 13) rfl rfl (by decide))⟩) e_groupSize
      have e_43 := r_31 groupMask_ _ (by simp only [List.mem_cons, List.not_mem_nil, or_false, not_or]; exact ⟨(Ne.symm (nd_ne ND (i := 0) (j := 9) rfl rfl (by decide))), (nd_ne ND (i := 9) (j := 12) rfl rfl (by decide)), (nd_ne ND (i := 9) (j := 13) rfl rfl (by decide))⟩) e_groupMask
      have e_44 := r_31 groupFar_ _ (by simp only [List.mem_cons, List.not_mem_nil, or_false, not_or]; exact ⟨(Ne.symm (nd_ne ND (i := 0) (j := 10) rfl rfl (by decide))), (nd_ne ND (i := 10) (j := 12) rfl rfl (by decide)), (nd_ne ND (i := 10) (j := 13) rfl rfl (by decide))⟩) e_groupFar
      have e_45 := r_31 out_ _ (by simp only [List.mem_cons, List.not_mem_nil, or_false, not_or]; exact ⟨(Ne.symm (nd_ne ND (i := 0) (j := 11) rfl rfl (by decide))), (nd_ne ND (i := 11) (j := 12) rfl rfl (by decide)), (nd_ne ND (i := 11) (j := 13) rfl rfl (by decide))⟩) e_out
      have r_46 := r0.trans (r_31.mono (by simp))
      have g_47 : fs_14[(34 : Nat)]? = some (.int (nI p)) := (ga_28 34 (by decide)).trans g_phrases
      have g_48 : fs_14[(35 : Nat)]? = some (.int (nI t)) := (ga_28 35 (by decide)).trans g_tokens
      have g_49 : fs_14[(36 : Nat)]? = some (.int (nI g)) := (ga_28 36 (by decide)).trans g_groups
      have g_50 : fs_14[(37 : Nat)]? = some (.int (nI o)) := (ga_28 37 (by decide)).trans g_outs
      have g_51 : fs_14[(11 : Nat)]? = some (.int (nI asz)) := (ga_28 11 (by decide)).trans g_askedSize
      have g_52 : fs_14[(61 : Nat)]? = some (.int 0) := (ga_28 61 (by decide)).trans g_behind
      have g_53 : fs_14[(4 : Nat)]? = some (.ref asked_) := (ga_28 4 (by decide)).trans g_asked
      have g_54 : fs_14[(41 : Nat)]? = some (.ref firstToken_) := (ga_28 41 (by decide)).trans g_firstToken
      have g_55 : fs_14[(42 : Nat)]? = some (.ref starred_) := (ga_28 42 (by decide)).trans g_starred
      have g_56 : fs_14[(43 : Nat)]? = some (.ref tokenAt_) := (ga_28 43 (by decide)).trans g_tokenAt
      have g_57 : fs_14[(44 : Nat)]? = some (.ref tokenSize_) := (ga_28 44 (by decide)).trans g_tokenSize
      have g_58 : fs_14[(45 : Nat)]? = some (.ref groupKind_) := (ga_28 45 (by decide)).trans g_groupKind
      have g_59 : fs_14[(46 : Nat)]? = some (.ref groupPhrase_) := (ga_28 46 (by decide)).trans g_groupPhrase
      have g_60 : fs_14[(47 : Nat)]? = some (.ref groupSize_) := (ga_28 47 (by decide)).trans g_groupSize
      have g_61 : fs_14[(48 : Nat)]? = some (.ref groupMask_) := (ga_28 48 (by decide)).trans g_groupMask
      have g_62 : fs_14[(49 : Nat)]? = some (.ref groupFar_) := (ga_28 49 (by decide)).trans g_groupFar
      have g_63 : fs_14[(50 : Nat)]? = some (.ref out_) := (ga_28 50 (by decide)).trans g_out
      have g_64 : fs_14[(51 : Nat)]? = some (.ref top_) := (ga_28 51 (by decide)).trans g_top
      have g_65 : fs_14[(52 : Nat)]? = some (.ref masks_) := (ga_28 52 (by decide)).trans g_masks
      have ga_66 : ∀ i : Nat, i ∉ [28, 29, 30, 31, 33, 34, 35, 36, 37, 38, 39, 61] → fs_14[i]? = fs[i]? := fun i hi => (ga_28 i (fun z => hi (by simp only [List.mem_cons, List.not_mem_nil, or_false] at z ⊢; omega))).trans (ga0 i hi)
      have J_67 := J.mono hx_16
      have TK_68 := TK.mono hx_16
      have hb_69 := Nat.le_trans PT_15.1 PT_15.2.1
      refine x_le (xw_le_n xw_le_e) ?_
      refine s_Model_atom_62 ?_
      refine s_Model_atom_111 ?_
      by_cases hbb : bd_10 < 0
      · skip
        obtain ⟨u1, u2, u3, u4⟩ := HB_17 hbb
        subst u2 u3
        have hJ5 : cntJ (upd ct n 6) (n + 1) = cntJ ct n := by rw [cntJ_up, if_neg (by decide)]; rfl
        have hD5 : cntD (upd ct n 6) (n + 1) = cntD ct n + 1 := by rw [cntD_up, if_neg (by decide)]
        exact ⟨rfl, x_6, 0, kd_9, bd_10, by omega, fun _ => by omega, y_7, p, t, g, o, (n + 1), _, _, _, _, _, _, _, _, _, _, _, _, _, _, PT_15, J_67, TK_68, by omega, by omega, by rw [hD5]; omega, by rw [hJ5]; omega, by omega, fun k hk => by by_cases q : k = n; (rw [q, pk_us]; decide); (rw [pk_un q]; exact hT1 k (by omega)), fun q => ⟨PH, GR, by rw [hD5]; omega, by rw [hJ5]; exact hoJ, by rw [hJ5]; exact hH, hC⟩, l_19, e_20, g_21, g_22, g_23, g_24, g_25, g_47, g_48, g_49, g_50, g_26, g_27, g_52, ga_66, e_36, e_37, e_38, e_39, e_40, e_41, e_42, e_43, e_44, e_45, e_29, e_30, r_46⟩
      · skip
        obtain ⟨u2, u3⟩ := HN_18 hbb
        subst u2 u3
        exact ⟨rfl, x_6, 0, kd_9, bd_10, by omega, fun q => absurd q hbb, y_7, p, t, g, o, _, _, _, _, _, _, _, _, _, _, _, _, _, _, _, PT_15, J_67, TK_68, by omega, by omega, by omega, by omega, by omega, hT1, fun q => absurd q hbb, l_19, e_20, g_21, g_22, g_23, g_24, g_25, g_47, g_48, g_49, g_50, g_26, g_27, g_52, ga_66, e_36, e_37, e_38, e_39, e_40, e_41, e_42, e_43, e_44, e_45, e_29, e_30, r_46⟩
    · skip
      refine s_Model_atom_51 ?_
      refine x_callV (As := []) (b := m) (rest := []) (F1 := 2) (L1 := 41) (mc := 0) (ms := 0) d_Model_atom_52 cV_Model_237 (f_isFilter l e g_kind g_to g_askedSize g_asked e_asked PT.2.1 hasz (by omega) (by omega)) e ⟨by decide, rfl⟩ ⟨by omega, by show 8 + (1 + 11) + 41 ≤ _; omega⟩ ⟨by omega, by omega⟩ (Nat.le_of_ble_eq_true rfl) (fun v_73 h_72 p_74 => ?_)
      obtain ⟨⟨c_70, rfl, hc_71⟩, rfl⟩ := p_74
      refine s_Model_atom_55 (fun z_75 => ?_) (fun z_76 => ?_)
      · skip
        refine s_Model_atom_65 l e g_kind (fun z_77 => ?_) (fun z_78 => ?_)
        · skip
          refine s_Model_atom_90 ?_
          have hk_79 : ¬ kd = 0 := by rw [z_77]; decide
          refine x_callV (As := []) (b := m) (rest := []) (F1 := 7) (L1 := 150) (mc := 0) (ms := 0) d_Model_atom_91 cV_Model_294 (f_group l e g_at g_kind g_from g_to g_bad g_phrases g_tokens g_groups g_outs g_tops g_mask g_askedSize g_asked e_asked g_firstToken e_firstToken g_starred e_starred g_tokenAt e_tokenAt g_tokenSize e_tokenSize g_groupKind e_groupKind g_groupPhrase e_groupPhrase g_groupSize e_groupSize g_groupMask e_groupMask g_groupFar e_groupFar g_out e_out g_top e_top g_masks e_masks ND hasz PT J TK PH GR hbd (by omega) (by omega) (by omega) (by omega) hk_79 (by omega) (by omega)) e ⟨by decide, rfl⟩ ⟨by omega, by show 8 + (1 + 11) + 150 ≤ _; omega⟩ ⟨by omega, by omega⟩ (Nat.le_of_ble_eq_true rfl) (fun v_137 h_136 p_138 => ?_)
          obtain ⟨rfl, x_80, y_81, p_82, t_83, g_84, o_85, n_86, kd_87, bd_88, mk_89, c_90, c_91, ca_92, cs_93, c_94, c_95, c_96, c_97, c_98, co_99, fs_100, PT_101, J_102, TK_103, hx_104, hp_105, hp12_106, ht_107, hg_108, HB_109, HN_110, l_111, e_112, g_113, g_114, g_115, g_116, g_117, g_118, g_119, g_120, g_121, g_122, g_123, ga_124, e_125, e_126, e_127, e_128, e_129, e_130, e_131, e_132, e_133, e_134, r_135⟩ := p_138
          have e_139 := r_135 asked_ _ (by simp only [List.mem_cons, List.not_mem_nil, or_false, not_or]; exact ⟨(Ne.symm (nd_ne ND (i := 0) (j := 1) rfl rfl (by decide))), (nd_ne ND (i := 1) (j := 2) rfl rfl (by decide)), (nd_ne ND (i := 1) (j := 3) rfl rfl (by decide)), (nd_ne ND (i := 1) (j := 4) rfl rfl (by decide)), (nd_ne ND (i := 1) (j := 5) rfl rfl (by decide)), (nd_ne ND (i := 1) (j := 6) rfl rfl (by decide)), (nd_ne ND (i := 1) (j := 7) rfl rfl (by decide)), (nd_ne ND (i := 1) (j := 8) rfl rfl (by decide)), (nd_ne ND (i := 1) (j := 9) rfl rfl (by decide)), (nd_ne ND (i := 1) (j := 10) rfl rfl (by decide)), (nd_ne ND (i := 1) (j := 11) rfl rfl (by decide))⟩) e_asked
          have e_140 := r_135 top_ _ (by simp only [List.mem_cons, List.not_mem_nil, or_false, not_or]; exact ⟨(Ne.symm (nd_ne ND (i := 0) (j := 12) rfl rfl (by decide))), (Ne.symm (nd_ne ND (i := 2) (j := 12) rfl rfl (by decide))), (Ne.symm (nd_ne ND (i := 3) (j := 12) rfl rfl (by decide))), (Ne.symm (nd_ne ND (i := 4) (j := 12) rfl rfl (by decide))), (Ne.symm (nd_ne ND (i := 5) (j := 12) rfl rfl (by decide))), (Ne.symm (nd_ne ND (i := 6) (j := 12) rfl rfl (by decide))), (Ne.symm (nd_ne ND (i := 7) (j := 12) rfl rfl (by decide))), (Ne.symm (nd_ne ND (i := 8) (j := 12) rfl rfl (by decide))), (Ne.symm (nd_ne ND (i := 9) (j := 12) rfl rfl (by decide))), (Ne.symm (nd_ne ND (i := 10) (j := 12) rfl rfl (by decide))), (Ne.symm (nd_ne ND (i := 11) (j := 12) rfl rfl (by decide)))⟩) e_top
          have e_141 := r_135 masks_ _ (by simp only [List.mem_cons, List.not_mem_nil, or_false, not_or]; exact ⟨(Ne.symm (nd_ne ND (i := 0) (j := 13) rfl rfl (by decide))), (Ne.symm (nd_ne ND (i := 2) (j := 13) rfl rfl (by decide))), (Ne.symm (nd_ne ND (i := 3) (j := 13) rfl rfl (by decide))), (Ne.symm (nd_ne ND (i := 4) (j := 13) rfl rfl (by decide))), (Ne.symm (nd_ne ND (i := 5) (j := 13) rfl rfl (by decide))), (Ne.symm (nd_ne ND (i := 6) (j := 13) rfl rfl (by decide))), (Ne.symm (nd_ne ND (i := 7) (j := 13) rfl rfl (by decide))), (Ne.symm (nd_ne ND (i := 8) (j := 13) rfl rfl (by decide))), (Ne.symm (nd_ne ND (i := 9) (j := 13) rfl rfl (by decide))), (Ne.symm (nd_ne ND (i := 10) (j := 13) rfl rfl (by decide))), (Ne.symm (nd_ne ND (i := 11) (j := 13) rfl rfl (by decide)))⟩) e_masks
          have r_142 := r0.trans (r_135.mono (by simp))
          have g_143 : fs_100[(11 : Nat)]? = some (.int (nI asz)) := (ga_124 11 (by decide)).trans g_askedSize
          have g_144 : fs_100[(61 : Nat)]? = some (.int 0) := (ga_124 61 (by decide)).trans g_behind
          have g_145 : fs_100[(4 : Nat)]? = some (.ref asked_) := (ga_124 4 (by decide)).trans g_asked
          have g_146 : fs_100[(41 : Nat)]? = some (.ref firstToken_) := (ga_124 41 (by decide)).trans g_firstToken
          have g_147 : fs_100[(42 : Nat)]? = some (.ref starred_) := (ga_124 42 (by decide)).trans g_starred
          have g_148 : fs_100[(43 : Nat)]? = some (.ref tokenAt_) := (ga_124 43 (by decide)).trans g_tokenAt
          have g_149 : fs_100[(44 : Nat)]? = some (.ref tokenSize_) := (ga_124 44 (by decide)).trans g_tokenSize
          have g_150 : fs_100[(45 : Nat)]? = some (.ref groupKind_) := (ga_124 45 (by decide)).trans g_groupKind
          have g_151 : fs_100[(46 : Nat)]? = some (.ref groupPhrase_) := (ga_124 46 (by decide)).trans g_groupPhrase
          have g_152 : fs_100[(47 : Nat)]? = some (.ref groupSize_) := (ga_124 47 (by decide)).trans g_groupSize
          have g_153 : fs_100[(48 : Nat)]? = some (.ref groupMask_) := (ga_124 48 (by decide)).trans g_groupMask
          have g_154 : fs_100[(49 : Nat)]? = some (.ref groupFar_) := (ga_124 49 (by decide)).trans g_groupFar
          have g_155 : fs_100[(50 : Nat)]? = some (.ref out_) := (ga_124 50 (by decide)).trans g_out
          have g_156 : fs_100[(51 : Nat)]? = some (.ref top_) := (ga_124 51 (by decide)).trans g_top
          have g_157 : fs_100[(52 : Nat)]? = some (.ref masks_) := (ga_124 52 (by decide)).trans g_masks
          have ga_158 : ∀ i : Nat, i ∉ [28, 29, 30, 31, 33, 34, 35, 36, 37, 38, 39, 61] → fs_100[i]? = fs[i]? := fun i hi => (ga_124 i (fun z => hi (by simp only [List.mem_cons, List.not_mem_nil, or_false] at z ⊢; omega))).trans (ga0 i hi)
          have hb_159 := Nat.le_trans PT_101.1 PT_101.2.1
          refine s_Model_atom_94 l_111 e_112 ?_
          refine x_u1 (fun h_160 e_161 f_162 => ?_)
          have e_163 := (f_162 asked_ (Ne.symm (nd_ne ND (i := 0) (j := 1) rfl rfl (by decide)))).trans e_139
          have e_164 := (f_162 firstToken_ (Ne.symm (nd_ne ND (i := 0) (j := 2) rfl rfl (by decide)))).trans e_125
          have e_165 := (f_162 starred_ (Ne.symm (nd_ne ND (i := 0) (j := 3) rfl rfl (by decide)))).trans e_126
          have e_166 := (f_162 tokenAt_ (Ne.symm (nd_ne ND (i := 0) (j := 4) rfl rfl (by decide)))).trans e_127
          have e_167 := (f_162 tokenSize_ (Ne.symm (nd_ne ND (i := 0) (j := 5) rfl rfl (by decide)))).trans e_128
          have e_168 := (f_162 groupKind_ (Ne.symm (nd_ne ND (i := 0) (j := 6) rfl rfl (by decide)))).trans e_129
          have e_169 := (f_162 groupPhrase_ (Ne.symm (nd_ne ND (i := 0) (j := 7) rfl rfl (by decide)))).trans e_130
          have e_170 := (f_162 groupSize_ (Ne.symm (nd_ne ND (i := 0) (j := 8) rfl rfl (by decide)))).trans e_131
          have e_171 := (f_162 groupMask_ (Ne.symm (nd_ne ND (i := 0) (j := 9) rfl rfl (by decide)))).trans e_132
          have e_172 := (f_162 groupFar_ (Ne.symm (nd_ne ND (i := 0) (j := 10) rfl rfl (by decide)))).trans e_133
          have e_173 := (f_162 out_ (Ne.symm (nd_ne ND (i := 0) (j := 11) rfl rfl (by decide)))).trans e_134
          have e_174 := (f_162 top_ (Ne.symm (nd_ne ND (i := 0) (j := 12) rfl rfl (by decide)))).trans e_140
          have e_175 := (f_162 masks_ (Ne.symm (nd_ne ND (i := 0) (j := 13) rfl rfl (by decide)))).trans e_141
          have r_176 := r_142.up (by simp) f_162
          obtain ⟨fs_177, z_178⟩ : ∃ z, z = fs_100.set 61 (.int 1) := ⟨_, rfl⟩
          rw [← z_178] at e_161
          have l_179 : fs_177.length = 62 := by rw [z_178]; simp only [List.length_set]; exact l_111
          have g_180 : fs_177[(4 : Nat)]? = some (.ref asked_) := by rw [z_178]; exact (xw_gn (by decide) g_145)
          have g_181 : fs_177[(11 : Nat)]? = some (.int (nI asz)) := by rw [z_178]; exact (xw_gn (by decide) g_143)
          have g_182 : fs_177[(28 : Nat)]? = some (.int (nI x_80)) := by rw [z_178]; exact (xw_gn (by decide) g_113)
          have g_183 : fs_177[(29 : Nat)]? = some (.int kd_87) := by rw [z_178]; exact (xw_gn (by decide) g_114)
          have g_184 : fs_177[(30 : Nat)]? = some (.int (nI x_80)) := by rw [z_178]; exact (xw_gn (by decide) g_115)
          have g_185 : fs_177[(31 : Nat)]? = some (.int (nI y_81)) := by rw [z_178]; exact (xw_gn (by decide) g_116)
          have g_186 : fs_177[(33 : Nat)]? = some (.int bd_88) := by rw [z_178]; exact (xw_gn (by decide) g_117)
          have g_187 : fs_177[(34 : Nat)]? = some (.int (nI p_82)) := by rw [z_178]; exact (xw_gn (by decide) g_118)
          have g_188 : fs_177[(35 : Nat)]? = some (.int (nI t_83)) := by rw [z_178]; exact (xw_gn (by decide) g_119)
          have g_189 : fs_177[(36 : Nat)]? = some (.int (nI g_84)) := by rw [z_178]; exact (xw_gn (by decide) g_120)
          have g_190 : fs_177[(37 : Nat)]? = some (.int (nI o_85)) := by rw [z_178]; exact (xw_gn (by decide) g_121)
          have g_191 : fs_177[(38 : Nat)]? = some (.int (nI n_86)) := by rw [z_178]; exact (xw_gn (by decide) g_122)
          have g_192 : fs_177[(39 : Nat)]? = some (.int mk_89) := by rw [z_178]; exact (xw_gn (by decide) g_123)
          have g_193 : fs_177[(41 : Nat)]? = some (.ref firstToken_) := by rw [z_178]; exact (xw_gn (by decide) g_146)
          have g_194 : fs_177[(42 : Nat)]? = some (.ref starred_) := by rw [z_178]; exact (xw_gn (by decide) g_147)
          have g_195 : fs_177[(43 : Nat)]? = some (.ref tokenAt_) := by rw [z_178]; exact (xw_gn (by decide) g_148)
          have g_196 : fs_177[(44 : Nat)]? = some (.ref tokenSize_) := by rw [z_178]; exact (xw_gn (by decide) g_149)
          have g_197 : fs_177[(45 : Nat)]? = some (.ref groupKind_) := by rw [z_178]; exact (xw_gn (by decide) g_150)
          have g_198 : fs_177[(46 : Nat)]? = some (.ref groupPhrase_) := by rw [z_178]; exact (xw_gn (by decide) g_151)
          have g_199 : fs_177[(47 : Nat)]? = some (.ref groupSize_) := by rw [z_178]; exact (xw_gn (by decide) g_152)
          have g_200 : fs_177[(48 : Nat)]? = some (.ref groupMask_) := by rw [z_178]; exact (xw_gn (by decide) g_153)
          have g_201 : fs_177[(49 : Nat)]? = some (.ref groupFar_) := by rw [z_178]; exact (xw_gn (by decide) g_154)
          have g_202 : fs_177[(50 : Nat)]? = some (.ref out_) := by rw [z_178]; exact (xw_gn (by decide) g_155)
          have g_203 : fs_177[(51 : Nat)]? = some (.ref top_) := by rw [z_178]; exact (xw_gn (by decide) g_156)
          have g_204 : fs_177[(52 : Nat)]? = some (.ref masks_) := by rw [z_178]; exact (xw_gn (by decide) g_157)
          have g_205 : fs_177[(61 : Nat)]? = some (.int 1) := by rw [z_178]; exact (xw_gs (by simp [l_111]))
          have ga_206 : ∀ i : Nat, i ∉ [28, 29, 30, 31, 33, 34, 35, 36, 37, 38, 39, 61] → fs_177[i]? = fs[i]? := fun i hi => by rw [z_178]; exact xw_gn (fun z => hi (by rw [z]; simp)) (ga_158 i hi)
          clear z_178
          refine s_Model_atom_111 ?_
          by_cases hbb : bd_88 < 0
          · skip
            obtain ⟨u1, u2, u3, u4, u5, u6, u7, u8, u9⟩ := HB_109 hbb
            subst u3 u5 u6
            exact ⟨rfl, x_80, 1, kd_87, bd_88, by omega, fun _ => by omega, y_81, p_82, t_83, (g + 1), (o + 1), n_86, _, _, _, _, _, _, _, _, _, _, _, _, _, _, PT_101, J_102, TK_103, by omega, by omega, by omega, by omega, by omega, fun k hk => hT1 k (by omega), fun q => ⟨u2, u4, by omega, by omega, by rw [hgt_grp hH (nI_pos (by omega)), u8], fun k hk => by by_cases q9 : k = o; (rw [q9, pk_us]; exact Or.inr ⟨g, by omega, rfl⟩); (rw [pk_un q9]; exact (hC k (by omega)).imp id (fun ⟨j, a, b⟩ => ⟨j, by omega, b⟩))⟩, l_179, e_161, g_182, g_183, g_184, g_185, g_186, g_187, g_188, g_189, g_190, g_191, g_192, g_205, ga_206, e_164, e_165, e_166, e_167, e_168, e_169, e_170, e_171, e_172, e_173, e_174, e_175, r_176⟩
          · skip
            obtain ⟨u3, u5, u7⟩ := HN_110 hbb
            subst u3 u5 u7
            exact ⟨rfl, x_80, 1, kd_87, bd_88, by omega, fun q => absurd q hbb, y_81, p_82, t_83, _, _, _, _, _, _, _, _, _, _, _, _, _, _, _, _, _, PT_101, J_102, TK_103, by omega, by omega, by omega, by omega, by omega, hT1, fun q => absurd q hbb, l_179, e_161, g_182, g_183, g_184, g_185, g_186, g_187, g_188, g_189, g_190, g_191, g_192, g_205, ga_206, e_164, e_165, e_166, e_167, e_168, e_169, e_170, e_171, e_172, e_173, e_174, e_175, r_176⟩
        · skip
          refine s_Model_atom_74 l e g_kind (fun z_207 => ?_) (fun z_208 => ?_)
          · skip
            refine s_Model_atom_90 ?_
            have hk_209 : ¬ kd = 0 := by rw [z_207]; decide
            refine x_callV (As := []) (b := m) (rest := []) (F1 := 7) (L1 := 150) (mc := 0) (ms := 0) d_Model_atom_91 cV_Model_294 (f_group l e g_at g_kind g_from g_to g_bad g_phrases g_tokens g_groups g_outs g_tops g_mask g_askedSize g_asked e_asked g_firstToken e_firstToken g_starred e_starred g_tokenAt e_tokenAt g_tokenSize e_tokenSize g_groupKind e_groupKind g_groupPhrase e_groupPhrase g_groupSize e_groupSize g_groupMask e_groupMask g_groupFar e_groupFar g_out e_out g_top e_top g_masks e_masks ND hasz PT J TK PH GR hbd (by omega) (by omega) (by omega) (by omega) hk_209 (by omega) (by omega)) e ⟨by decide, rfl⟩ ⟨by omega, by show 8 + (1 + 11) + 150 ≤ _; omega⟩ ⟨by omega, by omega⟩ (Nat.le_of_ble_eq_true rfl) (fun v_267 h_266 p_268 => ?_)
            obtain ⟨rfl, x_210, y_211, p_212, t_213, g_214, o_215, n_216, kd_217, bd_218, mk_219, c_220, c_221, ca_222, cs_223, c_224, c_225, c_226, c_227, c_228, co_229, fs_230, PT_231, J_232, TK_233, hx_234, hp_235, hp12_236, ht_237, hg_238, HB_239, HN_240, l_241, e_242, g_243, g_244, g_245, g_246, g_247, g_248, g_249, g_250, g_251, g_252, g_253, ga_254, e_255, e_256, e_257, e_258, e_259, e_260, e_261, e_262, e_263, e_264, r_265⟩ := p_268
            have e_269 := r_265 asked_ _ (by simp only [List.mem_cons, List.not_mem_nil, or_false, not_or]; exact ⟨(Ne.symm (nd_ne ND (i := 0) (j := 1) rfl rfl (by decide))), (nd_ne ND (i := 1) (j := 2) rfl rfl (by decide)), (nd_ne ND (i := 1) (j := 3) rfl rfl (by decide)), (nd_ne ND (i := 1) (j := 4) rfl rfl (by decide)), (nd_ne ND (i := 1) (j := 5) rfl rfl (by decide)), (nd_ne ND (i := 1) (j := 6) rfl rfl (by decide)), (nd_ne ND (i := 1) (j := 7) rfl rfl (by decide)), (nd_ne ND (i := 1) (j := 8) rfl rfl (by decide)), (nd_ne ND (i := 1) (j := 9) rfl rfl (by decide)), (nd_ne ND (i := 1) (j := 10) rfl rfl (by decide)), (nd_ne ND (i := 1) (j := 11) rfl rfl (by decide))⟩) e_asked
            have e_270 := r_265 top_ _ (by simp only [List.mem_cons, List.not_mem_nil, or_false, not_or]; exact ⟨(Ne.symm (nd_ne ND (i := 0) (j := 12) rfl rfl (by decide))), (Ne.symm (nd_ne ND (i := 2) (j := 12) rfl rfl (by decide))), (Ne.symm (nd_ne ND (i := 3) (j := 12) rfl rfl (by decide))), (Ne.symm (nd_ne ND (i := 4) (j := 12) rfl rfl (by decide))), (Ne.symm (nd_ne ND (i := 5) (j := 12) rfl rfl (by decide))), (Ne.symm (nd_ne ND (i := 6) (j := 12) rfl rfl (by decide))), (Ne.symm (nd_ne ND (i := 7) (j := 12) rfl rfl (by decide))), (Ne.symm (nd_ne ND (i := 8) (j := 12) rfl rfl (by decide))), (Ne.symm (nd_ne ND (i := 9) (j := 12) rfl rfl (by decide))), (Ne.symm (nd_ne ND (i := 10) (j := 12) rfl rfl (by decide))), (Ne.symm (nd_ne ND (i := 11) (j := 12) rfl rfl (by decide)))⟩) e_top
            have e_271 := r_265 masks_ _ (by simp only [List.mem_cons, List.not_mem_nil, or_false, not_or]; exact ⟨(Ne.symm (nd_ne ND (i := 0) (j := 13) rfl rfl (by decide))), (Ne.symm (nd_ne ND (i := 2) (j := 13) rfl rfl (by decide))), (Ne.symm (nd_ne ND (i := 3) (j := 13) rfl rfl (by decide))), (Ne.symm (nd_ne ND (i := 4) (j := 13) rfl rfl (by decide))), (Ne.symm (nd_ne ND (i := 5) (j := 13) rfl rfl (by decide))), (Ne.symm (nd_ne ND (i := 6) (j := 13) rfl rfl (by decide))), (Ne.symm (nd_ne ND (i := 7) (j := 13) rfl rfl (by decide))), (Ne.symm (nd_ne ND (i := 8) (j := 13) rfl rfl (by decide))), (Ne.symm (nd_ne ND (i := 9) (j := 13) rfl rfl (by decide))), (Ne.symm (nd_ne ND (i := 10) (j := 13) rfl rfl (by decide))), (Ne.symm (nd_ne ND (i := 11) (j := 13) rfl rfl (by decide)))⟩) e_masks
            have r_272 := r0.trans (r_265.mono (by simp))
            have g_273 : fs_230[(11 : Nat)]? = some (.int (nI asz)) := (ga_254 11 (by decide)).trans g_askedSize
            have g_274 : fs_230[(61 : Nat)]? = some (.int 0) := (ga_254 61 (by decide)).trans g_behind
            have g_275 : fs_230[(4 : Nat)]? = some (.ref asked_) := (ga_254 4 (by decide)).trans g_asked
            have g_276 : fs_230[(41 : Nat)]? = some (.ref firstToken_) := (ga_254 41 (by decide)).trans g_firstToken
            have g_277 : fs_230[(42 : Nat)]? = some (.ref starred_) := (ga_254 42 (by decide)).trans g_starred
            have g_278 : fs_230[(43 : Nat)]? = some (.ref tokenAt_) := (ga_254 43 (by decide)).trans g_tokenAt
            have g_279 : fs_230[(44 : Nat)]? = some (.ref tokenSize_) := (ga_254 44 (by decide)).trans g_tokenSize
            have g_280 : fs_230[(45 : Nat)]? = some (.ref groupKind_) := (ga_254 45 (by decide)).trans g_groupKind
            have g_281 : fs_230[(46 : Nat)]? = some (.ref groupPhrase_) := (ga_254 46 (by decide)).trans g_groupPhrase
            have g_282 : fs_230[(47 : Nat)]? = some (.ref groupSize_) := (ga_254 47 (by decide)).trans g_groupSize
            have g_283 : fs_230[(48 : Nat)]? = some (.ref groupMask_) := (ga_254 48 (by decide)).trans g_groupMask
            have g_284 : fs_230[(49 : Nat)]? = some (.ref groupFar_) := (ga_254 49 (by decide)).trans g_groupFar
            have g_285 : fs_230[(50 : Nat)]? = some (.ref out_) := (ga_254 50 (by decide)).trans g_out
            have g_286 : fs_230[(51 : Nat)]? = some (.ref top_) := (ga_254 51 (by decide)).trans g_top
            have g_287 : fs_230[(52 : Nat)]? = some (.ref masks_) := (ga_254 52 (by decide)).trans g_masks
            have ga_288 : ∀ i : Nat, i ∉ [28, 29, 30, 31, 33, 34, 35, 36, 37, 38, 39, 61] → fs_230[i]? = fs[i]? := fun i hi => (ga_254 i (fun z => hi (by simp only [List.mem_cons, List.not_mem_nil, or_false] at z ⊢; omega))).trans (ga0 i hi)
            have hb_289 := Nat.le_trans PT_231.1 PT_231.2.1
            refine s_Model_atom_94 l_241 e_242 ?_
            refine x_u1 (fun h_290 e_291 f_292 => ?_)
            have e_293 := (f_292 asked_ (Ne.symm (nd_ne ND (i := 0) (j := 1) rfl rfl (by decide)))).trans e_269
            have e_294 := (f_292 firstToken_ (Ne.symm (nd_ne ND (i := 0) (j := 2) rfl rfl (by decide)))).trans e_255
            have e_295 := (f_292 starred_ (Ne.symm (nd_ne ND (i := 0) (j := 3) rfl rfl (by decide)))).trans e_256
            have e_296 := (f_292 tokenAt_ (Ne.symm (nd_ne ND (i := 0) (j := 4) rfl rfl (by decide)))).trans e_257
            have e_297 := (f_292 tokenSize_ (Ne.symm (nd_ne ND (i := 0) (j := 5) rfl rfl (by decide)))).trans e_258
            have e_298 := (f_292 groupKind_ (Ne.symm (nd_ne ND (i := 0) (j := 6) rfl rfl (by decide)))).trans e_259
            have e_299 := (f_292 groupPhrase_ (Ne.symm (nd_ne ND (i := 0) (j := 7) rfl rfl (by decide)))).trans e_260
            have e_300 := (f_292 groupSize_ (Ne.symm (nd_ne ND (i := 0) (j := 8) rfl rfl (by decide)))).trans e_261
            have e_301 := (f_292 groupMask_ (Ne.symm (nd_ne ND (i := 0) (j := 9) rfl rfl (by decide)))).trans e_262
            have e_302 := (f_292 groupFar_ (Ne.symm (nd_ne ND (i := 0) (j := 10) rfl rfl (by decide)))).trans e_263
            have e_303 := (f_292 out_ (Ne.symm (nd_ne ND (i := 0) (j := 11) rfl rfl (by decide)))).trans e_264
            have e_304 := (f_292 top_ (Ne.symm (nd_ne ND (i := 0) (j := 12) rfl rfl (by decide)))).trans e_270
            have e_305 := (f_292 masks_ (Ne.symm (nd_ne ND (i := 0) (j := 13) rfl rfl (by decide)))).trans e_271
            have r_306 := r_272.up (by simp) f_292
            obtain ⟨fs_307, z_308⟩ : ∃ z, z = fs_230.set 61 (.int 1) := ⟨_, rfl⟩
            rw [← z_308] at e_291
            have l_309 : fs_307.length = 62 := by rw [z_308]; simp only [List.length_set]; exact l_241
            have g_310 : fs_307[(4 : Nat)]? = some (.ref asked_) := by rw [z_308]; exact (xw_gn (by decide) g_275)
            have g_311 : fs_307[(11 : Nat)]? = some (.int (nI asz)) := by rw [z_308]; exact (xw_gn (by decide) g_273)
            have g_312 : fs_307[(28 : Nat)]? = some (.int (nI x_210)) := by rw [z_308]; exact (xw_gn (by decide) g_243)
            have g_313 : fs_307[(29 : Nat)]? = some (.int kd_217) := by rw [z_308]; exact (xw_gn (by decide) g_244)
            have g_314 : fs_307[(30 : Nat)]? = some (.int (nI x_210)) := by rw [z_308]; exact (xw_gn (by decide) g_245)
            have g_315 : fs_307[(31 : Nat)]? = some (.int (nI y_211)) := by rw [z_308]; exact (xw_gn (by decide) g_246)
            have g_316 : fs_307[(33 : Nat)]? = some (.int bd_218) := by rw [z_308]; exact (xw_gn (by decide) g_247)
            have g_317 : fs_307[(34 : Nat)]? = some (.int (nI p_212)) := by rw [z_308]; exact (xw_gn (by decide) g_248)
            have g_318 : fs_307[(35 : Nat)]? = some (.int (nI t_213)) := by rw [z_308]; exact (xw_gn (by decide) g_249)
            have g_319 : fs_307[(36 : Nat)]? = some (.int (nI g_214)) := by rw [z_308]; exact (xw_gn (by decide) g_250)
            have g_320 : fs_307[(37 : Nat)]? = some (.int (nI o_215)) := by rw [z_308]; exact (xw_gn (by decide) g_251)
            have g_321 : fs_307[(38 : Nat)]? = some (.int (nI n_216)) := by rw [z_308]; exact (xw_gn (by decide) g_252)
            have g_322 : fs_307[(39 : Nat)]? = some (.int mk_219) := by rw [z_308]; exact (xw_gn (by decide) g_253)
            have g_323 : fs_307[(41 : Nat)]? = some (.ref firstToken_) := by rw [z_308]; exact (xw_gn (by decide) g_276)
            have g_324 : fs_307[(42 : Nat)]? = some (.ref starred_) := by rw [z_308]; exact (xw_gn (by decide) g_277)
            have g_325 : fs_307[(43 : Nat)]? = some (.ref tokenAt_) := by rw [z_308]; exact (xw_gn (by decide) g_278)
            have g_326 : fs_307[(44 : Nat)]? = some (.ref tokenSize_) := by rw [z_308]; exact (xw_gn (by decide) g_279)
            have g_327 : fs_307[(45 : Nat)]? = some (.ref groupKind_) := by rw [z_308]; exact (xw_gn (by decide) g_280)
            have g_328 : fs_307[(46 : Nat)]? = some (.ref groupPhrase_) := by rw [z_308]; exact (xw_gn (by decide) g_281)
            have g_329 : fs_307[(47 : Nat)]? = some (.ref groupSize_) := by rw [z_308]; exact (xw_gn (by decide) g_282)
            have g_330 : fs_307[(48 : Nat)]? = some (.ref groupMask_) := by rw [z_308]; exact (xw_gn (by decide) g_283)
            have g_331 : fs_307[(49 : Nat)]? = some (.ref groupFar_) := by rw [z_308]; exact (xw_gn (by decide) g_284)
            have g_332 : fs_307[(50 : Nat)]? = some (.ref out_) := by rw [z_308]; exact (xw_gn (by decide) g_285)
            have g_333 : fs_307[(51 : Nat)]? = some (.ref top_) := by rw [z_308]; exact (xw_gn (by decide) g_286)
            have g_334 : fs_307[(52 : Nat)]? = some (.ref masks_) := by rw [z_308]; exact (xw_gn (by decide) g_287)
            have g_335 : fs_307[(61 : Nat)]? = some (.int 1) := by rw [z_308]; exact (xw_gs (by simp [l_241]))
            have ga_336 : ∀ i : Nat, i ∉ [28, 29, 30, 31, 33, 34, 35, 36, 37, 38, 39, 61] → fs_307[i]? = fs[i]? := fun i hi => by rw [z_308]; exact xw_gn (fun z => hi (by rw [z]; simp)) (ga_288 i hi)
            clear z_308
            refine s_Model_atom_111 ?_
            by_cases hbb : bd_218 < 0
            · skip
              obtain ⟨u1, u2, u3, u4, u5, u6, u7, u8, u9⟩ := HB_239 hbb
              subst u3 u5 u6
              exact ⟨rfl, x_210, 1, kd_217, bd_218, by omega, fun _ => by omega, y_211, p_212, t_213, (g + 1), (o + 1), n_216, _, _, _, _, _, _, _, _, _, _, _, _, _, _, PT_231, J_232, TK_233, by omega, by omega, by omega, by omega, by omega, fun k hk => hT1 k (by omega), fun q => ⟨u2, u4, by omega, by omega, by rw [hgt_grp hH (nI_pos (by omega)), u8], fun k hk => by by_cases q9 : k = o; (rw [q9, pk_us]; exact Or.inr ⟨g, by omega, rfl⟩); (rw [pk_un q9]; exact (hC k (by omega)).imp id (fun ⟨j, a, b⟩ => ⟨j, by omega, b⟩))⟩, l_309, e_291, g_312, g_313, g_314, g_315, g_316, g_317, g_318, g_319, g_320, g_321, g_322, g_335, ga_336, e_294, e_295, e_296, e_297, e_298, e_299, e_300, e_301, e_302, e_303, e_304, e_305, r_306⟩
            · skip
              obtain ⟨u3, u5, u7⟩ := HN_240 hbb
              subst u3 u5 u7
              exact ⟨rfl, x_210, 1, kd_217, bd_218, by omega, fun q => absurd q hbb, y_211, p_212, t_213, _, _, _, _, _, _, _, _, _, _, _, _, _, _, _, _, _, PT_231, J_232, TK_233, by omega, by omega, by omega, by omega, by omega, hT1, fun q => absurd q hbb, l_309, e_291, g_312, g_313, g_314, g_315, g_316, g_317, g_318, g_319, g_320, g_321, g_322, g_335, ga_336, e_294, e_295, e_296, e_297, e_298, e_299, e_300, e_301, e_302, e_303, e_304, e_305, r_306⟩
          · skip
            refine s_Model_atom_83 ?_
            refine x_callV (As := []) (b := m) (rest := []) (F1 := 3) (L1 := 61) (mc := 0) (ms := 0) d_Model_atom_84 cV_Model_244 (f_isString l e g_kind g_to g_askedSize g_asked e_asked PT.2.1 hasz (by omega) (by omega)) e ⟨by decide, rfl⟩ ⟨by omega, by show 8 + (1 + 11) + 61 ≤ _; omega⟩ ⟨by omega, by omega⟩ (Nat.le_of_ble_eq_true rfl) (fun v_340 h_339 p_341 => ?_)
            obtain ⟨⟨c_337, rfl, hc_338⟩, rfl⟩ := p_341
            refine s_Model_atom_87 (fun z_342 => ?_) (fun z_343 => ?_)
            · skip
              refine s_Model_atom_102 l e g_from ?_
              refine x_callV (As := [.int 1, .int (nI x)]) (b := m) (rest := []) (F1 := 1) (L1 := 20) (mc := 0) (ms := 0) d_Model_atom_108 cV_Model_250 (f_wrongs (k := x) l e g_bad (by omega) (by omega) (by omega)) e ⟨by decide, rfl⟩ ⟨by omega, by show 8 + (3 + 11) + 20 ≤ _; omega⟩ ⟨by omega, by omega⟩ (Nat.le_of_ble_eq_true rfl) (fun v_354 h_353 p_355 => ?_)
              obtain ⟨rfl, bd_344, fs_345, hw_346, hk_347, l_348, e_349, g_350, ga_351, r_352⟩ := p_355
              have e_356 := r_352 asked_ _ (by simp only [List.mem_cons, List.not_mem_nil, or_false, not_or]; exact (Ne.symm (nd_ne ND (i := 0) (j := 1) rfl rfl (by decide)))) e_asked
              have e_357 := r_352 firstToken_ _ (by simp only [List.mem_cons, List.not_mem_nil, or_false, not_or]; exact (Ne.symm (nd_ne ND (i := 0) (j := 2) rfl rfl (by decide)))) e_firstToken
              have e_358 := r_352 starred_ _ (by simp only [List.mem_cons, List.not_mem_nil, or_false, not_or]; exact (Ne.symm (nd_ne ND (i := 0) (j := 3) rfl rfl (by decide)))) e_starred
              have e_359 := r_352 tokenAt_ _ (by simp only [List.mem_cons, List.not_mem_nil, or_false, not_or]; exact (Ne.symm (nd_ne ND (i := 0) (j := 4) rfl rfl (by decide)))) e_tokenAt
              have e_360 := r_352 tokenSize_ _ (by simp only [List.mem_cons, List.not_mem_nil, or_false, not_or]; exact (Ne.symm (nd_ne ND (i := 0) (j := 5) rfl rfl (by decide)))) e_tokenSize
              have e_361 := r_352 groupKind_ _ (by simp only [List.mem_cons, List.not_mem_nil, or_false, not_or]; exact (Ne.symm (nd_ne ND (i := 0) (j := 6) rfl rfl (by decide)))) e_groupKind
              have e_362 := r_352 groupPhrase_ _ (by simp only [List.mem_cons, List.not_mem_nil, or_false, not_or]; exact (Ne.symm (nd_ne ND (i := 0) (j := 7) rfl rfl (by decide)))) e_groupPhrase
              have e_363 := r_352 groupSize_ _ (by simp only [List.mem_cons, List.not_mem_nil, or_false, not_or]; exact (Ne.symm (nd_ne ND (i := 0) (j := 8) rfl rfl (by decide)))) e_groupSize
              have e_364 := r_352 groupMask_ _ (by simp only [List.mem_cons, List.not_mem_nil, or_false, not_or]; exact (Ne.symm (nd_ne ND (i := 0) (j := 9) rfl rfl (by decide)))) e_groupMask
              have e_365 := r_352 groupFar_ _ (by simp only [List.mem_cons, List.not_mem_nil, or_false, not_or]; exact (Ne.symm (nd_ne ND (i := 0) (j := 10) rfl rfl (by decide)))) e_groupFar
              have e_366 := r_352 out_ _ (by simp only [List.mem_cons, List.not_mem_nil, or_false, not_or]; exact (Ne.symm (nd_ne ND (i := 0) (j := 11) rfl rfl (by decide)))) e_out
              have e_367 := r_352 top_ _ (by simp only [List.mem_cons, List.not_mem_nil, or_false, not_or]; exact (Ne.symm (nd_ne ND (i := 0) (j := 12) rfl rfl (by decide)))) e_top
              have e_368 := r_352 masks_ _ (by simp only [List.mem_cons, List.not_mem_nil, or_false, not_or]; exact (Ne.symm (nd_ne ND (i := 0) (j := 13) rfl rfl (by decide)))) e_masks
              have r_369 := r0.trans (r_352.mono (by simp))
              have g_370 : fs_345[(28 : Nat)]? = some (.int (nI x)) := (ga_351 28 (by decide)).trans g_at
              have g_371 : fs_345[(29 : Nat)]? = some (.int kd) := (ga_351 29 (by decide)).trans g_kind
              have g_372 : fs_345[(30 : Nat)]? = some (.int (nI x)) := (ga_351 30 (by decide)).trans g_from
              have g_373 : fs_345[(31 : Nat)]? = some (.int (nI y)) := (ga_351 31 (by decide)).trans g_to
              have g_374 : fs_345[(34 : Nat)]? = some (.int (nI p)) := (ga_351 34 (by decide)).trans g_phrases
              have g_375 : fs_345[(35 : Nat)]? = some (.int (nI t)) := (ga_351 35 (by decide)).trans g_tokens
              have g_376 : fs_345[(36 : Nat)]? = some (.int (nI g)) := (ga_351 36 (by decide)).trans g_groups
              have g_377 : fs_345[(37 : Nat)]? = some (.int (nI o)) := (ga_351 37 (by decide)).trans g_outs
              have g_378 : fs_345[(38 : Nat)]? = some (.int (nI n)) := (ga_351 38 (by decide)).trans g_tops
              have g_379 : fs_345[(39 : Nat)]? = some (.int mk) := (ga_351 39 (by decide)).trans g_mask
              have g_380 : fs_345[(11 : Nat)]? = some (.int (nI asz)) := (ga_351 11 (by decide)).trans g_askedSize
              have g_381 : fs_345[(61 : Nat)]? = some (.int 0) := (ga_351 61 (by decide)).trans g_behind
              have g_382 : fs_345[(4 : Nat)]? = some (.ref asked_) := (ga_351 4 (by decide)).trans g_asked
              have g_383 : fs_345[(41 : Nat)]? = some (.ref firstToken_) := (ga_351 41 (by decide)).trans g_firstToken
              have g_384 : fs_345[(42 : Nat)]? = some (.ref starred_) := (ga_351 42 (by decide)).trans g_starred
              have g_385 : fs_345[(43 : Nat)]? = some (.ref tokenAt_) := (ga_351 43 (by decide)).trans g_tokenAt
              have g_386 : fs_345[(44 : Nat)]? = some (.ref tokenSize_) := (ga_351 44 (by decide)).trans g_tokenSize
              have g_387 : fs_345[(45 : Nat)]? = some (.ref groupKind_) := (ga_351 45 (by decide)).trans g_groupKind
              have g_388 : fs_345[(46 : Nat)]? = some (.ref groupPhrase_) := (ga_351 46 (by decide)).trans g_groupPhrase
              have g_389 : fs_345[(47 : Nat)]? = some (.ref groupSize_) := (ga_351 47 (by decide)).trans g_groupSize
              have g_390 : fs_345[(48 : Nat)]? = some (.ref groupMask_) := (ga_351 48 (by decide)).trans g_groupMask
              have g_391 : fs_345[(49 : Nat)]? = some (.ref groupFar_) := (ga_351 49 (by decide)).trans g_groupFar
              have g_392 : fs_345[(50 : Nat)]? = some (.ref out_) := (ga_351 50 (by decide)).trans g_out
              have g_393 : fs_345[(51 : Nat)]? = some (.ref top_) := (ga_351 51 (by decide)).trans g_top
              have g_394 : fs_345[(52 : Nat)]? = some (.ref masks_) := (ga_351 52 (by decide)).trans g_masks
              have ga_395 : ∀ i : Nat, i ∉ [28, 29, 30, 31, 33, 34, 35, 36, 37, 38, 39, 61] → fs_345[i]? = fs[i]? := fun i hi => (ga_351 i (fun z => hi (by simp only [List.mem_cons, List.not_mem_nil, or_false] at z ⊢; omega))).trans (ga0 i hi)
              refine x_le (xw_le_n xw_le_e) ?_
              refine s_Model_atom_111 ?_
              have hnb : ¬ bd_344 < 0 := fun q => absurd (hw_346 q).1 (by decide)
              exact ⟨rfl, x, 0, kd, bd_344, by omega, fun q => absurd q hnb, y, p, t, g, o, n, _, _, _, _, _, _, _, _, _, _, _, _, _, _, PT, J, TK, by omega, by omega, by omega, by omega, by omega, hT1, fun q => absurd q hnb, l_348, e_349, g_370, g_371, g_372, g_373, g_350, g_374, g_375, g_376, g_377, g_378, g_379, g_381, ga_395, e_357, e_358, e_359, e_360, e_361, e_362, e_363, e_364, e_365, e_366, e_367, e_368, r_369⟩
            · skip
              refine s_Model_atom_90 ?_
              have hk_396 : ¬ kd = 0 := by rcases (hc_338.resolve_left z_343).2 with q | q <;> (rw [q]; decide)
              refine x_callV (As := []) (b := m) (rest := []) (F1 := 7) (L1 := 150) (mc := 0) (ms := 0) d_Model_atom_91 cV_Model_294 (f_group l e g_at g_kind g_from g_to g_bad g_phrases g_tokens g_groups g_outs g_tops g_mask g_askedSize g_asked e_asked g_firstToken e_firstToken g_starred e_starred g_tokenAt e_tokenAt g_tokenSize e_tokenSize g_groupKind e_groupKind g_groupPhrase e_groupPhrase g_groupSize e_groupSize g_groupMask e_groupMask g_groupFar e_groupFar g_out e_out g_top e_top g_masks e_masks ND hasz PT J TK PH GR hbd (by omega) (by omega) (by omega) (by omega) hk_396 (by omega) (by omega)) e ⟨by decide, rfl⟩ ⟨by omega, by show 8 + (1 + 11) + 150 ≤ _; omega⟩ ⟨by omega, by omega⟩ (Nat.le_of_ble_eq_true rfl) (fun v_454 h_453 p_455 => ?_)
              obtain ⟨rfl, x_397, y_398, p_399, t_400, g_401, o_402, n_403, kd_404, bd_405, mk_406, c_407, c_408, ca_409, cs_410, c_411, c_412, c_413, c_414, c_415, co_416, fs_417, PT_418, J_419, TK_420, hx_421, hp_422, hp12_423, ht_424, hg_425, HB_426, HN_427, l_428, e_429, g_430, g_431, g_432, g_433, g_434, g_435, g_436, g_437, g_438, g_439, g_440, ga_441, e_442, e_443, e_444, e_445, e_446, e_447, e_448, e_449, e_450, e_451, r_452⟩ := p_455
              have e_456 := r_452 asked_ _ (by simp only [List.mem_cons, List.not_mem_nil, or_false, not_or]; exact ⟨(Ne.symm (nd_ne ND (i := 0) (j := 1) rfl rfl (by decide))), (nd_ne ND (i := 1) (j := 2) rfl rfl (by decide)), (nd_ne ND (i := 1) (j := 3) rfl rfl (by decide)), (nd_ne ND (i := 1) (j := 4) rfl rfl (by decide)), (nd_ne ND (i := 1) (j := 5) rfl rfl (by decide)), (nd_ne ND (i := 1) (j := 6) rfl rfl (by decide)), (nd_ne ND (i := 1) (j := 7) rfl rfl (by decide)), (nd_ne ND (i := 1) (j := 8) rfl rfl (by decide)), (nd_ne ND (i := 1) (j := 9) rfl rfl (by decide)), (nd_ne ND (i := 1) (j := 10) rfl rfl (by decide)), (nd_ne ND (i := 1) (j := 11) rfl rfl (by decide))⟩) e_asked
              have e_457 := r_452 top_ _ (by simp only [List.mem_cons, List.not_mem_nil, or_false, not_or]; exact ⟨(Ne.symm (nd_ne ND (i := 0) (j := 12) rfl rfl (by decide))), (Ne.symm (nd_ne ND (i := 2) (j := 12) rfl rfl (by decide))), (Ne.symm (nd_ne ND (i := 3) (j := 12) rfl rfl (by decide))), (Ne.symm (nd_ne ND (i := 4) (j := 12) rfl rfl (by decide))), (Ne.symm (nd_ne ND (i := 5) (j := 12) rfl rfl (by decide))), (Ne.symm (nd_ne ND (i := 6) (j := 12) rfl rfl (by decide))), (Ne.symm (nd_ne ND (i := 7) (j := 12) rfl rfl (by decide))), (Ne.symm (nd_ne ND (i := 8) (j := 12) rfl rfl (by decide))), (Ne.symm (nd_ne ND (i := 9) (j := 12) rfl rfl (by decide))), (Ne.symm (nd_ne ND (i := 10) (j := 12) rfl rfl (by decide))), (Ne.symm (nd_ne ND (i := 11) (j := 12) rfl rfl (by decide)))⟩) e_top
              have e_458 := r_452 masks_ _ (by simp only [List.mem_cons, List.not_mem_nil, or_false, not_or]; exact ⟨(Ne.symm (nd_ne ND (i := 0) (j := 13) rfl rfl (by decide))), (Ne.symm (nd_ne ND (i := 2) (j := 13) rfl rfl (by decide))), (Ne.symm (nd_ne ND (i := 3) (j := 13) rfl rfl (by decide))), (Ne.symm (nd_ne ND (i := 4) (j := 13) rfl rfl (by decide))), (Ne.symm (nd_ne ND (i := 5) (j := 13) rfl rfl (by decide))), (Ne.symm (nd_ne ND (i := 6) (j := 13) rfl rfl (by decide))), (Ne.symm (nd_ne ND (i := 7) (j := 13) rfl rfl (by decide))), (Ne.symm (nd_ne ND (i := 8) (j := 13) rfl rfl (by decide))), (Ne.symm (nd_ne ND (i := 9) (j := 13) rfl rfl (by decide))), (Ne.symm (nd_ne ND (i := 10) (j := 13) rfl rfl (by decide))), (Ne.symm (nd_ne ND (i := 11) (j := 13) rfl rfl (by decide)))⟩) e_masks
              have r_459 := r0.trans (r_452.mono (by simp))
              have g_460 : fs_417[(11 : Nat)]? = some (.int (nI asz)) := (ga_441 11 (by decide)).trans g_askedSize
              have g_461 : fs_417[(61 : Nat)]? = some (.int 0) := (ga_441 61 (by decide)).trans g_behind
              have g_462 : fs_417[(4 : Nat)]? = some (.ref asked_) := (ga_441 4 (by decide)).trans g_asked
              have g_463 : fs_417[(41 : Nat)]? = some (.ref firstToken_) := (ga_441 41 (by decide)).trans g_firstToken
              have g_464 : fs_417[(42 : Nat)]? = some (.ref starred_) := (ga_441 42 (by decide)).trans g_starred
              have g_465 : fs_417[(43 : Nat)]? = some (.ref tokenAt_) := (ga_441 43 (by decide)).trans g_tokenAt
              have g_466 : fs_417[(44 : Nat)]? = some (.ref tokenSize_) := (ga_441 44 (by decide)).trans g_tokenSize
              have g_467 : fs_417[(45 : Nat)]? = some (.ref groupKind_) := (ga_441 45 (by decide)).trans g_groupKind
              have g_468 : fs_417[(46 : Nat)]? = some (.ref groupPhrase_) := (ga_441 46 (by decide)).trans g_groupPhrase
              have g_469 : fs_417[(47 : Nat)]? = some (.ref groupSize_) := (ga_441 47 (by decide)).trans g_groupSize
              have g_470 : fs_417[(48 : Nat)]? = some (.ref groupMask_) := (ga_441 48 (by decide)).trans g_groupMask
              have g_471 : fs_417[(49 : Nat)]? = some (.ref groupFar_) := (ga_441 49 (by decide)).trans g_groupFar
              have g_472 : fs_417[(50 : Nat)]? = some (.ref out_) := (ga_441 50 (by decide)).trans g_out
              have g_473 : fs_417[(51 : Nat)]? = some (.ref top_) := (ga_441 51 (by decide)).trans g_top
              have g_474 : fs_417[(52 : Nat)]? = some (.ref masks_) := (ga_441 52 (by decide)).trans g_masks
              have ga_475 : ∀ i : Nat, i ∉ [28, 29, 30, 31, 33, 34, 35, 36, 37, 38, 39, 61] → fs_417[i]? = fs[i]? := fun i hi => (ga_441 i (fun z => hi (by simp only [List.mem_cons, List.not_mem_nil, or_false] at z ⊢; omega))).trans (ga0 i hi)
              have hb_476 := Nat.le_trans PT_418.1 PT_418.2.1
              refine s_Model_atom_94 l_428 e_429 ?_
              refine x_u1 (fun h_477 e_478 f_479 => ?_)
              have e_480 := (f_479 asked_ (Ne.symm (nd_ne ND (i := 0) (j := 1) rfl rfl (by decide)))).trans e_456
              have e_481 := (f_479 firstToken_ (Ne.symm (nd_ne ND (i := 0) (j := 2) rfl rfl (by decide)))).trans e_442
              have e_482 := (f_479 starred_ (Ne.symm (nd_ne ND (i := 0) (j := 3) rfl rfl (by decide)))).trans e_443
              have e_483 := (f_479 tokenAt_ (Ne.symm (nd_ne ND (i := 0) (j := 4) rfl rfl (by decide)))).trans e_444
              have e_484 := (f_479 tokenSize_ (Ne.symm (nd_ne ND (i := 0) (j := 5) rfl rfl (by decide)))).trans e_445
              have e_485 := (f_479 groupKind_ (Ne.symm (nd_ne ND (i := 0) (j := 6) rfl rfl (by decide)))).trans e_446
              have e_486 := (f_479 groupPhrase_ (Ne.symm (nd_ne ND (i := 0) (j := 7) rfl rfl (by decide)))).trans e_447
              have e_487 := (f_479 groupSize_ (Ne.symm (nd_ne ND (i := 0) (j := 8) rfl rfl (by decide)))).trans e_448
              have e_488 := (f_479 groupMask_ (Ne.symm (nd_ne ND (i := 0) (j := 9) rfl rfl (by decide)))).trans e_449
              have e_489 := (f_479 groupFar_ (Ne.symm (nd_ne ND (i := 0) (j := 10) rfl rfl (by decide)))).trans e_450
              have e_490 := (f_479 out_ (Ne.symm (nd_ne ND (i := 0) (j := 11) rfl rfl (by decide)))).trans e_451
              have e_491 := (f_479 top_ (Ne.symm (nd_ne ND (i := 0) (j := 12) rfl rfl (by decide)))).trans e_457
              have e_492 := (f_479 masks_ (Ne.symm (nd_ne ND (i := 0) (j := 13) rfl rfl (by decide)))).trans e_458
              have r_493 := r_459.up (by simp) f_479
              obtain ⟨fs_494, z_495⟩ : ∃ z, z = fs_417.set 61 (.int 1) := ⟨_, rfl⟩
              rw [← z_495] at e_478
              have l_496 : fs_494.length = 62 := by rw [z_495]; simp only [List.length_set]; exact l_428
              have g_497 : fs_494[(4 : Nat)]? = some (.ref asked_) := by rw [z_495]; exact (xw_gn (by decide) g_462)
              have g_498 : fs_494[(11 : Nat)]? = some (.int (nI asz)) := by rw [z_495]; exact (xw_gn (by decide) g_460)
              have g_499 : fs_494[(28 : Nat)]? = some (.int (nI x_397)) := by rw [z_495]; exact (xw_gn (by decide) g_430)
              have g_500 : fs_494[(29 : Nat)]? = some (.int kd_404) := by rw [z_495]; exact (xw_gn (by decide) g_431)
              have g_501 : fs_494[(30 : Nat)]? = some (.int (nI x_397)) := by rw [z_495]; exact (xw_gn (by decide) g_432)
              have g_502 : fs_494[(31 : Nat)]? = some (.int (nI y_398)) := by rw [z_495]; exact (xw_gn (by decide) g_433)
              have g_503 : fs_494[(33 : Nat)]? = some (.int bd_405) := by rw [z_495]; exact (xw_gn (by decide) g_434)
              have g_504 : fs_494[(34 : Nat)]? = some (.int (nI p_399)) := by rw [z_495]; exact (xw_gn (by decide) g_435)
              have g_505 : fs_494[(35 : Nat)]? = some (.int (nI t_400)) := by rw [z_495]; exact (xw_gn (by decide) g_436)
              have g_506 : fs_494[(36 : Nat)]? = some (.int (nI g_401)) := by rw [z_495]; exact (xw_gn (by decide) g_437)
              have g_507 : fs_494[(37 : Nat)]? = some (.int (nI o_402)) := by rw [z_495]; exact (xw_gn (by decide) g_438)
              have g_508 : fs_494[(38 : Nat)]? = some (.int (nI n_403)) := by rw [z_495]; exact (xw_gn (by decide) g_439)
              have g_509 : fs_494[(39 : Nat)]? = some (.int mk_406) := by rw [z_495]; exact (xw_gn (by decide) g_440)
              have g_510 : fs_494[(41 : Nat)]? = some (.ref firstToken_) := by rw [z_495]; exact (xw_gn (by decide) g_463)
              have g_511 : fs_494[(42 : Nat)]? = some (.ref starred_) := by rw [z_495]; exact (xw_gn (by decide) g_464)
              have g_512 : fs_494[(43 : Nat)]? = some (.ref tokenAt_) := by rw [z_495]; exact (xw_gn (by decide) g_465)
              have g_513 : fs_494[(44 : Nat)]? = some (.ref tokenSize_) := by rw [z_495]; exact (xw_gn (by decide) g_466)
              have g_514 : fs_494[(45 : Nat)]? = some (.ref groupKind_) := by rw [z_495]; exact (xw_gn (by decide) g_467)
              have g_515 : fs_494[(46 : Nat)]? = some (.ref groupPhrase_) := by rw [z_495]; exact (xw_gn (by decide) g_468)
              have g_516 : fs_494[(47 : Nat)]? = some (.ref groupSize_) := by rw [z_495]; exact (xw_gn (by decide) g_469)
              have g_517 : fs_494[(48 : Nat)]? = some (.ref groupMask_) := by rw [z_495]; exact (xw_gn (by decide) g_470)
              have g_518 : fs_494[(49 : Nat)]? = some (.ref groupFar_) := by rw [z_495]; exact (xw_gn (by decide) g_471)
              have g_519 : fs_494[(50 : Nat)]? = some (.ref out_) := by rw [z_495]; exact (xw_gn (by decide) g_472)
              have g_520 : fs_494[(51 : Nat)]? = some (.ref top_) := by rw [z_495]; exact (xw_gn (by decide) g_473)
              have g_521 : fs_494[(52 : Nat)]? = some (.ref masks_) := by rw [z_495]; exact (xw_gn (by decide) g_474)
              have g_522 : fs_494[(61 : Nat)]? = some (.int 1) := by rw [z_495]; exact (xw_gs (by simp [l_428]))
              have ga_523 : ∀ i : Nat, i ∉ [28, 29, 30, 31, 33, 34, 35, 36, 37, 38, 39, 61] → fs_494[i]? = fs[i]? := fun i hi => by rw [z_495]; exact xw_gn (fun z => hi (by rw [z]; simp)) (ga_475 i hi)
              clear z_495
              refine s_Model_atom_111 ?_
              by_cases hbb : bd_405 < 0
              · skip
                obtain ⟨u1, u2, u3, u4, u5, u6, u7, u8, u9⟩ := HB_426 hbb
                subst u3 u5 u6
                exact ⟨rfl, x_397, 1, kd_404, bd_405, by omega, fun _ => by omega, y_398, p_399, t_400, (g + 1), (o + 1), n_403, _, _, _, _, _, _, _, _, _, _, _, _, _, _, PT_418, J_419, TK_420, by omega, by omega, by omega, by omega, by omega, fun k hk => hT1 k (by omega), fun q => ⟨u2, u4, by omega, by omega, by rw [hgt_grp hH (nI_pos (by omega)), u8], fun k hk => by by_cases q9 : k = o; (rw [q9, pk_us]; exact Or.inr ⟨g, by omega, rfl⟩); (rw [pk_un q9]; exact (hC k (by omega)).imp id (fun ⟨j, a, b⟩ => ⟨j, by omega, b⟩))⟩, l_496, e_478, g_499, g_500, g_501, g_502, g_503, g_504, g_505, g_506, g_507, g_508, g_509, g_522, ga_523, e_481, e_482, e_483, e_484, e_485, e_486, e_487, e_488, e_489, e_490, e_491, e_492, r_493⟩
              · skip
                obtain ⟨u3, u5, u7⟩ := HN_427 hbb
                subst u3 u5 u7
                exact ⟨rfl, x_397, 1, kd_404, bd_405, by omega, fun q => absurd q hbb, y_398, p_399, t_400, _, _, _, _, _, _, _, _, _, _, _, _, _, _, _, _, _, PT_418, J_419, TK_420, by omega, by omega, by omega, by omega, by omega, hT1, fun q => absurd q hbb, l_496, e_478, g_499, g_500, g_501, g_502, g_503, g_504, g_505, g_506, g_507, g_508, g_509, g_522, ga_523, e_481, e_482, e_483, e_484, e_485, e_486, e_487, e_488, e_489, e_490, e_491, e_492, r_493⟩
      · skip
        refine s_Model_atom_58 ?_
        have hk_524 : ¬ kd = 0 := by rw [(hc_71.resolve_left z_76).2]; decide
        refine x_callV (As := []) (b := m) (rest := []) (F1 := 5) (L1 := 107) (mc := 0) (ms := 0) d_Model_atom_59 cV_Model_291 (f_filter l e g_at g_kind g_from g_to g_bad g_tops g_mask g_askedSize g_asked e_asked g_top e_top g_masks e_masks (nd_ne ND (i := 12) (j := 13) rfl rfl (by decide)) hasz PT J TK hbd (by omega) hk_524 hD8 (by omega) (by omega)) e ⟨by decide, rfl⟩ ⟨by omega, by show 8 + (4 + 11) + 107 ≤ _; omega⟩ ⟨by omega, by omega⟩ (Nat.le_of_ble_eq_true rfl) (fun v_552 h_551 p_553 => ?_)
        obtain ⟨rfl, x_525, y_526, n_527, kd_528, bd_529, mk_530, ct_531, cm_532, fs_533, PT_534, hx_535, HB_536, HN_537, l_538, e_539, g_540, g_541, g_542, g_543, g_544, g_545, g_546, ga_547, e_548, e_549, r_550⟩ := p_553
        have e_554 := r_550 asked_ _ (by simp only [List.mem_cons, List.not_mem_nil, or_false, not_or]; exact ⟨(Ne.symm (nd_ne ND (i := 0) (j := 1) rfl rfl (by decide))), (nd_ne ND (i := 1) (j := 12) rfl rfl (by decide)), (nd_ne ND (i := 1) (j := 13) rfl rfl (by decide))⟩) e_asked
        have e_555 := r_550 firstToken_ _ (by simp only [List.mem_cons, List.not_mem_nil, or_false, not_or]; exact ⟨(Ne.symm (nd_ne ND (i := 0) (j := 2) rfl rfl (by decide))), (nd_ne ND (i := 2) (j := 12) rfl rfl (by decide)), (nd_ne ND (i := 2) (j := 13) rfl rfl (by decide))⟩) e_firstToken
        have e_556 := r_550 starred_ _ (by simp only [List.mem_cons, List.not_mem_nil, or_false, not_or]; exact ⟨(Ne.symm (nd_ne ND (i := 0) (j := 3) rfl rfl (by decide))), (nd_ne ND (i := 3) (j := 12) rfl rfl (by decide)), (nd_ne ND (i := 3) (j := 13) rfl rfl (by decide))⟩) e_starred
        have e_557 := r_550 tokenAt_ _ (by simp only [List.mem_cons, List.not_mem_nil, or_false, not_or]; exact ⟨(Ne.symm (nd_ne ND (i := 0) (j := 4) rfl rfl (by decide))), (nd_ne ND (i := 4) (j := 12) rfl rfl (by decide)), (nd_ne ND (i := 4) (j := 13) rfl rfl (by decide))⟩) e_tokenAt
        have e_558 := r_550 tokenSize_ _ (by simp only [List.mem_cons, List.not_mem_nil, or_false, not_or]; exact ⟨(Ne.symm (nd_ne ND (i := 0) (j := 5) rfl rfl (by decide))), (nd_ne ND (i := 5) (j := 12) rfl rfl (by decide)), (nd_ne ND (i := 5) (j := 13) rfl rfl (by decide))⟩) e_tokenSize
        have e_559 := r_550 groupKind_ _ (by simp only [List.mem_cons, List.not_mem_nil, or_false, not_or]; exact ⟨(Ne.symm (nd_ne ND (i := 0) (j := 6) rfl rfl (by decide))), (nd_ne ND (i := 6) (j := 12) rfl rfl (by decide)), (nd_ne ND (i := 6) (j := 13) rfl rfl (by decide))⟩) e_groupKind
        have e_560 := r_550 groupPhrase_ _ (by simp only [List.mem_cons, List.not_mem_nil, or_false, not_or]; exact ⟨(Ne.symm (nd_ne ND (i := 0) (j := 7) rfl rfl (by decide))), (nd_ne ND (i := 7) (j := 12) rfl rfl (by decide)), (nd_ne ND (i := 7) (j := 13) rfl rfl (by decide))⟩) e_groupPhrase
        have e_561 := r_550 groupSize_ _ (by simp only [List.mem_cons, List.not_mem_nil, or_false, not_or]; exact ⟨(Ne.symm (nd_ne ND (i := 0) (j := 8) rfl rfl (by decide))), (nd_ne ND (i := 8) (j := 12) rfl rfl (by decide)), (nd_ne ND (i := 8) (j := 13) rfl rfl (by decide))⟩) e_groupSize
        have e_562 := r_550 groupMask_ _ (by simp only [List.mem_cons, List.not_mem_nil, or_false, not_or]; exact ⟨(Ne.symm (nd_ne ND (i := 0) (j := 9) rfl rfl (by decide))), (nd_ne ND (i := 9) (j := 12) rfl rfl (by decide)), (nd_ne ND (i := 9) (j := 13) rfl rfl (by decide))⟩) e_groupMask
        have e_563 := r_550 groupFar_ _ (by simp only [List.mem_cons, List.not_mem_nil, or_false, not_or]; exact ⟨(Ne.symm (nd_ne ND (i := 0) (j := 10) rfl rfl (by decide))), (nd_ne ND (i := 10) (j := 12) rfl rfl (by decide)), (nd_ne ND (i := 10) (j := 13) rfl rfl (by decide))⟩) e_groupFar
        have e_564 := r_550 out_ _ (by simp only [List.mem_cons, List.not_mem_nil, or_false, not_or]; exact ⟨(Ne.symm (nd_ne ND (i := 0) (j := 11) rfl rfl (by decide))), (nd_ne ND (i := 11) (j := 12) rfl rfl (by decide)), (nd_ne ND (i := 11) (j := 13) rfl rfl (by decide))⟩) e_out
        have r_565 := r0.trans (r_550.mono (by simp))
        have g_566 : fs_533[(34 : Nat)]? = some (.int (nI p)) := (ga_547 34 (by decide)).trans g_phrases
        have g_567 : fs_533[(35 : Nat)]? = some (.int (nI t)) := (ga_547 35 (by decide)).trans g_tokens
        have g_568 : fs_533[(36 : Nat)]? = some (.int (nI g)) := (ga_547 36 (by decide)).trans g_groups
        have g_569 : fs_533[(37 : Nat)]? = some (.int (nI o)) := (ga_547 37 (by decide)).trans g_outs
        have g_570 : fs_533[(11 : Nat)]? = some (.int (nI asz)) := (ga_547 11 (by decide)).trans g_askedSize
        have g_571 : fs_533[(61 : Nat)]? = some (.int 0) := (ga_547 61 (by decide)).trans g_behind
        have g_572 : fs_533[(4 : Nat)]? = some (.ref asked_) := (ga_547 4 (by decide)).trans g_asked
        have g_573 : fs_533[(41 : Nat)]? = some (.ref firstToken_) := (ga_547 41 (by decide)).trans g_firstToken
        have g_574 : fs_533[(42 : Nat)]? = some (.ref starred_) := (ga_547 42 (by decide)).trans g_starred
        have g_575 : fs_533[(43 : Nat)]? = some (.ref tokenAt_) := (ga_547 43 (by decide)).trans g_tokenAt
        have g_576 : fs_533[(44 : Nat)]? = some (.ref tokenSize_) := (ga_547 44 (by decide)).trans g_tokenSize
        have g_577 : fs_533[(45 : Nat)]? = some (.ref groupKind_) := (ga_547 45 (by decide)).trans g_groupKind
        have g_578 : fs_533[(46 : Nat)]? = some (.ref groupPhrase_) := (ga_547 46 (by decide)).trans g_groupPhrase
        have g_579 : fs_533[(47 : Nat)]? = some (.ref groupSize_) := (ga_547 47 (by decide)).trans g_groupSize
        have g_580 : fs_533[(48 : Nat)]? = some (.ref groupMask_) := (ga_547 48 (by decide)).trans g_groupMask
        have g_581 : fs_533[(49 : Nat)]? = some (.ref groupFar_) := (ga_547 49 (by decide)).trans g_groupFar
        have g_582 : fs_533[(50 : Nat)]? = some (.ref out_) := (ga_547 50 (by decide)).trans g_out
        have g_583 : fs_533[(51 : Nat)]? = some (.ref top_) := (ga_547 51 (by decide)).trans g_top
        have g_584 : fs_533[(52 : Nat)]? = some (.ref masks_) := (ga_547 52 (by decide)).trans g_masks
        have ga_585 : ∀ i : Nat, i ∉ [28, 29, 30, 31, 33, 34, 35, 36, 37, 38, 39, 61] → fs_533[i]? = fs[i]? := fun i hi => (ga_547 i (fun z => hi (by simp only [List.mem_cons, List.not_mem_nil, or_false] at z ⊢; omega))).trans (ga0 i hi)
        have J_586 := J.mono hx_535
        have TK_587 := TK.mono hx_535
        have hb_588 := Nat.le_trans PT_534.1 PT_534.2.1
        refine x_le (xw_le_n xw_le_e) ?_
        refine s_Model_atom_62 ?_
        refine s_Model_atom_111 ?_
        by_cases hbb : bd_529 < 0
        · skip
          obtain ⟨u1, u2, u3, u4⟩ := HB_536 hbb
          subst u2 u3
          have hJ5 : cntJ (upd ct n 6) (n + 1) = cntJ ct n := by rw [cntJ_up, if_neg (by decide)]; rfl
          have hD5 : cntD (upd ct n 6) (n + 1) = cntD ct n + 1 := by rw [cntD_up, if_neg (by decide)]
          exact ⟨rfl, x_525, 0, kd_528, bd_529, by omega, fun _ => by omega, y_526, p, t, g, o, (n + 1), _, _, _, _, _, _, _, _, _, _, _, _, _, _, PT_534, J_586, TK_587, by omega, by omega, by rw [hD5]; omega, by rw [hJ5]; omega, by omega, fun k hk => by by_cases q : k = n; (rw [q, pk_us]; decide); (rw [pk_un q]; exact hT1 k (by omega)), fun q => ⟨PH, GR, by rw [hD5]; omega, by rw [hJ5]; exact hoJ, by rw [hJ5]; exact hH, hC⟩, l_538, e_539, g_540, g_541, g_542, g_543, g_544, g_566, g_567, g_568, g_569, g_545, g_546, g_571, ga_585, e_555, e_556, e_557, e_558, e_559, e_560, e_561, e_562, e_563, e_564, e_548, e_549, r_565⟩
        · skip
          obtain ⟨u2, u3⟩ := HN_537 hbb
          subst u2 u3
          exact ⟨rfl, x_525, 0, kd_528, bd_529, by omega, fun q => absurd q hbb, y_526, p, t, g, o, _, _, _, _, _, _, _, _, _, _, _, _, _, _, _, PT_534, J_586, TK_587, by omega, by omega, by omega, by omega, by omega, hT1, fun q => absurd q hbb, l_538, e_539, g_540, g_541, g_542, g_543, g_544, g_566, g_567, g_568, g_569, g_545, g_546, g_571, ga_585, e_555, e_556, e_557, e_558, e_559, e_560, e_561, e_562, e_563, e_564, e_548, e_549, r_565⟩
  · skip
    refine s_Model_atom_8 ?_
    refine x_callV (As := []) (b := m) (rest := [.ref m]) (F1 := 1) (L1 := 20) (mc := 0) (ms := 0) d_Model_atom_10 cV_Model_288 (f_depth l e g_tops g_top e_top (by omega) (by omega) (by omega)) e ⟨by decide, rfl⟩ ⟨by omega, by show 8 + (3 + 11) + 20 ≤ _; omega⟩ ⟨by omega, by omega⟩ (Nat.le_of_ble_eq_true rfl) (fun v_590 h_589 p_591 => ?_)
    obtain ⟨rfl, rfl⟩ := p_591
    refine s_Model_atom_13 (fun z_592 => ?_) (fun z_593 => ?_)
    · skip
      refine s_Model_atom_22 ?_
      refine s_Model_atom_23 l e g_from ?_
      refine x_callV (As := [.int 0, .int (nI x)]) (b := m) (rest := []) (F1 := 1) (L1 := 20) (mc := 0) (ms := 0) d_Model_atom_27 cV_Model_250 (f_wrongs (k := x) l e g_bad (by omega) (by omega) (by omega)) e ⟨by decide, rfl⟩ ⟨by omega, by show 8 + (3 + 11) + 20 ≤ _; omega⟩ ⟨by omega, by omega⟩ (Nat.le_of_ble_eq_true rfl) (fun v_604 h_603 p_605 => ?_)
      obtain ⟨rfl, bd_594, fs_595, hw_596, hk_597, l_598, e_599, g_600, ga_601, r_602⟩ := p_605
      have e_606 := r_602 asked_ _ (by simp only [List.mem_cons, List.not_mem_nil, or_false, not_or]; exact (Ne.symm (nd_ne ND (i := 0) (j := 1) rfl rfl (by decide)))) e_asked
      have e_607 := r_602 firstToken_ _ (by simp only [List.mem_cons, List.not_mem_nil, or_false, not_or]; exact (Ne.symm (nd_ne ND (i := 0) (j := 2) rfl rfl (by decide)))) e_firstToken
      have e_608 := r_602 starred_ _ (by simp only [List.mem_cons, List.not_mem_nil, or_false, not_or]; exact (Ne.symm (nd_ne ND (i := 0) (j := 3) rfl rfl (by decide)))) e_starred
      have e_609 := r_602 tokenAt_ _ (by simp only [List.mem_cons, List.not_mem_nil, or_false, not_or]; exact (Ne.symm (nd_ne ND (i := 0) (j := 4) rfl rfl (by decide)))) e_tokenAt
      have e_610 := r_602 tokenSize_ _ (by simp only [List.mem_cons, List.not_mem_nil, or_false, not_or]; exact (Ne.symm (nd_ne ND (i := 0) (j := 5) rfl rfl (by decide)))) e_tokenSize
      have e_611 := r_602 groupKind_ _ (by simp only [List.mem_cons, List.not_mem_nil, or_false, not_or]; exact (Ne.symm (nd_ne ND (i := 0) (j := 6) rfl rfl (by decide)))) e_groupKind
      have e_612 := r_602 groupPhrase_ _ (by simp only [List.mem_cons, List.not_mem_nil, or_false, not_or]; exact (Ne.symm (nd_ne ND (i := 0) (j := 7) rfl rfl (by decide)))) e_groupPhrase
      have e_613 := r_602 groupSize_ _ (by simp only [List.mem_cons, List.not_mem_nil, or_false, not_or]; exact (Ne.symm (nd_ne ND (i := 0) (j := 8) rfl rfl (by decide)))) e_groupSize
      have e_614 := r_602 groupMask_ _ (by simp only [List.mem_cons, List.not_mem_nil, or_false, not_or]; exact (Ne.symm (nd_ne ND (i := 0) (j := 9) rfl rfl (by decide)))) e_groupMask
      have e_615 := r_602 groupFar_ _ (by simp only [List.mem_cons, List.not_mem_nil, or_false, not_or]; exact (Ne.symm (nd_ne ND (i := 0) (j := 10) rfl rfl (by decide)))) e_groupFar
      have e_616 := r_602 out_ _ (by simp only [List.mem_cons, List.not_mem_nil, or_false, not_or]; exact (Ne.symm (nd_ne ND (i := 0) (j := 11) rfl rfl (by decide)))) e_out
      have e_617 := r_602 top_ _ (by simp only [List.mem_cons, List.not_mem_nil, or_false, not_or]; exact (Ne.symm (nd_ne ND (i := 0) (j := 12) rfl rfl (by decide)))) e_top
      have e_618 := r_602 masks_ _ (by simp only [List.mem_cons, List.not_mem_nil, or_false, not_or]; exact (Ne.symm (nd_ne ND (i := 0) (j := 13) rfl rfl (by decide)))) e_masks
      have r_619 := r0.trans (r_602.mono (by simp))
      have g_620 : fs_595[(28 : Nat)]? = some (.int (nI x)) := (ga_601 28 (by decide)).trans g_at
      have g_621 : fs_595[(29 : Nat)]? = some (.int kd) := (ga_601 29 (by decide)).trans g_kind
      have g_622 : fs_595[(30 : Nat)]? = some (.int (nI x)) := (ga_601 30 (by decide)).trans g_from
      have g_623 : fs_595[(31 : Nat)]? = some (.int (nI y)) := (ga_601 31 (by decide)).trans g_to
      have g_624 : fs_595[(34 : Nat)]? = some (.int (nI p)) := (ga_601 34 (by decide)).trans g_phrases
      have g_625 : fs_595[(35 : Nat)]? = some (.int (nI t)) := (ga_601 35 (by decide)).trans g_tokens
      have g_626 : fs_595[(36 : Nat)]? = some (.int (nI g)) := (ga_601 36 (by decide)).trans g_groups
      have g_627 : fs_595[(37 : Nat)]? = some (.int (nI o)) := (ga_601 37 (by decide)).trans g_outs
      have g_628 : fs_595[(38 : Nat)]? = some (.int (nI n)) := (ga_601 38 (by decide)).trans g_tops
      have g_629 : fs_595[(39 : Nat)]? = some (.int mk) := (ga_601 39 (by decide)).trans g_mask
      have g_630 : fs_595[(11 : Nat)]? = some (.int (nI asz)) := (ga_601 11 (by decide)).trans g_askedSize
      have g_631 : fs_595[(61 : Nat)]? = some (.int 0) := (ga_601 61 (by decide)).trans g_behind
      have g_632 : fs_595[(4 : Nat)]? = some (.ref asked_) := (ga_601 4 (by decide)).trans g_asked
      have g_633 : fs_595[(41 : Nat)]? = some (.ref firstToken_) := (ga_601 41 (by decide)).trans g_firstToken
      have g_634 : fs_595[(42 : Nat)]? = some (.ref starred_) := (ga_601 42 (by decide)).trans g_starred
      have g_635 : fs_595[(43 : Nat)]? = some (.ref tokenAt_) := (ga_601 43 (by decide)).trans g_tokenAt
      have g_636 : fs_595[(44 : Nat)]? = some (.ref tokenSize_) := (ga_601 44 (by decide)).trans g_tokenSize
      have g_637 : fs_595[(45 : Nat)]? = some (.ref groupKind_) := (ga_601 45 (by decide)).trans g_groupKind
      have g_638 : fs_595[(46 : Nat)]? = some (.ref groupPhrase_) := (ga_601 46 (by decide)).trans g_groupPhrase
      have g_639 : fs_595[(47 : Nat)]? = some (.ref groupSize_) := (ga_601 47 (by decide)).trans g_groupSize
      have g_640 : fs_595[(48 : Nat)]? = some (.ref groupMask_) := (ga_601 48 (by decide)).trans g_groupMask
      have g_641 : fs_595[(49 : Nat)]? = some (.ref groupFar_) := (ga_601 49 (by decide)).trans g_groupFar
      have g_642 : fs_595[(50 : Nat)]? = some (.ref out_) := (ga_601 50 (by decide)).trans g_out
      have g_643 : fs_595[(51 : Nat)]? = some (.ref top_) := (ga_601 51 (by decide)).trans g_top
      have g_644 : fs_595[(52 : Nat)]? = some (.ref masks_) := (ga_601 52 (by decide)).trans g_masks
      have ga_645 : ∀ i : Nat, i ∉ [28, 29, 30, 31, 33, 34, 35, 36, 37, 38, 39, 61] → fs_595[i]? = fs[i]? := fun i hi => (ga_601 i (fun z => hi (by simp only [List.mem_cons, List.not_mem_nil, or_false] at z ⊢; omega))).trans (ga0 i hi)
      refine s_Model_atom_30 ?_
      refine x_callV (As := [.int 5]) (b := m) (rest := []) (F1 := 1) (L1 := 20) (mc := 0) (ms := 0) d_Model_atom_32 cV_Model_285 (f_pushes (n := n) l_598 e_599 g_628 g_629 g_643 e_617 g_644 e_618 (nd_ne ND (i := 12) (j := 13) rfl rfl (by decide)) (by omega) (by omega) (by omega)) e_599 ⟨by decide, rfl⟩ ⟨by omega, by show 8 + (2 + 11) + 20 ≤ _; omega⟩ ⟨by omega, by omega⟩ (Nat.le_of_ble_eq_true rfl) (fun v_656 h_655 p_657 => ?_)
      obtain ⟨rfl, cm_646, fs_647, l_648, e_649, g_650, ga_651, e_652, e_653, r_654⟩ := p_657
      have e_658 := r_654 asked_ _ (by simp only [List.mem_cons, List.not_mem_nil, or_false, not_or]; exact ⟨(Ne.symm (nd_ne ND (i := 0) (j := 1) rfl rfl (by decide))), (nd_ne ND (i := 1) (j := 12) rfl rfl (by decide)), (nd_ne ND (i := 1) (j := 13) rfl rfl (by decide))⟩) e_606
      have e_659 := r_654 firstToken_ _ (by simp only [List.mem_cons, List.not_mem_nil, or_false, not_or]; exact ⟨(Ne.symm (nd_ne ND (i := 0) (j := 2) rfl rfl (by decide))), (nd_ne ND (i := 2) (j := 12) rfl rfl (by decide)), (nd_ne ND (i := 2) (j := 13) rfl rfl (by decide))⟩) e_607
      have e_660 := r_654 starred_ _ (by simp only [List.mem_cons, List.not_mem_nil, or_false, not_or]; exact ⟨(Ne.symm (nd_ne ND (i := 0) (j := 3) rfl rfl (by decide))), (nd_ne ND (i := 3) (j := 12) rfl rfl (by decide)), (nd_ne ND (i := 3) (j := 13) rfl rfl (by decide))⟩) e_608
      have e_661 := r_654 tokenAt_ _ (by simp only [List.mem_cons, List.not_mem_nil, or_false, not_or]; exact ⟨(Ne.symm (nd_ne ND (i := 0) (j := 4) rfl rfl (by decide))), (nd_ne ND (i := 4) (j := 12) rfl rfl (by decide)), (nd_ne ND (i := 4) (j := 13) rfl rfl (by decide))⟩) e_609
      have e_662 := r_654 tokenSize_ _ (by simp only [List.mem_cons, List.not_mem_nil, or_false, not_or]; exact ⟨(Ne.symm (nd_ne ND (i := 0) (j := 5) rfl rfl (by decide))), (nd_ne ND (i := 5) (j := 12) rfl rfl (by decide)), (nd_ne ND (i := 5) (j := 13) rfl rfl (by decide))⟩) e_610
      have e_663 := r_654 groupKind_ _ (by simp only [List.mem_cons, List.not_mem_nil, or_false, not_or]; exact ⟨(Ne.symm (nd_ne ND (i := 0) (j := 6) rfl rfl (by decide))), (nd_ne ND (i := 6) (j := 12) rfl rfl (by decide)), (nd_ne ND (i := 6) (j := 13) rfl rfl (by decide))⟩) e_611
      have e_664 := r_654 groupPhrase_ _ (by simp only [List.mem_cons, List.not_mem_nil, or_false, not_or]; exact ⟨(Ne.symm (nd_ne ND (i := 0) (j := 7) rfl rfl (by decide))), (nd_ne ND (i := 7) (j := 12) rfl rfl (by decide)), (nd_ne ND (i := 7) (j := 13) rfl rfl (by decide))⟩) e_612
      have e_665 := r_654 groupSize_ _ (by simp only [List.mem_cons, List.not_mem_nil, or_false, not_or]; exact ⟨(Ne.symm (nd_ne ND (i := 0) (j := 8) rfl rfl (by decide))), (nd_ne ND (i := 8) (j := 12) rfl rfl (by decide)), (nd_ne ND (i := 8) (j := 13) rfl rfl (by decide))⟩) e_613
      have e_666 := r_654 groupMask_ _ (by simp only [List.mem_cons, List.not_mem_nil, or_false, not_or]; exact ⟨(Ne.symm (nd_ne ND (i := 0) (j := 9) rfl rfl (by decide))), (nd_ne ND (i := 9) (j := 12) rfl rfl (by decide)), (nd_ne ND (i := 9) (j := 13) rfl rfl (by decide))⟩) e_614
      have e_667 := r_654 groupFar_ _ (by simp only [List.mem_cons, List.not_mem_nil, or_false, not_or]; exact ⟨(Ne.symm (nd_ne ND (i := 0) (j := 10) rfl rfl (by decide))), (nd_ne ND (i := 10) (j := 12) rfl rfl (by decide)), (nd_ne ND (i := 10) (j := 13) rfl rfl (by decide))⟩) e_615
      have e_668 := r_654 out_ _ (by simp only [List.mem_cons, List.not_mem_nil, or_false, not_or]; exact ⟨(Ne.symm (nd_ne ND (i := 0) (j := 11) rfl rfl (by decide))), (nd_ne ND (i := 11) (j := 12) rfl rfl (by decide)), (nd_ne ND (i := 11) (j := 13) rfl rfl (by decide))⟩) e_616
      have r_669 := r_619.trans (r_654.mono (by simp))
      have g_670 : fs_647[(28 : Nat)]? = some (.int (nI x)) := (ga_651 28 (by decide)).trans g_620
      have g_671 : fs_647[(29 : Nat)]? = some (.int kd) := (ga_651 29 (by decide)).trans g_621
      have g_672 : fs_647[(30 : Nat)]? = some (.int (nI x)) := (ga_651 30 (by decide)).trans g_622
      have g_673 : fs_647[(31 : Nat)]? = some (.int (nI y)) := (ga_651 31 (by decide)).trans g_623
      have g_674 : fs_647[(34 : Nat)]? = some (.int (nI p)) := (ga_651 34 (by decide)).trans g_624
      have g_675 : fs_647[(35 : Nat)]? = some (.int (nI t)) := (ga_651 35 (by decide)).trans g_625
      have g_676 : fs_647[(36 : Nat)]? = some (.int (nI g)) := (ga_651 36 (by decide)).trans g_626
      have g_677 : fs_647[(37 : Nat)]? = some (.int (nI o)) := (ga_651 37 (by decide)).trans g_627
      have g_678 : fs_647[(39 : Nat)]? = some (.int mk) := (ga_651 39 (by decide)).trans g_629
      have g_679 : fs_647[(11 : Nat)]? = some (.int (nI asz)) := (ga_651 11 (by decide)).trans g_630
      have g_680 : fs_647[(61 : Nat)]? = some (.int 0) := (ga_651 61 (by decide)).trans g_631
      have g_681 : fs_647[(4 : Nat)]? = some (.ref asked_) := (ga_651 4 (by decide)).trans g_632
      have g_682 : fs_647[(41 : Nat)]? = some (.ref firstToken_) := (ga_651 41 (by decide)).trans g_633
      have g_683 : fs_647[(42 : Nat)]? = some (.ref starred_) := (ga_651 42 (by decide)).trans g_634
      have g_684 : fs_647[(43 : Nat)]? = some (.ref tokenAt_) := (ga_651 43 (by decide)).trans g_635
      have g_685 : fs_647[(44 : Nat)]? = some (.ref tokenSize_) := (ga_651 44 (by decide)).trans g_636
      have g_686 : fs_647[(45 : Nat)]? = some (.ref groupKind_) := (ga_651 45 (by decide)).trans g_637
      have g_687 : fs_647[(46 : Nat)]? = some (.ref groupPhrase_) := (ga_651 46 (by decide)).trans g_638
      have g_688 : fs_647[(47 : Nat)]? = some (.ref groupSize_) := (ga_651 47 (by decide)).trans g_639
      have g_689 : fs_647[(48 : Nat)]? = some (.ref groupMask_) := (ga_651 48 (by decide)).trans g_640
      have g_690 : fs_647[(49 : Nat)]? = some (.ref groupFar_) := (ga_651 49 (by decide)).trans g_641
      have g_691 : fs_647[(50 : Nat)]? = some (.ref out_) := (ga_651 50 (by decide)).trans g_642
      have g_692 : fs_647[(51 : Nat)]? = some (.ref top_) := (ga_651 51 (by decide)).trans g_643
      have g_693 : fs_647[(52 : Nat)]? = some (.ref masks_) := (ga_651 52 (by decide)).trans g_644
      have g_694 : fs_647[(33 : Nat)]? = some (.int bd_594) := (ga_651 33 (by decide)).trans g_600
      have ga_695 : ∀ i : Nat, i ∉ [28, 29, 30, 31, 33, 34, 35, 36, 37, 38, 39, 61] → fs_647[i]? = fs[i]? := fun i hi => (ga_651 i (fun z => hi (by simp only [List.mem_cons, List.not_mem_nil, or_false] at z ⊢; omega))).trans (ga_645 i hi)
      refine s_Model_atom_35 ?_
      refine x_callV (As := []) (b := m) (rest := []) (F1 := 4) (L1 := 87) (mc := 0) (ms := 0) d_Model_atom_36 cV_Model_257 (f_next (x0 := y) l_648 e_649 g_670 g_671 g_672 g_673 g_679 g_681 e_658 PT.2.1 hasz (by omega) (by omega)) e_649 ⟨by decide, rfl⟩ ⟨by omega, by show 8 + (1 + 11) + 87 ≤ _; omega⟩ ⟨by omega, by omega⟩ (Nat.le_of_ble_eq_true rfl) (fun v_711 h_710 p_712 => ?_)
      obtain ⟨rfl, x_696, y_697, kd_698, fs_699, hx_700, PT_701, l_702, e_703, g_704, g_705, g_706, g_707, ga_708, r_709⟩ := p_712
      have e_713 := r_709 asked_ _ (by simp only [List.mem_cons, List.not_mem_nil, or_false, not_or]; exact (Ne.symm (nd_ne ND (i := 0) (j := 1) rfl rfl (by decide)))) e_658
      have e_714 := r_709 firstToken_ _ (by simp only [List.mem_cons, List.not_mem_nil, or_false, not_or]; exact (Ne.symm (nd_ne ND (i := 0) (j := 2) rfl rfl (by decide)))) e_659
      have e_715 := r_709 starred_ _ (by simp only [List.mem_cons, List.not_mem_nil, or_false, not_or]; exact (Ne.symm (nd_ne ND (i := 0) (j := 3) rfl rfl (by decide)))) e_660
      have e_716 := r_709 tokenAt_ _ (by simp only [List.mem_cons, List.not_mem_nil, or_false, not_or]; exact (Ne.symm (nd_ne ND (i := 0) (j := 4) rfl rfl (by decide)))) e_661
      have e_717 := r_709 tokenSize_ _ (by simp only [List.mem_cons, List.not_mem_nil, or_false, not_or]; exact (Ne.symm (nd_ne ND (i := 0) (j := 5) rfl rfl (by decide)))) e_662
      have e_718 := r_709 groupKind_ _ (by simp only [List.mem_cons, List.not_mem_nil, or_false, not_or]; exact (Ne.symm (nd_ne ND (i := 0) (j := 6) rfl rfl (by decide)))) e_663
      have e_719 := r_709 groupPhrase_ _ (by simp only [List.mem_cons, List.not_mem_nil, or_false, not_or]; exact (Ne.symm (nd_ne ND (i := 0) (j := 7) rfl rfl (by decide)))) e_664
      have e_720 := r_709 groupSize_ _ (by simp only [List.mem_cons, List.not_mem_nil, or_false, not_or]; exact (Ne.symm (nd_ne ND (i := 0) (j := 8) rfl rfl (by decide)))) e_665
      have e_721 := r_709 groupMask_ _ (by simp only [List.mem_cons, List.not_mem_nil, or_false, not_or]; exact (Ne.symm (nd_ne ND (i := 0) (j := 9) rfl rfl (by decide)))) e_666
      have e_722 := r_709 groupFar_ _ (by simp only [List.mem_cons, List.not_mem_nil, or_false, not_or]; exact (Ne.symm (nd_ne ND (i := 0) (j := 10) rfl rfl (by decide)))) e_667
      have e_723 := r_709 out_ _ (by simp only [List.mem_cons, List.not_mem_nil, or_false, not_or]; exact (Ne.symm (nd_ne ND (i := 0) (j := 11) rfl rfl (by decide)))) e_668
      have e_724 := r_709 top_ _ (by simp only [List.mem_cons, List.not_mem_nil, or_false, not_or]; exact (Ne.symm (nd_ne ND (i := 0) (j := 12) rfl rfl (by decide)))) e_652
      have e_725 := r_709 masks_ _ (by simp only [List.mem_cons, List.not_mem_nil, or_false, not_or]; exact (Ne.symm (nd_ne ND (i := 0) (j := 13) rfl rfl (by decide)))) e_653
      have r_726 := r_669.trans (r_709.mono (by simp))
      have g_727 : fs_699[(34 : Nat)]? = some (.int (nI p)) := (ga_708 34 (by decide)).trans g_674
      have g_728 : fs_699[(35 : Nat)]? = some (.int (nI t)) := (ga_708 35 (by decide)).trans g_675
      have g_729 : fs_699[(36 : Nat)]? = some (.int (nI g)) := (ga_708 36 (by decide)).trans g_676
      have g_730 : fs_699[(37 : Nat)]? = some (.int (nI o)) := (ga_708 37 (by decide)).trans g_677
      have g_731 : fs_699[(39 : Nat)]? = some (.int mk) := (ga_708 39 (by decide)).trans g_678
      have g_732 : fs_699[(11 : Nat)]? = some (.int (nI asz)) := (ga_708 11 (by decide)).trans g_679
      have g_733 : fs_699[(61 : Nat)]? = some (.int 0) := (ga_708 61 (by decide)).trans g_680
      have g_734 : fs_699[(4 : Nat)]? = some (.ref asked_) := (ga_708 4 (by decide)).trans g_681
      have g_735 : fs_699[(41 : Nat)]? = some (.ref firstToken_) := (ga_708 41 (by decide)).trans g_682
      have g_736 : fs_699[(42 : Nat)]? = some (.ref starred_) := (ga_708 42 (by decide)).trans g_683
      have g_737 : fs_699[(43 : Nat)]? = some (.ref tokenAt_) := (ga_708 43 (by decide)).trans g_684
      have g_738 : fs_699[(44 : Nat)]? = some (.ref tokenSize_) := (ga_708 44 (by decide)).trans g_685
      have g_739 : fs_699[(45 : Nat)]? = some (.ref groupKind_) := (ga_708 45 (by decide)).trans g_686
      have g_740 : fs_699[(46 : Nat)]? = some (.ref groupPhrase_) := (ga_708 46 (by decide)).trans g_687
      have g_741 : fs_699[(47 : Nat)]? = some (.ref groupSize_) := (ga_708 47 (by decide)).trans g_688
      have g_742 : fs_699[(48 : Nat)]? = some (.ref groupMask_) := (ga_708 48 (by decide)).trans g_689
      have g_743 : fs_699[(49 : Nat)]? = some (.ref groupFar_) := (ga_708 49 (by decide)).trans g_690
      have g_744 : fs_699[(50 : Nat)]? = some (.ref out_) := (ga_708 50 (by decide)).trans g_691
      have g_745 : fs_699[(51 : Nat)]? = some (.ref top_) := (ga_708 51 (by decide)).trans g_692
      have g_746 : fs_699[(52 : Nat)]? = some (.ref masks_) := (ga_708 52 (by decide)).trans g_693
      have g_747 : fs_699[(33 : Nat)]? = some (.int bd_594) := (ga_708 33 (by decide)).trans g_694
      have g_748 : fs_699[(38 : Nat)]? = some (.int (nI (n + 1))) := (ga_708 38 (by decide)).trans g_650
      have ga_749 : ∀ i : Nat, i ∉ [28, 29, 30, 31, 33, 34, 35, 36, 37, 38, 39, 61] → fs_699[i]? = fs[i]? := fun i hi => (ga_708 i (fun z => hi (by simp only [List.mem_cons, List.not_mem_nil, or_false] at z ⊢; omega))).trans (ga_695 i hi)
      have J_750 := J.mono (Nat.le_trans PT.1 hx_700)
      have TK_751 := TK.mono (Nat.le_trans PT.1 hx_700)
      have hm_752 := Nat.le_trans PT.1 hx_700
      have hb_753 := Nat.le_trans PT_701.1 PT_701.2.1
      refine x_le (xw_le_n xw_le_e) ?_
      refine s_Model_atom_39 ?_
      refine s_Model_atom_111 ?_
      have hpr := Nat.lt_of_lt_of_le (PT.2.2.1 (by rw [z_2]; decide)) hx_700
      have hJ5 : cntJ (upd ct n 5) (n + 1) = cntJ ct n := by rw [cntJ_up, if_neg (by decide)]; rfl
      have hD5 : cntD (upd ct n 5) (n + 1) = cntD ct n + 1 := by rw [cntD_up, if_neg (by decide)]
      exact ⟨rfl, x_696, 0, kd_698, bd_594, by omega, fun _ => by omega, y_697, p, t, g, o, (n + 1), _, _, _, _, _, _, _, _, _, _, _, _, _, _, PT_701, J_750, TK_751, by omega, by omega, by rw [hD5]; omega, by rw [hJ5]; omega, by omega, fun k hk => by by_cases q : k = n; (rw [q, pk_us]; decide); (rw [pk_un q]; exact hT1 k (by omega)), fun q => ⟨PH, GR, by rw [hD5]; (have q9 : ¬ cntD ct n = 8 := fun q => z_592 (by rw [q]; rfl)); omega, by rw [hJ5]; exact hoJ, by rw [hJ5]; exact hH, hC⟩, l_702, e_703, g_704, g_705, g_706, g_707, g_747, g_727, g_728, g_729, g_730, g_748, g_731, g_733, ga_749, e_714, e_715, e_716, e_717, e_718, e_719, e_720, e_721, e_722, e_723, e_724, e_725, r_726⟩
    · skip
      refine s_Model_atom_18 ?_
      refine s_Model_atom_23 l e g_from ?_
      refine x_callV (As := [.int 1, .int (nI x)]) (b := m) (rest := []) (F1 := 1) (L1 := 20) (mc := 0) (ms := 0) d_Model_atom_27 cV_Model_250 (f_wrongs (k := x) l e g_bad (by omega) (by omega) (by omega)) e ⟨by decide, rfl⟩ ⟨by omega, by show 8 + (3 + 11) + 20 ≤ _; omega⟩ ⟨by omega, by omega⟩ (Nat.le_of_ble_eq_true rfl) (fun v_764 h_763 p_765 => ?_)
      obtain ⟨rfl, bd_754, fs_755, hw_756, hk_757, l_758, e_759, g_760, ga_761, r_762⟩ := p_765
      have e_766 := r_762 asked_ _ (by simp only [List.mem_cons, List.not_mem_nil, or_false, not_or]; exact (Ne.symm (nd_ne ND (i := 0) (j := 1) rfl rfl (by decide)))) e_asked
      have e_767 := r_762 firstToken_ _ (by simp only [List.mem_cons, List.not_mem_nil, or_false, not_or]; exact (Ne.symm (nd_ne ND (i := 0) (j := 2) rfl rfl (by decide)))) e_firstToken
      have e_768 := r_762 starred_ _ (by simp only [List.mem_cons, List.not_mem_nil, or_false, not_or]; exact (Ne.symm (nd_ne ND (i := 0) (j := 3) rfl rfl (by decide)))) e_starred
      have e_769 := r_762 tokenAt_ _ (by simp only [List.mem_cons, List.not_mem_nil, or_false, not_or]; exact (Ne.symm (nd_ne ND (i := 0) (j := 4) rfl rfl (by decide)))) e_tokenAt
      have e_770 := r_762 tokenSize_ _ (by simp only [List.mem_cons, List.not_mem_nil, or_false, not_or]; exact (Ne.symm (nd_ne ND (i := 0) (j := 5) rfl rfl (by decide)))) e_tokenSize
      have e_771 := r_762 groupKind_ _ (by simp only [List.mem_cons, List.not_mem_nil, or_false, not_or]; exact (Ne.symm (nd_ne ND (i := 0) (j := 6) rfl rfl (by decide)))) e_groupKind
      have e_772 := r_762 groupPhrase_ _ (by simp only [List.mem_cons, List.not_mem_nil, or_false, not_or]; exact (Ne.symm (nd_ne ND (i := 0) (j := 7) rfl rfl (by decide)))) e_groupPhrase
      have e_773 := r_762 groupSize_ _ (by simp only [List.mem_cons, List.not_mem_nil, or_false, not_or]; exact (Ne.symm (nd_ne ND (i := 0) (j := 8) rfl rfl (by decide)))) e_groupSize
      have e_774 := r_762 groupMask_ _ (by simp only [List.mem_cons, List.not_mem_nil, or_false, not_or]; exact (Ne.symm (nd_ne ND (i := 0) (j := 9) rfl rfl (by decide)))) e_groupMask
      have e_775 := r_762 groupFar_ _ (by simp only [List.mem_cons, List.not_mem_nil, or_false, not_or]; exact (Ne.symm (nd_ne ND (i := 0) (j := 10) rfl rfl (by decide)))) e_groupFar
      have e_776 := r_762 out_ _ (by simp only [List.mem_cons, List.not_mem_nil, or_false, not_or]; exact (Ne.symm (nd_ne ND (i := 0) (j := 11) rfl rfl (by decide)))) e_out
      have e_777 := r_762 top_ _ (by simp only [List.mem_cons, List.not_mem_nil, or_false, not_or]; exact (Ne.symm (nd_ne ND (i := 0) (j := 12) rfl rfl (by decide)))) e_top
      have e_778 := r_762 masks_ _ (by simp only [List.mem_cons, List.not_mem_nil, or_false, not_or]; exact (Ne.symm (nd_ne ND (i := 0) (j := 13) rfl rfl (by decide)))) e_masks
      have r_779 := r0.trans (r_762.mono (by simp))
      have g_780 : fs_755[(28 : Nat)]? = some (.int (nI x)) := (ga_761 28 (by decide)).trans g_at
      have g_781 : fs_755[(29 : Nat)]? = some (.int kd) := (ga_761 29 (by decide)).trans g_kind
      have g_782 : fs_755[(30 : Nat)]? = some (.int (nI x)) := (ga_761 30 (by decide)).trans g_from
      have g_783 : fs_755[(31 : Nat)]? = some (.int (nI y)) := (ga_761 31 (by decide)).trans g_to
      have g_784 : fs_755[(34 : Nat)]? = some (.int (nI p)) := (ga_761 34 (by decide)).trans g_phrases
      have g_785 : fs_755[(35 : Nat)]? = some (.int (nI t)) := (ga_761 35 (by decide)).trans g_tokens
      have g_786 : fs_755[(36 : Nat)]? = some (.int (nI g)) := (ga_761 36 (by decide)).trans g_groups
      have g_787 : fs_755[(37 : Nat)]? = some (.int (nI o)) := (ga_761 37 (by decide)).trans g_outs
      have g_788 : fs_755[(38 : Nat)]? = some (.int (nI n)) := (ga_761 38 (by decide)).trans g_tops
      have g_789 : fs_755[(39 : Nat)]? = some (.int mk) := (ga_761 39 (by decide)).trans g_mask
      have g_790 : fs_755[(11 : Nat)]? = some (.int (nI asz)) := (ga_761 11 (by decide)).trans g_askedSize
      have g_791 : fs_755[(61 : Nat)]? = some (.int 0) := (ga_761 61 (by decide)).trans g_behind
      have g_792 : fs_755[(4 : Nat)]? = some (.ref asked_) := (ga_761 4 (by decide)).trans g_asked
      have g_793 : fs_755[(41 : Nat)]? = some (.ref firstToken_) := (ga_761 41 (by decide)).trans g_firstToken
      have g_794 : fs_755[(42 : Nat)]? = some (.ref starred_) := (ga_761 42 (by decide)).trans g_starred
      have g_795 : fs_755[(43 : Nat)]? = some (.ref tokenAt_) := (ga_761 43 (by decide)).trans g_tokenAt
      have g_796 : fs_755[(44 : Nat)]? = some (.ref tokenSize_) := (ga_761 44 (by decide)).trans g_tokenSize
      have g_797 : fs_755[(45 : Nat)]? = some (.ref groupKind_) := (ga_761 45 (by decide)).trans g_groupKind
      have g_798 : fs_755[(46 : Nat)]? = some (.ref groupPhrase_) := (ga_761 46 (by decide)).trans g_groupPhrase
      have g_799 : fs_755[(47 : Nat)]? = some (.ref groupSize_) := (ga_761 47 (by decide)).trans g_groupSize
      have g_800 : fs_755[(48 : Nat)]? = some (.ref groupMask_) := (ga_761 48 (by decide)).trans g_groupMask
      have g_801 : fs_755[(49 : Nat)]? = some (.ref groupFar_) := (ga_761 49 (by decide)).trans g_groupFar
      have g_802 : fs_755[(50 : Nat)]? = some (.ref out_) := (ga_761 50 (by decide)).trans g_out
      have g_803 : fs_755[(51 : Nat)]? = some (.ref top_) := (ga_761 51 (by decide)).trans g_top
      have g_804 : fs_755[(52 : Nat)]? = some (.ref masks_) := (ga_761 52 (by decide)).trans g_masks
      have ga_805 : ∀ i : Nat, i ∉ [28, 29, 30, 31, 33, 34, 35, 36, 37, 38, 39, 61] → fs_755[i]? = fs[i]? := fun i hi => (ga_761 i (fun z => hi (by simp only [List.mem_cons, List.not_mem_nil, or_false] at z ⊢; omega))).trans (ga0 i hi)
      refine s_Model_atom_30 ?_
      refine x_callV (As := [.int 5]) (b := m) (rest := []) (F1 := 1) (L1 := 20) (mc := 0) (ms := 0) d_Model_atom_32 cV_Model_285 (f_pushes (n := n) l_758 e_759 g_788 g_789 g_803 e_777 g_804 e_778 (nd_ne ND (i := 12) (j := 13) rfl rfl (by decide)) (by omega) (by omega) (by omega)) e_759 ⟨by decide, rfl⟩ ⟨by omega, by show 8 + (2 + 11) + 20 ≤ _; omega⟩ ⟨by omega, by omega⟩ (Nat.le_of_ble_eq_true rfl) (fun v_816 h_815 p_817 => ?_)
      obtain ⟨rfl, cm_806, fs_807, l_808, e_809, g_810, ga_811, e_812, e_813, r_814⟩ := p_817
      have e_818 := r_814 asked_ _ (by simp only [List.mem_cons, List.not_mem_nil, or_false, not_or]; exact ⟨(Ne.symm (nd_ne ND (i := 0) (j := 1) rfl rfl (by decide))), (nd_ne ND (i := 1) (j := 12) rfl rfl (by decide)), (nd_ne ND (i := 1) (j := 13) rfl rfl (by decide))⟩) e_766
      have e_819 := r_814 firstToken_ _ (by simp only [List.mem_cons, List.not_mem_nil, or_false, not_or]; exact ⟨(Ne.symm (nd_ne ND (i := 0) (j := 2) rfl rfl (by decide))), (nd_ne ND (i := 2) (j := 12) rfl rfl (by decide)), (nd_ne ND (i := 2) (j := 13) rfl rfl (by decide))⟩) e_767
      have e_820 := r_814 starred_ _ (by simp only [List.mem_cons, List.not_mem_nil, or_false, not_or]; exact ⟨(Ne.symm (nd_ne ND (i := 0) (j := 3) rfl rfl (by decide))), (nd_ne ND (i := 3) (j := 12) rfl rfl (by decide)), (nd_ne ND (i := 3) (j := 13) rfl rfl (by decide))⟩) e_768
      have e_821 := r_814 tokenAt_ _ (by simp only [List.mem_cons, List.not_mem_nil, or_false, not_or]; exact ⟨(Ne.symm (nd_ne ND (i := 0) (j := 4) rfl rfl (by decide))), (nd_ne ND (i := 4) (j := 12) rfl rfl (by decide)), (nd_ne ND (i := 4) (j := 13) rfl rfl (by decide))⟩) e_769
      have e_822 := r_814 tokenSize_ _ (by simp only [List.mem_cons, List.not_mem_nil, or_false, not_or]; exact ⟨(Ne.symm (nd_ne ND (i := 0) (j := 5) rfl rfl (by decide))), (nd_ne ND (i := 5) (j := 12) rfl rfl (by decide)), (nd_ne ND (i := 5) (j := 13) rfl rfl (by decide))⟩) e_770
      have e_823 := r_814 groupKind_ _ (by simp only [List.mem_cons, List.not_mem_nil, or_false, not_or]; exact ⟨(Ne.symm (nd_ne ND (i := 0) (j := 6) rfl rfl (by decide))), (nd_ne ND (i := 6) (j := 12) rfl rfl (by decide)), (nd_ne ND (i := 6) (j := 13) rfl rfl (by decide))⟩) e_771
      have e_824 := r_814 groupPhrase_ _ (by simp only [List.mem_cons, List.not_mem_nil, or_false, not_or]; exact ⟨(Ne.symm (nd_ne ND (i := 0) (j := 7) rfl rfl (by decide))), (nd_ne ND (i := 7) (j := 12) rfl rfl (by decide)), (nd_ne ND (i := 7) (j := 13) rfl rfl (by decide))⟩) e_772
      have e_825 := r_814 groupSize_ _ (by simp only [List.mem_cons, List.not_mem_nil, or_false, not_or]; exact ⟨(Ne.symm (nd_ne ND (i := 0) (j := 8) rfl rfl (by decide))), (nd_ne ND (i := 8) (j := 12) rfl rfl (by decide)), (nd_ne ND (i := 8) (j := 13) rfl rfl (by decide))⟩) e_773
      have e_826 := r_814 groupMask_ _ (by simp only [List.mem_cons, List.not_mem_nil, or_false, not_or]; exact ⟨(Ne.symm (nd_ne ND (i := 0) (j := 9) rfl rfl (by decide))), (nd_ne ND (i := 9) (j := 12) rfl rfl (by decide)), (nd_ne ND (i := 9) (j := 13) rfl rfl (by decide))⟩) e_774
      have e_827 := r_814 groupFar_ _ (by simp only [List.mem_cons, List.not_mem_nil, or_false, not_or]; exact ⟨(Ne.symm (nd_ne ND (i := 0) (j := 10) rfl rfl (by decide))), (nd_ne ND (i := 10) (j := 12) rfl rfl (by decide)), (nd_ne ND (i := 10) (j := 13) rfl rfl (by decide))⟩) e_775
      have e_828 := r_814 out_ _ (by simp only [List.mem_cons, List.not_mem_nil, or_false, not_or]; exact ⟨(Ne.symm (nd_ne ND (i := 0) (j := 11) rfl rfl (by decide))), (nd_ne ND (i := 11) (j := 12) rfl rfl (by decide)), (nd_ne ND (i := 11) (j := 13) rfl rfl (by decide))⟩) e_776
      have r_829 := r_779.trans (r_814.mono (by simp))
      have g_830 : fs_807[(28 : Nat)]? = some (.int (nI x)) := (ga_811 28 (by decide)).trans g_780
      have g_831 : fs_807[(29 : Nat)]? = some (.int kd) := (ga_811 29 (by decide)).trans g_781
      have g_832 : fs_807[(30 : Nat)]? = some (.int (nI x)) := (ga_811 30 (by decide)).trans g_782
      have g_833 : fs_807[(31 : Nat)]? = some (.int (nI y)) := (ga_811 31 (by decide)).trans g_783
      have g_834 : fs_807[(34 : Nat)]? = some (.int (nI p)) := (ga_811 34 (by decide)).trans g_784
      have g_835 : fs_807[(35 : Nat)]? = some (.int (nI t)) := (ga_811 35 (by decide)).trans g_785
      have g_836 : fs_807[(36 : Nat)]? = some (.int (nI g)) := (ga_811 36 (by decide)).trans g_786
      have g_837 : fs_807[(37 : Nat)]? = some (.int (nI o)) := (ga_811 37 (by decide)).trans g_787
      have g_838 : fs_807[(39 : Nat)]? = some (.int mk) := (ga_811 39 (by decide)).trans g_789
      have g_839 : fs_807[(11 : Nat)]? = some (.int (nI asz)) := (ga_811 11 (by decide)).trans g_790
      have g_840 : fs_807[(61 : Nat)]? = some (.int 0) := (ga_811 61 (by decide)).trans g_791
      have g_841 : fs_807[(4 : Nat)]? = some (.ref asked_) := (ga_811 4 (by decide)).trans g_792
      have g_842 : fs_807[(41 : Nat)]? = some (.ref firstToken_) := (ga_811 41 (by decide)).trans g_793
      have g_843 : fs_807[(42 : Nat)]? = some (.ref starred_) := (ga_811 42 (by decide)).trans g_794
      have g_844 : fs_807[(43 : Nat)]? = some (.ref tokenAt_) := (ga_811 43 (by decide)).trans g_795
      have g_845 : fs_807[(44 : Nat)]? = some (.ref tokenSize_) := (ga_811 44 (by decide)).trans g_796
      have g_846 : fs_807[(45 : Nat)]? = some (.ref groupKind_) := (ga_811 45 (by decide)).trans g_797
      have g_847 : fs_807[(46 : Nat)]? = some (.ref groupPhrase_) := (ga_811 46 (by decide)).trans g_798
      have g_848 : fs_807[(47 : Nat)]? = some (.ref groupSize_) := (ga_811 47 (by decide)).trans g_799
      have g_849 : fs_807[(48 : Nat)]? = some (.ref groupMask_) := (ga_811 48 (by decide)).trans g_800
      have g_850 : fs_807[(49 : Nat)]? = some (.ref groupFar_) := (ga_811 49 (by decide)).trans g_801
      have g_851 : fs_807[(50 : Nat)]? = some (.ref out_) := (ga_811 50 (by decide)).trans g_802
      have g_852 : fs_807[(51 : Nat)]? = some (.ref top_) := (ga_811 51 (by decide)).trans g_803
      have g_853 : fs_807[(52 : Nat)]? = some (.ref masks_) := (ga_811 52 (by decide)).trans g_804
      have g_854 : fs_807[(33 : Nat)]? = some (.int bd_754) := (ga_811 33 (by decide)).trans g_760
      have ga_855 : ∀ i : Nat, i ∉ [28, 29, 30, 31, 33, 34, 35, 36, 37, 38, 39, 61] → fs_807[i]? = fs[i]? := fun i hi => (ga_811 i (fun z => hi (by simp only [List.mem_cons, List.not_mem_nil, or_false] at z ⊢; omega))).trans (ga_805 i hi)
      refine s_Model_atom_35 ?_
      refine x_callV (As := []) (b := m) (rest := []) (F1 := 4) (L1 := 87) (mc := 0) (ms := 0) d_Model_atom_36 cV_Model_257 (f_next (x0 := y) l_808 e_809 g_830 g_831 g_832 g_833 g_839 g_841 e_818 PT.2.1 hasz (by omega) (by omega)) e_809 ⟨by decide, rfl⟩ ⟨by omega, by show 8 + (1 + 11) + 87 ≤ _; omega⟩ ⟨by omega, by omega⟩ (Nat.le_of_ble_eq_true rfl) (fun v_871 h_870 p_872 => ?_)
      obtain ⟨rfl, x_856, y_857, kd_858, fs_859, hx_860, PT_861, l_862, e_863, g_864, g_865, g_866, g_867, ga_868, r_869⟩ := p_872
      have e_873 := r_869 asked_ _ (by simp only [List.mem_cons, List.not_mem_nil, or_false, not_or]; exact (Ne.symm (nd_ne ND (i := 0) (j := 1) rfl rfl (by decide)))) e_818
      have e_874 := r_869 firstToken_ _ (by simp only [List.mem_cons, List.not_mem_nil, or_false, not_or]; exact (Ne.symm (nd_ne ND (i := 0) (j := 2) rfl rfl (by decide)))) e_819
      have e_875 := r_869 starred_ _ (by simp only [List.mem_cons, List.not_mem_nil, or_false, not_or]; exact (Ne.symm (nd_ne ND (i := 0) (j := 3) rfl rfl (by decide)))) e_820
      have e_876 := r_869 tokenAt_ _ (by simp only [List.mem_cons, List.not_mem_nil, or_false, not_or]; exact (Ne.symm (nd_ne ND (i := 0) (j := 4) rfl rfl (by decide)))) e_821
      have e_877 := r_869 tokenSize_ _ (by simp only [List.mem_cons, List.not_mem_nil, or_false, not_or]; exact (Ne.symm (nd_ne ND (i := 0) (j := 5) rfl rfl (by decide)))) e_822
      have e_878 := r_869 groupKind_ _ (by simp only [List.mem_cons, List.not_mem_nil, or_false, not_or]; exact (Ne.symm (nd_ne ND (i := 0) (j := 6) rfl rfl (by decide)))) e_823
      have e_879 := r_869 groupPhrase_ _ (by simp only [List.mem_cons, List.not_mem_nil, or_false, not_or]; exact (Ne.symm (nd_ne ND (i := 0) (j := 7) rfl rfl (by decide)))) e_824
      have e_880 := r_869 groupSize_ _ (by simp only [List.mem_cons, List.not_mem_nil, or_false, not_or]; exact (Ne.symm (nd_ne ND (i := 0) (j := 8) rfl rfl (by decide)))) e_825
      have e_881 := r_869 groupMask_ _ (by simp only [List.mem_cons, List.not_mem_nil, or_false, not_or]; exact (Ne.symm (nd_ne ND (i := 0) (j := 9) rfl rfl (by decide)))) e_826
      have e_882 := r_869 groupFar_ _ (by simp only [List.mem_cons, List.not_mem_nil, or_false, not_or]; exact (Ne.symm (nd_ne ND (i := 0) (j := 10) rfl rfl (by decide)))) e_827
      have e_883 := r_869 out_ _ (by simp only [List.mem_cons, List.not_mem_nil, or_false, not_or]; exact (Ne.symm (nd_ne ND (i := 0) (j := 11) rfl rfl (by decide)))) e_828
      have e_884 := r_869 top_ _ (by simp only [List.mem_cons, List.not_mem_nil, or_false, not_or]; exact (Ne.symm (nd_ne ND (i := 0) (j := 12) rfl rfl (by decide)))) e_812
      have e_885 := r_869 masks_ _ (by simp only [List.mem_cons, List.not_mem_nil, or_false, not_or]; exact (Ne.symm (nd_ne ND (i := 0) (j := 13) rfl rfl (by decide)))) e_813
      have r_886 := r_829.trans (r_869.mono (by simp))
      have g_887 : fs_859[(34 : Nat)]? = some (.int (nI p)) := (ga_868 34 (by decide)).trans g_834
      have g_888 : fs_859[(35 : Nat)]? = some (.int (nI t)) := (ga_868 35 (by decide)).trans g_835
      have g_889 : fs_859[(36 : Nat)]? = some (.int (nI g)) := (ga_868 36 (by decide)).trans g_836
      have g_890 : fs_859[(37 : Nat)]? = some (.int (nI o)) := (ga_868 37 (by decide)).trans g_837
      have g_891 : fs_859[(39 : Nat)]? = some (.int mk) := (ga_868 39 (by decide)).trans g_838
      have g_892 : fs_859[(11 : Nat)]? = some (.int (nI asz)) := (ga_868 11 (by decide)).trans g_839
      have g_893 : fs_859[(61 : Nat)]? = some (.int 0) := (ga_868 61 (by decide)).trans g_840
      have g_894 : fs_859[(4 : Nat)]? = some (.ref asked_) := (ga_868 4 (by decide)).trans g_841
      have g_895 : fs_859[(41 : Nat)]? = some (.ref firstToken_) := (ga_868 41 (by decide)).trans g_842
      have g_896 : fs_859[(42 : Nat)]? = some (.ref starred_) := (ga_868 42 (by decide)).trans g_843
      have g_897 : fs_859[(43 : Nat)]? = some (.ref tokenAt_) := (ga_868 43 (by decide)).trans g_844
      have g_898 : fs_859[(44 : Nat)]? = some (.ref tokenSize_) := (ga_868 44 (by decide)).trans g_845
      have g_899 : fs_859[(45 : Nat)]? = some (.ref groupKind_) := (ga_868 45 (by decide)).trans g_846
      have g_900 : fs_859[(46 : Nat)]? = some (.ref groupPhrase_) := (ga_868 46 (by decide)).trans g_847
      have g_901 : fs_859[(47 : Nat)]? = some (.ref groupSize_) := (ga_868 47 (by decide)).trans g_848
      have g_902 : fs_859[(48 : Nat)]? = some (.ref groupMask_) := (ga_868 48 (by decide)).trans g_849
      have g_903 : fs_859[(49 : Nat)]? = some (.ref groupFar_) := (ga_868 49 (by decide)).trans g_850
      have g_904 : fs_859[(50 : Nat)]? = some (.ref out_) := (ga_868 50 (by decide)).trans g_851
      have g_905 : fs_859[(51 : Nat)]? = some (.ref top_) := (ga_868 51 (by decide)).trans g_852
      have g_906 : fs_859[(52 : Nat)]? = some (.ref masks_) := (ga_868 52 (by decide)).trans g_853
      have g_907 : fs_859[(33 : Nat)]? = some (.int bd_754) := (ga_868 33 (by decide)).trans g_854
      have g_908 : fs_859[(38 : Nat)]? = some (.int (nI (n + 1))) := (ga_868 38 (by decide)).trans g_810
      have ga_909 : ∀ i : Nat, i ∉ [28, 29, 30, 31, 33, 34, 35, 36, 37, 38, 39, 61] → fs_859[i]? = fs[i]? := fun i hi => (ga_868 i (fun z => hi (by simp only [List.mem_cons, List.not_mem_nil, or_false] at z ⊢; omega))).trans (ga_855 i hi)
      have J_910 := J.mono (Nat.le_trans PT.1 hx_860)
      have TK_911 := TK.mono (Nat.le_trans PT.1 hx_860)
      have hm_912 := Nat.le_trans PT.1 hx_860
      have hb_913 := Nat.le_trans PT_861.1 PT_861.2.1
      refine x_le (xw_le_n xw_le_e) ?_
      refine s_Model_atom_39 ?_
      refine s_Model_atom_111 ?_
      have hpr := Nat.lt_of_lt_of_le (PT.2.2.1 (by rw [z_2]; decide)) hx_860
      have hJ5 : cntJ (upd ct n 5) (n + 1) = cntJ ct n := by rw [cntJ_up, if_neg (by decide)]; rfl
      have hD5 : cntD (upd ct n 5) (n + 1) = cntD ct n + 1 := by rw [cntD_up, if_neg (by decide)]
      exact ⟨rfl, x_856, 0, kd_858, bd_754, by omega, fun _ => by omega, y_857, p, t, g, o, (n + 1), _, _, _, _, _, _, _, _, _, _, _, _, _, _, PT_861, J_910, TK_911, by omega, by omega, by rw [hD5]; omega, by rw [hJ5]; omega, by omega, fun k hk => by by_cases q : k = n; (rw [q, pk_us]; decide); (rw [pk_un q]; exact hT1 k (by omega)), fun q => ⟨PH, GR, absurd (hw_756 q).1 (by decide), by rw [hJ5]; exact hoJ, by rw [hJ5]; exact hH, hC⟩, l_862, e_863, g_864, g_865, g_866, g_867, g_907, g_887, g_888, g_889, g_890, g_908, g_891, g_893, ga_909, e_874, e_875, e_876, e_877, e_878, e_879, e_880, e_881, e_882, e_883, e_884, e_885, r_886⟩
