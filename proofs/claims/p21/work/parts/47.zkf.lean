set_option maxHeartbeats 8000000 in
theorem f_groupH {G : xw_G} {F L : Nat} {h : xw_A} {p y t mk asz : Nat} {bd : Int32} {ph : List PHt} {gr : List GRt} {o st : List EV} {fa c1 c2 ca cs c5 c6 c7 c8 c9 co ct cm : Nat → Int32} {m asked_ firstToken_ starred_ tokenAt_ tokenSize_ groupKind_ groupPhrase_ groupSize_ groupMask_ groupFar_ out_ top_ masks_ : Nat} {fs : List Value} (l : fs.length = 62) (e : h m = some (.inr (11, fs))) (g_at : fs[(28 : Nat)]? = some (.int (nI (bl fa asz p)))) (g_kind : fs[(29 : Nat)]? = some (.int (nI (rkd (kdP fa asz p))))) (g_from : fs[(30 : Nat)]? = some (.int (nI (bl fa asz p)))) (g_to : fs[(31 : Nat)]? = some (.int (nI y))) (g_bad : fs[(33 : Nat)]? = some (.int bd)) (g_phrases : fs[(34 : Nat)]? = some (.int (nI ph.length))) (g_tokens : fs[(35 : Nat)]? = some (.int (nI t))) (g_groups : fs[(36 : Nat)]? = some (.int (nI gr.length))) (g_outs : fs[(37 : Nat)]? = some (.int (nI o.length))) (g_tops : fs[(38 : Nat)]? = some (.int (nI st.length))) (g_mask : fs[(39 : Nat)]? = some (.int (nI mk))) (g_askedSize : fs[(11 : Nat)]? = some (.int (nI asz))) (g_asked : fs[(4 : Nat)]? = some (.ref asked_)) (e_asked : h asked_ = some (.inl (0, 96, .inl fa))) (g_firstToken : fs[(41 : Nat)]? = some (.ref firstToken_)) (e_firstToken : h firstToken_ = some (.inl (0, 13, .inl c1))) (g_starred : fs[(42 : Nat)]? = some (.ref starred_)) (e_starred : h starred_ = some (.inl (0, 13, .inl c2))) (g_tokenAt : fs[(43 : Nat)]? = some (.ref tokenAt_)) (e_tokenAt : h tokenAt_ = some (.inl (0, 60, .inl ca))) (g_tokenSize : fs[(44 : Nat)]? = some (.ref tokenSize_)) (e_tokenSize : h tokenSize_ = some (.inl (0, 60, .inl cs))) (g_groupKind : fs[(45 : Nat)]? = some (.ref groupKind_)) (e_groupKind : h groupKind_ = some (.inl (0, 13, .inl c5))) (g_groupPhrase : fs[(46 : Nat)]? = some (.ref groupPhrase_)) (e_groupPhrase : h groupPhrase_ = some (.inl (0, 13, .inl c6))) (g_groupSize : fs[(47 : Nat)]? = some (.ref groupSize_)) (e_groupSize : h groupSize_ = some (.inl (0, 13, .inl c7))) (g_groupMask : fs[(48 : Nat)]? = some (.ref groupMask_)) (e_groupMask : h groupMask_ = some (.inl (0, 13, .inl c8))) (g_groupFar : fs[(49 : Nat)]? = some (.ref groupFar_)) (e_groupFar : h groupFar_ = some (.inl (0, 13, .inl c9))) (g_out : fs[(50 : Nat)]? = some (.ref out_)) (e_out : h out_ = some (.inl (0, 60, .inl co))) (g_top : fs[(51 : Nat)]? = some (.ref top_)) (e_top : h top_ = some (.inl (0, 60, .inl ct))) (g_masks : fs[(52 : Nat)]? = some (.ref masks_)) (e_masks : h masks_ = some (.inl (0, 60, .inl cm))) (ND : NDl [m, asked_, firstToken_, starred_, tokenAt_, tokenSize_, groupKind_, groupPhrase_, groupSize_, groupMask_, groupFar_, out_, top_, masks_]) (hasz : asz ≤ 96) (h128 : ∀ j, j < asz → ∃ c, c < 128 ∧ fa j = nI c) (PT : PtO fa asz (bl fa asz p) y (nI (rkd (kdP fa asz p)))) (HY : ¬ kdP fa asz p = 1 → y = skP fa asz p) (RQ : RqT fa asz c1 c2 ca cs t p ph []) (GR : GrR gr c5 c6 c7 c8 c9) (OU : OuR o co) (ST : StR st ct cm) (hbd : bd < 0) (hp12 : ph.length ≤ 12) (hgp : gr.length ≤ ph.length) (hos : o.length + st.length < 59) (hmk : mk ≤ 3) (hF : 7 ≤ F) (hL : 150 ≤ L) :
    xw_Met G m_Model_group F L 0 0 [.ref m] h (fun v h' => v = none ∧ ∃ (bd' : Int32) (c1' c2' ca' cs' c5' c6' c7' c8' c9' co' : Nat → Int32) (fs' : List Value), fs'.length = 62 ∧ h' m = some (.inr (11, fs')) ∧ fs'[(33 : Nat)]? = some (.int bd') ∧ (∀ i : Nat, i ∉ [28, 29, 30, 31, 33, 34, 35, 36, 37, 38, 39] → fs'[i]? = fs[i]?) ∧ h' firstToken_ = some (.inl (0, 13, .inl c1')) ∧ h' starred_ = some (.inl (0, 13, .inl c2')) ∧ h' tokenAt_ = some (.inl (0, 60, .inl ca')) ∧ h' tokenSize_ = some (.inl (0, 60, .inl cs')) ∧ h' groupKind_ = some (.inl (0, 13, .inl c5')) ∧ h' groupPhrase_ = some (.inl (0, 13, .inl c6')) ∧ h' groupSize_ = some (.inl (0, 13, .inl c7')) ∧ h' groupMask_ = some (.inl (0, 13, .inl c8')) ∧ h' groupFar_ = some (.inl (0, 13, .inl c9')) ∧ h' out_ = some (.inl (0, 60, .inl co')) ∧ FrO [m, firstToken_, starred_, tokenAt_, tokenSize_, groupKind_, groupPhrase_, groupSize_, groupMask_, groupFar_, out_] h h' ∧ ((gpP fa asz mk (p, ph, gr) = none ∧ ¬ bd' < 0 ∧ INT fs' [28, 29, 30, 31, 34, 35, 36, 39] ∧ fs'[(37 : Nat)]? = some (.int (nI o.length)) ∧ fs'[(38 : Nat)]? = some (.int (nI st.length))) ∨ ∃ (p' : Nat) (ph' : List PHt) (gr' : List GRt) (gi y' t' : Nat), gpP fa asz mk (p, ph, gr) = some ((p', ph', gr'), gi) ∧ bd' < 0 ∧ PtO fa asz (bl fa asz p') y' (nI (rkd (kdP fa asz p'))) ∧ (¬ kdP fa asz p' = 1 → y' = skP fa asz p') ∧ fs'[(28 : Nat)]? = some (.int (nI (bl fa asz p'))) ∧ fs'[(29 : Nat)]? = some (.int (nI (rkd (kdP fa asz p')))) ∧ fs'[(30 : Nat)]? = some (.int (nI (bl fa asz p'))) ∧ fs'[(31 : Nat)]? = some (.int (nI y')) ∧ fs'[(34 : Nat)]? = some (.int (nI ph'.length)) ∧ fs'[(35 : Nat)]? = some (.int (nI t')) ∧ RqT fa asz c1' c2' ca' cs' t' p' ph' [] ∧ fs'[(36 : Nat)]? = some (.int (nI gr'.length)) ∧ GrR gr' c5' c6' c7' c8' c9' ∧ gr'.length ≤ ph'.length ∧ fs'[(37 : Nat)]? = some (.int (nI (o ++ [(0, gi)]).length)) ∧ OuR (o ++ [(0, gi)]) co' ∧ fs'[(38 : Nat)]? = some (.int (nI (cfS st mk).1.length)) ∧ fs'[(39 : Nat)]? = some (.int (nI (cfS st mk).2)) ∧ StR (cfS st mk).1 ct cm ∧ (cfS st mk).2 ≤ 3)) (fun _ _ => False) := by
  refine xw_Met.of rfl (by decide) (Nat.le_of_ble_eq_true rfl) ?_
  have hbd2 : ¬ 0 ≤ bd := Int32.not_le.mpr hbd
  have hxy0 := PT.1
  have hy97 := PT.2.1
  have ga0 : ∀ i : Nat, i ∉ [28, 29, 30, 31, 33, 34, 35, 36, 37, 38, 39] → fs[i]? = fs[i]? := fun _ _ => rfl
  have r0 : FrO [m, firstToken_, starred_, tokenAt_, tokenSize_, groupKind_, groupPhrase_, groupSize_, groupMask_, groupFar_, out_] h h := FrO.rf
  refine s_Model_group_0 (groupKind_a0 := some groupKind_) l e g_groupKind g_groups g_kind (fun z_1 => ?_) (fun z_2 => ?_)
  · skip
    refine s_Model_group_21 l e g_kind (fun z_3 => ?_) (fun z_4 => ?_)
    · skip
      refine s_Model_group_34 ?_
      refine s_Model_group_35 e_groupKind (vp_in_nI (by omega) (by omega)) l e g_groupPhrase g_groups g_phrases e_groupPhrase (vp_in_nI (by omega) (by omega)) (Ne.symm (nd_ne ND (i := 6) (j := 7) rfl rfl (by decide))) g_groupMask g_mask e_groupMask (vp_in_nI (by omega) (by omega)) (Ne.symm (nd_ne ND (i := 7) (j := 9) rfl rfl (by decide))) (Ne.symm (nd_ne ND (i := 6) (j := 9) rfl rfl (by decide))) g_groupFar e_groupFar (vp_in_nI (by omega) (by omega)) (Ne.symm (nd_ne ND (i := 9) (j := 10) rfl rfl (by decide))) (Ne.symm (nd_ne ND (i := 7) (j := 10) rfl rfl (by decide))) (Ne.symm (nd_ne ND (i := 6) (j := 10) rfl rfl (by decide))) ?_
      refine x_u4 (fun h_5 e_6 f_7 h_8 e_9 f_10 h_11 e_12 f_13 h_14 e_15 f_16 => ?_)
      have e_17 := (f_7 m (nd_ne ND (i := 0) (j := 6) rfl rfl (by decide))).trans e
      have e_18 := (f_7 asked_ (nd_ne ND (i := 1) (j := 6) rfl rfl (by decide))).trans e_asked
      have e_19 := (f_7 firstToken_ (nd_ne ND (i := 2) (j := 6) rfl rfl (by decide))).trans e_firstToken
      have e_20 := (f_7 starred_ (nd_ne ND (i := 3) (j := 6) rfl rfl (by decide))).trans e_starred
      have e_21 := (f_7 tokenAt_ (nd_ne ND (i := 4) (j := 6) rfl rfl (by decide))).trans e_tokenAt
      have e_22 := (f_7 tokenSize_ (nd_ne ND (i := 5) (j := 6) rfl rfl (by decide))).trans e_tokenSize
      have e_23 := (f_7 groupPhrase_ (Ne.symm (nd_ne ND (i := 6) (j := 7) rfl rfl (by decide)))).trans e_groupPhrase
      have e_24 := (f_7 groupSize_ (Ne.symm (nd_ne ND (i := 6) (j := 8) rfl rfl (by decide)))).trans e_groupSize
      have e_25 := (f_7 groupMask_ (Ne.symm (nd_ne ND (i := 6) (j := 9) rfl rfl (by decide)))).trans e_groupMask
      have e_26 := (f_7 groupFar_ (Ne.symm (nd_ne ND (i := 6) (j := 10) rfl rfl (by decide)))).trans e_groupFar
      have e_27 := (f_7 out_ (Ne.symm (nd_ne ND (i := 6) (j := 11) rfl rfl (by decide)))).trans e_out
      have e_28 := (f_7 top_ (Ne.symm (nd_ne ND (i := 6) (j := 12) rfl rfl (by decide)))).trans e_top
      have e_29 := (f_7 masks_ (Ne.symm (nd_ne ND (i := 6) (j := 13) rfl rfl (by decide)))).trans e_masks
      have r_30 := r0.up (by simp) f_7
      have e_31 := (f_10 m (nd_ne ND (i := 0) (j := 7) rfl rfl (by decide))).trans e_17
      have e_32 := (f_10 asked_ (nd_ne ND (i := 1) (j := 7) rfl rfl (by decide))).trans e_18
      have e_33 := (f_10 firstToken_ (nd_ne ND (i := 2) (j := 7) rfl rfl (by decide))).trans e_19
      have e_34 := (f_10 starred_ (nd_ne ND (i := 3) (j := 7) rfl rfl (by decide))).trans e_20
      have e_35 := (f_10 tokenAt_ (nd_ne ND (i := 4) (j := 7) rfl rfl (by decide))).trans e_21
      have e_36 := (f_10 tokenSize_ (nd_ne ND (i := 5) (j := 7) rfl rfl (by decide))).trans e_22
      have e_37 := (f_10 groupKind_ (nd_ne ND (i := 6) (j := 7) rfl rfl (by decide))).trans e_6
      have e_38 := (f_10 groupSize_ (Ne.symm (nd_ne ND (i := 7) (j := 8) rfl rfl (by decide)))).trans e_24
      have e_39 := (f_10 groupMask_ (Ne.symm (nd_ne ND (i := 7) (j := 9) rfl rfl (by decide)))).trans e_25
      have e_40 := (f_10 groupFar_ (Ne.symm (nd_ne ND (i := 7) (j := 10) rfl rfl (by decide)))).trans e_26
      have e_41 := (f_10 out_ (Ne.symm (nd_ne ND (i := 7) (j := 11) rfl rfl (by decide)))).trans e_27
      have e_42 := (f_10 top_ (Ne.symm (nd_ne ND (i := 7) (j := 12) rfl rfl (by decide)))).trans e_28
      have e_43 := (f_10 masks_ (Ne.symm (nd_ne ND (i := 7) (j := 13) rfl rfl (by decide)))).trans e_29
      have r_44 := r_30.up (by simp) f_10
      have e_45 := (f_13 m (nd_ne ND (i := 0) (j := 9) rfl rfl (by decide))).trans e_31
      have e_46 := (f_13 asked_ (nd_ne ND (i := 1) (j := 9) rfl rfl (by decide))).trans e_32
      have e_47 := (f_13 firstToken_ (nd_ne ND (i := 2) (j := 9) rfl rfl (by decide))).trans e_33
      have e_48 := (f_13 starred_ (nd_ne ND (i := 3) (j := 9) rfl rfl (by decide))).trans e_34
      have e_49 := (f_13 tokenAt_ (nd_ne ND (i := 4) (j := 9) rfl rfl (by decide))).trans e_35
      have e_50 := (f_13 tokenSize_ (nd_ne ND (i := 5) (j := 9) rfl rfl (by decide))).trans e_36
      have e_51 := (f_13 groupKind_ (nd_ne ND (i := 6) (j := 9) rfl rfl (by decide))).trans e_37
      have e_52 := (f_13 groupPhrase_ (nd_ne ND (i := 7) (j := 9) rfl rfl (by decide))).trans e_9
      have e_53 := (f_13 groupSize_ (nd_ne ND (i := 8) (j := 9) rfl rfl (by decide))).trans e_38
      have e_54 := (f_13 groupFar_ (Ne.symm (nd_ne ND (i := 9) (j := 10) rfl rfl (by decide)))).trans e_40
      have e_55 := (f_13 out_ (Ne.symm (nd_ne ND (i := 9) (j := 11) rfl rfl (by decide)))).trans e_41
      have e_56 := (f_13 top_ (Ne.symm (nd_ne ND (i := 9) (j := 12) rfl rfl (by decide)))).trans e_42
      have e_57 := (f_13 masks_ (Ne.symm (nd_ne ND (i := 9) (j := 13) rfl rfl (by decide)))).trans e_43
      have r_58 := r_44.up (by simp) f_13
      have e_59 := (f_16 m (nd_ne ND (i := 0) (j := 10) rfl rfl (by decide))).trans e_45
      have e_60 := (f_16 asked_ (nd_ne ND (i := 1) (j := 10) rfl rfl (by decide))).trans e_46
      have e_61 := (f_16 firstToken_ (nd_ne ND (i := 2) (j := 10) rfl rfl (by decide))).trans e_47
      have e_62 := (f_16 starred_ (nd_ne ND (i := 3) (j := 10) rfl rfl (by decide))).trans e_48
      have e_63 := (f_16 tokenAt_ (nd_ne ND (i := 4) (j := 10) rfl rfl (by decide))).trans e_49
      have e_64 := (f_16 tokenSize_ (nd_ne ND (i := 5) (j := 10) rfl rfl (by decide))).trans e_50
      have e_65 := (f_16 groupKind_ (nd_ne ND (i := 6) (j := 10) rfl rfl (by decide))).trans e_51
      have e_66 := (f_16 groupPhrase_ (nd_ne ND (i := 7) (j := 10) rfl rfl (by decide))).trans e_52
      have e_67 := (f_16 groupSize_ (nd_ne ND (i := 8) (j := 10) rfl rfl (by decide))).trans e_53
      have e_68 := (f_16 groupMask_ (nd_ne ND (i := 9) (j := 10) rfl rfl (by decide))).trans e_12
      have e_69 := (f_16 out_ (Ne.symm (nd_ne ND (i := 10) (j := 11) rfl rfl (by decide)))).trans e_55
      have e_70 := (f_16 top_ (Ne.symm (nd_ne ND (i := 10) (j := 12) rfl rfl (by decide)))).trans e_56
      have e_71 := (f_16 masks_ (Ne.symm (nd_ne ND (i := 10) (j := 13) rfl rfl (by decide)))).trans e_57
      have r_72 := r_58.up (by simp) f_16
      refine s_Model_group_73 l e_59 g_kind (fun z_73 => ?_) (fun z => absurd z z_3)
      refine s_Model_group_89 l e_59 g_kind (fun z_74 => ?_) (fun z => absurd z z_1)
      refine s_Model_group_102 ?_
      have hk_75 : ¬ kdP fa asz p = 12 := fun q => z_74 (by rw [q]; rfl)
      have hk_76 : ¬ kdP fa asz p = 8 := fun q => z_73 (by rw [q]; rfl)
      refine x_callV (As := []) (b := m) (rest := []) (F1 := 5) (L1 := 107) (mc := 0) (ms := 0) d_Model_group_103 cV_Model_260 (f_phraseH (ph := ph) l e_59 g_at g_kind g_from g_to g_bad g_phrases g_tokens g_askedSize g_asked e_60 g_firstToken e_61 g_starred e_62 g_tokenAt e_63 g_tokenSize e_64 (nd_ne ND (i := 2) (j := 3) rfl rfl (by decide)) (nd_ne ND (i := 4) (j := 5) rfl rfl (by decide)) hasz PT HY RQ hbd rfl hp12 (by omega) (by omega)) e_59 ⟨by decide, rfl⟩ ⟨by omega, by show 8 + (1 + 11) + 107 ≤ _; omega⟩ ⟨by omega, by omega⟩ (Nat.le_of_ble_eq_true rfl) (fun v_111 h_110 p_112 => ?_)
      rcases p_112 with ⟨rfl, bd_77, c1_78, c2_79, ca_80, cs_81, fs_82, l_83, e_84, g_85, ga_86, e_87, e_88, e_89, e_90, r_91, ⟨hx_92, nb_93, IN_94⟩ | ⟨p_95, x_96, y_97, t_98, hx_99, hb_100, PT_101, HY_102, g_103, g_104, g_105, g_106, g_107, g_108, RQ_109⟩⟩
      · skip
        have e_113 := r_91 asked_ _ (by simp only [List.mem_cons, List.not_mem_nil, or_false, not_or]; exact ⟨(Ne.symm (nd_ne ND (i := 0) (j := 1) rfl rfl (by decide))), (nd_ne ND (i := 1) (j := 2) rfl rfl (by decide)), (nd_ne ND (i := 1) (j := 3) rfl rfl (by decide)), (nd_ne ND (i := 1) (j := 4) rfl rfl (by decide)), (nd_ne ND (i := 1) (j := 5) rfl rfl (by decide))⟩) e_60
        have e_114 := r_91 groupKind_ _ (by simp only [List.mem_cons, List.not_mem_nil, or_false, not_or]; exact ⟨(Ne.symm (nd_ne ND (i := 0) (j := 6) rfl rfl (by decide))), (Ne.symm (nd_ne ND (i := 2) (j := 6) rfl rfl (by decide))), (Ne.symm (nd_ne ND (i := 3) (j := 6) rfl rfl (by decide))), (Ne.symm (nd_ne ND (i := 4) (j := 6) rfl rfl (by decide))), (Ne.symm (nd_ne ND (i := 5) (j := 6) rfl rfl (by decide)))⟩) e_65
        have e_115 := r_91 groupPhrase_ _ (by simp only [List.mem_cons, List.not_mem_nil, or_false, not_or]; exact ⟨(Ne.symm (nd_ne ND (i := 0) (j := 7) rfl rfl (by decide))), (Ne.symm (nd_ne ND (i := 2) (j := 7) rfl rfl (by decide))), (Ne.symm (nd_ne ND (i := 3) (j := 7) rfl rfl (by decide))), (Ne.symm (nd_ne ND (i := 4) (j := 7) rfl rfl (by decide))), (Ne.symm (nd_ne ND (i := 5) (j := 7) rfl rfl (by decide)))⟩) e_66
        have e_116 := r_91 groupSize_ _ (by simp only [List.mem_cons, List.not_mem_nil, or_false, not_or]; exact ⟨(Ne.symm (nd_ne ND (i := 0) (j := 8) rfl rfl (by decide))), (Ne.symm (nd_ne ND (i := 2) (j := 8) rfl rfl (by decide))), (Ne.symm (nd_ne ND (i := 3) (j := 8) rfl rfl (by decide))), (Ne.symm (nd_ne ND (i := 4) (j := 8) rfl rfl (by decide))), (Ne.symm (nd_ne ND (i := 5) (j := 8) rfl rfl (by decide)))⟩) e_67
        have e_117 := r_91 groupMask_ _ (by simp only [List.mem_cons, List.not_mem_nil, or_false, not_or]; exact ⟨(Ne.symm (nd_ne ND (i := 0) (j := 9) rfl rfl (by decide))), (Ne.symm (nd_ne ND (i := 2) (j := 9) rfl rfl (by decide))), (Ne.symm (nd_ne ND (i := 3) (j := 9) rfl rfl (by decide))), (Ne.symm (nd_ne ND (i := 4) (j := 9) rfl rfl (by decide))), (Ne.symm (nd_ne ND (i := 5) (j := 9) rfl rfl (by decide)))⟩) e_68
        have e_118 := r_91 groupFar_ _ (by simp only [List.mem_cons, List.not_mem_nil, or_false, not_or]; exact ⟨(Ne.symm (nd_ne ND (i := 0) (j := 10) rfl rfl (by decide))), (Ne.symm (nd_ne ND (i := 2) (j := 10) rfl rfl (by decide))), (Ne.symm (nd_ne ND (i := 3) (j := 10) rfl rfl (by decide))), (Ne.symm (nd_ne ND (i := 4) (j := 10) rfl rfl (by decide))), (Ne.symm (nd_ne ND (i := 5) (j := 10) rfl rfl (by decide)))⟩) e_15
        have e_119 := r_91 out_ _ (by simp only [List.mem_cons, List.not_mem_nil, or_false, not_or]; exact ⟨(Ne.symm (nd_ne ND (i := 0) (j := 11) rfl rfl (by decide))), (Ne.symm (nd_ne ND (i := 2) (j := 11) rfl rfl (by decide))), (Ne.symm (nd_ne ND (i := 3) (j := 11) rfl rfl (by decide))), (Ne.symm (nd_ne ND (i := 4) (j := 11) rfl rfl (by decide))), (Ne.symm (nd_ne ND (i := 5) (j := 11) rfl rfl (by decide)))⟩) e_69
        have e_120 := r_91 top_ _ (by simp only [List.mem_cons, List.not_mem_nil, or_false, not_or]; exact ⟨(Ne.symm (nd_ne ND (i := 0) (j := 12) rfl rfl (by decide))), (Ne.symm (nd_ne ND (i := 2) (j := 12) rfl rfl (by decide))), (Ne.symm (nd_ne ND (i := 3) (j := 12) rfl rfl (by decide))), (Ne.symm (nd_ne ND (i := 4) (j := 12) rfl rfl (by decide))), (Ne.symm (nd_ne ND (i := 5) (j := 12) rfl rfl (by decide)))⟩) e_70
        have e_121 := r_91 masks_ _ (by simp only [List.mem_cons, List.not_mem_nil, or_false, not_or]; exact ⟨(Ne.symm (nd_ne ND (i := 0) (j := 13) rfl rfl (by decide))), (Ne.symm (nd_ne ND (i := 2) (j := 13) rfl rfl (by decide))), (Ne.symm (nd_ne ND (i := 3) (j := 13) rfl rfl (by decide))), (Ne.symm (nd_ne ND (i := 4) (j := 13) rfl rfl (by decide))), (Ne.symm (nd_ne ND (i := 5) (j := 13) rfl rfl (by decide)))⟩) e_71
        have r_122 := r_72.trans (r_91.mono (by simp))
        obtain ⟨v_123, g_124⟩ := IN_94 28 (by decide)
        obtain ⟨v_125, g_126⟩ := IN_94 29 (by decide)
        obtain ⟨v_127, g_128⟩ := IN_94 30 (by decide)
        obtain ⟨v_129, g_130⟩ := IN_94 31 (by decide)
        obtain ⟨v_131, g_132⟩ := IN_94 34 (by decide)
        obtain ⟨v_133, g_134⟩ := IN_94 35 (by decide)
        have g_135 : fs_82[(36 : Nat)]? = some (.int (nI gr.length)) := (ga_86 36 (by decide)).trans g_groups
        have g_136 : fs_82[(37 : Nat)]? = some (.int (nI o.length)) := (ga_86 37 (by decide)).trans g_outs
        have g_137 : fs_82[(38 : Nat)]? = some (.int (nI st.length)) := (ga_86 38 (by decide)).trans g_tops
        have g_138 : fs_82[(39 : Nat)]? = some (.int (nI mk)) := (ga_86 39 (by decide)).trans g_mask
        have g_139 : fs_82[(11 : Nat)]? = some (.int (nI asz)) := (ga_86 11 (by decide)).trans g_askedSize
        have g_140 : fs_82[(4 : Nat)]? = some (.ref asked_) := (ga_86 4 (by decide)).trans g_asked
        have g_141 : fs_82[(41 : Nat)]? = some (.ref firstToken_) := (ga_86 41 (by decide)).trans g_firstToken
        have g_142 : fs_82[(42 : Nat)]? = some (.ref starred_) := (ga_86 42 (by decide)).trans g_starred
        have g_143 : fs_82[(43 : Nat)]? = some (.ref tokenAt_) := (ga_86 43 (by decide)).trans g_tokenAt
        have g_144 : fs_82[(44 : Nat)]? = some (.ref tokenSize_) := (ga_86 44 (by decide)).trans g_tokenSize
        have g_145 : fs_82[(45 : Nat)]? = some (.ref groupKind_) := (ga_86 45 (by decide)).trans g_groupKind
        have g_146 : fs_82[(46 : Nat)]? = some (.ref groupPhrase_) := (ga_86 46 (by decide)).trans g_groupPhrase
        have g_147 : fs_82[(47 : Nat)]? = some (.ref groupSize_) := (ga_86 47 (by decide)).trans g_groupSize
        have g_148 : fs_82[(48 : Nat)]? = some (.ref groupMask_) := (ga_86 48 (by decide)).trans g_groupMask
        have g_149 : fs_82[(49 : Nat)]? = some (.ref groupFar_) := (ga_86 49 (by decide)).trans g_groupFar
        have g_150 : fs_82[(50 : Nat)]? = some (.ref out_) := (ga_86 50 (by decide)).trans g_out
        have g_151 : fs_82[(51 : Nat)]? = some (.ref top_) := (ga_86 51 (by decide)).trans g_top
        have g_152 : fs_82[(52 : Nat)]? = some (.ref masks_) := (ga_86 52 (by decide)).trans g_masks
        have ga_153 : ∀ i : Nat, i ∉ [28, 29, 30, 31, 33, 34, 35, 36, 37, 38, 39] → fs_82[i]? = fs[i]? := fun i hi => (ga_86 i (fun z => hi (by simp only [List.mem_cons, List.not_mem_nil, or_false] at z ⊢; omega))).trans (ga0 i hi)
        have hb_154 : 0 ≤ bd_77 := Int32.not_lt.mp nb_93
        refine s_Model_group_106 l_83 e_84 g_85 (fun z => absurd z nb_93) (fun z_155 => ?_)
        refine s_Model_group_113 ?_
        exact ⟨rfl, _, _, _, _, _, _, _, _, _, _, _, _, l_83, e_84, g_85, ga_153, e_87, e_88, e_89, e_90, e_114, e_115, e_116, e_117, e_118, e_119, r_122, Or.inl ⟨gp_0n hk_76 hk_75 hx_92, nb_93, (fun i9 hi9 => by simp only [List.mem_cons, List.not_mem_nil, or_false] at hi9; rcases hi9 with rfl | rfl | rfl | rfl | rfl | rfl | rfl | rfl <;> first | exact ⟨_, g_124⟩ | exact ⟨_, g_126⟩ | exact ⟨_, g_128⟩ | exact ⟨_, g_130⟩ | exact ⟨_, g_132⟩ | exact ⟨_, g_134⟩ | exact ⟨_, g_135⟩ | exact ⟨_, g_138⟩), g_136, g_137⟩⟩
      · skip
        have e_156 := r_91 asked_ _ (by simp only [List.mem_cons, List.not_mem_nil, or_false, not_or]; exact ⟨(Ne.symm (nd_ne ND (i := 0) (j := 1) rfl rfl (by decide))), (nd_ne ND (i := 1) (j := 2) rfl rfl (by decide)), (nd_ne ND (i := 1) (j := 3) rfl rfl (by decide)), (nd_ne ND (i := 1) (j := 4) rfl rfl (by decide)), (nd_ne ND (i := 1) (j := 5) rfl rfl (by decide))⟩) e_60
        have e_157 := r_91 groupKind_ _ (by simp only [List.mem_cons, List.not_mem_nil, or_false, not_or]; exact ⟨(Ne.symm (nd_ne ND (i := 0) (j := 6) rfl rfl (by decide))), (Ne.symm (nd_ne ND (i := 2) (j := 6) rfl rfl (by decide))), (Ne.symm (nd_ne ND (i := 3) (j := 6) rfl rfl (by decide))), (Ne.symm (nd_ne ND (i := 4) (j := 6) rfl rfl (by decide))), (Ne.symm (nd_ne ND (i := 5) (j := 6) rfl rfl (by decide)))⟩) e_65
        have e_158 := r_91 groupPhrase_ _ (by simp only [List.mem_cons, List.not_mem_nil, or_false, not_or]; exact ⟨(Ne.symm (nd_ne ND (i := 0) (j := 7) rfl rfl (by decide))), (Ne.symm (nd_ne ND (i := 2) (j := 7) rfl rfl (by decide))), (Ne.symm (nd_ne ND (i := 3) (j := 7) rfl rfl (by decide))), (Ne.symm (nd_ne ND (i := 4) (j := 7) rfl rfl (by decide))), (Ne.symm (nd_ne ND (i := 5) (j := 7) rfl rfl (by decide)))⟩) e_66
        have e_159 := r_91 groupSize_ _ (by simp only [List.mem_cons, List.not_mem_nil, or_false, not_or]; exact ⟨(Ne.symm (nd_ne ND (i := 0) (j := 8) rfl rfl (by decide))), (Ne.symm (nd_ne ND (i := 2) (j := 8) rfl rfl (by decide))), (Ne.symm (nd_ne ND (i := 3) (j := 8) rfl rfl (by decide))), (Ne.symm (nd_ne ND (i := 4) (j := 8) rfl rfl (by decide))), (Ne.symm (nd_ne ND (i := 5) (j := 8) rfl rfl (by decide)))⟩) e_67
        have e_160 := r_91 groupMask_ _ (by simp only [List.mem_cons, List.not_mem_nil, or_false, not_or]; exact ⟨(Ne.symm (nd_ne ND (i := 0) (j := 9) rfl rfl (by decide))), (Ne.symm (nd_ne ND (i := 2) (j := 9) rfl rfl (by decide))), (Ne.symm (nd_ne ND (i := 3) (j := 9) rfl rfl (by decide))), (Ne.symm (nd_ne ND (i := 4) (j := 9) rfl rfl (by decide))), (Ne.symm (nd_ne ND (i := 5) (j := 9) rfl rfl (by decide)))⟩) e_68
        have e_161 := r_91 groupFar_ _ (by simp only [List.mem_cons, List.not_mem_nil, or_false, not_or]; exact ⟨(Ne.symm (nd_ne ND (i := 0) (j := 10) rfl rfl (by decide))), (Ne.symm (nd_ne ND (i := 2) (j := 10) rfl rfl (by decide))), (Ne.symm (nd_ne ND (i := 3) (j := 10) rfl rfl (by decide))), (Ne.symm (nd_ne ND (i := 4) (j := 10) rfl rfl (by decide))), (Ne.symm (nd_ne ND (i := 5) (j := 10) rfl rfl (by decide)))⟩) e_15
        have e_162 := r_91 out_ _ (by simp only [List.mem_cons, List.not_mem_nil, or_false, not_or]; exact ⟨(Ne.symm (nd_ne ND (i := 0) (j := 11) rfl rfl (by decide))), (Ne.symm (nd_ne ND (i := 2) (j := 11) rfl rfl (by decide))), (Ne.symm (nd_ne ND (i := 3) (j := 11) rfl rfl (by decide))), (Ne.symm (nd_ne ND (i := 4) (j := 11) rfl rfl (by decide))), (Ne.symm (nd_ne ND (i := 5) (j := 11) rfl rfl (by decide)))⟩) e_69
        have e_163 := r_91 top_ _ (by simp only [List.mem_cons, List.not_mem_nil, or_false, not_or]; exact ⟨(Ne.symm (nd_ne ND (i := 0) (j := 12) rfl rfl (by decide))), (Ne.symm (nd_ne ND (i := 2) (j := 12) rfl rfl (by decide))), (Ne.symm (nd_ne ND (i := 3) (j := 12) rfl rfl (by decide))), (Ne.symm (nd_ne ND (i := 4) (j := 12) rfl rfl (by decide))), (Ne.symm (nd_ne ND (i := 5) (j := 12) rfl rfl (by decide)))⟩) e_70
        have e_164 := r_91 masks_ _ (by simp only [List.mem_cons, List.not_mem_nil, or_false, not_or]; exact ⟨(Ne.symm (nd_ne ND (i := 0) (j := 13) rfl rfl (by decide))), (Ne.symm (nd_ne ND (i := 2) (j := 13) rfl rfl (by decide))), (Ne.symm (nd_ne ND (i := 3) (j := 13) rfl rfl (by decide))), (Ne.symm (nd_ne ND (i := 4) (j := 13) rfl rfl (by decide))), (Ne.symm (nd_ne ND (i := 5) (j := 13) rfl rfl (by decide)))⟩) e_71
        have r_165 := r_72.trans (r_91.mono (by simp))
        have g_166 : fs_82[(36 : Nat)]? = some (.int (nI gr.length)) := (ga_86 36 (by decide)).trans g_groups
        have g_167 : fs_82[(37 : Nat)]? = some (.int (nI o.length)) := (ga_86 37 (by decide)).trans g_outs
        have g_168 : fs_82[(38 : Nat)]? = some (.int (nI st.length)) := (ga_86 38 (by decide)).trans g_tops
        have g_169 : fs_82[(39 : Nat)]? = some (.int (nI mk)) := (ga_86 39 (by decide)).trans g_mask
        have g_170 : fs_82[(11 : Nat)]? = some (.int (nI asz)) := (ga_86 11 (by decide)).trans g_askedSize
        have g_171 : fs_82[(4 : Nat)]? = some (.ref asked_) := (ga_86 4 (by decide)).trans g_asked
        have g_172 : fs_82[(41 : Nat)]? = some (.ref firstToken_) := (ga_86 41 (by decide)).trans g_firstToken
        have g_173 : fs_82[(42 : Nat)]? = some (.ref starred_) := (ga_86 42 (by decide)).trans g_starred
        have g_174 : fs_82[(43 : Nat)]? = some (.ref tokenAt_) := (ga_86 43 (by decide)).trans g_tokenAt
        have g_175 : fs_82[(44 : Nat)]? = some (.ref tokenSize_) := (ga_86 44 (by decide)).trans g_tokenSize
        have g_176 : fs_82[(45 : Nat)]? = some (.ref groupKind_) := (ga_86 45 (by decide)).trans g_groupKind
        have g_177 : fs_82[(46 : Nat)]? = some (.ref groupPhrase_) := (ga_86 46 (by decide)).trans g_groupPhrase
        have g_178 : fs_82[(47 : Nat)]? = some (.ref groupSize_) := (ga_86 47 (by decide)).trans g_groupSize
        have g_179 : fs_82[(48 : Nat)]? = some (.ref groupMask_) := (ga_86 48 (by decide)).trans g_groupMask
        have g_180 : fs_82[(49 : Nat)]? = some (.ref groupFar_) := (ga_86 49 (by decide)).trans g_groupFar
        have g_181 : fs_82[(50 : Nat)]? = some (.ref out_) := (ga_86 50 (by decide)).trans g_out
        have g_182 : fs_82[(51 : Nat)]? = some (.ref top_) := (ga_86 51 (by decide)).trans g_top
        have g_183 : fs_82[(52 : Nat)]? = some (.ref masks_) := (ga_86 52 (by decide)).trans g_masks
        have ga_184 : ∀ i : Nat, i ∉ [28, 29, 30, 31, 33, 34, 35, 36, 37, 38, 39] → fs_82[i]? = fs[i]? := fun i hi => (ga_86 i (fun z => hi (by simp only [List.mem_cons, List.not_mem_nil, or_false] at z ⊢; omega))).trans (ga0 i hi)
        have hb_185 : ¬ 0 ≤ bd_77 := Int32.not_le.mpr hb_100
        have hb_186 := Nat.le_trans PT_101.1 PT_101.2.1
        refine s_Model_group_106 l_83 e_84 g_85 (fun z_187 => ?_) (fun z => absurd hb_100 z)
        refine s_Model_group_114 l_83 e_84 g_178 g_166 g_107 g_177 e_158 (vp_in_nI (by omega) (by omega)) e_159 (vp_in_nI (by omega) (by omega)) g_181 g_167 e_162 (vp_in_nI (by omega) (by omega)) (Ne.symm (nd_ne ND (i := 8) (j := 11) rfl rfl (by decide))) ?_
        rw [xw_up_up]
        refine x_u3 (fun h_188 e_189 f_190 h_191 e_192 f_193 h_194 e_195 f_196 => ?_)
        have e_197 := (f_190 m (nd_ne ND (i := 0) (j := 8) rfl rfl (by decide))).trans e_84
        have e_198 := (f_190 asked_ (nd_ne ND (i := 1) (j := 8) rfl rfl (by decide))).trans e_156
        have e_199 := (f_190 firstToken_ (nd_ne ND (i := 2) (j := 8) rfl rfl (by decide))).trans e_87
        have e_200 := (f_190 starred_ (nd_ne ND (i := 3) (j := 8) rfl rfl (by decide))).trans e_88
        have e_201 := (f_190 tokenAt_ (nd_ne ND (i := 4) (j := 8) rfl rfl (by decide))).trans e_89
        have e_202 := (f_190 tokenSize_ (nd_ne ND (i := 5) (j := 8) rfl rfl (by decide))).trans e_90
        have e_203 := (f_190 groupKind_ (nd_ne ND (i := 6) (j := 8) rfl rfl (by decide))).trans e_157
        have e_204 := (f_190 groupPhrase_ (nd_ne ND (i := 7) (j := 8) rfl rfl (by decide))).trans e_158
        have e_205 := (f_190 groupMask_ (Ne.symm (nd_ne ND (i := 8) (j := 9) rfl rfl (by decide)))).trans e_160
        have e_206 := (f_190 groupFar_ (Ne.symm (nd_ne ND (i := 8) (j := 10) rfl rfl (by decide)))).trans e_161
        have e_207 := (f_190 out_ (Ne.symm (nd_ne ND (i := 8) (j := 11) rfl rfl (by decide)))).trans e_162
        have e_208 := (f_190 top_ (Ne.symm (nd_ne ND (i := 8) (j := 12) rfl rfl (by decide)))).trans e_163
        have e_209 := (f_190 masks_ (Ne.symm (nd_ne ND (i := 8) (j := 13) rfl rfl (by decide)))).trans e_164
        have r_210 := r_165.up (by simp) f_190
        have e_211 := (f_193 m (nd_ne ND (i := 0) (j := 11) rfl rfl (by decide))).trans e_197
        have e_212 := (f_193 asked_ (nd_ne ND (i := 1) (j := 11) rfl rfl (by decide))).trans e_198
        have e_213 := (f_193 firstToken_ (nd_ne ND (i := 2) (j := 11) rfl rfl (by decide))).trans e_199
        have e_214 := (f_193 starred_ (nd_ne ND (i := 3) (j := 11) rfl rfl (by decide))).trans e_200
        have e_215 := (f_193 tokenAt_ (nd_ne ND (i := 4) (j := 11) rfl rfl (by decide))).trans e_201
        have e_216 := (f_193 tokenSize_ (nd_ne ND (i := 5) (j := 11) rfl rfl (by decide))).trans e_202
        have e_217 := (f_193 groupKind_ (nd_ne ND (i := 6) (j := 11) rfl rfl (by decide))).trans e_203
        have e_218 := (f_193 groupPhrase_ (nd_ne ND (i := 7) (j := 11) rfl rfl (by decide))).trans e_204
        have e_219 := (f_193 groupSize_ (nd_ne ND (i := 8) (j := 11) rfl rfl (by decide))).trans e_189
        have e_220 := (f_193 groupMask_ (nd_ne ND (i := 9) (j := 11) rfl rfl (by decide))).trans e_205
        have e_221 := (f_193 groupFar_ (nd_ne ND (i := 10) (j := 11) rfl rfl (by decide))).trans e_206
        have e_222 := (f_193 top_ (Ne.symm (nd_ne ND (i := 11) (j := 12) rfl rfl (by decide)))).trans e_208
        have e_223 := (f_193 masks_ (Ne.symm (nd_ne ND (i := 11) (j := 13) rfl rfl (by decide)))).trans e_209
        have r_224 := r_210.up (by simp) f_193
        have e_225 := (f_196 asked_ (Ne.symm (nd_ne ND (i := 0) (j := 1) rfl rfl (by decide)))).trans e_212
        have e_226 := (f_196 firstToken_ (Ne.symm (nd_ne ND (i := 0) (j := 2) rfl rfl (by decide)))).trans e_213
        have e_227 := (f_196 starred_ (Ne.symm (nd_ne ND (i := 0) (j := 3) rfl rfl (by decide)))).trans e_214
        have e_228 := (f_196 tokenAt_ (Ne.symm (nd_ne ND (i := 0) (j := 4) rfl rfl (by decide)))).trans e_215
        have e_229 := (f_196 tokenSize_ (Ne.symm (nd_ne ND (i := 0) (j := 5) rfl rfl (by decide)))).trans e_216
        have e_230 := (f_196 groupKind_ (Ne.symm (nd_ne ND (i := 0) (j := 6) rfl rfl (by decide)))).trans e_217
        have e_231 := (f_196 groupPhrase_ (Ne.symm (nd_ne ND (i := 0) (j := 7) rfl rfl (by decide)))).trans e_218
        have e_232 := (f_196 groupSize_ (Ne.symm (nd_ne ND (i := 0) (j := 8) rfl rfl (by decide)))).trans e_219
        have e_233 := (f_196 groupMask_ (Ne.symm (nd_ne ND (i := 0) (j := 9) rfl rfl (by decide)))).trans e_220
        have e_234 := (f_196 groupFar_ (Ne.symm (nd_ne ND (i := 0) (j := 10) rfl rfl (by decide)))).trans e_221
        have e_235 := (f_196 out_ (Ne.symm (nd_ne ND (i := 0) (j := 11) rfl rfl (by decide)))).trans e_192
        have e_236 := (f_196 top_ (Ne.symm (nd_ne ND (i := 0) (j := 12) rfl rfl (by decide)))).trans e_222
        have e_237 := (f_196 masks_ (Ne.symm (nd_ne ND (i := 0) (j := 13) rfl rfl (by decide)))).trans e_223
        have r_238 := r_224.up (by simp) f_196
        obtain ⟨fs_239, z_240⟩ : ∃ z, z = (fs_82.set 37 (.int ((nI o.length) + 1))).set 36 (.int ((nI gr.length) + 1)) := ⟨_, rfl⟩
        rw [← z_240] at e_195
        have l_241 : fs_239.length = 62 := by rw [z_240]; simp only [List.length_set]; exact l_83
        have g_242 : fs_239[(4 : Nat)]? = some (.ref asked_) := by rw [z_240]; exact (xw_gn (by decide) (xw_gn (by decide) g_171))
        have g_243 : fs_239[(11 : Nat)]? = some (.int (nI asz)) := by rw [z_240]; exact (xw_gn (by decide) (xw_gn (by decide) g_170))
        have g_244 : fs_239[(28 : Nat)]? = some (.int (nI (bl fa asz p_95))) := by rw [z_240]; exact (xw_gn (by decide) (xw_gn (by decide) g_103))
        have g_245 : fs_239[(29 : Nat)]? = some (.int (nI (rkd (kdP fa asz p_95)))) := by rw [z_240]; exact (xw_gn (by decide) (xw_gn (by decide) g_104))
        have g_246 : fs_239[(30 : Nat)]? = some (.int (nI (bl fa asz p_95))) := by rw [z_240]; exact (xw_gn (by decide) (xw_gn (by decide) g_105))
        have g_247 : fs_239[(31 : Nat)]? = some (.int (nI y_97)) := by rw [z_240]; exact (xw_gn (by decide) (xw_gn (by decide) g_106))
        have g_248 : fs_239[(33 : Nat)]? = some (.int bd_77) := by rw [z_240]; exact (xw_gn (by decide) (xw_gn (by decide) g_85))
        have g_249 : fs_239[(34 : Nat)]? = some (.int (nI ((ph).length + 1))) := by rw [z_240]; exact (xw_gn (by decide) (xw_gn (by decide) g_107))
        have g_250 : fs_239[(35 : Nat)]? = some (.int (nI t_98)) := by rw [z_240]; exact (xw_gn (by decide) (xw_gn (by decide) g_108))
        have g_251 : fs_239[(36 : Nat)]? = some (.int ((nI gr.length) + 1)) := by rw [z_240]; exact (xw_gs (by simp [l_83]))
        have g_252 : fs_239[(37 : Nat)]? = some (.int ((nI o.length) + 1)) := by rw [z_240]; exact (xw_gn (by decide) (xw_gs (by simp [l_83])))
        have g_253 : fs_239[(38 : Nat)]? = some (.int (nI st.length)) := by rw [z_240]; exact (xw_gn (by decide) (xw_gn (by decide) g_168))
        have g_254 : fs_239[(39 : Nat)]? = some (.int (nI mk)) := by rw [z_240]; exact (xw_gn (by decide) (xw_gn (by decide) g_169))
        have g_255 : fs_239[(41 : Nat)]? = some (.ref firstToken_) := by rw [z_240]; exact (xw_gn (by decide) (xw_gn (by decide) g_172))
        have g_256 : fs_239[(42 : Nat)]? = some (.ref starred_) := by rw [z_240]; exact (xw_gn (by decide) (xw_gn (by decide) g_173))
        have g_257 : fs_239[(43 : Nat)]? = some (.ref tokenAt_) := by rw [z_240]; exact (xw_gn (by decide) (xw_gn (by decide) g_174))
        have g_258 : fs_239[(44 : Nat)]? = some (.ref tokenSize_) := by rw [z_240]; exact (xw_gn (by decide) (xw_gn (by decide) g_175))
        have g_259 : fs_239[(45 : Nat)]? = some (.ref groupKind_) := by rw [z_240]; exact (xw_gn (by decide) (xw_gn (by decide) g_176))
        have g_260 : fs_239[(46 : Nat)]? = some (.ref groupPhrase_) := by rw [z_240]; exact (xw_gn (by decide) (xw_gn (by decide) g_177))
        have g_261 : fs_239[(47 : Nat)]? = some (.ref groupSize_) := by rw [z_240]; exact (xw_gn (by decide) (xw_gn (by decide) g_178))
        have g_262 : fs_239[(48 : Nat)]? = some (.ref groupMask_) := by rw [z_240]; exact (xw_gn (by decide) (xw_gn (by decide) g_179))
        have g_263 : fs_239[(49 : Nat)]? = some (.ref groupFar_) := by rw [z_240]; exact (xw_gn (by decide) (xw_gn (by decide) g_180))
        have g_264 : fs_239[(50 : Nat)]? = some (.ref out_) := by rw [z_240]; exact (xw_gn (by decide) (xw_gn (by decide) g_181))
        have g_265 : fs_239[(51 : Nat)]? = some (.ref top_) := by rw [z_240]; exact (xw_gn (by decide) (xw_gn (by decide) g_182))
        have g_266 : fs_239[(52 : Nat)]? = some (.ref masks_) := by rw [z_240]; exact (xw_gn (by decide) (xw_gn (by decide) g_183))
        have ga_267 : ∀ i : Nat, i ∉ [28, 29, 30, 31, 33, 34, 35, 36, 37, 38, 39] → fs_239[i]? = fs[i]? := fun i hi => by rw [z_240]; exact xw_gn (fun z => hi (by rw [z]; simp)) (xw_gn (fun z => hi (by rw [z]; simp)) (ga_184 i hi))
        clear z_240
        rw [nI_clamp (show gr.length < 2 ^ 31 by omega)] at e_230
        rw [nI_clamp (show gr.length < 2 ^ 31 by omega)] at e_231
        rw [nI_clamp (show gr.length < 2 ^ 31 by omega)] at e_233
        rw [nI_clamp (show gr.length < 2 ^ 31 by omega)] at e_234
        rw [nI_clamp (show gr.length < 2 ^ 31 by omega), pk_us] at e_232
        rw [nI_clamp (show o.length < 2 ^ 31 by omega)] at e_235
        rw [nI_1] at g_251 g_252
        refine s_Model_group_170 ?_
        refine x_callV (As := []) (b := m) (rest := []) (F1 := 1) (L1 := 20) (mc := 0) (ms := 0) d_Model_group_171 cV_Model_275 (f_closesFiltersH (st := st) (mk := mk) l_241 e_195 g_253 g_254 g_265 e_236 g_266 e_237 (nd_ne ND (i := 12) (j := 13) rfl rfl (by decide)) (by omega) ST hmk (by omega) (by omega)) e_195 ⟨by decide, rfl⟩ ⟨by omega, by show 8 + (1 + 11) + 20 ≤ _; omega⟩ ⟨by omega, by omega⟩ (Nat.le_of_ble_eq_true rfl) (fun v_278 h_277 p_279 => ?_)
        obtain ⟨rfl, fs_268, l_269, e_270, g_271, g_272, ga_273, ST_274, hm_275, r_276⟩ := p_279
        have e_280 := r_276 asked_ _ (by simp only [List.mem_cons, List.not_mem_nil, or_false, not_or]; exact (Ne.symm (nd_ne ND (i := 0) (j := 1) rfl rfl (by decide)))) e_225
        have e_281 := r_276 firstToken_ _ (by simp only [List.mem_cons, List.not_mem_nil, or_false, not_or]; exact (Ne.symm (nd_ne ND (i := 0) (j := 2) rfl rfl (by decide)))) e_226
        have e_282 := r_276 starred_ _ (by simp only [List.mem_cons, List.not_mem_nil, or_false, not_or]; exact (Ne.symm (nd_ne ND (i := 0) (j := 3) rfl rfl (by decide)))) e_227
        have e_283 := r_276 tokenAt_ _ (by simp only [List.mem_cons, List.not_mem_nil, or_false, not_or]; exact (Ne.symm (nd_ne ND (i := 0) (j := 4) rfl rfl (by decide)))) e_228
        have e_284 := r_276 tokenSize_ _ (by simp only [List.mem_cons, List.not_mem_nil, or_false, not_or]; exact (Ne.symm (nd_ne ND (i := 0) (j := 5) rfl rfl (by decide)))) e_229
        have e_285 := r_276 groupKind_ _ (by simp only [List.mem_cons, List.not_mem_nil, or_false, not_or]; exact (Ne.symm (nd_ne ND (i := 0) (j := 6) rfl rfl (by decide)))) e_230
        have e_286 := r_276 groupPhrase_ _ (by simp only [List.mem_cons, List.not_mem_nil, or_false, not_or]; exact (Ne.symm (nd_ne ND (i := 0) (j := 7) rfl rfl (by decide)))) e_231
        have e_287 := r_276 groupSize_ _ (by simp only [List.mem_cons, List.not_mem_nil, or_false, not_or]; exact (Ne.symm (nd_ne ND (i := 0) (j := 8) rfl rfl (by decide)))) e_232
        have e_288 := r_276 groupMask_ _ (by simp only [List.mem_cons, List.not_mem_nil, or_false, not_or]; exact (Ne.symm (nd_ne ND (i := 0) (j := 9) rfl rfl (by decide)))) e_233
        have e_289 := r_276 groupFar_ _ (by simp only [List.mem_cons, List.not_mem_nil, or_false, not_or]; exact (Ne.symm (nd_ne ND (i := 0) (j := 10) rfl rfl (by decide)))) e_234
        have e_290 := r_276 out_ _ (by simp only [List.mem_cons, List.not_mem_nil, or_false, not_or]; exact (Ne.symm (nd_ne ND (i := 0) (j := 11) rfl rfl (by decide)))) e_235
        have e_291 := r_276 top_ _ (by simp only [List.mem_cons, List.not_mem_nil, or_false, not_or]; exact (Ne.symm (nd_ne ND (i := 0) (j := 12) rfl rfl (by decide)))) e_236
        have e_292 := r_276 masks_ _ (by simp only [List.mem_cons, List.not_mem_nil, or_false, not_or]; exact (Ne.symm (nd_ne ND (i := 0) (j := 13) rfl rfl (by decide)))) e_237
        have r_293 := r_238.trans (r_276.mono (by simp))
        have g_294 : fs_268[(4 : Nat)]? = some (.ref asked_) := (ga_273 4 (by decide)).trans g_242
        have g_295 : fs_268[(11 : Nat)]? = some (.int (nI asz)) := (ga_273 11 (by decide)).trans g_243
        have g_296 : fs_268[(28 : Nat)]? = some (.int (nI (bl fa asz p_95))) := (ga_273 28 (by decide)).trans g_244
        have g_297 : fs_268[(29 : Nat)]? = some (.int (nI (rkd (kdP fa asz p_95)))) := (ga_273 29 (by decide)).trans g_245
        have g_298 : fs_268[(30 : Nat)]? = some (.int (nI (bl fa asz p_95))) := (ga_273 30 (by decide)).trans g_246
        have g_299 : fs_268[(31 : Nat)]? = some (.int (nI y_97)) := (ga_273 31 (by decide)).trans g_247
        have g_300 : fs_268[(33 : Nat)]? = some (.int bd_77) := (ga_273 33 (by decide)).trans g_248
        have g_301 : fs_268[(34 : Nat)]? = some (.int (nI ((ph).length + 1))) := (ga_273 34 (by decide)).trans g_249
        have g_302 : fs_268[(35 : Nat)]? = some (.int (nI t_98)) := (ga_273 35 (by decide)).trans g_250
        have g_303 : fs_268[(36 : Nat)]? = some (.int (nI (gr.length + 1))) := (ga_273 36 (by decide)).trans g_251
        have g_304 : fs_268[(37 : Nat)]? = some (.int (nI (o.length + 1))) := (ga_273 37 (by decide)).trans g_252
        have g_305 : fs_268[(41 : Nat)]? = some (.ref firstToken_) := (ga_273 41 (by decide)).trans g_255
        have g_306 : fs_268[(42 : Nat)]? = some (.ref starred_) := (ga_273 42 (by decide)).trans g_256
        have g_307 : fs_268[(43 : Nat)]? = some (.ref tokenAt_) := (ga_273 43 (by decide)).trans g_257
        have g_308 : fs_268[(44 : Nat)]? = some (.ref tokenSize_) := (ga_273 44 (by decide)).trans g_258
        have g_309 : fs_268[(45 : Nat)]? = some (.ref groupKind_) := (ga_273 45 (by decide)).trans g_259
        have g_310 : fs_268[(46 : Nat)]? = some (.ref groupPhrase_) := (ga_273 46 (by decide)).trans g_260
        have g_311 : fs_268[(47 : Nat)]? = some (.ref groupSize_) := (ga_273 47 (by decide)).trans g_261
        have g_312 : fs_268[(48 : Nat)]? = some (.ref groupMask_) := (ga_273 48 (by decide)).trans g_262
        have g_313 : fs_268[(49 : Nat)]? = some (.ref groupFar_) := (ga_273 49 (by decide)).trans g_263
        have g_314 : fs_268[(50 : Nat)]? = some (.ref out_) := (ga_273 50 (by decide)).trans g_264
        have g_315 : fs_268[(51 : Nat)]? = some (.ref top_) := (ga_273 51 (by decide)).trans g_265
        have g_316 : fs_268[(52 : Nat)]? = some (.ref masks_) := (ga_273 52 (by decide)).trans g_266
        have ga_317 : ∀ i : Nat, i ∉ [28, 29, 30, 31, 33, 34, 35, 36, 37, 38, 39] → fs_268[i]? = fs[i]? := fun i hi => (ga_273 i (fun z => hi (by simp only [List.mem_cons, List.not_mem_nil, or_false] at z ⊢; omega))).trans (ga_267 i hi)
        refine x_le (xw_le_n xw_le_e) ?_
        refine s_Model_group_174 ?_
        have hgr : gr.length < ((ph ++ [x_96])).length := by rw [List.length_append, List.length_singleton]; omega
        have GR9 := GR.add (y := (0, ph.length, ph.length + 1, mk, 10)) (x7 := nI (ph.length + 1) - nI ph.length) rfl rfl (pk_sub (by omega)) rfl pk_us (fun j hj => pk_un (by omega))
        exact ⟨rfl, _, _, _, _, _, _, _, _, _, _, _, _, l_269, e_270, g_300, ga_317, e_281, e_282, e_283, e_284, e_285, e_286, e_287, e_288, e_289, e_290, r_293, Or.inr ⟨_, _, _, _, _, _, gp_0y hk_76 hk_75 hx_99, hb_100, PT_101, HY_102, g_296, g_297, g_298, g_299, (by rw [List.length_append]; exact g_301), g_302, RQ_109, by rw [List.length_append]; exact g_303, GR9, by rw [List.length_append]; exact hgr, by rw [List.length_append]; exact g_304, OU.add (e := (0, gr.length)) rfl (Nat.zero_le _) (by show gr.length ≤ 12; omega), g_271, g_272, ST_274, hm_275⟩⟩
    · skip
      refine s_Model_group_30 ?_
      refine s_Model_group_35 e_groupKind (vp_in_nI (by omega) (by omega)) l e g_groupPhrase g_groups g_phrases e_groupPhrase (vp_in_nI (by omega) (by omega)) (Ne.symm (nd_ne ND (i := 6) (j := 7) rfl rfl (by decide))) g_groupMask g_mask e_groupMask (vp_in_nI (by omega) (by omega)) (Ne.symm (nd_ne ND (i := 7) (j := 9) rfl rfl (by decide))) (Ne.symm (nd_ne ND (i := 6) (j := 9) rfl rfl (by decide))) g_groupFar e_groupFar (vp_in_nI (by omega) (by omega)) (Ne.symm (nd_ne ND (i := 9) (j := 10) rfl rfl (by decide))) (Ne.symm (nd_ne ND (i := 7) (j := 10) rfl rfl (by decide))) (Ne.symm (nd_ne ND (i := 6) (j := 10) rfl rfl (by decide))) ?_
      refine x_u4 (fun h_318 e_319 f_320 h_321 e_322 f_323 h_324 e_325 f_326 h_327 e_328 f_329 => ?_)
      have e_330 := (f_320 m (nd_ne ND (i := 0) (j := 6) rfl rfl (by decide))).trans e
      have e_331 := (f_320 asked_ (nd_ne ND (i := 1) (j := 6) rfl rfl (by decide))).trans e_asked
      have e_332 := (f_320 firstToken_ (nd_ne ND (i := 2) (j := 6) rfl rfl (by decide))).trans e_firstToken
      have e_333 := (f_320 starred_ (nd_ne ND (i := 3) (j := 6) rfl rfl (by decide))).trans e_starred
      have e_334 := (f_320 tokenAt_ (nd_ne ND (i := 4) (j := 6) rfl rfl (by decide))).trans e_tokenAt
      have e_335 := (f_320 tokenSize_ (nd_ne ND (i := 5) (j := 6) rfl rfl (by decide))).trans e_tokenSize
      have e_336 := (f_320 groupPhrase_ (Ne.symm (nd_ne ND (i := 6) (j := 7) rfl rfl (by decide)))).trans e_groupPhrase
      have e_337 := (f_320 groupSize_ (Ne.symm (nd_ne ND (i := 6) (j := 8) rfl rfl (by decide)))).trans e_groupSize
      have e_338 := (f_320 groupMask_ (Ne.symm (nd_ne ND (i := 6) (j := 9) rfl rfl (by decide)))).trans e_groupMask
      have e_339 := (f_320 groupFar_ (Ne.symm (nd_ne ND (i := 6) (j := 10) rfl rfl (by decide)))).trans e_groupFar
      have e_340 := (f_320 out_ (Ne.symm (nd_ne ND (i := 6) (j := 11) rfl rfl (by decide)))).trans e_out
      have e_341 := (f_320 top_ (Ne.symm (nd_ne ND (i := 6) (j := 12) rfl rfl (by decide)))).trans e_top
      have e_342 := (f_320 masks_ (Ne.symm (nd_ne ND (i := 6) (j := 13) rfl rfl (by decide)))).trans e_masks
      have r_343 := r0.up (by simp) f_320
      have e_344 := (f_323 m (nd_ne ND (i := 0) (j := 7) rfl rfl (by decide))).trans e_330
      have e_345 := (f_323 asked_ (nd_ne ND (i := 1) (j := 7) rfl rfl (by decide))).trans e_331
      have e_346 := (f_323 firstToken_ (nd_ne ND (i := 2) (j := 7) rfl rfl (by decide))).trans e_332
      have e_347 := (f_323 starred_ (nd_ne ND (i := 3) (j := 7) rfl rfl (by decide))).trans e_333
      have e_348 := (f_323 tokenAt_ (nd_ne ND (i := 4) (j := 7) rfl rfl (by decide))).trans e_334
      have e_349 := (f_323 tokenSize_ (nd_ne ND (i := 5) (j := 7) rfl rfl (by decide))).trans e_335
      have e_350 := (f_323 groupKind_ (nd_ne ND (i := 6) (j := 7) rfl rfl (by decide))).trans e_319
      have e_351 := (f_323 groupSize_ (Ne.symm (nd_ne ND (i := 7) (j := 8) rfl rfl (by decide)))).trans e_337
      have e_352 := (f_323 groupMask_ (Ne.symm (nd_ne ND (i := 7) (j := 9) rfl rfl (by decide)))).trans e_338
      have e_353 := (f_323 groupFar_ (Ne.symm (nd_ne ND (i := 7) (j := 10) rfl rfl (by decide)))).trans e_339
      have e_354 := (f_323 out_ (Ne.symm (nd_ne ND (i := 7) (j := 11) rfl rfl (by decide)))).trans e_340
      have e_355 := (f_323 top_ (Ne.symm (nd_ne ND (i := 7) (j := 12) rfl rfl (by decide)))).trans e_341
      have e_356 := (f_323 masks_ (Ne.symm (nd_ne ND (i := 7) (j := 13) rfl rfl (by decide)))).trans e_342
      have r_357 := r_343.up (by simp) f_323
      have e_358 := (f_326 m (nd_ne ND (i := 0) (j := 9) rfl rfl (by decide))).trans e_344
      have e_359 := (f_326 asked_ (nd_ne ND (i := 1) (j := 9) rfl rfl (by decide))).trans e_345
      have e_360 := (f_326 firstToken_ (nd_ne ND (i := 2) (j := 9) rfl rfl (by decide))).trans e_346
      have e_361 := (f_326 starred_ (nd_ne ND (i := 3) (j := 9) rfl rfl (by decide))).trans e_347
      have e_362 := (f_326 tokenAt_ (nd_ne ND (i := 4) (j := 9) rfl rfl (by decide))).trans e_348
      have e_363 := (f_326 tokenSize_ (nd_ne ND (i := 5) (j := 9) rfl rfl (by decide))).trans e_349
      have e_364 := (f_326 groupKind_ (nd_ne ND (i := 6) (j := 9) rfl rfl (by decide))).trans e_350
      have e_365 := (f_326 groupPhrase_ (nd_ne ND (i := 7) (j := 9) rfl rfl (by decide))).trans e_322
      have e_366 := (f_326 groupSize_ (nd_ne ND (i := 8) (j := 9) rfl rfl (by decide))).trans e_351
      have e_367 := (f_326 groupFar_ (Ne.symm (nd_ne ND (i := 9) (j := 10) rfl rfl (by decide)))).trans e_353
      have e_368 := (f_326 out_ (Ne.symm (nd_ne ND (i := 9) (j := 11) rfl rfl (by decide)))).trans e_354
      have e_369 := (f_326 top_ (Ne.symm (nd_ne ND (i := 9) (j := 12) rfl rfl (by decide)))).trans e_355
      have e_370 := (f_326 masks_ (Ne.symm (nd_ne ND (i := 9) (j := 13) rfl rfl (by decide)))).trans e_356
      have r_371 := r_357.up (by simp) f_326
      have e_372 := (f_329 m (nd_ne ND (i := 0) (j := 10) rfl rfl (by decide))).trans e_358
      have e_373 := (f_329 asked_ (nd_ne ND (i := 1) (j := 10) rfl rfl (by decide))).trans e_359
      have e_374 := (f_329 firstToken_ (nd_ne ND (i := 2) (j := 10) rfl rfl (by decide))).trans e_360
      have e_375 := (f_329 starred_ (nd_ne ND (i := 3) (j := 10) rfl rfl (by decide))).trans e_361
      have e_376 := (f_329 tokenAt_ (nd_ne ND (i := 4) (j := 10) rfl rfl (by decide))).trans e_362
      have e_377 := (f_329 tokenSize_ (nd_ne ND (i := 5) (j := 10) rfl rfl (by decide))).trans e_363
      have e_378 := (f_329 groupKind_ (nd_ne ND (i := 6) (j := 10) rfl rfl (by decide))).trans e_364
      have e_379 := (f_329 groupPhrase_ (nd_ne ND (i := 7) (j := 10) rfl rfl (by decide))).trans e_365
      have e_380 := (f_329 groupSize_ (nd_ne ND (i := 8) (j := 10) rfl rfl (by decide))).trans e_366
      have e_381 := (f_329 groupMask_ (nd_ne ND (i := 9) (j := 10) rfl rfl (by decide))).trans e_325
      have e_382 := (f_329 out_ (Ne.symm (nd_ne ND (i := 10) (j := 11) rfl rfl (by decide)))).trans e_368
      have e_383 := (f_329 top_ (Ne.symm (nd_ne ND (i := 10) (j := 12) rfl rfl (by decide)))).trans e_369
      have e_384 := (f_329 masks_ (Ne.symm (nd_ne ND (i := 10) (j := 13) rfl rfl (by decide)))).trans e_370
      have r_385 := r_371.up (by simp) f_329
      refine s_Model_group_73 l e_372 g_kind (fun z => absurd z_4 z) (fun z_386 => ?_)
      refine s_Model_group_82 ?_
      rw [nI_clamp (show gr.length < 2 ^ 31 by omega)] at e_328
      have hk_425 : kdP fa asz p = 8 := ((rk_iff _ (kdP_le fa asz p)).2.2.2.2.2.2.2.2.2.2.2.2.2.1).mp ((nI_eq (b := 14) (by have := rk_le _ (kdP_le fa asz p); omega) (by decide)).mp z_386)
      refine x_callV (As := []) (b := m) (rest := []) (F1 := 6) (L1 := 127) (mc := 0) (ms := 0) d_Model_group_83 cV_Model_269 (f_nearH (g := gr.length) l e_372 g_at g_kind g_from g_to g_bad g_phrases g_tokens g_groups g_askedSize g_asked e_373 g_firstToken e_374 g_starred e_375 g_tokenAt e_376 g_tokenSize e_377 g_groupFar e_328 (nd_ne ND (i := 2) (j := 3) rfl rfl (by decide)) (nd_ne ND (i := 2) (j := 10) rfl rfl (by decide)) (nd_ne ND (i := 3) (j := 10) rfl rfl (by decide)) (nd_ne ND (i := 4) (j := 5) rfl rfl (by decide)) hasz h128 PT HY RQ hbd hp12 (by omega) hk_425 pk_us (by omega) (by omega)) e_372 ⟨by decide, rfl⟩ ⟨by omega, by show 8 + (4 + 11) + 127 ≤ _; omega⟩ ⟨by omega, by omega⟩ (Nat.le_of_ble_eq_true rfl) (fun v_427 h_426 p_428 => ?_)
      rcases p_428 with ⟨rfl, bd_387, c1_388, c2_389, ca_390, cs_391, c9_392, fs_393, l_394, e_395, g_396, ga_397, e_398, e_399, e_400, e_401, e_402, r_403, ⟨hx_404, nb_405, IN_406⟩ | ⟨p_407, ph_408, d_409, y_410, t_411, hx_412, hb_413, PT_414, HY_415, g_416, g_417, g_418, g_419, g_420, g_421, RQ_422, hn_423, hn_424⟩⟩
      · skip
        have e_429 := r_403 asked_ _ (by simp only [List.mem_cons, List.not_mem_nil, or_false, not_or]; exact ⟨(Ne.symm (nd_ne ND (i := 0) (j := 1) rfl rfl (by decide))), (nd_ne ND (i := 1) (j := 2) rfl rfl (by decide)), (nd_ne ND (i := 1) (j := 3) rfl rfl (by decide)), (nd_ne ND (i := 1) (j := 4) rfl rfl (by decide)), (nd_ne ND (i := 1) (j := 5) rfl rfl (by decide)), (nd_ne ND (i := 1) (j := 10) rfl rfl (by decide))⟩) e_373
        have e_430 := r_403 groupKind_ _ (by simp only [List.mem_cons, List.not_mem_nil, or_false, not_or]; exact ⟨(Ne.symm (nd_ne ND (i := 0) (j := 6) rfl rfl (by decide))), (Ne.symm (nd_ne ND (i := 2) (j := 6) rfl rfl (by decide))), (Ne.symm (nd_ne ND (i := 3) (j := 6) rfl rfl (by decide))), (Ne.symm (nd_ne ND (i := 4) (j := 6) rfl rfl (by decide))), (Ne.symm (nd_ne ND (i := 5) (j := 6) rfl rfl (by decide))), (nd_ne ND (i := 6) (j := 10) rfl rfl (by decide))⟩) e_378
        have e_431 := r_403 groupPhrase_ _ (by simp only [List.mem_cons, List.not_mem_nil, or_false, not_or]; exact ⟨(Ne.symm (nd_ne ND (i := 0) (j := 7) rfl rfl (by decide))), (Ne.symm (nd_ne ND (i := 2) (j := 7) rfl rfl (by decide))), (Ne.symm (nd_ne ND (i := 3) (j := 7) rfl rfl (by decide))), (Ne.symm (nd_ne ND (i := 4) (j := 7) rfl rfl (by decide))), (Ne.symm (nd_ne ND (i := 5) (j := 7) rfl rfl (by decide))), (nd_ne ND (i := 7) (j := 10) rfl rfl (by decide))⟩) e_379
        have e_432 := r_403 groupSize_ _ (by simp only [List.mem_cons, List.not_mem_nil, or_false, not_or]; exact ⟨(Ne.symm (nd_ne ND (i := 0) (j := 8) rfl rfl (by decide))), (Ne.symm (nd_ne ND (i := 2) (j := 8) rfl rfl (by decide))), (Ne.symm (nd_ne ND (i := 3) (j := 8) rfl rfl (by decide))), (Ne.symm (nd_ne ND (i := 4) (j := 8) rfl rfl (by decide))), (Ne.symm (nd_ne ND (i := 5) (j := 8) rfl rfl (by decide))), (nd_ne ND (i := 8) (j := 10) rfl rfl (by decide))⟩) e_380
        have e_433 := r_403 groupMask_ _ (by simp only [List.mem_cons, List.not_mem_nil, or_false, not_or]; exact ⟨(Ne.symm (nd_ne ND (i := 0) (j := 9) rfl rfl (by decide))), (Ne.symm (nd_ne ND (i := 2) (j := 9) rfl rfl (by decide))), (Ne.symm (nd_ne ND (i := 3) (j := 9) rfl rfl (by decide))), (Ne.symm (nd_ne ND (i := 4) (j := 9) rfl rfl (by decide))), (Ne.symm (nd_ne ND (i := 5) (j := 9) rfl rfl (by decide))), (nd_ne ND (i := 9) (j := 10) rfl rfl (by decide))⟩) e_381
        have e_434 := r_403 out_ _ (by simp only [List.mem_cons, List.not_mem_nil, or_false, not_or]; exact ⟨(Ne.symm (nd_ne ND (i := 0) (j := 11) rfl rfl (by decide))), (Ne.symm (nd_ne ND (i := 2) (j := 11) rfl rfl (by decide))), (Ne.symm (nd_ne ND (i := 3) (j := 11) rfl rfl (by decide))), (Ne.symm (nd_ne ND (i := 4) (j := 11) rfl rfl (by decide))), (Ne.symm (nd_ne ND (i := 5) (j := 11) rfl rfl (by decide))), (Ne.symm (nd_ne ND (i := 10) (j := 11) rfl rfl (by decide)))⟩) e_382
        have e_435 := r_403 top_ _ (by simp only [List.mem_cons, List.not_mem_nil, or_false, not_or]; exact ⟨(Ne.symm (nd_ne ND (i := 0) (j := 12) rfl rfl (by decide))), (Ne.symm (nd_ne ND (i := 2) (j := 12) rfl rfl (by decide))), (Ne.symm (nd_ne ND (i := 3) (j := 12) rfl rfl (by decide))), (Ne.symm (nd_ne ND (i := 4) (j := 12) rfl rfl (by decide))), (Ne.symm (nd_ne ND (i := 5) (j := 12) rfl rfl (by decide))), (Ne.symm (nd_ne ND (i := 10) (j := 12) rfl rfl (by decide)))⟩) e_383
        have e_436 := r_403 masks_ _ (by simp only [List.mem_cons, List.not_mem_nil, or_false, not_or]; exact ⟨(Ne.symm (nd_ne ND (i := 0) (j := 13) rfl rfl (by decide))), (Ne.symm (nd_ne ND (i := 2) (j := 13) rfl rfl (by decide))), (Ne.symm (nd_ne ND (i := 3) (j := 13) rfl rfl (by decide))), (Ne.symm (nd_ne ND (i := 4) (j := 13) rfl rfl (by decide))), (Ne.symm (nd_ne ND (i := 5) (j := 13) rfl rfl (by decide))), (Ne.symm (nd_ne ND (i := 10) (j := 13) rfl rfl (by decide)))⟩) e_384
        have r_437 := r_385.trans (r_403.mono (by simp))
        obtain ⟨v_438, g_439⟩ := IN_406 28 (by decide)
        obtain ⟨v_440, g_441⟩ := IN_406 29 (by decide)
        obtain ⟨v_442, g_443⟩ := IN_406 30 (by decide)
        obtain ⟨v_444, g_445⟩ := IN_406 31 (by decide)
        obtain ⟨v_446, g_447⟩ := IN_406 34 (by decide)
        obtain ⟨v_448, g_449⟩ := IN_406 35 (by decide)
        have g_450 : fs_393[(36 : Nat)]? = some (.int (nI gr.length)) := (ga_397 36 (by decide)).trans g_groups
        have g_451 : fs_393[(37 : Nat)]? = some (.int (nI o.length)) := (ga_397 37 (by decide)).trans g_outs
        have g_452 : fs_393[(38 : Nat)]? = some (.int (nI st.length)) := (ga_397 38 (by decide)).trans g_tops
        have g_453 : fs_393[(39 : Nat)]? = some (.int (nI mk)) := (ga_397 39 (by decide)).trans g_mask
        have g_454 : fs_393[(11 : Nat)]? = some (.int (nI asz)) := (ga_397 11 (by decide)).trans g_askedSize
        have g_455 : fs_393[(4 : Nat)]? = some (.ref asked_) := (ga_397 4 (by decide)).trans g_asked
        have g_456 : fs_393[(41 : Nat)]? = some (.ref firstToken_) := (ga_397 41 (by decide)).trans g_firstToken
        have g_457 : fs_393[(42 : Nat)]? = some (.ref starred_) := (ga_397 42 (by decide)).trans g_starred
        have g_458 : fs_393[(43 : Nat)]? = some (.ref tokenAt_) := (ga_397 43 (by decide)).trans g_tokenAt
        have g_459 : fs_393[(44 : Nat)]? = some (.ref tokenSize_) := (ga_397 44 (by decide)).trans g_tokenSize
        have g_460 : fs_393[(45 : Nat)]? = some (.ref groupKind_) := (ga_397 45 (by decide)).trans g_groupKind
        have g_461 : fs_393[(46 : Nat)]? = some (.ref groupPhrase_) := (ga_397 46 (by decide)).trans g_groupPhrase
        have g_462 : fs_393[(47 : Nat)]? = some (.ref groupSize_) := (ga_397 47 (by decide)).trans g_groupSize
        have g_463 : fs_393[(48 : Nat)]? = some (.ref groupMask_) := (ga_397 48 (by decide)).trans g_groupMask
        have g_464 : fs_393[(49 : Nat)]? = some (.ref groupFar_) := (ga_397 49 (by decide)).trans g_groupFar
        have g_465 : fs_393[(50 : Nat)]? = some (.ref out_) := (ga_397 50 (by decide)).trans g_out
        have g_466 : fs_393[(51 : Nat)]? = some (.ref top_) := (ga_397 51 (by decide)).trans g_top
        have g_467 : fs_393[(52 : Nat)]? = some (.ref masks_) := (ga_397 52 (by decide)).trans g_masks
        have ga_468 : ∀ i : Nat, i ∉ [28, 29, 30, 31, 33, 34, 35, 36, 37, 38, 39] → fs_393[i]? = fs[i]? := fun i hi => (ga_397 i (fun z => hi (by simp only [List.mem_cons, List.not_mem_nil, or_false] at z ⊢; omega))).trans (ga0 i hi)
        have hb_469 : 0 ≤ bd_387 := Int32.not_lt.mp nb_405
        refine s_Model_group_86 ?_
        refine s_Model_group_106 l_394 e_395 g_396 (fun z => absurd z nb_405) (fun z_470 => ?_)
        refine s_Model_group_113 ?_
        exact ⟨rfl, _, _, _, _, _, _, _, _, _, _, _, _, l_394, e_395, g_396, ga_468, e_398, e_399, e_400, e_401, e_430, e_431, e_432, e_433, e_402, e_434, r_437, Or.inl ⟨(gp_8 (t := fa) (n := asz) (s := (p, ph, gr)) hk_425).trans (nr_n (s := skS fa asz (p, ph, gr)) hx_404), nb_405, (fun i9 hi9 => by simp only [List.mem_cons, List.not_mem_nil, or_false] at hi9; rcases hi9 with rfl | rfl | rfl | rfl | rfl | rfl | rfl | rfl <;> first | exact ⟨_, g_439⟩ | exact ⟨_, g_441⟩ | exact ⟨_, g_443⟩ | exact ⟨_, g_445⟩ | exact ⟨_, g_447⟩ | exact ⟨_, g_449⟩ | exact ⟨_, g_450⟩ | exact ⟨_, g_453⟩), g_451, g_452⟩⟩
      · skip
        have e_471 := r_403 asked_ _ (by simp only [List.mem_cons, List.not_mem_nil, or_false, not_or]; exact ⟨(Ne.symm (nd_ne ND (i := 0) (j := 1) rfl rfl (by decide))), (nd_ne ND (i := 1) (j := 2) rfl rfl (by decide)), (nd_ne ND (i := 1) (j := 3) rfl rfl (by decide)), (nd_ne ND (i := 1) (j := 4) rfl rfl (by decide)), (nd_ne ND (i := 1) (j := 5) rfl rfl (by decide)), (nd_ne ND (i := 1) (j := 10) rfl rfl (by decide))⟩) e_373
        have e_472 := r_403 groupKind_ _ (by simp only [List.mem_cons, List.not_mem_nil, or_false, not_or]; exact ⟨(Ne.symm (nd_ne ND (i := 0) (j := 6) rfl rfl (by decide))), (Ne.symm (nd_ne ND (i := 2) (j := 6) rfl rfl (by decide))), (Ne.symm (nd_ne ND (i := 3) (j := 6) rfl rfl (by decide))), (Ne.symm (nd_ne ND (i := 4) (j := 6) rfl rfl (by decide))), (Ne.symm (nd_ne ND (i := 5) (j := 6) rfl rfl (by decide))), (nd_ne ND (i := 6) (j := 10) rfl rfl (by decide))⟩) e_378
        have e_473 := r_403 groupPhrase_ _ (by simp only [List.mem_cons, List.not_mem_nil, or_false, not_or]; exact ⟨(Ne.symm (nd_ne ND (i := 0) (j := 7) rfl rfl (by decide))), (Ne.symm (nd_ne ND (i := 2) (j := 7) rfl rfl (by decide))), (Ne.symm (nd_ne ND (i := 3) (j := 7) rfl rfl (by decide))), (Ne.symm (nd_ne ND (i := 4) (j := 7) rfl rfl (by decide))), (Ne.symm (nd_ne ND (i := 5) (j := 7) rfl rfl (by decide))), (nd_ne ND (i := 7) (j := 10) rfl rfl (by decide))⟩) e_379
        have e_474 := r_403 groupSize_ _ (by simp only [List.mem_cons, List.not_mem_nil, or_false, not_or]; exact ⟨(Ne.symm (nd_ne ND (i := 0) (j := 8) rfl rfl (by decide))), (Ne.symm (nd_ne ND (i := 2) (j := 8) rfl rfl (by decide))), (Ne.symm (nd_ne ND (i := 3) (j := 8) rfl rfl (by decide))), (Ne.symm (nd_ne ND (i := 4) (j := 8) rfl rfl (by decide))), (Ne.symm (nd_ne ND (i := 5) (j := 8) rfl rfl (by decide))), (nd_ne ND (i := 8) (j := 10) rfl rfl (by decide))⟩) e_380
        have e_475 := r_403 groupMask_ _ (by simp only [List.mem_cons, List.not_mem_nil, or_false, not_or]; exact ⟨(Ne.symm (nd_ne ND (i := 0) (j := 9) rfl rfl (by decide))), (Ne.symm (nd_ne ND (i := 2) (j := 9) rfl rfl (by decide))), (Ne.symm (nd_ne ND (i := 3) (j := 9) rfl rfl (by decide))), (Ne.symm (nd_ne ND (i := 4) (j := 9) rfl rfl (by decide))), (Ne.symm (nd_ne ND (i := 5) (j := 9) rfl rfl (by decide))), (nd_ne ND (i := 9) (j := 10) rfl rfl (by decide))⟩) e_381
        have e_476 := r_403 out_ _ (by simp only [List.mem_cons, List.not_mem_nil, or_false, not_or]; exact ⟨(Ne.symm (nd_ne ND (i := 0) (j := 11) rfl rfl (by decide))), (Ne.symm (nd_ne ND (i := 2) (j := 11) rfl rfl (by decide))), (Ne.symm (nd_ne ND (i := 3) (j := 11) rfl rfl (by decide))), (Ne.symm (nd_ne ND (i := 4) (j := 11) rfl rfl (by decide))), (Ne.symm (nd_ne ND (i := 5) (j := 11) rfl rfl (by decide))), (Ne.symm (nd_ne ND (i := 10) (j := 11) rfl rfl (by decide)))⟩) e_382
        have e_477 := r_403 top_ _ (by simp only [List.mem_cons, List.not_mem_nil, or_false, not_or]; exact ⟨(Ne.symm (nd_ne ND (i := 0) (j := 12) rfl rfl (by decide))), (Ne.symm (nd_ne ND (i := 2) (j := 12) rfl rfl (by decide))), (Ne.symm (nd_ne ND (i := 3) (j := 12) rfl rfl (by decide))), (Ne.symm (nd_ne ND (i := 4) (j := 12) rfl rfl (by decide))), (Ne.symm (nd_ne ND (i := 5) (j := 12) rfl rfl (by decide))), (Ne.symm (nd_ne ND (i := 10) (j := 12) rfl rfl (by decide)))⟩) e_383
        have e_478 := r_403 masks_ _ (by simp only [List.mem_cons, List.not_mem_nil, or_false, not_or]; exact ⟨(Ne.symm (nd_ne ND (i := 0) (j := 13) rfl rfl (by decide))), (Ne.symm (nd_ne ND (i := 2) (j := 13) rfl rfl (by decide))), (Ne.symm (nd_ne ND (i := 3) (j := 13) rfl rfl (by decide))), (Ne.symm (nd_ne ND (i := 4) (j := 13) rfl rfl (by decide))), (Ne.symm (nd_ne ND (i := 5) (j := 13) rfl rfl (by decide))), (Ne.symm (nd_ne ND (i := 10) (j := 13) rfl rfl (by decide)))⟩) e_384
        have r_479 := r_385.trans (r_403.mono (by simp))
        have g_480 : fs_393[(36 : Nat)]? = some (.int (nI gr.length)) := (ga_397 36 (by decide)).trans g_groups
        have g_481 : fs_393[(37 : Nat)]? = some (.int (nI o.length)) := (ga_397 37 (by decide)).trans g_outs
        have g_482 : fs_393[(38 : Nat)]? = some (.int (nI st.length)) := (ga_397 38 (by decide)).trans g_tops
        have g_483 : fs_393[(39 : Nat)]? = some (.int (nI mk)) := (ga_397 39 (by decide)).trans g_mask
        have g_484 : fs_393[(11 : Nat)]? = some (.int (nI asz)) := (ga_397 11 (by decide)).trans g_askedSize
        have g_485 : fs_393[(4 : Nat)]? = some (.ref asked_) := (ga_397 4 (by decide)).trans g_asked
        have g_486 : fs_393[(41 : Nat)]? = some (.ref firstToken_) := (ga_397 41 (by decide)).trans g_firstToken
        have g_487 : fs_393[(42 : Nat)]? = some (.ref starred_) := (ga_397 42 (by decide)).trans g_starred
        have g_488 : fs_393[(43 : Nat)]? = some (.ref tokenAt_) := (ga_397 43 (by decide)).trans g_tokenAt
        have g_489 : fs_393[(44 : Nat)]? = some (.ref tokenSize_) := (ga_397 44 (by decide)).trans g_tokenSize
        have g_490 : fs_393[(45 : Nat)]? = some (.ref groupKind_) := (ga_397 45 (by decide)).trans g_groupKind
        have g_491 : fs_393[(46 : Nat)]? = some (.ref groupPhrase_) := (ga_397 46 (by decide)).trans g_groupPhrase
        have g_492 : fs_393[(47 : Nat)]? = some (.ref groupSize_) := (ga_397 47 (by decide)).trans g_groupSize
        have g_493 : fs_393[(48 : Nat)]? = some (.ref groupMask_) := (ga_397 48 (by decide)).trans g_groupMask
        have g_494 : fs_393[(49 : Nat)]? = some (.ref groupFar_) := (ga_397 49 (by decide)).trans g_groupFar
        have g_495 : fs_393[(50 : Nat)]? = some (.ref out_) := (ga_397 50 (by decide)).trans g_out
        have g_496 : fs_393[(51 : Nat)]? = some (.ref top_) := (ga_397 51 (by decide)).trans g_top
        have g_497 : fs_393[(52 : Nat)]? = some (.ref masks_) := (ga_397 52 (by decide)).trans g_masks
        have ga_498 : ∀ i : Nat, i ∉ [28, 29, 30, 31, 33, 34, 35, 36, 37, 38, 39] → fs_393[i]? = fs[i]? := fun i hi => (ga_397 i (fun z => hi (by simp only [List.mem_cons, List.not_mem_nil, or_false] at z ⊢; omega))).trans (ga0 i hi)
        have hb_499 : ¬ 0 ≤ bd_387 := Int32.not_le.mpr hb_413
        have hb_500 := Nat.le_trans PT_414.1 PT_414.2.1
        refine s_Model_group_86 ?_
        refine s_Model_group_106 l_394 e_395 g_396 (fun z_501 => ?_) (fun z => absurd hb_413 z)
        refine s_Model_group_114 l_394 e_395 g_492 g_480 g_420 g_491 e_473 (vp_in_nI (by omega) (by omega)) e_474 (vp_in_nI (by omega) (by omega)) g_495 g_481 e_476 (vp_in_nI (by omega) (by omega)) (Ne.symm (nd_ne ND (i := 8) (j := 11) rfl rfl (by decide))) ?_
        rw [xw_up_up]
        refine x_u3 (fun h_502 e_503 f_504 h_505 e_506 f_507 h_508 e_509 f_510 => ?_)
        have e_511 := (f_504 m (nd_ne ND (i := 0) (j := 8) rfl rfl (by decide))).trans e_395
        have e_512 := (f_504 asked_ (nd_ne ND (i := 1) (j := 8) rfl rfl (by decide))).trans e_471
        have e_513 := (f_504 firstToken_ (nd_ne ND (i := 2) (j := 8) rfl rfl (by decide))).trans e_398
        have e_514 := (f_504 starred_ (nd_ne ND (i := 3) (j := 8) rfl rfl (by decide))).trans e_399
        have e_515 := (f_504 tokenAt_ (nd_ne ND (i := 4) (j := 8) rfl rfl (by decide))).trans e_400
        have e_516 := (f_504 tokenSize_ (nd_ne ND (i := 5) (j := 8) rfl rfl (by decide))).trans e_401
        have e_517 := (f_504 groupKind_ (nd_ne ND (i := 6) (j := 8) rfl rfl (by decide))).trans e_472
        have e_518 := (f_504 groupPhrase_ (nd_ne ND (i := 7) (j := 8) rfl rfl (by decide))).trans e_473
        have e_519 := (f_504 groupMask_ (Ne.symm (nd_ne ND (i := 8) (j := 9) rfl rfl (by decide)))).trans e_475
        have e_520 := (f_504 groupFar_ (Ne.symm (nd_ne ND (i := 8) (j := 10) rfl rfl (by decide)))).trans e_402
        have e_521 := (f_504 out_ (Ne.symm (nd_ne ND (i := 8) (j := 11) rfl rfl (by decide)))).trans e_476
        have e_522 := (f_504 top_ (Ne.symm (nd_ne ND (i := 8) (j := 12) rfl rfl (by decide)))).trans e_477
        have e_523 := (f_504 masks_ (Ne.symm (nd_ne ND (i := 8) (j := 13) rfl rfl (by decide)))).trans e_478
        have r_524 := r_479.up (by simp) f_504
        have e_525 := (f_507 m (nd_ne ND (i := 0) (j := 11) rfl rfl (by decide))).trans e_511
        have e_526 := (f_507 asked_ (nd_ne ND (i := 1) (j := 11) rfl rfl (by decide))).trans e_512
        have e_527 := (f_507 firstToken_ (nd_ne ND (i := 2) (j := 11) rfl rfl (by decide))).trans e_513
        have e_528 := (f_507 starred_ (nd_ne ND (i := 3) (j := 11) rfl rfl (by decide))).trans e_514
        have e_529 := (f_507 tokenAt_ (nd_ne ND (i := 4) (j := 11) rfl rfl (by decide))).trans e_515
        have e_530 := (f_507 tokenSize_ (nd_ne ND (i := 5) (j := 11) rfl rfl (by decide))).trans e_516
        have e_531 := (f_507 groupKind_ (nd_ne ND (i := 6) (j := 11) rfl rfl (by decide))).trans e_517
        have e_532 := (f_507 groupPhrase_ (nd_ne ND (i := 7) (j := 11) rfl rfl (by decide))).trans e_518
        have e_533 := (f_507 groupSize_ (nd_ne ND (i := 8) (j := 11) rfl rfl (by decide))).trans e_503
        have e_534 := (f_507 groupMask_ (nd_ne ND (i := 9) (j := 11) rfl rfl (by decide))).trans e_519
        have e_535 := (f_507 groupFar_ (nd_ne ND (i := 10) (j := 11) rfl rfl (by decide))).trans e_520
        have e_536 := (f_507 top_ (Ne.symm (nd_ne ND (i := 11) (j := 12) rfl rfl (by decide)))).trans e_522
        have e_537 := (f_507 masks_ (Ne.symm (nd_ne ND (i := 11) (j := 13) rfl rfl (by decide)))).trans e_523
        have r_538 := r_524.up (by simp) f_507
        have e_539 := (f_510 asked_ (Ne.symm (nd_ne ND (i := 0) (j := 1) rfl rfl (by decide)))).trans e_526
        have e_540 := (f_510 firstToken_ (Ne.symm (nd_ne ND (i := 0) (j := 2) rfl rfl (by decide)))).trans e_527
        have e_541 := (f_510 starred_ (Ne.symm (nd_ne ND (i := 0) (j := 3) rfl rfl (by decide)))).trans e_528
        have e_542 := (f_510 tokenAt_ (Ne.symm (nd_ne ND (i := 0) (j := 4) rfl rfl (by decide)))).trans e_529
        have e_543 := (f_510 tokenSize_ (Ne.symm (nd_ne ND (i := 0) (j := 5) rfl rfl (by decide)))).trans e_530
        have e_544 := (f_510 groupKind_ (Ne.symm (nd_ne ND (i := 0) (j := 6) rfl rfl (by decide)))).trans e_531
        have e_545 := (f_510 groupPhrase_ (Ne.symm (nd_ne ND (i := 0) (j := 7) rfl rfl (by decide)))).trans e_532
        have e_546 := (f_510 groupSize_ (Ne.symm (nd_ne ND (i := 0) (j := 8) rfl rfl (by decide)))).trans e_533
        have e_547 := (f_510 groupMask_ (Ne.symm (nd_ne ND (i := 0) (j := 9) rfl rfl (by decide)))).trans e_534
        have e_548 := (f_510 groupFar_ (Ne.symm (nd_ne ND (i := 0) (j := 10) rfl rfl (by decide)))).trans e_535
        have e_549 := (f_510 out_ (Ne.symm (nd_ne ND (i := 0) (j := 11) rfl rfl (by decide)))).trans e_506
        have e_550 := (f_510 top_ (Ne.symm (nd_ne ND (i := 0) (j := 12) rfl rfl (by decide)))).trans e_536
        have e_551 := (f_510 masks_ (Ne.symm (nd_ne ND (i := 0) (j := 13) rfl rfl (by decide)))).trans e_537
        have r_552 := r_538.up (by simp) f_510
        obtain ⟨fs_553, z_554⟩ : ∃ z, z = (fs_393.set 37 (.int ((nI o.length) + 1))).set 36 (.int ((nI gr.length) + 1)) := ⟨_, rfl⟩
        rw [← z_554] at e_509
        have l_555 : fs_553.length = 62 := by rw [z_554]; simp only [List.length_set]; exact l_394
        have g_556 : fs_553[(4 : Nat)]? = some (.ref asked_) := by rw [z_554]; exact (xw_gn (by decide) (xw_gn (by decide) g_485))
        have g_557 : fs_553[(11 : Nat)]? = some (.int (nI asz)) := by rw [z_554]; exact (xw_gn (by decide) (xw_gn (by decide) g_484))
        have g_558 : fs_553[(28 : Nat)]? = some (.int (nI (bl fa asz p_407))) := by rw [z_554]; exact (xw_gn (by decide) (xw_gn (by decide) g_416))
        have g_559 : fs_553[(29 : Nat)]? = some (.int (nI (rkd (kdP fa asz p_407)))) := by rw [z_554]; exact (xw_gn (by decide) (xw_gn (by decide) g_417))
        have g_560 : fs_553[(30 : Nat)]? = some (.int (nI (bl fa asz p_407))) := by rw [z_554]; exact (xw_gn (by decide) (xw_gn (by decide) g_418))
        have g_561 : fs_553[(31 : Nat)]? = some (.int (nI y_410)) := by rw [z_554]; exact (xw_gn (by decide) (xw_gn (by decide) g_419))
        have g_562 : fs_553[(33 : Nat)]? = some (.int bd_387) := by rw [z_554]; exact (xw_gn (by decide) (xw_gn (by decide) g_396))
        have g_563 : fs_553[(34 : Nat)]? = some (.int (nI ph_408.length)) := by rw [z_554]; exact (xw_gn (by decide) (xw_gn (by decide) g_420))
        have g_564 : fs_553[(35 : Nat)]? = some (.int (nI t_411)) := by rw [z_554]; exact (xw_gn (by decide) (xw_gn (by decide) g_421))
        have g_565 : fs_553[(36 : Nat)]? = some (.int ((nI gr.length) + 1)) := by rw [z_554]; exact (xw_gs (by simp [l_394]))
        have g_566 : fs_553[(37 : Nat)]? = some (.int ((nI o.length) + 1)) := by rw [z_554]; exact (xw_gn (by decide) (xw_gs (by simp [l_394])))
        have g_567 : fs_553[(38 : Nat)]? = some (.int (nI st.length)) := by rw [z_554]; exact (xw_gn (by decide) (xw_gn (by decide) g_482))
        have g_568 : fs_553[(39 : Nat)]? = some (.int (nI mk)) := by rw [z_554]; exact (xw_gn (by decide) (xw_gn (by decide) g_483))
        have g_569 : fs_553[(41 : Nat)]? = some (.ref firstToken_) := by rw [z_554]; exact (xw_gn (by decide) (xw_gn (by decide) g_486))
        have g_570 : fs_553[(42 : Nat)]? = some (.ref starred_) := by rw [z_554]; exact (xw_gn (by decide) (xw_gn (by decide) g_487))
        have g_571 : fs_553[(43 : Nat)]? = some (.ref tokenAt_) := by rw [z_554]; exact (xw_gn (by decide) (xw_gn (by decide) g_488))
        have g_572 : fs_553[(44 : Nat)]? = some (.ref tokenSize_) := by rw [z_554]; exact (xw_gn (by decide) (xw_gn (by decide) g_489))
        have g_573 : fs_553[(45 : Nat)]? = some (.ref groupKind_) := by rw [z_554]; exact (xw_gn (by decide) (xw_gn (by decide) g_490))
        have g_574 : fs_553[(46 : Nat)]? = some (.ref groupPhrase_) := by rw [z_554]; exact (xw_gn (by decide) (xw_gn (by decide) g_491))
        have g_575 : fs_553[(47 : Nat)]? = some (.ref groupSize_) := by rw [z_554]; exact (xw_gn (by decide) (xw_gn (by decide) g_492))
        have g_576 : fs_553[(48 : Nat)]? = some (.ref groupMask_) := by rw [z_554]; exact (xw_gn (by decide) (xw_gn (by decide) g_493))
        have g_577 : fs_553[(49 : Nat)]? = some (.ref groupFar_) := by rw [z_554]; exact (xw_gn (by decide) (xw_gn (by decide) g_494))
        have g_578 : fs_553[(50 : Nat)]? = some (.ref out_) := by rw [z_554]; exact (xw_gn (by decide) (xw_gn (by decide) g_495))
        have g_579 : fs_553[(51 : Nat)]? = some (.ref top_) := by rw [z_554]; exact (xw_gn (by decide) (xw_gn (by decide) g_496))
        have g_580 : fs_553[(52 : Nat)]? = some (.ref masks_) := by rw [z_554]; exact (xw_gn (by decide) (xw_gn (by decide) g_497))
        have ga_581 : ∀ i : Nat, i ∉ [28, 29, 30, 31, 33, 34, 35, 36, 37, 38, 39] → fs_553[i]? = fs[i]? := fun i hi => by rw [z_554]; exact xw_gn (fun z => hi (by rw [z]; simp)) (xw_gn (fun z => hi (by rw [z]; simp)) (ga_498 i hi))
        clear z_554
        rw [nI_clamp (show gr.length < 2 ^ 31 by omega)] at e_544
        rw [nI_clamp (show gr.length < 2 ^ 31 by omega)] at e_545
        rw [nI_clamp (show gr.length < 2 ^ 31 by omega)] at e_547
        rw [nI_clamp (show gr.length < 2 ^ 31 by omega), pk_us] at e_546
        rw [nI_clamp (show o.length < 2 ^ 31 by omega)] at e_549
        rw [nI_1] at g_565 g_566
        refine s_Model_group_170 ?_
        refine x_callV (As := []) (b := m) (rest := []) (F1 := 1) (L1 := 20) (mc := 0) (ms := 0) d_Model_group_171 cV_Model_275 (f_closesFiltersH (st := st) (mk := mk) l_555 e_509 g_567 g_568 g_579 e_550 g_580 e_551 (nd_ne ND (i := 12) (j := 13) rfl rfl (by decide)) (by omega) ST hmk (by omega) (by omega)) e_509 ⟨by decide, rfl⟩ ⟨by omega, by show 8 + (1 + 11) + 20 ≤ _; omega⟩ ⟨by omega, by omega⟩ (Nat.le_of_ble_eq_true rfl) (fun v_592 h_591 p_593 => ?_)
        obtain ⟨rfl, fs_582, l_583, e_584, g_585, g_586, ga_587, ST_588, hm_589, r_590⟩ := p_593
        have e_594 := r_590 asked_ _ (by simp only [List.mem_cons, List.not_mem_nil, or_false, not_or]; exact (Ne.symm (nd_ne ND (i := 0) (j := 1) rfl rfl (by decide)))) e_539
        have e_595 := r_590 firstToken_ _ (by simp only [List.mem_cons, List.not_mem_nil, or_false, not_or]; exact (Ne.symm (nd_ne ND (i := 0) (j := 2) rfl rfl (by decide)))) e_540
        have e_596 := r_590 starred_ _ (by simp only [List.mem_cons, List.not_mem_nil, or_false, not_or]; exact (Ne.symm (nd_ne ND (i := 0) (j := 3) rfl rfl (by decide)))) e_541
        have e_597 := r_590 tokenAt_ _ (by simp only [List.mem_cons, List.not_mem_nil, or_false, not_or]; exact (Ne.symm (nd_ne ND (i := 0) (j := 4) rfl rfl (by decide)))) e_542
        have e_598 := r_590 tokenSize_ _ (by simp only [List.mem_cons, List.not_mem_nil, or_false, not_or]; exact (Ne.symm (nd_ne ND (i := 0) (j := 5) rfl rfl (by decide)))) e_543
        have e_599 := r_590 groupKind_ _ (by simp only [List.mem_cons, List.not_mem_nil, or_false, not_or]; exact (Ne.symm (nd_ne ND (i := 0) (j := 6) rfl rfl (by decide)))) e_544
        have e_600 := r_590 groupPhrase_ _ (by simp only [List.mem_cons, List.not_mem_nil, or_false, not_or]; exact (Ne.symm (nd_ne ND (i := 0) (j := 7) rfl rfl (by decide)))) e_545
        have e_601 := r_590 groupSize_ _ (by simp only [List.mem_cons, List.not_mem_nil, or_false, not_or]; exact (Ne.symm (nd_ne ND (i := 0) (j := 8) rfl rfl (by decide)))) e_546
        have e_602 := r_590 groupMask_ _ (by simp only [List.mem_cons, List.not_mem_nil, or_false, not_or]; exact (Ne.symm (nd_ne ND (i := 0) (j := 9) rfl rfl (by decide)))) e_547
        have e_603 := r_590 groupFar_ _ (by simp only [List.mem_cons, List.not_mem_nil, or_false, not_or]; exact (Ne.symm (nd_ne ND (i := 0) (j := 10) rfl rfl (by decide)))) e_548
        have e_604 := r_590 out_ _ (by simp only [List.mem_cons, List.not_mem_nil, or_false, not_or]; exact (Ne.symm (nd_ne ND (i := 0) (j := 11) rfl rfl (by decide)))) e_549
        have e_605 := r_590 top_ _ (by simp only [List.mem_cons, List.not_mem_nil, or_false, not_or]; exact (Ne.symm (nd_ne ND (i := 0) (j := 12) rfl rfl (by decide)))) e_550
        have e_606 := r_590 masks_ _ (by simp only [List.mem_cons, List.not_mem_nil, or_false, not_or]; exact (Ne.symm (nd_ne ND (i := 0) (j := 13) rfl rfl (by decide)))) e_551
        have r_607 := r_552.trans (r_590.mono (by simp))
        have g_608 : fs_582[(4 : Nat)]? = some (.ref asked_) := (ga_587 4 (by decide)).trans g_556
        have g_609 : fs_582[(11 : Nat)]? = some (.int (nI asz)) := (ga_587 11 (by decide)).trans g_557
        have g_610 : fs_582[(28 : Nat)]? = some (.int (nI (bl fa asz p_407))) := (ga_587 28 (by decide)).trans g_558
        have g_611 : fs_582[(29 : Nat)]? = some (.int (nI (rkd (kdP fa asz p_407)))) := (ga_587 29 (by decide)).trans g_559
        have g_612 : fs_582[(30 : Nat)]? = some (.int (nI (bl fa asz p_407))) := (ga_587 30 (by decide)).trans g_560
        have g_613 : fs_582[(31 : Nat)]? = some (.int (nI y_410)) := (ga_587 31 (by decide)).trans g_561
        have g_614 : fs_582[(33 : Nat)]? = some (.int bd_387) := (ga_587 33 (by decide)).trans g_562
        have g_615 : fs_582[(34 : Nat)]? = some (.int (nI ph_408.length)) := (ga_587 34 (by decide)).trans g_563
        have g_616 : fs_582[(35 : Nat)]? = some (.int (nI t_411)) := (ga_587 35 (by decide)).trans g_564
        have g_617 : fs_582[(36 : Nat)]? = some (.int (nI (gr.length + 1))) := (ga_587 36 (by decide)).trans g_565
        have g_618 : fs_582[(37 : Nat)]? = some (.int (nI (o.length + 1))) := (ga_587 37 (by decide)).trans g_566
        have g_619 : fs_582[(41 : Nat)]? = some (.ref firstToken_) := (ga_587 41 (by decide)).trans g_569
        have g_620 : fs_582[(42 : Nat)]? = some (.ref starred_) := (ga_587 42 (by decide)).trans g_570
        have g_621 : fs_582[(43 : Nat)]? = some (.ref tokenAt_) := (ga_587 43 (by decide)).trans g_571
        have g_622 : fs_582[(44 : Nat)]? = some (.ref tokenSize_) := (ga_587 44 (by decide)).trans g_572
        have g_623 : fs_582[(45 : Nat)]? = some (.ref groupKind_) := (ga_587 45 (by decide)).trans g_573
        have g_624 : fs_582[(46 : Nat)]? = some (.ref groupPhrase_) := (ga_587 46 (by decide)).trans g_574
        have g_625 : fs_582[(47 : Nat)]? = some (.ref groupSize_) := (ga_587 47 (by decide)).trans g_575
        have g_626 : fs_582[(48 : Nat)]? = some (.ref groupMask_) := (ga_587 48 (by decide)).trans g_576
        have g_627 : fs_582[(49 : Nat)]? = some (.ref groupFar_) := (ga_587 49 (by decide)).trans g_577
        have g_628 : fs_582[(50 : Nat)]? = some (.ref out_) := (ga_587 50 (by decide)).trans g_578
        have g_629 : fs_582[(51 : Nat)]? = some (.ref top_) := (ga_587 51 (by decide)).trans g_579
        have g_630 : fs_582[(52 : Nat)]? = some (.ref masks_) := (ga_587 52 (by decide)).trans g_580
        have ga_631 : ∀ i : Nat, i ∉ [28, 29, 30, 31, 33, 34, 35, 36, 37, 38, 39] → fs_582[i]? = fs[i]? := fun i hi => (ga_587 i (fun z => hi (by simp only [List.mem_cons, List.not_mem_nil, or_false] at z ⊢; omega))).trans (ga_581 i hi)
        refine x_le (xw_le_n xw_le_e) ?_
        refine s_Model_group_174 ?_
        have hgr : gr.length < (ph_408).length := by have := (near_ok hx_412).1; omega
        have GR9 := GR.add (y := (2, ph.length, ph_408.length, mk, d_409)) (x7 := nI ph_408.length - nI ph.length) rfl rfl (pk_sub (by have := (near_ok hx_412).1; omega)) rfl hn_423 (fun j hj => by rw [hn_424 j (by omega), pk_un (by omega)])
        exact ⟨rfl, _, _, _, _, _, _, _, _, _, _, _, _, l_583, e_584, g_614, ga_631, e_595, e_596, e_597, e_598, e_599, e_600, e_601, e_602, e_603, e_604, r_607, Or.inr ⟨_, _, _, _, _, _, (gp_8 (t := fa) (n := asz) (s := (p, ph, gr)) hk_425).trans (nr_y (s := skS fa asz (p, ph, gr)) hx_412), hb_413, PT_414, HY_415, g_610, g_611, g_612, g_613, g_615, g_616, RQ_422, by rw [List.length_append]; exact g_617, GR9, by rw [List.length_append]; exact hgr, by rw [List.length_append]; exact g_618, OU.add (e := (0, gr.length)) rfl (Nat.zero_le _) (by show gr.length ≤ 12; omega), g_585, g_586, ST_588, hm_589⟩⟩
  · skip
    refine s_Model_group_17 ?_
    refine s_Model_group_35 e_groupKind (vp_in_nI (by omega) (by omega)) l e g_groupPhrase g_groups g_phrases e_groupPhrase (vp_in_nI (by omega) (by omega)) (Ne.symm (nd_ne ND (i := 6) (j := 7) rfl rfl (by decide))) g_groupMask g_mask e_groupMask (vp_in_nI (by omega) (by omega)) (Ne.symm (nd_ne ND (i := 7) (j := 9) rfl rfl (by decide))) (Ne.symm (nd_ne ND (i := 6) (j := 9) rfl rfl (by decide))) g_groupFar e_groupFar (vp_in_nI (by omega) (by omega)) (Ne.symm (nd_ne ND (i := 9) (j := 10) rfl rfl (by decide))) (Ne.symm (nd_ne ND (i := 7) (j := 10) rfl rfl (by decide))) (Ne.symm (nd_ne ND (i := 6) (j := 10) rfl rfl (by decide))) ?_
    refine x_u4 (fun h_632 e_633 f_634 h_635 e_636 f_637 h_638 e_639 f_640 h_641 e_642 f_643 => ?_)
    have e_644 := (f_634 m (nd_ne ND (i := 0) (j := 6) rfl rfl (by decide))).trans e
    have e_645 := (f_634 asked_ (nd_ne ND (i := 1) (j := 6) rfl rfl (by decide))).trans e_asked
    have e_646 := (f_634 firstToken_ (nd_ne ND (i := 2) (j := 6) rfl rfl (by decide))).trans e_firstToken
    have e_647 := (f_634 starred_ (nd_ne ND (i := 3) (j := 6) rfl rfl (by decide))).trans e_starred
    have e_648 := (f_634 tokenAt_ (nd_ne ND (i := 4) (j := 6) rfl rfl (by decide))).trans e_tokenAt
    have e_649 := (f_634 tokenSize_ (nd_ne ND (i := 5) (j := 6) rfl rfl (by decide))).trans e_tokenSize
    have e_650 := (f_634 groupPhrase_ (Ne.symm (nd_ne ND (i := 6) (j := 7) rfl rfl (by decide)))).trans e_groupPhrase
    have e_651 := (f_634 groupSize_ (Ne.symm (nd_ne ND (i := 6) (j := 8) rfl rfl (by decide)))).trans e_groupSize
    have e_652 := (f_634 groupMask_ (Ne.symm (nd_ne ND (i := 6) (j := 9) rfl rfl (by decide)))).trans e_groupMask
    have e_653 := (f_634 groupFar_ (Ne.symm (nd_ne ND (i := 6) (j := 10) rfl rfl (by decide)))).trans e_groupFar
    have e_654 := (f_634 out_ (Ne.symm (nd_ne ND (i := 6) (j := 11) rfl rfl (by decide)))).trans e_out
    have e_655 := (f_634 top_ (Ne.symm (nd_ne ND (i := 6) (j := 12) rfl rfl (by decide)))).trans e_top
    have e_656 := (f_634 masks_ (Ne.symm (nd_ne ND (i := 6) (j := 13) rfl rfl (by decide)))).trans e_masks
    have r_657 := r0.up (by simp) f_634
    have e_658 := (f_637 m (nd_ne ND (i := 0) (j := 7) rfl rfl (by decide))).trans e_644
    have e_659 := (f_637 asked_ (nd_ne ND (i := 1) (j := 7) rfl rfl (by decide))).trans e_645
    have e_660 := (f_637 firstToken_ (nd_ne ND (i := 2) (j := 7) rfl rfl (by decide))).trans e_646
    have e_661 := (f_637 starred_ (nd_ne ND (i := 3) (j := 7) rfl rfl (by decide))).trans e_647
    have e_662 := (f_637 tokenAt_ (nd_ne ND (i := 4) (j := 7) rfl rfl (by decide))).trans e_648
    have e_663 := (f_637 tokenSize_ (nd_ne ND (i := 5) (j := 7) rfl rfl (by decide))).trans e_649
    have e_664 := (f_637 groupKind_ (nd_ne ND (i := 6) (j := 7) rfl rfl (by decide))).trans e_633
    have e_665 := (f_637 groupSize_ (Ne.symm (nd_ne ND (i := 7) (j := 8) rfl rfl (by decide)))).trans e_651
    have e_666 := (f_637 groupMask_ (Ne.symm (nd_ne ND (i := 7) (j := 9) rfl rfl (by decide)))).trans e_652
    have e_667 := (f_637 groupFar_ (Ne.symm (nd_ne ND (i := 7) (j := 10) rfl rfl (by decide)))).trans e_653
    have e_668 := (f_637 out_ (Ne.symm (nd_ne ND (i := 7) (j := 11) rfl rfl (by decide)))).trans e_654
    have e_669 := (f_637 top_ (Ne.symm (nd_ne ND (i := 7) (j := 12) rfl rfl (by decide)))).trans e_655
    have e_670 := (f_637 masks_ (Ne.symm (nd_ne ND (i := 7) (j := 13) rfl rfl (by decide)))).trans e_656
    have r_671 := r_657.up (by simp) f_637
    have e_672 := (f_640 m (nd_ne ND (i := 0) (j := 9) rfl rfl (by decide))).trans e_658
    have e_673 := (f_640 asked_ (nd_ne ND (i := 1) (j := 9) rfl rfl (by decide))).trans e_659
    have e_674 := (f_640 firstToken_ (nd_ne ND (i := 2) (j := 9) rfl rfl (by decide))).trans e_660
    have e_675 := (f_640 starred_ (nd_ne ND (i := 3) (j := 9) rfl rfl (by decide))).trans e_661
    have e_676 := (f_640 tokenAt_ (nd_ne ND (i := 4) (j := 9) rfl rfl (by decide))).trans e_662
    have e_677 := (f_640 tokenSize_ (nd_ne ND (i := 5) (j := 9) rfl rfl (by decide))).trans e_663
    have e_678 := (f_640 groupKind_ (nd_ne ND (i := 6) (j := 9) rfl rfl (by decide))).trans e_664
    have e_679 := (f_640 groupPhrase_ (nd_ne ND (i := 7) (j := 9) rfl rfl (by decide))).trans e_636
    have e_680 := (f_640 groupSize_ (nd_ne ND (i := 8) (j := 9) rfl rfl (by decide))).trans e_665
    have e_681 := (f_640 groupFar_ (Ne.symm (nd_ne ND (i := 9) (j := 10) rfl rfl (by decide)))).trans e_667
    have e_682 := (f_640 out_ (Ne.symm (nd_ne ND (i := 9) (j := 11) rfl rfl (by decide)))).trans e_668
    have e_683 := (f_640 top_ (Ne.symm (nd_ne ND (i := 9) (j := 12) rfl rfl (by decide)))).trans e_669
    have e_684 := (f_640 masks_ (Ne.symm (nd_ne ND (i := 9) (j := 13) rfl rfl (by decide)))).trans e_670
    have r_685 := r_671.up (by simp) f_640
    have e_686 := (f_643 m (nd_ne ND (i := 0) (j := 10) rfl rfl (by decide))).trans e_672
    have e_687 := (f_643 asked_ (nd_ne ND (i := 1) (j := 10) rfl rfl (by decide))).trans e_673
    have e_688 := (f_643 firstToken_ (nd_ne ND (i := 2) (j := 10) rfl rfl (by decide))).trans e_674
    have e_689 := (f_643 starred_ (nd_ne ND (i := 3) (j := 10) rfl rfl (by decide))).trans e_675
    have e_690 := (f_643 tokenAt_ (nd_ne ND (i := 4) (j := 10) rfl rfl (by decide))).trans e_676
    have e_691 := (f_643 tokenSize_ (nd_ne ND (i := 5) (j := 10) rfl rfl (by decide))).trans e_677
    have e_692 := (f_643 groupKind_ (nd_ne ND (i := 6) (j := 10) rfl rfl (by decide))).trans e_678
    have e_693 := (f_643 groupPhrase_ (nd_ne ND (i := 7) (j := 10) rfl rfl (by decide))).trans e_679
    have e_694 := (f_643 groupSize_ (nd_ne ND (i := 8) (j := 10) rfl rfl (by decide))).trans e_680
    have e_695 := (f_643 groupMask_ (nd_ne ND (i := 9) (j := 10) rfl rfl (by decide))).trans e_639
    have e_696 := (f_643 out_ (Ne.symm (nd_ne ND (i := 10) (j := 11) rfl rfl (by decide)))).trans e_682
    have e_697 := (f_643 top_ (Ne.symm (nd_ne ND (i := 10) (j := 12) rfl rfl (by decide)))).trans e_683
    have e_698 := (f_643 masks_ (Ne.symm (nd_ne ND (i := 10) (j := 13) rfl rfl (by decide)))).trans e_684
    have r_699 := r_685.up (by simp) f_643
    refine s_Model_group_73 l e_686 g_kind (fun z_700 => ?_) (fun z => absurd (z_2.symm.trans z) (by decide))
    refine s_Model_group_89 l e_686 g_kind (fun z => absurd z_2 z) (fun z_701 => ?_)
    refine s_Model_group_98 ?_
    have hk_702 : kdP fa asz p = 12 := ((rk_iff _ (kdP_le fa asz p)).2.2.2.2.2.2.1).mp ((nI_eq (b := 7) (by have := rk_le _ (kdP_le fa asz p); omega) (by decide)).mp z_701)
    have hE_715 := HY (by rw [hk_702]; decide)
    rw [hE_715] at g_to
    refine x_callV (As := []) (b := m) (rest := []) (F1 := 4) (L1 := 87) (mc := 0) (ms := 0) d_Model_group_99 cV_Model_257 (f_nextH (x0 := (skP fa asz p)) l e_686 g_at g_kind g_from g_to g_askedSize g_asked e_687 (by rw [← hE_715]; exact PT.2.1) hasz (by omega) (by omega)) e_686 ⟨by decide, rfl⟩ ⟨by omega, by show 8 + (1 + 11) + 87 ≤ _; omega⟩ ⟨by omega, by omega⟩ (Nat.le_of_ble_eq_true rfl) (fun v_717 h_716 p_718 => ?_)
    obtain ⟨rfl, y_703, fs_704, PT_705, HY_706, l_707, e_708, g_709, g_710, g_711, g_712, ga_713, r_714⟩ := p_718
    have e_719 := r_714 asked_ _ (by simp only [List.mem_cons, List.not_mem_nil, or_false, not_or]; exact (Ne.symm (nd_ne ND (i := 0) (j := 1) rfl rfl (by decide)))) e_687
    have e_720 := r_714 firstToken_ _ (by simp only [List.mem_cons, List.not_mem_nil, or_false, not_or]; exact (Ne.symm (nd_ne ND (i := 0) (j := 2) rfl rfl (by decide)))) e_688
    have e_721 := r_714 starred_ _ (by simp only [List.mem_cons, List.not_mem_nil, or_false, not_or]; exact (Ne.symm (nd_ne ND (i := 0) (j := 3) rfl rfl (by decide)))) e_689
    have e_722 := r_714 tokenAt_ _ (by simp only [List.mem_cons, List.not_mem_nil, or_false, not_or]; exact (Ne.symm (nd_ne ND (i := 0) (j := 4) rfl rfl (by decide)))) e_690
    have e_723 := r_714 tokenSize_ _ (by simp only [List.mem_cons, List.not_mem_nil, or_false, not_or]; exact (Ne.symm (nd_ne ND (i := 0) (j := 5) rfl rfl (by decide)))) e_691
    have e_724 := r_714 groupKind_ _ (by simp only [List.mem_cons, List.not_mem_nil, or_false, not_or]; exact (Ne.symm (nd_ne ND (i := 0) (j := 6) rfl rfl (by decide)))) e_692
    have e_725 := r_714 groupPhrase_ _ (by simp only [List.mem_cons, List.not_mem_nil, or_false, not_or]; exact (Ne.symm (nd_ne ND (i := 0) (j := 7) rfl rfl (by decide)))) e_693
    have e_726 := r_714 groupSize_ _ (by simp only [List.mem_cons, List.not_mem_nil, or_false, not_or]; exact (Ne.symm (nd_ne ND (i := 0) (j := 8) rfl rfl (by decide)))) e_694
    have e_727 := r_714 groupMask_ _ (by simp only [List.mem_cons, List.not_mem_nil, or_false, not_or]; exact (Ne.symm (nd_ne ND (i := 0) (j := 9) rfl rfl (by decide)))) e_695
    have e_728 := r_714 groupFar_ _ (by simp only [List.mem_cons, List.not_mem_nil, or_false, not_or]; exact (Ne.symm (nd_ne ND (i := 0) (j := 10) rfl rfl (by decide)))) e_642
    have e_729 := r_714 out_ _ (by simp only [List.mem_cons, List.not_mem_nil, or_false, not_or]; exact (Ne.symm (nd_ne ND (i := 0) (j := 11) rfl rfl (by decide)))) e_696
    have e_730 := r_714 top_ _ (by simp only [List.mem_cons, List.not_mem_nil, or_false, not_or]; exact (Ne.symm (nd_ne ND (i := 0) (j := 12) rfl rfl (by decide)))) e_697
    have e_731 := r_714 masks_ _ (by simp only [List.mem_cons, List.not_mem_nil, or_false, not_or]; exact (Ne.symm (nd_ne ND (i := 0) (j := 13) rfl rfl (by decide)))) e_698
    have r_732 := r_699.trans (r_714.mono (by simp))
    have g_733 : fs_704[(33 : Nat)]? = some (.int bd) := (ga_713 33 (by decide)).trans g_bad
    have g_734 : fs_704[(34 : Nat)]? = some (.int (nI ph.length)) := (ga_713 34 (by decide)).trans g_phrases
    have g_735 : fs_704[(35 : Nat)]? = some (.int (nI t)) := (ga_713 35 (by decide)).trans g_tokens
    have g_736 : fs_704[(36 : Nat)]? = some (.int (nI gr.length)) := (ga_713 36 (by decide)).trans g_groups
    have g_737 : fs_704[(37 : Nat)]? = some (.int (nI o.length)) := (ga_713 37 (by decide)).trans g_outs
    have g_738 : fs_704[(38 : Nat)]? = some (.int (nI st.length)) := (ga_713 38 (by decide)).trans g_tops
    have g_739 : fs_704[(39 : Nat)]? = some (.int (nI mk)) := (ga_713 39 (by decide)).trans g_mask
    have g_740 : fs_704[(11 : Nat)]? = some (.int (nI asz)) := (ga_713 11 (by decide)).trans g_askedSize
    have g_741 : fs_704[(4 : Nat)]? = some (.ref asked_) := (ga_713 4 (by decide)).trans g_asked
    have g_742 : fs_704[(41 : Nat)]? = some (.ref firstToken_) := (ga_713 41 (by decide)).trans g_firstToken
    have g_743 : fs_704[(42 : Nat)]? = some (.ref starred_) := (ga_713 42 (by decide)).trans g_starred
    have g_744 : fs_704[(43 : Nat)]? = some (.ref tokenAt_) := (ga_713 43 (by decide)).trans g_tokenAt
    have g_745 : fs_704[(44 : Nat)]? = some (.ref tokenSize_) := (ga_713 44 (by decide)).trans g_tokenSize
    have g_746 : fs_704[(45 : Nat)]? = some (.ref groupKind_) := (ga_713 45 (by decide)).trans g_groupKind
    have g_747 : fs_704[(46 : Nat)]? = some (.ref groupPhrase_) := (ga_713 46 (by decide)).trans g_groupPhrase
    have g_748 : fs_704[(47 : Nat)]? = some (.ref groupSize_) := (ga_713 47 (by decide)).trans g_groupSize
    have g_749 : fs_704[(48 : Nat)]? = some (.ref groupMask_) := (ga_713 48 (by decide)).trans g_groupMask
    have g_750 : fs_704[(49 : Nat)]? = some (.ref groupFar_) := (ga_713 49 (by decide)).trans g_groupFar
    have g_751 : fs_704[(50 : Nat)]? = some (.ref out_) := (ga_713 50 (by decide)).trans g_out
    have g_752 : fs_704[(51 : Nat)]? = some (.ref top_) := (ga_713 51 (by decide)).trans g_top
    have g_753 : fs_704[(52 : Nat)]? = some (.ref masks_) := (ga_713 52 (by decide)).trans g_masks
    have ga_754 : ∀ i : Nat, i ∉ [28, 29, 30, 31, 33, 34, 35, 36, 37, 38, 39] → fs_704[i]? = fs[i]? := fun i hi => (ga_713 i (fun z => hi (by simp only [List.mem_cons, List.not_mem_nil, or_false] at z ⊢; omega))).trans (ga0 i hi)
    have RQ_755 := RQ.next (by rw [hk_702]; decide) (by rw [hk_702]; decide)
    have hb_756 := Nat.le_trans PT_705.1 PT_705.2.1
    refine s_Model_group_102 ?_
    refine x_callV (As := []) (b := m) (rest := []) (F1 := 5) (L1 := 107) (mc := 0) (ms := 0) d_Model_group_103 cV_Model_260 (f_phraseH (ph := ph) l_707 e_708 g_709 g_710 g_711 g_712 g_733 g_734 g_735 g_740 g_741 e_719 g_742 e_720 g_743 e_721 g_744 e_722 g_745 e_723 (nd_ne ND (i := 2) (j := 3) rfl rfl (by decide)) (nd_ne ND (i := 4) (j := 5) rfl rfl (by decide)) hasz PT_705 HY_706 RQ_755 hbd rfl hp12 (by omega) (by omega)) e_708 ⟨by decide, rfl⟩ ⟨by omega, by show 8 + (1 + 11) + 107 ≤ _; omega⟩ ⟨by omega, by omega⟩ (Nat.le_of_ble_eq_true rfl) (fun v_791 h_790 p_792 => ?_)
    rcases p_792 with ⟨rfl, bd_757, c1_758, c2_759, ca_760, cs_761, fs_762, l_763, e_764, g_765, ga_766, e_767, e_768, e_769, e_770, r_771, ⟨hx_772, nb_773, IN_774⟩ | ⟨p_775, x_776, y_777, t_778, hx_779, hb_780, PT_781, HY_782, g_783, g_784, g_785, g_786, g_787, g_788, RQ_789⟩⟩
    · skip
      have e_793 := r_771 asked_ _ (by simp only [List.mem_cons, List.not_mem_nil, or_false, not_or]; exact ⟨(Ne.symm (nd_ne ND (i := 0) (j := 1) rfl rfl (by decide))), (nd_ne ND (i := 1) (j := 2) rfl rfl (by decide)), (nd_ne ND (i := 1) (j := 3) rfl rfl (by decide)), (nd_ne ND (i := 1) (j := 4) rfl rfl (by decide)), (nd_ne ND (i := 1) (j := 5) rfl rfl (by decide))⟩) e_719
      have e_794 := r_771 groupKind_ _ (by simp only [List.mem_cons, List.not_mem_nil, or_false, not_or]; exact ⟨(Ne.symm (nd_ne ND (i := 0) (j := 6) rfl rfl (by decide))), (Ne.symm (nd_ne ND (i := 2) (j := 6) rfl rfl (by decide))), (Ne.symm (nd_ne ND (i := 3) (j := 6) rfl rfl (by decide))), (Ne.symm (nd_ne ND (i := 4) (j := 6) rfl rfl (by decide))), (Ne.symm (nd_ne ND (i := 5) (j := 6) rfl rfl (by decide)))⟩) e_724
      have e_795 := r_771 groupPhrase_ _ (by simp only [List.mem_cons, List.not_mem_nil, or_false, not_or]; exact ⟨(Ne.symm (nd_ne ND (i := 0) (j := 7) rfl rfl (by decide))), (Ne.symm (nd_ne ND (i := 2) (j := 7) rfl rfl (by decide))), (Ne.symm (nd_ne ND (i := 3) (j := 7) rfl rfl (by decide))), (Ne.symm (nd_ne ND (i := 4) (j := 7) rfl rfl (by decide))), (Ne.symm (nd_ne ND (i := 5) (j := 7) rfl rfl (by decide)))⟩) e_725
      have e_796 := r_771 groupSize_ _ (by simp only [List.mem_cons, List.not_mem_nil, or_false, not_or]; exact ⟨(Ne.symm (nd_ne ND (i := 0) (j := 8) rfl rfl (by decide))), (Ne.symm (nd_ne ND (i := 2) (j := 8) rfl rfl (by decide))), (Ne.symm (nd_ne ND (i := 3) (j := 8) rfl rfl (by decide))), (Ne.symm (nd_ne ND (i := 4) (j := 8) rfl rfl (by decide))), (Ne.symm (nd_ne ND (i := 5) (j := 8) rfl rfl (by decide)))⟩) e_726
      have e_797 := r_771 groupMask_ _ (by simp only [List.mem_cons, List.not_mem_nil, or_false, not_or]; exact ⟨(Ne.symm (nd_ne ND (i := 0) (j := 9) rfl rfl (by decide))), (Ne.symm (nd_ne ND (i := 2) (j := 9) rfl rfl (by decide))), (Ne.symm (nd_ne ND (i := 3) (j := 9) rfl rfl (by decide))), (Ne.symm (nd_ne ND (i := 4) (j := 9) rfl rfl (by decide))), (Ne.symm (nd_ne ND (i := 5) (j := 9) rfl rfl (by decide)))⟩) e_727
      have e_798 := r_771 groupFar_ _ (by simp only [List.mem_cons, List.not_mem_nil, or_false, not_or]; exact ⟨(Ne.symm (nd_ne ND (i := 0) (j := 10) rfl rfl (by decide))), (Ne.symm (nd_ne ND (i := 2) (j := 10) rfl rfl (by decide))), (Ne.symm (nd_ne ND (i := 3) (j := 10) rfl rfl (by decide))), (Ne.symm (nd_ne ND (i := 4) (j := 10) rfl rfl (by decide))), (Ne.symm (nd_ne ND (i := 5) (j := 10) rfl rfl (by decide)))⟩) e_728
      have e_799 := r_771 out_ _ (by simp only [List.mem_cons, List.not_mem_nil, or_false, not_or]; exact ⟨(Ne.symm (nd_ne ND (i := 0) (j := 11) rfl rfl (by decide))), (Ne.symm (nd_ne ND (i := 2) (j := 11) rfl rfl (by decide))), (Ne.symm (nd_ne ND (i := 3) (j := 11) rfl rfl (by decide))), (Ne.symm (nd_ne ND (i := 4) (j := 11) rfl rfl (by decide))), (Ne.symm (nd_ne ND (i := 5) (j := 11) rfl rfl (by decide)))⟩) e_729
      have e_800 := r_771 top_ _ (by simp only [List.mem_cons, List.not_mem_nil, or_false, not_or]; exact ⟨(Ne.symm (nd_ne ND (i := 0) (j := 12) rfl rfl (by decide))), (Ne.symm (nd_ne ND (i := 2) (j := 12) rfl rfl (by decide))), (Ne.symm (nd_ne ND (i := 3) (j := 12) rfl rfl (by decide))), (Ne.symm (nd_ne ND (i := 4) (j := 12) rfl rfl (by decide))), (Ne.symm (nd_ne ND (i := 5) (j := 12) rfl rfl (by decide)))⟩) e_730
      have e_801 := r_771 masks_ _ (by simp only [List.mem_cons, List.not_mem_nil, or_false, not_or]; exact ⟨(Ne.symm (nd_ne ND (i := 0) (j := 13) rfl rfl (by decide))), (Ne.symm (nd_ne ND (i := 2) (j := 13) rfl rfl (by decide))), (Ne.symm (nd_ne ND (i := 3) (j := 13) rfl rfl (by decide))), (Ne.symm (nd_ne ND (i := 4) (j := 13) rfl rfl (by decide))), (Ne.symm (nd_ne ND (i := 5) (j := 13) rfl rfl (by decide)))⟩) e_731
      have r_802 := r_732.trans (r_771.mono (by simp))
      obtain ⟨v_803, g_804⟩ := IN_774 28 (by decide)
      obtain ⟨v_805, g_806⟩ := IN_774 29 (by decide)
      obtain ⟨v_807, g_808⟩ := IN_774 30 (by decide)
      obtain ⟨v_809, g_810⟩ := IN_774 31 (by decide)
      obtain ⟨v_811, g_812⟩ := IN_774 34 (by decide)
      obtain ⟨v_813, g_814⟩ := IN_774 35 (by decide)
      have g_815 : fs_762[(36 : Nat)]? = some (.int (nI gr.length)) := (ga_766 36 (by decide)).trans g_736
      have g_816 : fs_762[(37 : Nat)]? = some (.int (nI o.length)) := (ga_766 37 (by decide)).trans g_737
      have g_817 : fs_762[(38 : Nat)]? = some (.int (nI st.length)) := (ga_766 38 (by decide)).trans g_738
      have g_818 : fs_762[(39 : Nat)]? = some (.int (nI mk)) := (ga_766 39 (by decide)).trans g_739
      have g_819 : fs_762[(11 : Nat)]? = some (.int (nI asz)) := (ga_766 11 (by decide)).trans g_740
      have g_820 : fs_762[(4 : Nat)]? = some (.ref asked_) := (ga_766 4 (by decide)).trans g_741
      have g_821 : fs_762[(41 : Nat)]? = some (.ref firstToken_) := (ga_766 41 (by decide)).trans g_742
      have g_822 : fs_762[(42 : Nat)]? = some (.ref starred_) := (ga_766 42 (by decide)).trans g_743
      have g_823 : fs_762[(43 : Nat)]? = some (.ref tokenAt_) := (ga_766 43 (by decide)).trans g_744
      have g_824 : fs_762[(44 : Nat)]? = some (.ref tokenSize_) := (ga_766 44 (by decide)).trans g_745
      have g_825 : fs_762[(45 : Nat)]? = some (.ref groupKind_) := (ga_766 45 (by decide)).trans g_746
      have g_826 : fs_762[(46 : Nat)]? = some (.ref groupPhrase_) := (ga_766 46 (by decide)).trans g_747
      have g_827 : fs_762[(47 : Nat)]? = some (.ref groupSize_) := (ga_766 47 (by decide)).trans g_748
      have g_828 : fs_762[(48 : Nat)]? = some (.ref groupMask_) := (ga_766 48 (by decide)).trans g_749
      have g_829 : fs_762[(49 : Nat)]? = some (.ref groupFar_) := (ga_766 49 (by decide)).trans g_750
      have g_830 : fs_762[(50 : Nat)]? = some (.ref out_) := (ga_766 50 (by decide)).trans g_751
      have g_831 : fs_762[(51 : Nat)]? = some (.ref top_) := (ga_766 51 (by decide)).trans g_752
      have g_832 : fs_762[(52 : Nat)]? = some (.ref masks_) := (ga_766 52 (by decide)).trans g_753
      have ga_833 : ∀ i : Nat, i ∉ [28, 29, 30, 31, 33, 34, 35, 36, 37, 38, 39] → fs_762[i]? = fs[i]? := fun i hi => (ga_766 i (fun z => hi (by simp only [List.mem_cons, List.not_mem_nil, or_false] at z ⊢; omega))).trans (ga_754 i hi)
      have hb_834 : 0 ≤ bd_757 := Int32.not_lt.mp nb_773
      refine s_Model_group_106 l_763 e_764 g_765 (fun z => absurd z nb_773) (fun z_835 => ?_)
      refine s_Model_group_113 ?_
      exact ⟨rfl, _, _, _, _, _, _, _, _, _, _, _, _, l_763, e_764, g_765, ga_833, e_767, e_768, e_769, e_770, e_794, e_795, e_796, e_797, e_798, e_799, r_802, Or.inl ⟨gp_12n hk_702 hx_772, nb_773, (fun i9 hi9 => by simp only [List.mem_cons, List.not_mem_nil, or_false] at hi9; rcases hi9 with rfl | rfl | rfl | rfl | rfl | rfl | rfl | rfl <;> first | exact ⟨_, g_804⟩ | exact ⟨_, g_806⟩ | exact ⟨_, g_808⟩ | exact ⟨_, g_810⟩ | exact ⟨_, g_812⟩ | exact ⟨_, g_814⟩ | exact ⟨_, g_815⟩ | exact ⟨_, g_818⟩), g_816, g_817⟩⟩
    · skip
      have e_836 := r_771 asked_ _ (by simp only [List.mem_cons, List.not_mem_nil, or_false, not_or]; exact ⟨(Ne.symm (nd_ne ND (i := 0) (j := 1) rfl rfl (by decide))), (nd_ne ND (i := 1) (j := 2) rfl rfl (by decide)), (nd_ne ND (i := 1) (j := 3) rfl rfl (by decide)), (nd_ne ND (i := 1) (j := 4) rfl rfl (by decide)), (nd_ne ND (i := 1) (j := 5) rfl rfl (by decide))⟩) e_719
      have e_837 := r_771 groupKind_ _ (by simp only [List.mem_cons, List.not_mem_nil, or_false, not_or]; exact ⟨(Ne.symm (nd_ne ND (i := 0) (j := 6) rfl rfl (by decide))), (Ne.symm (nd_ne ND (i := 2) (j := 6) rfl rfl (by decide))), (Ne.symm (nd_ne ND (i := 3) (j := 6) rfl rfl (by decide))), (Ne.symm (nd_ne ND (i := 4) (j := 6) rfl rfl (by decide))), (Ne.symm (nd_ne ND (i := 5) (j := 6) rfl rfl (by decide)))⟩) e_724
      have e_838 := r_771 groupPhrase_ _ (by simp only [List.mem_cons, List.not_mem_nil, or_false, not_or]; exact ⟨(Ne.symm (nd_ne ND (i := 0) (j := 7) rfl rfl (by decide))), (Ne.symm (nd_ne ND (i := 2) (j := 7) rfl rfl (by decide))), (Ne.symm (nd_ne ND (i := 3) (j := 7) rfl rfl (by decide))), (Ne.symm (nd_ne ND (i := 4) (j := 7) rfl rfl (by decide))), (Ne.symm (nd_ne ND (i := 5) (j := 7) rfl rfl (by decide)))⟩) e_725
      have e_839 := r_771 groupSize_ _ (by simp only [List.mem_cons, List.not_mem_nil, or_false, not_or]; exact ⟨(Ne.symm (nd_ne ND (i := 0) (j := 8) rfl rfl (by decide))), (Ne.symm (nd_ne ND (i := 2) (j := 8) rfl rfl (by decide))), (Ne.symm (nd_ne ND (i := 3) (j := 8) rfl rfl (by decide))), (Ne.symm (nd_ne ND (i := 4) (j := 8) rfl rfl (by decide))), (Ne.symm (nd_ne ND (i := 5) (j := 8) rfl rfl (by decide)))⟩) e_726
      have e_840 := r_771 groupMask_ _ (by simp only [List.mem_cons, List.not_mem_nil, or_false, not_or]; exact ⟨(Ne.symm (nd_ne ND (i := 0) (j := 9) rfl rfl (by decide))), (Ne.symm (nd_ne ND (i := 2) (j := 9) rfl rfl (by decide))), (Ne.symm (nd_ne ND (i := 3) (j := 9) rfl rfl (by decide))), (Ne.symm (nd_ne ND (i := 4) (j := 9) rfl rfl (by decide))), (Ne.symm (nd_ne ND (i := 5) (j := 9) rfl rfl (by decide)))⟩) e_727
      have e_841 := r_771 groupFar_ _ (by simp only [List.mem_cons, List.not_mem_nil, or_false, not_or]; exact ⟨(Ne.symm (nd_ne ND (i := 0) (j := 10) rfl rfl (by decide))), (Ne.symm (nd_ne ND (i := 2) (j := 10) rfl rfl (by decide))), (Ne.symm (nd_ne ND (i := 3) (j := 10) rfl rfl (by decide))), (Ne.symm (nd_ne ND (i := 4) (j := 10) rfl rfl (by decide))), (Ne.symm (nd_ne ND (i := 5) (j := 10) rfl rfl (by decide)))⟩) e_728
      have e_842 := r_771 out_ _ (by simp only [List.mem_cons, List.not_mem_nil, or_false, not_or]; exact ⟨(Ne.symm (nd_ne ND (i := 0) (j := 11) rfl rfl (by decide))), (Ne.symm (nd_ne ND (i := 2) (j := 11) rfl rfl (by decide))), (Ne.symm (nd_ne ND (i := 3) (j := 11) rfl rfl (by decide))), (Ne.symm (nd_ne ND (i := 4) (j := 11) rfl rfl (by decide))), (Ne.symm (nd_ne ND (i := 5) (j := 11) rfl rfl (by decide)))⟩) e_729
      have e_843 := r_771 top_ _ (by simp only [List.mem_cons, List.not_mem_nil, or_false, not_or]; exact ⟨(Ne.symm (nd_ne ND (i := 0) (j := 12) rfl rfl (by decide))), (Ne.symm (nd_ne ND (i := 2) (j := 12) rfl rfl (by decide))), (Ne.symm (nd_ne ND (i := 3) (j := 12) rfl rfl (by decide))), (Ne.symm (nd_ne ND (i := 4) (j := 12) rfl rfl (by decide))), (Ne.symm (nd_ne ND (i := 5) (j := 12) rfl rfl (by decide)))⟩) e_730
      have e_844 := r_771 masks_ _ (by simp only [List.mem_cons, List.not_mem_nil, or_false, not_or]; exact ⟨(Ne.symm (nd_ne ND (i := 0) (j := 13) rfl rfl (by decide))), (Ne.symm (nd_ne ND (i := 2) (j := 13) rfl rfl (by decide))), (Ne.symm (nd_ne ND (i := 3) (j := 13) rfl rfl (by decide))), (Ne.symm (nd_ne ND (i := 4) (j := 13) rfl rfl (by decide))), (Ne.symm (nd_ne ND (i := 5) (j := 13) rfl rfl (by decide)))⟩) e_731
      have r_845 := r_732.trans (r_771.mono (by simp))
      have g_846 : fs_762[(36 : Nat)]? = some (.int (nI gr.length)) := (ga_766 36 (by decide)).trans g_736
      have g_847 : fs_762[(37 : Nat)]? = some (.int (nI o.length)) := (ga_766 37 (by decide)).trans g_737
      have g_848 : fs_762[(38 : Nat)]? = some (.int (nI st.length)) := (ga_766 38 (by decide)).trans g_738
      have g_849 : fs_762[(39 : Nat)]? = some (.int (nI mk)) := (ga_766 39 (by decide)).trans g_739
      have g_850 : fs_762[(11 : Nat)]? = some (.int (nI asz)) := (ga_766 11 (by decide)).trans g_740
      have g_851 : fs_762[(4 : Nat)]? = some (.ref asked_) := (ga_766 4 (by decide)).trans g_741
      have g_852 : fs_762[(41 : Nat)]? = some (.ref firstToken_) := (ga_766 41 (by decide)).trans g_742
      have g_853 : fs_762[(42 : Nat)]? = some (.ref starred_) := (ga_766 42 (by decide)).trans g_743
      have g_854 : fs_762[(43 : Nat)]? = some (.ref tokenAt_) := (ga_766 43 (by decide)).trans g_744
      have g_855 : fs_762[(44 : Nat)]? = some (.ref tokenSize_) := (ga_766 44 (by decide)).trans g_745
      have g_856 : fs_762[(45 : Nat)]? = some (.ref groupKind_) := (ga_766 45 (by decide)).trans g_746
      have g_857 : fs_762[(46 : Nat)]? = some (.ref groupPhrase_) := (ga_766 46 (by decide)).trans g_747
      have g_858 : fs_762[(47 : Nat)]? = some (.ref groupSize_) := (ga_766 47 (by decide)).trans g_748
      have g_859 : fs_762[(48 : Nat)]? = some (.ref groupMask_) := (ga_766 48 (by decide)).trans g_749
      have g_860 : fs_762[(49 : Nat)]? = some (.ref groupFar_) := (ga_766 49 (by decide)).trans g_750
      have g_861 : fs_762[(50 : Nat)]? = some (.ref out_) := (ga_766 50 (by decide)).trans g_751
      have g_862 : fs_762[(51 : Nat)]? = some (.ref top_) := (ga_766 51 (by decide)).trans g_752
      have g_863 : fs_762[(52 : Nat)]? = some (.ref masks_) := (ga_766 52 (by decide)).trans g_753
      have ga_864 : ∀ i : Nat, i ∉ [28, 29, 30, 31, 33, 34, 35, 36, 37, 38, 39] → fs_762[i]? = fs[i]? := fun i hi => (ga_766 i (fun z => hi (by simp only [List.mem_cons, List.not_mem_nil, or_false] at z ⊢; omega))).trans (ga_754 i hi)
      have hb_865 : ¬ 0 ≤ bd_757 := Int32.not_le.mpr hb_780
      have hb_866 := Nat.le_trans PT_781.1 PT_781.2.1
      refine s_Model_group_106 l_763 e_764 g_765 (fun z_867 => ?_) (fun z => absurd hb_780 z)
      refine s_Model_group_114 l_763 e_764 g_858 g_846 g_787 g_857 e_838 (vp_in_nI (by omega) (by omega)) e_839 (vp_in_nI (by omega) (by omega)) g_861 g_847 e_842 (vp_in_nI (by omega) (by omega)) (Ne.symm (nd_ne ND (i := 8) (j := 11) rfl rfl (by decide))) ?_
      rw [xw_up_up]
      refine x_u3 (fun h_868 e_869 f_870 h_871 e_872 f_873 h_874 e_875 f_876 => ?_)
      have e_877 := (f_870 m (nd_ne ND (i := 0) (j := 8) rfl rfl (by decide))).trans e_764
      have e_878 := (f_870 asked_ (nd_ne ND (i := 1) (j := 8) rfl rfl (by decide))).trans e_836
      have e_879 := (f_870 firstToken_ (nd_ne ND (i := 2) (j := 8) rfl rfl (by decide))).trans e_767
      have e_880 := (f_870 starred_ (nd_ne ND (i := 3) (j := 8) rfl rfl (by decide))).trans e_768
      have e_881 := (f_870 tokenAt_ (nd_ne ND (i := 4) (j := 8) rfl rfl (by decide))).trans e_769
      have e_882 := (f_870 tokenSize_ (nd_ne ND (i := 5) (j := 8) rfl rfl (by decide))).trans e_770
      have e_883 := (f_870 groupKind_ (nd_ne ND (i := 6) (j := 8) rfl rfl (by decide))).trans e_837
      have e_884 := (f_870 groupPhrase_ (nd_ne ND (i := 7) (j := 8) rfl rfl (by decide))).trans e_838
      have e_885 := (f_870 groupMask_ (Ne.symm (nd_ne ND (i := 8) (j := 9) rfl rfl (by decide)))).trans e_840
      have e_886 := (f_870 groupFar_ (Ne.symm (nd_ne ND (i := 8) (j := 10) rfl rfl (by decide)))).trans e_841
      have e_887 := (f_870 out_ (Ne.symm (nd_ne ND (i := 8) (j := 11) rfl rfl (by decide)))).trans e_842
      have e_888 := (f_870 top_ (Ne.symm (nd_ne ND (i := 8) (j := 12) rfl rfl (by decide)))).trans e_843
      have e_889 := (f_870 masks_ (Ne.symm (nd_ne ND (i := 8) (j := 13) rfl rfl (by decide)))).trans e_844
      have r_890 := r_845.up (by simp) f_870
      have e_891 := (f_873 m (nd_ne ND (i := 0) (j := 11) rfl rfl (by decide))).trans e_877
      have e_892 := (f_873 asked_ (nd_ne ND (i := 1) (j := 11) rfl rfl (by decide))).trans e_878
      have e_893 := (f_873 firstToken_ (nd_ne ND (i := 2) (j := 11) rfl rfl (by decide))).trans e_879
      have e_894 := (f_873 starred_ (nd_ne ND (i := 3) (j := 11) rfl rfl (by decide))).trans e_880
      have e_895 := (f_873 tokenAt_ (nd_ne ND (i := 4) (j := 11) rfl rfl (by decide))).trans e_881
      have e_896 := (f_873 tokenSize_ (nd_ne ND (i := 5) (j := 11) rfl rfl (by decide))).trans e_882
      have e_897 := (f_873 groupKind_ (nd_ne ND (i := 6) (j := 11) rfl rfl (by decide))).trans e_883
      have e_898 := (f_873 groupPhrase_ (nd_ne ND (i := 7) (j := 11) rfl rfl (by decide))).trans e_884
      have e_899 := (f_873 groupSize_ (nd_ne ND (i := 8) (j := 11) rfl rfl (by decide))).trans e_869
      have e_900 := (f_873 groupMask_ (nd_ne ND (i := 9) (j := 11) rfl rfl (by decide))).trans e_885
      have e_901 := (f_873 groupFar_ (nd_ne ND (i := 10) (j := 11) rfl rfl (by decide))).trans e_886
      have e_902 := (f_873 top_ (Ne.symm (nd_ne ND (i := 11) (j := 12) rfl rfl (by decide)))).trans e_888
      have e_903 := (f_873 masks_ (Ne.symm (nd_ne ND (i := 11) (j := 13) rfl rfl (by decide)))).trans e_889
      have r_904 := r_890.up (by simp) f_873
      have e_905 := (f_876 asked_ (Ne.symm (nd_ne ND (i := 0) (j := 1) rfl rfl (by decide)))).trans e_892
      have e_906 := (f_876 firstToken_ (Ne.symm (nd_ne ND (i := 0) (j := 2) rfl rfl (by decide)))).trans e_893
      have e_907 := (f_876 starred_ (Ne.symm (nd_ne ND (i := 0) (j := 3) rfl rfl (by decide)))).trans e_894
      have e_908 := (f_876 tokenAt_ (Ne.symm (nd_ne ND (i := 0) (j := 4) rfl rfl (by decide)))).trans e_895
      have e_909 := (f_876 tokenSize_ (Ne.symm (nd_ne ND (i := 0) (j := 5) rfl rfl (by decide)))).trans e_896
      have e_910 := (f_876 groupKind_ (Ne.symm (nd_ne ND (i := 0) (j := 6) rfl rfl (by decide)))).trans e_897
      have e_911 := (f_876 groupPhrase_ (Ne.symm (nd_ne ND (i := 0) (j := 7) rfl rfl (by decide)))).trans e_898
      have e_912 := (f_876 groupSize_ (Ne.symm (nd_ne ND (i := 0) (j := 8) rfl rfl (by decide)))).trans e_899
      have e_913 := (f_876 groupMask_ (Ne.symm (nd_ne ND (i := 0) (j := 9) rfl rfl (by decide)))).trans e_900
      have e_914 := (f_876 groupFar_ (Ne.symm (nd_ne ND (i := 0) (j := 10) rfl rfl (by decide)))).trans e_901
      have e_915 := (f_876 out_ (Ne.symm (nd_ne ND (i := 0) (j := 11) rfl rfl (by decide)))).trans e_872
      have e_916 := (f_876 top_ (Ne.symm (nd_ne ND (i := 0) (j := 12) rfl rfl (by decide)))).trans e_902
      have e_917 := (f_876 masks_ (Ne.symm (nd_ne ND (i := 0) (j := 13) rfl rfl (by decide)))).trans e_903
      have r_918 := r_904.up (by simp) f_876
      obtain ⟨fs_919, z_920⟩ : ∃ z, z = (fs_762.set 37 (.int ((nI o.length) + 1))).set 36 (.int ((nI gr.length) + 1)) := ⟨_, rfl⟩
      rw [← z_920] at e_875
      have l_921 : fs_919.length = 62 := by rw [z_920]; simp only [List.length_set]; exact l_763
      have g_922 : fs_919[(4 : Nat)]? = some (.ref asked_) := by rw [z_920]; exact (xw_gn (by decide) (xw_gn (by decide) g_851))
      have g_923 : fs_919[(11 : Nat)]? = some (.int (nI asz)) := by rw [z_920]; exact (xw_gn (by decide) (xw_gn (by decide) g_850))
      have g_924 : fs_919[(28 : Nat)]? = some (.int (nI (bl fa asz p_775))) := by rw [z_920]; exact (xw_gn (by decide) (xw_gn (by decide) g_783))
      have g_925 : fs_919[(29 : Nat)]? = some (.int (nI (rkd (kdP fa asz p_775)))) := by rw [z_920]; exact (xw_gn (by decide) (xw_gn (by decide) g_784))
      have g_926 : fs_919[(30 : Nat)]? = some (.int (nI (bl fa asz p_775))) := by rw [z_920]; exact (xw_gn (by decide) (xw_gn (by decide) g_785))
      have g_927 : fs_919[(31 : Nat)]? = some (.int (nI y_777)) := by rw [z_920]; exact (xw_gn (by decide) (xw_gn (by decide) g_786))
      have g_928 : fs_919[(33 : Nat)]? = some (.int bd_757) := by rw [z_920]; exact (xw_gn (by decide) (xw_gn (by decide) g_765))
      have g_929 : fs_919[(34 : Nat)]? = some (.int (nI ((ph).length + 1))) := by rw [z_920]; exact (xw_gn (by decide) (xw_gn (by decide) g_787))
      have g_930 : fs_919[(35 : Nat)]? = some (.int (nI t_778)) := by rw [z_920]; exact (xw_gn (by decide) (xw_gn (by decide) g_788))
      have g_931 : fs_919[(36 : Nat)]? = some (.int ((nI gr.length) + 1)) := by rw [z_920]; exact (xw_gs (by simp [l_763]))
      have g_932 : fs_919[(37 : Nat)]? = some (.int ((nI o.length) + 1)) := by rw [z_920]; exact (xw_gn (by decide) (xw_gs (by simp [l_763])))
      have g_933 : fs_919[(38 : Nat)]? = some (.int (nI st.length)) := by rw [z_920]; exact (xw_gn (by decide) (xw_gn (by decide) g_848))
      have g_934 : fs_919[(39 : Nat)]? = some (.int (nI mk)) := by rw [z_920]; exact (xw_gn (by decide) (xw_gn (by decide) g_849))
      have g_935 : fs_919[(41 : Nat)]? = some (.ref firstToken_) := by rw [z_920]; exact (xw_gn (by decide) (xw_gn (by decide) g_852))
      have g_936 : fs_919[(42 : Nat)]? = some (.ref starred_) := by rw [z_920]; exact (xw_gn (by decide) (xw_gn (by decide) g_853))
      have g_937 : fs_919[(43 : Nat)]? = some (.ref tokenAt_) := by rw [z_920]; exact (xw_gn (by decide) (xw_gn (by decide) g_854))
      have g_938 : fs_919[(44 : Nat)]? = some (.ref tokenSize_) := by rw [z_920]; exact (xw_gn (by decide) (xw_gn (by decide) g_855))
      have g_939 : fs_919[(45 : Nat)]? = some (.ref groupKind_) := by rw [z_920]; exact (xw_gn (by decide) (xw_gn (by decide) g_856))
      have g_940 : fs_919[(46 : Nat)]? = some (.ref groupPhrase_) := by rw [z_920]; exact (xw_gn (by decide) (xw_gn (by decide) g_857))
      have g_941 : fs_919[(47 : Nat)]? = some (.ref groupSize_) := by rw [z_920]; exact (xw_gn (by decide) (xw_gn (by decide) g_858))
      have g_942 : fs_919[(48 : Nat)]? = some (.ref groupMask_) := by rw [z_920]; exact (xw_gn (by decide) (xw_gn (by decide) g_859))
      have g_943 : fs_919[(49 : Nat)]? = some (.ref groupFar_) := by rw [z_920]; exact (xw_gn (by decide) (xw_gn (by decide) g_860))
      have g_944 : fs_919[(50 : Nat)]? = some (.ref out_) := by rw [z_920]; exact (xw_gn (by decide) (xw_gn (by decide) g_861))
      have g_945 : fs_919[(51 : Nat)]? = some (.ref top_) := by rw [z_920]; exact (xw_gn (by decide) (xw_gn (by decide) g_862))
      have g_946 : fs_919[(52 : Nat)]? = some (.ref masks_) := by rw [z_920]; exact (xw_gn (by decide) (xw_gn (by decide) g_863))
      have ga_947 : ∀ i : Nat, i ∉ [28, 29, 30, 31, 33, 34, 35, 36, 37, 38, 39] → fs_919[i]? = fs[i]? := fun i hi => by rw [z_920]; exact xw_gn (fun z => hi (by rw [z]; simp)) (xw_gn (fun z => hi (by rw [z]; simp)) (ga_864 i hi))
      clear z_920
      rw [nI_clamp (show gr.length < 2 ^ 31 by omega)] at e_910
      rw [nI_clamp (show gr.length < 2 ^ 31 by omega)] at e_911
      rw [nI_clamp (show gr.length < 2 ^ 31 by omega)] at e_913
      rw [nI_clamp (show gr.length < 2 ^ 31 by omega)] at e_914
      rw [nI_clamp (show gr.length < 2 ^ 31 by omega), pk_us] at e_912
      rw [nI_clamp (show o.length < 2 ^ 31 by omega)] at e_915
      rw [nI_1] at g_931 g_932
      refine s_Model_group_170 ?_
      refine x_callV (As := []) (b := m) (rest := []) (F1 := 1) (L1 := 20) (mc := 0) (ms := 0) d_Model_group_171 cV_Model_275 (f_closesFiltersH (st := st) (mk := mk) l_921 e_875 g_933 g_934 g_945 e_916 g_946 e_917 (nd_ne ND (i := 12) (j := 13) rfl rfl (by decide)) (by omega) ST hmk (by omega) (by omega)) e_875 ⟨by decide, rfl⟩ ⟨by omega, by show 8 + (1 + 11) + 20 ≤ _; omega⟩ ⟨by omega, by omega⟩ (Nat.le_of_ble_eq_true rfl) (fun v_958 h_957 p_959 => ?_)
      obtain ⟨rfl, fs_948, l_949, e_950, g_951, g_952, ga_953, ST_954, hm_955, r_956⟩ := p_959
      have e_960 := r_956 asked_ _ (by simp only [List.mem_cons, List.not_mem_nil, or_false, not_or]; exact (Ne.symm (nd_ne ND (i := 0) (j := 1) rfl rfl (by decide)))) e_905
      have e_961 := r_956 firstToken_ _ (by simp only [List.mem_cons, List.not_mem_nil, or_false, not_or]; exact (Ne.symm (nd_ne ND (i := 0) (j := 2) rfl rfl (by decide)))) e_906
      have e_962 := r_956 starred_ _ (by simp only [List.mem_cons, List.not_mem_nil, or_false, not_or]; exact (Ne.symm (nd_ne ND (i := 0) (j := 3) rfl rfl (by decide)))) e_907
      have e_963 := r_956 tokenAt_ _ (by simp only [List.mem_cons, List.not_mem_nil, or_false, not_or]; exact (Ne.symm (nd_ne ND (i := 0) (j := 4) rfl rfl (by decide)))) e_908
      have e_964 := r_956 tokenSize_ _ (by simp only [List.mem_cons, List.not_mem_nil, or_false, not_or]; exact (Ne.symm (nd_ne ND (i := 0) (j := 5) rfl rfl (by decide)))) e_909
      have e_965 := r_956 groupKind_ _ (by simp only [List.mem_cons, List.not_mem_nil, or_false, not_or]; exact (Ne.symm (nd_ne ND (i := 0) (j := 6) rfl rfl (by decide)))) e_910
      have e_966 := r_956 groupPhrase_ _ (by simp only [List.mem_cons, List.not_mem_nil, or_false, not_or]; exact (Ne.symm (nd_ne ND (i := 0) (j := 7) rfl rfl (by decide)))) e_911
      have e_967 := r_956 groupSize_ _ (by simp only [List.mem_cons, List.not_mem_nil, or_false, not_or]; exact (Ne.symm (nd_ne ND (i := 0) (j := 8) rfl rfl (by decide)))) e_912
      have e_968 := r_956 groupMask_ _ (by simp only [List.mem_cons, List.not_mem_nil, or_false, not_or]; exact (Ne.symm (nd_ne ND (i := 0) (j := 9) rfl rfl (by decide)))) e_913
      have e_969 := r_956 groupFar_ _ (by simp only [List.mem_cons, List.not_mem_nil, or_false, not_or]; exact (Ne.symm (nd_ne ND (i := 0) (j := 10) rfl rfl (by decide)))) e_914
      have e_970 := r_956 out_ _ (by simp only [List.mem_cons, List.not_mem_nil, or_false, not_or]; exact (Ne.symm (nd_ne ND (i := 0) (j := 11) rfl rfl (by decide)))) e_915
      have e_971 := r_956 top_ _ (by simp only [List.mem_cons, List.not_mem_nil, or_false, not_or]; exact (Ne.symm (nd_ne ND (i := 0) (j := 12) rfl rfl (by decide)))) e_916
      have e_972 := r_956 masks_ _ (by simp only [List.mem_cons, List.not_mem_nil, or_false, not_or]; exact (Ne.symm (nd_ne ND (i := 0) (j := 13) rfl rfl (by decide)))) e_917
      have r_973 := r_918.trans (r_956.mono (by simp))
      have g_974 : fs_948[(4 : Nat)]? = some (.ref asked_) := (ga_953 4 (by decide)).trans g_922
      have g_975 : fs_948[(11 : Nat)]? = some (.int (nI asz)) := (ga_953 11 (by decide)).trans g_923
      have g_976 : fs_948[(28 : Nat)]? = some (.int (nI (bl fa asz p_775))) := (ga_953 28 (by decide)).trans g_924
      have g_977 : fs_948[(29 : Nat)]? = some (.int (nI (rkd (kdP fa asz p_775)))) := (ga_953 29 (by decide)).trans g_925
      have g_978 : fs_948[(30 : Nat)]? = some (.int (nI (bl fa asz p_775))) := (ga_953 30 (by decide)).trans g_926
      have g_979 : fs_948[(31 : Nat)]? = some (.int (nI y_777)) := (ga_953 31 (by decide)).trans g_927
      have g_980 : fs_948[(33 : Nat)]? = some (.int bd_757) := (ga_953 33 (by decide)).trans g_928
      have g_981 : fs_948[(34 : Nat)]? = some (.int (nI ((ph).length + 1))) := (ga_953 34 (by decide)).trans g_929
      have g_982 : fs_948[(35 : Nat)]? = some (.int (nI t_778)) := (ga_953 35 (by decide)).trans g_930
      have g_983 : fs_948[(36 : Nat)]? = some (.int (nI (gr.length + 1))) := (ga_953 36 (by decide)).trans g_931
      have g_984 : fs_948[(37 : Nat)]? = some (.int (nI (o.length + 1))) := (ga_953 37 (by decide)).trans g_932
      have g_985 : fs_948[(41 : Nat)]? = some (.ref firstToken_) := (ga_953 41 (by decide)).trans g_935
      have g_986 : fs_948[(42 : Nat)]? = some (.ref starred_) := (ga_953 42 (by decide)).trans g_936
      have g_987 : fs_948[(43 : Nat)]? = some (.ref tokenAt_) := (ga_953 43 (by decide)).trans g_937
      have g_988 : fs_948[(44 : Nat)]? = some (.ref tokenSize_) := (ga_953 44 (by decide)).trans g_938
      have g_989 : fs_948[(45 : Nat)]? = some (.ref groupKind_) := (ga_953 45 (by decide)).trans g_939
      have g_990 : fs_948[(46 : Nat)]? = some (.ref groupPhrase_) := (ga_953 46 (by decide)).trans g_940
      have g_991 : fs_948[(47 : Nat)]? = some (.ref groupSize_) := (ga_953 47 (by decide)).trans g_941
      have g_992 : fs_948[(48 : Nat)]? = some (.ref groupMask_) := (ga_953 48 (by decide)).trans g_942
      have g_993 : fs_948[(49 : Nat)]? = some (.ref groupFar_) := (ga_953 49 (by decide)).trans g_943
      have g_994 : fs_948[(50 : Nat)]? = some (.ref out_) := (ga_953 50 (by decide)).trans g_944
      have g_995 : fs_948[(51 : Nat)]? = some (.ref top_) := (ga_953 51 (by decide)).trans g_945
      have g_996 : fs_948[(52 : Nat)]? = some (.ref masks_) := (ga_953 52 (by decide)).trans g_946
      have ga_997 : ∀ i : Nat, i ∉ [28, 29, 30, 31, 33, 34, 35, 36, 37, 38, 39] → fs_948[i]? = fs[i]? := fun i hi => (ga_953 i (fun z => hi (by simp only [List.mem_cons, List.not_mem_nil, or_false] at z ⊢; omega))).trans (ga_947 i hi)
      refine x_le (xw_le_n xw_le_e) ?_
      refine s_Model_group_174 ?_
      have hgr : gr.length < ((ph ++ [x_776])).length := by rw [List.length_append, List.length_singleton]; omega
      have GR9 := GR.add (y := (1, ph.length, ph.length + 1, mk, 10)) (x7 := nI (ph.length + 1) - nI ph.length) rfl rfl (pk_sub (by omega)) rfl pk_us (fun j hj => pk_un (by omega))
      exact ⟨rfl, _, _, _, _, _, _, _, _, _, _, _, _, l_949, e_950, g_980, ga_997, e_961, e_962, e_963, e_964, e_965, e_966, e_967, e_968, e_969, e_970, r_973, Or.inr ⟨_, _, _, _, _, _, gp_12y hk_702 hx_779, hb_780, PT_781, HY_782, g_976, g_977, g_978, g_979, (by rw [List.length_append]; exact g_981), g_982, RQ_789, by rw [List.length_append]; exact g_983, GR9, by rw [List.length_append]; exact hgr, by rw [List.length_append]; exact g_984, OU.add (e := (0, gr.length)) rfl (Nat.zero_le _) (by show gr.length ≤ 12; omega), g_951, g_952, ST_954, hm_955⟩⟩
