/-! the reference in general states: by program (wip/tools/gen5.py, gen6.py, gen7.py) -/
set_option maxHeartbeats 8000000 in
theorem r_ask {G : xw_G} {F L : Nat} {h : xw_A} {m draft_ asked_ prepared_ preparedSize_ texts_ sizes_ weights_ entries_ lies_ live_ row_ level_ oldTexts_ oldSizes_ oldLies_ oldLive_ oldRow_ firstToken_ starred_ tokenAt_ tokenSize_ groupKind_ groupPhrase_ groupSize_ groupMask_ groupFar_ out_ top_ masks_ begins_ lasts_ truth_ answers_ order_ scores_ T : Nat} (R : RI m draft_ asked_ prepared_ preparedSize_ texts_ sizes_ weights_ entries_ lies_ live_ row_ level_ oldTexts_ oldSizes_ oldLies_ oldLive_ oldRow_ firstToken_ starred_ tokenAt_ tokenSize_ groupKind_ groupPhrase_ groupSize_ groupMask_ groupFar_ out_ top_ masks_ begins_ lasts_ truth_ answers_ order_ scores_ T h) (ND : NDl [m, draft_, asked_, prepared_, preparedSize_, texts_, sizes_, weights_, entries_, lies_, live_, row_, level_, oldTexts_, oldSizes_, oldLies_, oldLive_, oldRow_, firstToken_, starred_, tokenAt_, tokenSize_, groupKind_, groupPhrase_, groupSize_, groupMask_, groupFar_, out_, top_, masks_, begins_, lasts_, truth_, answers_, order_, scores_]) (hT : T < 512) (hF : 10 ≤ F) (hL : 210 ≤ L) :
    xw_Met G m_Model_ask F L 0 0 [.ref m] h (fun v h' => (∃ y : Int32, v = some (.int y)) ∧ RI m draft_ asked_ prepared_ preparedSize_ texts_ sizes_ weights_ entries_ lies_ live_ row_ level_ oldTexts_ oldSizes_ oldLies_ oldLive_ oldRow_ firstToken_ starred_ tokenAt_ tokenSize_ groupKind_ groupPhrase_ groupSize_ groupMask_ groupFar_ out_ top_ masks_ begins_ lasts_ truth_ answers_ order_ scores_ (T + 1) h' ∧ FrO [m, draft_, asked_, prepared_, preparedSize_, texts_, sizes_, weights_, entries_, lies_, live_, row_, level_, oldTexts_, oldSizes_, oldLies_, oldLive_, oldRow_, firstToken_, starred_, tokenAt_, tokenSize_, groupKind_, groupPhrase_, groupSize_, groupMask_, groupFar_, out_, top_, masks_, begins_, lasts_, truth_, answers_, order_, scores_] h h' ∧ FrO [m, asked_, firstToken_, starred_, tokenAt_, tokenSize_, groupKind_, groupPhrase_, groupSize_, groupMask_, groupFar_, out_, top_, masks_, begins_, lasts_, truth_, answers_, order_, scores_] h h' ∧ FF m [0, 10, 11, 28, 29, 30, 31, 32, 33, 34, 35, 36, 37, 38, 39, 40, 55, 56, 61] h h' ∧ Rf m 10 (.int (nI 0)) h') (fun _ _ => False) := by
  refine xw_Met.of rfl (by decide) (Nat.le_of_ble_eq_true rfl) ?_
  obtain ⟨fs, l, e, ⟨er, g_err⟩, KDr, KPr, KTx, KOt, KSt, KMo, KWe, KBe, KAn, KQu⟩ := R
  obtain ⟨dl, fd, g_drafted, g_draft, e_draft, hdl⟩ := id KDr
  obtain ⟨asz, y0, y1, y2, y3, y4, y5, y6, y7, y8, y9, y10, y11, c0, c1, c2, c3, c4, c5, c6, c7, c8, c9, c10, c11, c12, c13, g_askedSize, g_at, g_kind, g_from, g_to, g_bad, g_phrases, g_tokens, g_groups, g_outs, g_tops, g_mask, g_behind, g_asked, e_asked, g_firstToken, e_firstToken, g_starred, e_starred, g_tokenAt, e_tokenAt, g_tokenSize, e_tokenSize, g_groupKind, e_groupKind, g_groupPhrase, e_groupPhrase, g_groupSize, e_groupSize, g_groupMask, e_groupMask, g_groupFar, e_groupFar, g_out, e_out, g_top, e_top, g_masks, e_masks, g_truth, e_truth, hasz⟩ := id KQu
  obtain ⟨ft, fz, g_texts, e_texts, g_sizes, e_sizes, hSZ⟩ := id KTx
  obtain ⟨fw, g_weights, e_weights, hwe⟩ := id KWe
  obtain ⟨vs, md, sg, op, ov, os, fe, fi, fv, fr, fL, foi, fov, fow, g_versions, g_made, g_segments, g_open, g_oldVersions, g_oldSegments, g_entries, e_entries, g_lies, e_lies, g_live, e_live, g_row, e_row, g_level, e_level, g_oldLies, e_oldLies, g_oldLive, e_oldLive, g_oldRow, e_oldRow, hvs, hsg, hop, hov, hos, hLI, hRO, hLV, hOI, hOR, hOV, hpot⟩ := id KSt
  obtain ⟨cl, fb, fl, g_column, g_begins, e_begins, g_lasts, e_lasts⟩ := id KBe
  obtain ⟨wa, gd, fn, fa, fo, fsc, g_wrongAt, g_good, g_found, g_answers, e_answers, g_order, e_order, g_scores, e_scores, hfn, hord⟩ := id KAn
  have ga0 : ∀ i : Nat, i ∉ [0, 10, 11, 28, 29, 30, 31, 32, 33, 34, 35, 36, 37, 38, 39, 40, 55, 56, 61] → fs[i]? = fs[i]? := fun _ _ => rfl
  have r0 : FrO [m, asked_, firstToken_, starred_, tokenAt_, tokenSize_, groupKind_, groupPhrase_, groupSize_, groupMask_, groupFar_, out_, top_, masks_, begins_, lasts_, truth_, answers_, order_, scores_] h h := FrO.rf
  refine s_Model_ask_0 l e ?_
  refine x_u1 (fun h_1 e_2 f_3 => ?_)
  have e_4 := (f_3 draft_ (nd_ne ND (i := 1) (j := 0) rfl rfl (by decide))).trans e_draft
  have e_5 := (f_3 asked_ (nd_ne ND (i := 2) (j := 0) rfl rfl (by decide))).trans e_asked
  have e_6 := (f_3 firstToken_ (nd_ne ND (i := 18) (j := 0) rfl rfl (by decide))).trans e_firstToken
  have e_7 := (f_3 starred_ (nd_ne ND (i := 19) (j := 0) rfl rfl (by decide))).trans e_starred
  have e_8 := (f_3 tokenAt_ (nd_ne ND (i := 20) (j := 0) rfl rfl (by decide))).trans e_tokenAt
  have e_9 := (f_3 tokenSize_ (nd_ne ND (i := 21) (j := 0) rfl rfl (by decide))).trans e_tokenSize
  have e_10 := (f_3 groupKind_ (nd_ne ND (i := 22) (j := 0) rfl rfl (by decide))).trans e_groupKind
  have e_11 := (f_3 groupPhrase_ (nd_ne ND (i := 23) (j := 0) rfl rfl (by decide))).trans e_groupPhrase
  have e_12 := (f_3 groupSize_ (nd_ne ND (i := 24) (j := 0) rfl rfl (by decide))).trans e_groupSize
  have e_13 := (f_3 groupMask_ (nd_ne ND (i := 25) (j := 0) rfl rfl (by decide))).trans e_groupMask
  have e_14 := (f_3 groupFar_ (nd_ne ND (i := 26) (j := 0) rfl rfl (by decide))).trans e_groupFar
  have e_15 := (f_3 out_ (nd_ne ND (i := 27) (j := 0) rfl rfl (by decide))).trans e_out
  have e_16 := (f_3 top_ (nd_ne ND (i := 28) (j := 0) rfl rfl (by decide))).trans e_top
  have e_17 := (f_3 masks_ (nd_ne ND (i := 29) (j := 0) rfl rfl (by decide))).trans e_masks
  have e_18 := (f_3 truth_ (nd_ne ND (i := 32) (j := 0) rfl rfl (by decide))).trans e_truth
  have e_19 := (f_3 texts_ (nd_ne ND (i := 5) (j := 0) rfl rfl (by decide))).trans e_texts
  have e_20 := (f_3 sizes_ (nd_ne ND (i := 6) (j := 0) rfl rfl (by decide))).trans e_sizes
  have e_21 := (f_3 weights_ (nd_ne ND (i := 7) (j := 0) rfl rfl (by decide))).trans e_weights
  have e_22 := (f_3 live_ (nd_ne ND (i := 10) (j := 0) rfl rfl (by decide))).trans e_live
  have e_23 := (f_3 begins_ (nd_ne ND (i := 30) (j := 0) rfl rfl (by decide))).trans e_begins
  have e_24 := (f_3 lasts_ (nd_ne ND (i := 31) (j := 0) rfl rfl (by decide))).trans e_lasts
  have e_25 := (f_3 answers_ (nd_ne ND (i := 33) (j := 0) rfl rfl (by decide))).trans e_answers
  have e_26 := (f_3 order_ (nd_ne ND (i := 34) (j := 0) rfl rfl (by decide))).trans e_order
  have e_27 := (f_3 scores_ (nd_ne ND (i := 35) (j := 0) rfl rfl (by decide))).trans e_scores
  have r_28 := r0.up (by simp) f_3
  obtain ⟨fs_29, z_30⟩ : ∃ z, z = fs.set 0 (.int 0) := ⟨_, rfl⟩
  rw [← z_30] at e_2
  have l_31 : fs_29.length = 62 := by rw [z_30]; simp only [List.length_set]; exact l
  have g_32 : fs_29[(0 : Nat)]? = some (.int 0) := by rw [z_30]; exact (xw_gs (by simp [l]))
  have g_33 : fs_29[(3 : Nat)]? = some (.ref draft_) := by rw [z_30]; exact (xw_gn (by decide) g_draft)
  have g_34 : fs_29[(4 : Nat)]? = some (.ref asked_) := by rw [z_30]; exact (xw_gn (by decide) g_asked)
  have g_35 : fs_29[(7 : Nat)]? = some (.ref texts_) := by rw [z_30]; exact (xw_gn (by decide) g_texts)
  have g_36 : fs_29[(8 : Nat)]? = some (.ref sizes_) := by rw [z_30]; exact (xw_gn (by decide) g_sizes)
  have g_37 : fs_29[(9 : Nat)]? = some (.ref weights_) := by rw [z_30]; exact (xw_gn (by decide) g_weights)
  have g_38 : fs_29[(10 : Nat)]? = some (.int (nI dl)) := by rw [z_30]; exact (xw_gn (by decide) g_drafted)
  have g_39 : fs_29[(11 : Nat)]? = some (.int (nI asz)) := by rw [z_30]; exact (xw_gn (by decide) g_askedSize)
  have g_40 : fs_29[(14 : Nat)]? = some (.ref live_) := by rw [z_30]; exact (xw_gn (by decide) g_live)
  have g_41 : fs_29[(28 : Nat)]? = some (.int y0) := by rw [z_30]; exact (xw_gn (by decide) g_at)
  have g_42 : fs_29[(29 : Nat)]? = some (.int y1) := by rw [z_30]; exact (xw_gn (by decide) g_kind)
  have g_43 : fs_29[(30 : Nat)]? = some (.int y2) := by rw [z_30]; exact (xw_gn (by decide) g_from)
  have g_44 : fs_29[(31 : Nat)]? = some (.int y3) := by rw [z_30]; exact (xw_gn (by decide) g_to)
  have g_45 : fs_29[(32 : Nat)]? = some (.int wa) := by rw [z_30]; exact (xw_gn (by decide) g_wrongAt)
  have g_46 : fs_29[(33 : Nat)]? = some (.int y4) := by rw [z_30]; exact (xw_gn (by decide) g_bad)
  have g_47 : fs_29[(34 : Nat)]? = some (.int y5) := by rw [z_30]; exact (xw_gn (by decide) g_phrases)
  have g_48 : fs_29[(35 : Nat)]? = some (.int y6) := by rw [z_30]; exact (xw_gn (by decide) g_tokens)
  have g_49 : fs_29[(36 : Nat)]? = some (.int y7) := by rw [z_30]; exact (xw_gn (by decide) g_groups)
  have g_50 : fs_29[(37 : Nat)]? = some (.int y8) := by rw [z_30]; exact (xw_gn (by decide) g_outs)
  have g_51 : fs_29[(38 : Nat)]? = some (.int y9) := by rw [z_30]; exact (xw_gn (by decide) g_tops)
  have g_52 : fs_29[(39 : Nat)]? = some (.int y10) := by rw [z_30]; exact (xw_gn (by decide) g_mask)
  have g_53 : fs_29[(40 : Nat)]? = some (.int gd) := by rw [z_30]; exact (xw_gn (by decide) g_good)
  have g_54 : fs_29[(41 : Nat)]? = some (.ref firstToken_) := by rw [z_30]; exact (xw_gn (by decide) g_firstToken)
  have g_55 : fs_29[(42 : Nat)]? = some (.ref starred_) := by rw [z_30]; exact (xw_gn (by decide) g_starred)
  have g_56 : fs_29[(43 : Nat)]? = some (.ref tokenAt_) := by rw [z_30]; exact (xw_gn (by decide) g_tokenAt)
  have g_57 : fs_29[(44 : Nat)]? = some (.ref tokenSize_) := by rw [z_30]; exact (xw_gn (by decide) g_tokenSize)
  have g_58 : fs_29[(45 : Nat)]? = some (.ref groupKind_) := by rw [z_30]; exact (xw_gn (by decide) g_groupKind)
  have g_59 : fs_29[(46 : Nat)]? = some (.ref groupPhrase_) := by rw [z_30]; exact (xw_gn (by decide) g_groupPhrase)
  have g_60 : fs_29[(47 : Nat)]? = some (.ref groupSize_) := by rw [z_30]; exact (xw_gn (by decide) g_groupSize)
  have g_61 : fs_29[(48 : Nat)]? = some (.ref groupMask_) := by rw [z_30]; exact (xw_gn (by decide) g_groupMask)
  have g_62 : fs_29[(49 : Nat)]? = some (.ref groupFar_) := by rw [z_30]; exact (xw_gn (by decide) g_groupFar)
  have g_63 : fs_29[(50 : Nat)]? = some (.ref out_) := by rw [z_30]; exact (xw_gn (by decide) g_out)
  have g_64 : fs_29[(51 : Nat)]? = some (.ref top_) := by rw [z_30]; exact (xw_gn (by decide) g_top)
  have g_65 : fs_29[(52 : Nat)]? = some (.ref masks_) := by rw [z_30]; exact (xw_gn (by decide) g_masks)
  have g_66 : fs_29[(53 : Nat)]? = some (.ref begins_) := by rw [z_30]; exact (xw_gn (by decide) g_begins)
  have g_67 : fs_29[(54 : Nat)]? = some (.ref lasts_) := by rw [z_30]; exact (xw_gn (by decide) g_lasts)
  have g_68 : fs_29[(55 : Nat)]? = some (.int cl) := by rw [z_30]; exact (xw_gn (by decide) g_column)
  have g_69 : fs_29[(56 : Nat)]? = some (.int (nI fn)) := by rw [z_30]; exact (xw_gn (by decide) g_found)
  have g_70 : fs_29[(57 : Nat)]? = some (.ref truth_) := by rw [z_30]; exact (xw_gn (by decide) g_truth)
  have g_71 : fs_29[(58 : Nat)]? = some (.ref answers_) := by rw [z_30]; exact (xw_gn (by decide) g_answers)
  have g_72 : fs_29[(59 : Nat)]? = some (.ref order_) := by rw [z_30]; exact (xw_gn (by decide) g_order)
  have g_73 : fs_29[(60 : Nat)]? = some (.ref scores_) := by rw [z_30]; exact (xw_gn (by decide) g_scores)
  have g_74 : fs_29[(61 : Nat)]? = some (.int y11) := by rw [z_30]; exact (xw_gn (by decide) g_behind)
  have ga_75 : ∀ i : Nat, i ∉ [0, 10, 11, 28, 29, 30, 31, 32, 33, 34, 35, 36, 37, 38, 39, 40, 55, 56, 61] → fs_29[i]? = fs[i]? := fun i hi => by rw [z_30]; exact xw_gn (fun z => hi (by rw [z]; simp)) (ga0 i hi)
  clear z_30
  refine lp_a1 (gs := fs_29) (h0 := h_1) l_31 e_2 g_38 g_33 g_34 e_4 ⟨_, e_5⟩ (nd_ne ND (i := 1) (j := 2) rfl rfl (by decide)) hdl (fun h6 fa6 ea6 r6 => ?_) dl 0 _ _ (Nat.zero_add _) e_5 FrO.rf
  have e_76 := r6 draft_ _ (by simp only [List.mem_cons, List.not_mem_nil, or_false, not_or]; exact (nd_ne ND (i := 1) (j := 2) rfl rfl (by decide))) e_4
  have e_77 := r6 firstToken_ _ (by simp only [List.mem_cons, List.not_mem_nil, or_false, not_or]; exact (Ne.symm (nd_ne ND (i := 2) (j := 18) rfl rfl (by decide)))) e_6
  have e_78 := r6 starred_ _ (by simp only [List.mem_cons, List.not_mem_nil, or_false, not_or]; exact (Ne.symm (nd_ne ND (i := 2) (j := 19) rfl rfl (by decide)))) e_7
  have e_79 := r6 tokenAt_ _ (by simp only [List.mem_cons, List.not_mem_nil, or_false, not_or]; exact (Ne.symm (nd_ne ND (i := 2) (j := 20) rfl rfl (by decide)))) e_8
  have e_80 := r6 tokenSize_ _ (by simp only [List.mem_cons, List.not_mem_nil, or_false, not_or]; exact (Ne.symm (nd_ne ND (i := 2) (j := 21) rfl rfl (by decide)))) e_9
  have e_81 := r6 groupKind_ _ (by simp only [List.mem_cons, List.not_mem_nil, or_false, not_or]; exact (Ne.symm (nd_ne ND (i := 2) (j := 22) rfl rfl (by decide)))) e_10
  have e_82 := r6 groupPhrase_ _ (by simp only [List.mem_cons, List.not_mem_nil, or_false, not_or]; exact (Ne.symm (nd_ne ND (i := 2) (j := 23) rfl rfl (by decide)))) e_11
  have e_83 := r6 groupSize_ _ (by simp only [List.mem_cons, List.not_mem_nil, or_false, not_or]; exact (Ne.symm (nd_ne ND (i := 2) (j := 24) rfl rfl (by decide)))) e_12
  have e_84 := r6 groupMask_ _ (by simp only [List.mem_cons, List.not_mem_nil, or_false, not_or]; exact (Ne.symm (nd_ne ND (i := 2) (j := 25) rfl rfl (by decide)))) e_13
  have e_85 := r6 groupFar_ _ (by simp only [List.mem_cons, List.not_mem_nil, or_false, not_or]; exact (Ne.symm (nd_ne ND (i := 2) (j := 26) rfl rfl (by decide)))) e_14
  have e_86 := r6 out_ _ (by simp only [List.mem_cons, List.not_mem_nil, or_false, not_or]; exact (Ne.symm (nd_ne ND (i := 2) (j := 27) rfl rfl (by decide)))) e_15
  have e_87 := r6 top_ _ (by simp only [List.mem_cons, List.not_mem_nil, or_false, not_or]; exact (Ne.symm (nd_ne ND (i := 2) (j := 28) rfl rfl (by decide)))) e_16
  have e_88 := r6 masks_ _ (by simp only [List.mem_cons, List.not_mem_nil, or_false, not_or]; exact (Ne.symm (nd_ne ND (i := 2) (j := 29) rfl rfl (by decide)))) e_17
  have e_89 := r6 truth_ _ (by simp only [List.mem_cons, List.not_mem_nil, or_false, not_or]; exact (Ne.symm (nd_ne ND (i := 2) (j := 32) rfl rfl (by decide)))) e_18
  have e_90 := r6 texts_ _ (by simp only [List.mem_cons, List.not_mem_nil, or_false, not_or]; exact (Ne.symm (nd_ne ND (i := 2) (j := 5) rfl rfl (by decide)))) e_19
  have e_91 := r6 sizes_ _ (by simp only [List.mem_cons, List.not_mem_nil, or_false, not_or]; exact (Ne.symm (nd_ne ND (i := 2) (j := 6) rfl rfl (by decide)))) e_20
  have e_92 := r6 weights_ _ (by simp only [List.mem_cons, List.not_mem_nil, or_false, not_or]; exact (Ne.symm (nd_ne ND (i := 2) (j := 7) rfl rfl (by decide)))) e_21
  have e_93 := r6 live_ _ (by simp only [List.mem_cons, List.not_mem_nil, or_false, not_or]; exact (Ne.symm (nd_ne ND (i := 2) (j := 10) rfl rfl (by decide)))) e_22
  have e_94 := r6 begins_ _ (by simp only [List.mem_cons, List.not_mem_nil, or_false, not_or]; exact (Ne.symm (nd_ne ND (i := 2) (j := 30) rfl rfl (by decide)))) e_23
  have e_95 := r6 lasts_ _ (by simp only [List.mem_cons, List.not_mem_nil, or_false, not_or]; exact (Ne.symm (nd_ne ND (i := 2) (j := 31) rfl rfl (by decide)))) e_24
  have e_96 := r6 answers_ _ (by simp only [List.mem_cons, List.not_mem_nil, or_false, not_or]; exact (Ne.symm (nd_ne ND (i := 2) (j := 33) rfl rfl (by decide)))) e_25
  have e_97 := r6 order_ _ (by simp only [List.mem_cons, List.not_mem_nil, or_false, not_or]; exact (Ne.symm (nd_ne ND (i := 2) (j := 34) rfl rfl (by decide)))) e_26
  have e_98 := r6 scores_ _ (by simp only [List.mem_cons, List.not_mem_nil, or_false, not_or]; exact (Ne.symm (nd_ne ND (i := 2) (j := 35) rfl rfl (by decide)))) e_27
  have e_99 := r6 m _ (by simp only [List.mem_cons, List.not_mem_nil, or_false, not_or]; exact (Ne.symm (nd_ne ND (i := 2) (j := 0) rfl rfl (by decide)))) e_2
  have r_100 := r_28.trans (r6.mono (by simp))
  refine s_Model_ask_33 l_31 e_99 g_38 ?_
  rw [xw_up_up]
  refine x_u1 (fun h_101 e_102 f_103 => ?_)
  have e_104 := (f_103 draft_ (nd_ne ND (i := 1) (j := 0) rfl rfl (by decide))).trans e_76
  have e_105 := (f_103 asked_ (nd_ne ND (i := 2) (j := 0) rfl rfl (by decide))).trans ea6
  have e_106 := (f_103 firstToken_ (nd_ne ND (i := 18) (j := 0) rfl rfl (by decide))).trans e_77
  have e_107 := (f_103 starred_ (nd_ne ND (i := 19) (j := 0) rfl rfl (by decide))).trans e_78
  have e_108 := (f_103 tokenAt_ (nd_ne ND (i := 20) (j := 0) rfl rfl (by decide))).trans e_79
  have e_109 := (f_103 tokenSize_ (nd_ne ND (i := 21) (j := 0) rfl rfl (by decide))).trans e_80
  have e_110 := (f_103 groupKind_ (nd_ne ND (i := 22) (j := 0) rfl rfl (by decide))).trans e_81
  have e_111 := (f_103 groupPhrase_ (nd_ne ND (i := 23) (j := 0) rfl rfl (by decide))).trans e_82
  have e_112 := (f_103 groupSize_ (nd_ne ND (i := 24) (j := 0) rfl rfl (by decide))).trans e_83
  have e_113 := (f_103 groupMask_ (nd_ne ND (i := 25) (j := 0) rfl rfl (by decide))).trans e_84
  have e_114 := (f_103 groupFar_ (nd_ne ND (i := 26) (j := 0) rfl rfl (by decide))).trans e_85
  have e_115 := (f_103 out_ (nd_ne ND (i := 27) (j := 0) rfl rfl (by decide))).trans e_86
  have e_116 := (f_103 top_ (nd_ne ND (i := 28) (j := 0) rfl rfl (by decide))).trans e_87
  have e_117 := (f_103 masks_ (nd_ne ND (i := 29) (j := 0) rfl rfl (by decide))).trans e_88
  have e_118 := (f_103 truth_ (nd_ne ND (i := 32) (j := 0) rfl rfl (by decide))).trans e_89
  have e_119 := (f_103 texts_ (nd_ne ND (i := 5) (j := 0) rfl rfl (by decide))).trans e_90
  have e_120 := (f_103 sizes_ (nd_ne ND (i := 6) (j := 0) rfl rfl (by decide))).trans e_91
  have e_121 := (f_103 weights_ (nd_ne ND (i := 7) (j := 0) rfl rfl (by decide))).trans e_92
  have e_122 := (f_103 live_ (nd_ne ND (i := 10) (j := 0) rfl rfl (by decide))).trans e_93
  have e_123 := (f_103 begins_ (nd_ne ND (i := 30) (j := 0) rfl rfl (by decide))).trans e_94
  have e_124 := (f_103 lasts_ (nd_ne ND (i := 31) (j := 0) rfl rfl (by decide))).trans e_95
  have e_125 := (f_103 answers_ (nd_ne ND (i := 33) (j := 0) rfl rfl (by decide))).trans e_96
  have e_126 := (f_103 order_ (nd_ne ND (i := 34) (j := 0) rfl rfl (by decide))).trans e_97
  have e_127 := (f_103 scores_ (nd_ne ND (i := 35) (j := 0) rfl rfl (by decide))).trans e_98
  have r_128 := r_100.up (by simp) f_103
  obtain ⟨fs_129, z_130⟩ : ∃ z, z = (fs_29.set 11 (.int (nI dl))).set 10 (.int 0) := ⟨_, rfl⟩
  rw [← z_130] at e_102
  have l_131 : fs_129.length = 62 := by rw [z_130]; simp only [List.length_set]; exact l_31
  have g_132 : fs_129[(0 : Nat)]? = some (.int 0) := by rw [z_130]; exact (xw_gn (by decide) (xw_gn (by decide) g_32))
  have g_133 : fs_129[(3 : Nat)]? = some (.ref draft_) := by rw [z_130]; exact (xw_gn (by decide) (xw_gn (by decide) g_33))
  have g_134 : fs_129[(4 : Nat)]? = some (.ref asked_) := by rw [z_130]; exact (xw_gn (by decide) (xw_gn (by decide) g_34))
  have g_135 : fs_129[(7 : Nat)]? = some (.ref texts_) := by rw [z_130]; exact (xw_gn (by decide) (xw_gn (by decide) g_35))
  have g_136 : fs_129[(8 : Nat)]? = some (.ref sizes_) := by rw [z_130]; exact (xw_gn (by decide) (xw_gn (by decide) g_36))
  have g_137 : fs_129[(9 : Nat)]? = some (.ref weights_) := by rw [z_130]; exact (xw_gn (by decide) (xw_gn (by decide) g_37))
  have g_138 : fs_129[(10 : Nat)]? = some (.int 0) := by rw [z_130]; exact (xw_gs (by simp [l_31]))
  have g_139 : fs_129[(11 : Nat)]? = some (.int (nI dl)) := by rw [z_130]; exact (xw_gn (by decide) (xw_gs (by simp [l_31])))
  have g_140 : fs_129[(14 : Nat)]? = some (.ref live_) := by rw [z_130]; exact (xw_gn (by decide) (xw_gn (by decide) g_40))
  have g_141 : fs_129[(28 : Nat)]? = some (.int y0) := by rw [z_130]; exact (xw_gn (by decide) (xw_gn (by decide) g_41))
  have g_142 : fs_129[(29 : Nat)]? = some (.int y1) := by rw [z_130]; exact (xw_gn (by decide) (xw_gn (by decide) g_42))
  have g_143 : fs_129[(30 : Nat)]? = some (.int y2) := by rw [z_130]; exact (xw_gn (by decide) (xw_gn (by decide) g_43))
  have g_144 : fs_129[(31 : Nat)]? = some (.int y3) := by rw [z_130]; exact (xw_gn (by decide) (xw_gn (by decide) g_44))
  have g_145 : fs_129[(32 : Nat)]? = some (.int wa) := by rw [z_130]; exact (xw_gn (by decide) (xw_gn (by decide) g_45))
  have g_146 : fs_129[(33 : Nat)]? = some (.int y4) := by rw [z_130]; exact (xw_gn (by decide) (xw_gn (by decide) g_46))
  have g_147 : fs_129[(34 : Nat)]? = some (.int y5) := by rw [z_130]; exact (xw_gn (by decide) (xw_gn (by decide) g_47))
  have g_148 : fs_129[(35 : Nat)]? = some (.int y6) := by rw [z_130]; exact (xw_gn (by decide) (xw_gn (by decide) g_48))
  have g_149 : fs_129[(36 : Nat)]? = some (.int y7) := by rw [z_130]; exact (xw_gn (by decide) (xw_gn (by decide) g_49))
  have g_150 : fs_129[(37 : Nat)]? = some (.int y8) := by rw [z_130]; exact (xw_gn (by decide) (xw_gn (by decide) g_50))
  have g_151 : fs_129[(38 : Nat)]? = some (.int y9) := by rw [z_130]; exact (xw_gn (by decide) (xw_gn (by decide) g_51))
  have g_152 : fs_129[(39 : Nat)]? = some (.int y10) := by rw [z_130]; exact (xw_gn (by decide) (xw_gn (by decide) g_52))
  have g_153 : fs_129[(40 : Nat)]? = some (.int gd) := by rw [z_130]; exact (xw_gn (by decide) (xw_gn (by decide) g_53))
  have g_154 : fs_129[(41 : Nat)]? = some (.ref firstToken_) := by rw [z_130]; exact (xw_gn (by decide) (xw_gn (by decide) g_54))
  have g_155 : fs_129[(42 : Nat)]? = some (.ref starred_) := by rw [z_130]; exact (xw_gn (by decide) (xw_gn (by decide) g_55))
  have g_156 : fs_129[(43 : Nat)]? = some (.ref tokenAt_) := by rw [z_130]; exact (xw_gn (by decide) (xw_gn (by decide) g_56))
  have g_157 : fs_129[(44 : Nat)]? = some (.ref tokenSize_) := by rw [z_130]; exact (xw_gn (by decide) (xw_gn (by decide) g_57))
  have g_158 : fs_129[(45 : Nat)]? = some (.ref groupKind_) := by rw [z_130]; exact (xw_gn (by decide) (xw_gn (by decide) g_58))
  have g_159 : fs_129[(46 : Nat)]? = some (.ref groupPhrase_) := by rw [z_130]; exact (xw_gn (by decide) (xw_gn (by decide) g_59))
  have g_160 : fs_129[(47 : Nat)]? = some (.ref groupSize_) := by rw [z_130]; exact (xw_gn (by decide) (xw_gn (by decide) g_60))
  have g_161 : fs_129[(48 : Nat)]? = some (.ref groupMask_) := by rw [z_130]; exact (xw_gn (by decide) (xw_gn (by decide) g_61))
  have g_162 : fs_129[(49 : Nat)]? = some (.ref groupFar_) := by rw [z_130]; exact (xw_gn (by decide) (xw_gn (by decide) g_62))
  have g_163 : fs_129[(50 : Nat)]? = some (.ref out_) := by rw [z_130]; exact (xw_gn (by decide) (xw_gn (by decide) g_63))
  have g_164 : fs_129[(51 : Nat)]? = some (.ref top_) := by rw [z_130]; exact (xw_gn (by decide) (xw_gn (by decide) g_64))
  have g_165 : fs_129[(52 : Nat)]? = some (.ref masks_) := by rw [z_130]; exact (xw_gn (by decide) (xw_gn (by decide) g_65))
  have g_166 : fs_129[(53 : Nat)]? = some (.ref begins_) := by rw [z_130]; exact (xw_gn (by decide) (xw_gn (by decide) g_66))
  have g_167 : fs_129[(54 : Nat)]? = some (.ref lasts_) := by rw [z_130]; exact (xw_gn (by decide) (xw_gn (by decide) g_67))
  have g_168 : fs_129[(55 : Nat)]? = some (.int cl) := by rw [z_130]; exact (xw_gn (by decide) (xw_gn (by decide) g_68))
  have g_169 : fs_129[(56 : Nat)]? = some (.int (nI fn)) := by rw [z_130]; exact (xw_gn (by decide) (xw_gn (by decide) g_69))
  have g_170 : fs_129[(57 : Nat)]? = some (.ref truth_) := by rw [z_130]; exact (xw_gn (by decide) (xw_gn (by decide) g_70))
  have g_171 : fs_129[(58 : Nat)]? = some (.ref answers_) := by rw [z_130]; exact (xw_gn (by decide) (xw_gn (by decide) g_71))
  have g_172 : fs_129[(59 : Nat)]? = some (.ref order_) := by rw [z_130]; exact (xw_gn (by decide) (xw_gn (by decide) g_72))
  have g_173 : fs_129[(60 : Nat)]? = some (.ref scores_) := by rw [z_130]; exact (xw_gn (by decide) (xw_gn (by decide) g_73))
  have g_174 : fs_129[(61 : Nat)]? = some (.int y11) := by rw [z_130]; exact (xw_gn (by decide) (xw_gn (by decide) g_74))
  have ga_175 : ∀ i : Nat, i ∉ [0, 10, 11, 28, 29, 30, 31, 32, 33, 34, 35, 36, 37, 38, 39, 40, 55, 56, 61] → fs_129[i]? = fs[i]? := fun i hi => by rw [z_130]; exact xw_gn (fun z => hi (by rw [z]; simp)) (xw_gn (fun z => hi (by rw [z]; simp)) (ga_75 i hi))
  clear z_130
  refine x_callV (As := []) (b := m) (rest := []) (F1 := 9) (L1 := 190) (mc := 0) (ms := 0) d_Model_ask_47 cV_Model_354 (f_reads l_131 e_102 g_141 g_142 g_143 g_144 g_146 g_147 g_148 g_149 g_150 g_151 g_152 g_139 g_174 g_134 e_105 g_154 e_106 g_155 e_107 g_156 e_108 g_157 e_109 g_158 e_110 g_159 e_111 g_160 e_112 g_161 e_113 g_162 e_114 g_163 e_115 g_164 e_116 g_165 e_117 (ndQ ND) hdl (by omega) (by omega)) e_102 ⟨by decide, rfl⟩ ⟨by omega, by show 8 + (1 + 11) + 190 ≤ _; omega⟩ ⟨by omega, by omega⟩ (Nat.le_of_ble_eq_true rfl) (fun v_177 h_176 p_178 => ?_)
  obtain ⟨rfl, p5, t5, g5, o5, bd5, zz0, zz1, zz2, zz3, zz4, zz5, zz6, zz7, zz8, c15, c25, ca5, cs5, c55, c65, c75, c85, c95, co5, ct5, cm5, fs5, hp12, hgp, HB5, l5, e5, gb5, gp5, go5, gz0, gz1, gz2, gz3, gz4, gz5, gz6, gz7, gz8, ga5, e5_firstToken, e5_starred, e5_tokenAt, e5_tokenSize, e5_groupKind, e5_groupPhrase, e5_groupSize, e5_groupMask, e5_groupFar, e5_out, e5_top, e5_masks, r5⟩ := p_178
  have e_179 := r5 draft_ _ (by simp only [List.mem_cons, List.not_mem_nil, or_false, not_or]; exact ⟨(nd_ne ND (i := 1) (j := 0) rfl rfl (by decide)), (nd_ne ND (i := 1) (j := 18) rfl rfl (by decide)), (nd_ne ND (i := 1) (j := 19) rfl rfl (by decide)), (nd_ne ND (i := 1) (j := 20) rfl rfl (by decide)), (nd_ne ND (i := 1) (j := 21) rfl rfl (by decide)), (nd_ne ND (i := 1) (j := 22) rfl rfl (by decide)), (nd_ne ND (i := 1) (j := 23) rfl rfl (by decide)), (nd_ne ND (i := 1) (j := 24) rfl rfl (by decide)), (nd_ne ND (i := 1) (j := 25) rfl rfl (by decide)), (nd_ne ND (i := 1) (j := 26) rfl rfl (by decide)), (nd_ne ND (i := 1) (j := 27) rfl rfl (by decide)), (nd_ne ND (i := 1) (j := 28) rfl rfl (by decide)), (nd_ne ND (i := 1) (j := 29) rfl rfl (by decide))⟩) e_104
  have e_180 := r5 asked_ _ (by simp only [List.mem_cons, List.not_mem_nil, or_false, not_or]; exact ⟨(nd_ne ND (i := 2) (j := 0) rfl rfl (by decide)), (nd_ne ND (i := 2) (j := 18) rfl rfl (by decide)), (nd_ne ND (i := 2) (j := 19) rfl rfl (by decide)), (nd_ne ND (i := 2) (j := 20) rfl rfl (by decide)), (nd_ne ND (i := 2) (j := 21) rfl rfl (by decide)), (nd_ne ND (i := 2) (j := 22) rfl rfl (by decide)), (nd_ne ND (i := 2) (j := 23) rfl rfl (by decide)), (nd_ne ND (i := 2) (j := 24) rfl rfl (by decide)), (nd_ne ND (i := 2) (j := 25) rfl rfl (by decide)), (nd_ne ND (i := 2) (j := 26) rfl rfl (by decide)), (nd_ne ND (i := 2) (j := 27) rfl rfl (by decide)), (nd_ne ND (i := 2) (j := 28) rfl rfl (by decide)), (nd_ne ND (i := 2) (j := 29) rfl rfl (by decide))⟩) e_105
  have e_181 := r5 truth_ _ (by simp only [List.mem_cons, List.not_mem_nil, or_false, not_or]; exact ⟨(nd_ne ND (i := 32) (j := 0) rfl rfl (by decide)), (Ne.symm (nd_ne ND (i := 18) (j := 32) rfl rfl (by decide))), (Ne.symm (nd_ne ND (i := 19) (j := 32) rfl rfl (by decide))), (Ne.symm (nd_ne ND (i := 20) (j := 32) rfl rfl (by decide))), (Ne.symm (nd_ne ND (i := 21) (j := 32) rfl rfl (by decide))), (Ne.symm (nd_ne ND (i := 22) (j := 32) rfl rfl (by decide))), (Ne.symm (nd_ne ND (i := 23) (j := 32) rfl rfl (by decide))), (Ne.symm (nd_ne ND (i := 24) (j := 32) rfl rfl (by decide))), (Ne.symm (nd_ne ND (i := 25) (j := 32) rfl rfl (by decide))), (Ne.symm (nd_ne ND (i := 26) (j := 32) rfl rfl (by decide))), (Ne.symm (nd_ne ND (i := 27) (j := 32) rfl rfl (by decide))), (Ne.symm (nd_ne ND (i := 28) (j := 32) rfl rfl (by decide))), (Ne.symm (nd_ne ND (i := 29) (j := 32) rfl rfl (by decide)))⟩) e_118
  have e_182 := r5 texts_ _ (by simp only [List.mem_cons, List.not_mem_nil, or_false, not_or]; exact ⟨(nd_ne ND (i := 5) (j := 0) rfl rfl (by decide)), (Ne.symm (nd_ne ND (i := 18) (j := 5) rfl rfl (by decide))), (Ne.symm (nd_ne ND (i := 19) (j := 5) rfl rfl (by decide))), (Ne.symm (nd_ne ND (i := 20) (j := 5) rfl rfl (by decide))), (Ne.symm (nd_ne ND (i := 21) (j := 5) rfl rfl (by decide))), (Ne.symm (nd_ne ND (i := 22) (j := 5) rfl rfl (by decide))), (Ne.symm (nd_ne ND (i := 23) (j := 5) rfl rfl (by decide))), (Ne.symm (nd_ne ND (i := 24) (j := 5) rfl rfl (by decide))), (Ne.symm (nd_ne ND (i := 25) (j := 5) rfl rfl (by decide))), (Ne.symm (nd_ne ND (i := 26) (j := 5) rfl rfl (by decide))), (Ne.symm (nd_ne ND (i := 27) (j := 5) rfl rfl (by decide))), (Ne.symm (nd_ne ND (i := 28) (j := 5) rfl rfl (by decide))), (Ne.symm (nd_ne ND (i := 29) (j := 5) rfl rfl (by decide)))⟩) e_119
  have e_183 := r5 sizes_ _ (by simp only [List.mem_cons, List.not_mem_nil, or_false, not_or]; exact ⟨(nd_ne ND (i := 6) (j := 0) rfl rfl (by decide)), (Ne.symm (nd_ne ND (i := 18) (j := 6) rfl rfl (by decide))), (Ne.symm (nd_ne ND (i := 19) (j := 6) rfl rfl (by decide))), (Ne.symm (nd_ne ND (i := 20) (j := 6) rfl rfl (by decide))), (Ne.symm (nd_ne ND (i := 21) (j := 6) rfl rfl (by decide))), (Ne.symm (nd_ne ND (i := 22) (j := 6) rfl rfl (by decide))), (Ne.symm (nd_ne ND (i := 23) (j := 6) rfl rfl (by decide))), (Ne.symm (nd_ne ND (i := 24) (j := 6) rfl rfl (by decide))), (Ne.symm (nd_ne ND (i := 25) (j := 6) rfl rfl (by decide))), (Ne.symm (nd_ne ND (i := 26) (j := 6) rfl rfl (by decide))), (Ne.symm (nd_ne ND (i := 27) (j := 6) rfl rfl (by decide))), (Ne.symm (nd_ne ND (i := 28) (j := 6) rfl rfl (by decide))), (Ne.symm (nd_ne ND (i := 29) (j := 6) rfl rfl (by decide)))⟩) e_120
  have e_184 := r5 weights_ _ (by simp only [List.mem_cons, List.not_mem_nil, or_false, not_or]; exact ⟨(nd_ne ND (i := 7) (j := 0) rfl rfl (by decide)), (Ne.symm (nd_ne ND (i := 18) (j := 7) rfl rfl (by decide))), (Ne.symm (nd_ne ND (i := 19) (j := 7) rfl rfl (by decide))), (Ne.symm (nd_ne ND (i := 20) (j := 7) rfl rfl (by decide))), (Ne.symm (nd_ne ND (i := 21) (j := 7) rfl rfl (by decide))), (Ne.symm (nd_ne ND (i := 22) (j := 7) rfl rfl (by decide))), (Ne.symm (nd_ne ND (i := 23) (j := 7) rfl rfl (by decide))), (Ne.symm (nd_ne ND (i := 24) (j := 7) rfl rfl (by decide))), (Ne.symm (nd_ne ND (i := 25) (j := 7) rfl rfl (by decide))), (Ne.symm (nd_ne ND (i := 26) (j := 7) rfl rfl (by decide))), (Ne.symm (nd_ne ND (i := 27) (j := 7) rfl rfl (by decide))), (Ne.symm (nd_ne ND (i := 28) (j := 7) rfl rfl (by decide))), (Ne.symm (nd_ne ND (i := 29) (j := 7) rfl rfl (by decide)))⟩) e_121
  have e_185 := r5 live_ _ (by simp only [List.mem_cons, List.not_mem_nil, or_false, not_or]; exact ⟨(nd_ne ND (i := 10) (j := 0) rfl rfl (by decide)), (Ne.symm (nd_ne ND (i := 18) (j := 10) rfl rfl (by decide))), (Ne.symm (nd_ne ND (i := 19) (j := 10) rfl rfl (by decide))), (Ne.symm (nd_ne ND (i := 20) (j := 10) rfl rfl (by decide))), (Ne.symm (nd_ne ND (i := 21) (j := 10) rfl rfl (by decide))), (Ne.symm (nd_ne ND (i := 22) (j := 10) rfl rfl (by decide))), (Ne.symm (nd_ne ND (i := 23) (j := 10) rfl rfl (by decide))), (Ne.symm (nd_ne ND (i := 24) (j := 10) rfl rfl (by decide))), (Ne.symm (nd_ne ND (i := 25) (j := 10) rfl rfl (by decide))), (Ne.symm (nd_ne ND (i := 26) (j := 10) rfl rfl (by decide))), (Ne.symm (nd_ne ND (i := 27) (j := 10) rfl rfl (by decide))), (Ne.symm (nd_ne ND (i := 28) (j := 10) rfl rfl (by decide))), (Ne.symm (nd_ne ND (i := 29) (j := 10) rfl rfl (by decide)))⟩) e_122
  have e_186 := r5 begins_ _ (by simp only [List.mem_cons, List.not_mem_nil, or_false, not_or]; exact ⟨(nd_ne ND (i := 30) (j := 0) rfl rfl (by decide)), (Ne.symm (nd_ne ND (i := 18) (j := 30) rfl rfl (by decide))), (Ne.symm (nd_ne ND (i := 19) (j := 30) rfl rfl (by decide))), (Ne.symm (nd_ne ND (i := 20) (j := 30) rfl rfl (by decide))), (Ne.symm (nd_ne ND (i := 21) (j := 30) rfl rfl (by decide))), (Ne.symm (nd_ne ND (i := 22) (j := 30) rfl rfl (by decide))), (Ne.symm (nd_ne ND (i := 23) (j := 30) rfl rfl (by decide))), (Ne.symm (nd_ne ND (i := 24) (j := 30) rfl rfl (by decide))), (Ne.symm (nd_ne ND (i := 25) (j := 30) rfl rfl (by decide))), (Ne.symm (nd_ne ND (i := 26) (j := 30) rfl rfl (by decide))), (Ne.symm (nd_ne ND (i := 27) (j := 30) rfl rfl (by decide))), (Ne.symm (nd_ne ND (i := 28) (j := 30) rfl rfl (by decide))), (Ne.symm (nd_ne ND (i := 29) (j := 30) rfl rfl (by decide)))⟩) e_123
  have e_187 := r5 lasts_ _ (by simp only [List.mem_cons, List.not_mem_nil, or_false, not_or]; exact ⟨(nd_ne ND (i := 31) (j := 0) rfl rfl (by decide)), (Ne.symm (nd_ne ND (i := 18) (j := 31) rfl rfl (by decide))), (Ne.symm (nd_ne ND (i := 19) (j := 31) rfl rfl (by decide))), (Ne.symm (nd_ne ND (i := 20) (j := 31) rfl rfl (by decide))), (Ne.symm (nd_ne ND (i := 21) (j := 31) rfl rfl (by decide))), (Ne.symm (nd_ne ND (i := 22) (j := 31) rfl rfl (by decide))), (Ne.symm (nd_ne ND (i := 23) (j := 31) rfl rfl (by decide))), (Ne.symm (nd_ne ND (i := 24) (j := 31) rfl rfl (by decide))), (Ne.symm (nd_ne ND (i := 25) (j := 31) rfl rfl (by decide))), (Ne.symm (nd_ne ND (i := 26) (j := 31) rfl rfl (by decide))), (Ne.symm (nd_ne ND (i := 27) (j := 31) rfl rfl (by decide))), (Ne.symm (nd_ne ND (i := 28) (j := 31) rfl rfl (by decide))), (Ne.symm (nd_ne ND (i := 29) (j := 31) rfl rfl (by decide)))⟩) e_124
  have e_188 := r5 answers_ _ (by simp only [List.mem_cons, List.not_mem_nil, or_false, not_or]; exact ⟨(nd_ne ND (i := 33) (j := 0) rfl rfl (by decide)), (Ne.symm (nd_ne ND (i := 18) (j := 33) rfl rfl (by decide))), (Ne.symm (nd_ne ND (i := 19) (j := 33) rfl rfl (by decide))), (Ne.symm (nd_ne ND (i := 20) (j := 33) rfl rfl (by decide))), (Ne.symm (nd_ne ND (i := 21) (j := 33) rfl rfl (by decide))), (Ne.symm (nd_ne ND (i := 22) (j := 33) rfl rfl (by decide))), (Ne.symm (nd_ne ND (i := 23) (j := 33) rfl rfl (by decide))), (Ne.symm (nd_ne ND (i := 24) (j := 33) rfl rfl (by decide))), (Ne.symm (nd_ne ND (i := 25) (j := 33) rfl rfl (by decide))), (Ne.symm (nd_ne ND (i := 26) (j := 33) rfl rfl (by decide))), (Ne.symm (nd_ne ND (i := 27) (j := 33) rfl rfl (by decide))), (Ne.symm (nd_ne ND (i := 28) (j := 33) rfl rfl (by decide))), (Ne.symm (nd_ne ND (i := 29) (j := 33) rfl rfl (by decide)))⟩) e_125
  have e_189 := r5 order_ _ (by simp only [List.mem_cons, List.not_mem_nil, or_false, not_or]; exact ⟨(nd_ne ND (i := 34) (j := 0) rfl rfl (by decide)), (Ne.symm (nd_ne ND (i := 18) (j := 34) rfl rfl (by decide))), (Ne.symm (nd_ne ND (i := 19) (j := 34) rfl rfl (by decide))), (Ne.symm (nd_ne ND (i := 20) (j := 34) rfl rfl (by decide))), (Ne.symm (nd_ne ND (i := 21) (j := 34) rfl rfl (by decide))), (Ne.symm (nd_ne ND (i := 22) (j := 34) rfl rfl (by decide))), (Ne.symm (nd_ne ND (i := 23) (j := 34) rfl rfl (by decide))), (Ne.symm (nd_ne ND (i := 24) (j := 34) rfl rfl (by decide))), (Ne.symm (nd_ne ND (i := 25) (j := 34) rfl rfl (by decide))), (Ne.symm (nd_ne ND (i := 26) (j := 34) rfl rfl (by decide))), (Ne.symm (nd_ne ND (i := 27) (j := 34) rfl rfl (by decide))), (Ne.symm (nd_ne ND (i := 28) (j := 34) rfl rfl (by decide))), (Ne.symm (nd_ne ND (i := 29) (j := 34) rfl rfl (by decide)))⟩) e_126
  have e_190 := r5 scores_ _ (by simp only [List.mem_cons, List.not_mem_nil, or_false, not_or]; exact ⟨(nd_ne ND (i := 35) (j := 0) rfl rfl (by decide)), (Ne.symm (nd_ne ND (i := 18) (j := 35) rfl rfl (by decide))), (Ne.symm (nd_ne ND (i := 19) (j := 35) rfl rfl (by decide))), (Ne.symm (nd_ne ND (i := 20) (j := 35) rfl rfl (by decide))), (Ne.symm (nd_ne ND (i := 21) (j := 35) rfl rfl (by decide))), (Ne.symm (nd_ne ND (i := 22) (j := 35) rfl rfl (by decide))), (Ne.symm (nd_ne ND (i := 23) (j := 35) rfl rfl (by decide))), (Ne.symm (nd_ne ND (i := 24) (j := 35) rfl rfl (by decide))), (Ne.symm (nd_ne ND (i := 25) (j := 35) rfl rfl (by decide))), (Ne.symm (nd_ne ND (i := 26) (j := 35) rfl rfl (by decide))), (Ne.symm (nd_ne ND (i := 27) (j := 35) rfl rfl (by decide))), (Ne.symm (nd_ne ND (i := 28) (j := 35) rfl rfl (by decide))), (Ne.symm (nd_ne ND (i := 29) (j := 35) rfl rfl (by decide)))⟩) e_127
  have r_191 := r_128.trans (r5.mono (by simp))
  have g_192 : fs5[(0 : Nat)]? = some (.int 0) := (ga5 0 (by decide)).trans g_132
  have g_193 : fs5[(3 : Nat)]? = some (.ref draft_) := (ga5 3 (by decide)).trans g_133
  have g_194 : fs5[(4 : Nat)]? = some (.ref asked_) := (ga5 4 (by decide)).trans g_134
  have g_195 : fs5[(7 : Nat)]? = some (.ref texts_) := (ga5 7 (by decide)).trans g_135
  have g_196 : fs5[(8 : Nat)]? = some (.ref sizes_) := (ga5 8 (by decide)).trans g_136
  have g_197 : fs5[(9 : Nat)]? = some (.ref weights_) := (ga5 9 (by decide)).trans g_137
  have g_198 : fs5[(10 : Nat)]? = some (.int 0) := (ga5 10 (by decide)).trans g_138
  have g_199 : fs5[(11 : Nat)]? = some (.int (nI dl)) := (ga5 11 (by decide)).trans g_139
  have g_200 : fs5[(14 : Nat)]? = some (.ref live_) := (ga5 14 (by decide)).trans g_140
  have g_201 : fs5[(32 : Nat)]? = some (.int wa) := (ga5 32 (by decide)).trans g_145
  have g_202 : fs5[(40 : Nat)]? = some (.int gd) := (ga5 40 (by decide)).trans g_153
  have g_203 : fs5[(41 : Nat)]? = some (.ref firstToken_) := (ga5 41 (by decide)).trans g_154
  have g_204 : fs5[(42 : Nat)]? = some (.ref starred_) := (ga5 42 (by decide)).trans g_155
  have g_205 : fs5[(43 : Nat)]? = some (.ref tokenAt_) := (ga5 43 (by decide)).trans g_156
  have g_206 : fs5[(44 : Nat)]? = some (.ref tokenSize_) := (ga5 44 (by decide)).trans g_157
  have g_207 : fs5[(45 : Nat)]? = some (.ref groupKind_) := (ga5 45 (by decide)).trans g_158
  have g_208 : fs5[(46 : Nat)]? = some (.ref groupPhrase_) := (ga5 46 (by decide)).trans g_159
  have g_209 : fs5[(47 : Nat)]? = some (.ref groupSize_) := (ga5 47 (by decide)).trans g_160
  have g_210 : fs5[(48 : Nat)]? = some (.ref groupMask_) := (ga5 48 (by decide)).trans g_161
  have g_211 : fs5[(49 : Nat)]? = some (.ref groupFar_) := (ga5 49 (by decide)).trans g_162
  have g_212 : fs5[(50 : Nat)]? = some (.ref out_) := (ga5 50 (by decide)).trans g_163
  have g_213 : fs5[(51 : Nat)]? = some (.ref top_) := (ga5 51 (by decide)).trans g_164
  have g_214 : fs5[(52 : Nat)]? = some (.ref masks_) := (ga5 52 (by decide)).trans g_165
  have g_215 : fs5[(53 : Nat)]? = some (.ref begins_) := (ga5 53 (by decide)).trans g_166
  have g_216 : fs5[(54 : Nat)]? = some (.ref lasts_) := (ga5 54 (by decide)).trans g_167
  have g_217 : fs5[(55 : Nat)]? = some (.int cl) := (ga5 55 (by decide)).trans g_168
  have g_218 : fs5[(56 : Nat)]? = some (.int (nI fn)) := (ga5 56 (by decide)).trans g_169
  have g_219 : fs5[(57 : Nat)]? = some (.ref truth_) := (ga5 57 (by decide)).trans g_170
  have g_220 : fs5[(58 : Nat)]? = some (.ref answers_) := (ga5 58 (by decide)).trans g_171
  have g_221 : fs5[(59 : Nat)]? = some (.ref order_) := (ga5 59 (by decide)).trans g_172
  have g_222 : fs5[(60 : Nat)]? = some (.ref scores_) := (ga5 60 (by decide)).trans g_173
  have ga_223 : ∀ i : Nat, i ∉ [0, 10, 11, 28, 29, 30, 31, 32, 33, 34, 35, 36, 37, 38, 39, 40, 55, 56, 61] → fs5[i]? = fs[i]? := fun i hi => (ga5 i (fun z => hi (by simp only [List.mem_cons, List.not_mem_nil, or_false] at z ⊢; omega))).trans (ga_175 i hi)
  refine s_Model_ask_50 l5 e5 gb5 (fun z_224 => ?_) (fun z_225 => ?_)
  · skip
    refine x_u1 (fun h_226 e_227 f_228 => ?_)
    have e_229 := (f_228 draft_ (nd_ne ND (i := 1) (j := 0) rfl rfl (by decide))).trans e_179
    have e_230 := (f_228 asked_ (nd_ne ND (i := 2) (j := 0) rfl rfl (by decide))).trans e_180
    have e_231 := (f_228 firstToken_ (nd_ne ND (i := 18) (j := 0) rfl rfl (by decide))).trans e5_firstToken
    have e_232 := (f_228 starred_ (nd_ne ND (i := 19) (j := 0) rfl rfl (by decide))).trans e5_starred
    have e_233 := (f_228 tokenAt_ (nd_ne ND (i := 20) (j := 0) rfl rfl (by decide))).trans e5_tokenAt
    have e_234 := (f_228 tokenSize_ (nd_ne ND (i := 21) (j := 0) rfl rfl (by decide))).trans e5_tokenSize
    have e_235 := (f_228 groupKind_ (nd_ne ND (i := 22) (j := 0) rfl rfl (by decide))).trans e5_groupKind
    have e_236 := (f_228 groupPhrase_ (nd_ne ND (i := 23) (j := 0) rfl rfl (by decide))).trans e5_groupPhrase
    have e_237 := (f_228 groupSize_ (nd_ne ND (i := 24) (j := 0) rfl rfl (by decide))).trans e5_groupSize
    have e_238 := (f_228 groupMask_ (nd_ne ND (i := 25) (j := 0) rfl rfl (by decide))).trans e5_groupMask
    have e_239 := (f_228 groupFar_ (nd_ne ND (i := 26) (j := 0) rfl rfl (by decide))).trans e5_groupFar
    have e_240 := (f_228 out_ (nd_ne ND (i := 27) (j := 0) rfl rfl (by decide))).trans e5_out
    have e_241 := (f_228 top_ (nd_ne ND (i := 28) (j := 0) rfl rfl (by decide))).trans e5_top
    have e_242 := (f_228 masks_ (nd_ne ND (i := 29) (j := 0) rfl rfl (by decide))).trans e5_masks
    have e_243 := (f_228 truth_ (nd_ne ND (i := 32) (j := 0) rfl rfl (by decide))).trans e_181
    have e_244 := (f_228 texts_ (nd_ne ND (i := 5) (j := 0) rfl rfl (by decide))).trans e_182
    have e_245 := (f_228 sizes_ (nd_ne ND (i := 6) (j := 0) rfl rfl (by decide))).trans e_183
    have e_246 := (f_228 weights_ (nd_ne ND (i := 7) (j := 0) rfl rfl (by decide))).trans e_184
    have e_247 := (f_228 live_ (nd_ne ND (i := 10) (j := 0) rfl rfl (by decide))).trans e_185
    have e_248 := (f_228 begins_ (nd_ne ND (i := 30) (j := 0) rfl rfl (by decide))).trans e_186
    have e_249 := (f_228 lasts_ (nd_ne ND (i := 31) (j := 0) rfl rfl (by decide))).trans e_187
    have e_250 := (f_228 answers_ (nd_ne ND (i := 33) (j := 0) rfl rfl (by decide))).trans e_188
    have e_251 := (f_228 order_ (nd_ne ND (i := 34) (j := 0) rfl rfl (by decide))).trans e_189
    have e_252 := (f_228 scores_ (nd_ne ND (i := 35) (j := 0) rfl rfl (by decide))).trans e_190
    have r_253 := r_191.up (by simp) f_228
    obtain ⟨fs_254, z_255⟩ : ∃ z, z = fs5.set 32 (.int bd5) := ⟨_, rfl⟩
    rw [← z_255] at e_227
    have l_256 : fs_254.length = 62 := by rw [z_255]; simp only [List.length_set]; exact l5
    have g_257 : fs_254[(0 : Nat)]? = some (.int 0) := by rw [z_255]; exact (xw_gn (by decide) g_192)
    have g_258 : fs_254[(3 : Nat)]? = some (.ref draft_) := by rw [z_255]; exact (xw_gn (by decide) g_193)
    have g_259 : fs_254[(4 : Nat)]? = some (.ref asked_) := by rw [z_255]; exact (xw_gn (by decide) g_194)
    have g_260 : fs_254[(7 : Nat)]? = some (.ref texts_) := by rw [z_255]; exact (xw_gn (by decide) g_195)
    have g_261 : fs_254[(8 : Nat)]? = some (.ref sizes_) := by rw [z_255]; exact (xw_gn (by decide) g_196)
    have g_262 : fs_254[(9 : Nat)]? = some (.ref weights_) := by rw [z_255]; exact (xw_gn (by decide) g_197)
    have g_263 : fs_254[(10 : Nat)]? = some (.int 0) := by rw [z_255]; exact (xw_gn (by decide) g_198)
    have g_264 : fs_254[(11 : Nat)]? = some (.int (nI dl)) := by rw [z_255]; exact (xw_gn (by decide) g_199)
    have g_265 : fs_254[(14 : Nat)]? = some (.ref live_) := by rw [z_255]; exact (xw_gn (by decide) g_200)
    have g_266 : fs_254[(28 : Nat)]? = some (.int zz0) := by rw [z_255]; exact (xw_gn (by decide) gz0)
    have g_267 : fs_254[(29 : Nat)]? = some (.int zz1) := by rw [z_255]; exact (xw_gn (by decide) gz1)
    have g_268 : fs_254[(30 : Nat)]? = some (.int zz2) := by rw [z_255]; exact (xw_gn (by decide) gz2)
    have g_269 : fs_254[(31 : Nat)]? = some (.int zz3) := by rw [z_255]; exact (xw_gn (by decide) gz3)
    have g_270 : fs_254[(32 : Nat)]? = some (.int bd5) := by rw [z_255]; exact (xw_gs (by simp [l5]))
    have g_271 : fs_254[(33 : Nat)]? = some (.int bd5) := by rw [z_255]; exact (xw_gn (by decide) gb5)
    have g_272 : fs_254[(34 : Nat)]? = some (.int (nI p5)) := by rw [z_255]; exact (xw_gn (by decide) gp5)
    have g_273 : fs_254[(35 : Nat)]? = some (.int zz4) := by rw [z_255]; exact (xw_gn (by decide) gz4)
    have g_274 : fs_254[(36 : Nat)]? = some (.int zz5) := by rw [z_255]; exact (xw_gn (by decide) gz5)
    have g_275 : fs_254[(37 : Nat)]? = some (.int (nI o5)) := by rw [z_255]; exact (xw_gn (by decide) go5)
    have g_276 : fs_254[(38 : Nat)]? = some (.int zz6) := by rw [z_255]; exact (xw_gn (by decide) gz6)
    have g_277 : fs_254[(39 : Nat)]? = some (.int zz7) := by rw [z_255]; exact (xw_gn (by decide) gz7)
    have g_278 : fs_254[(40 : Nat)]? = some (.int gd) := by rw [z_255]; exact (xw_gn (by decide) g_202)
    have g_279 : fs_254[(41 : Nat)]? = some (.ref firstToken_) := by rw [z_255]; exact (xw_gn (by decide) g_203)
    have g_280 : fs_254[(42 : Nat)]? = some (.ref starred_) := by rw [z_255]; exact (xw_gn (by decide) g_204)
    have g_281 : fs_254[(43 : Nat)]? = some (.ref tokenAt_) := by rw [z_255]; exact (xw_gn (by decide) g_205)
    have g_282 : fs_254[(44 : Nat)]? = some (.ref tokenSize_) := by rw [z_255]; exact (xw_gn (by decide) g_206)
    have g_283 : fs_254[(45 : Nat)]? = some (.ref groupKind_) := by rw [z_255]; exact (xw_gn (by decide) g_207)
    have g_284 : fs_254[(46 : Nat)]? = some (.ref groupPhrase_) := by rw [z_255]; exact (xw_gn (by decide) g_208)
    have g_285 : fs_254[(47 : Nat)]? = some (.ref groupSize_) := by rw [z_255]; exact (xw_gn (by decide) g_209)
    have g_286 : fs_254[(48 : Nat)]? = some (.ref groupMask_) := by rw [z_255]; exact (xw_gn (by decide) g_210)
    have g_287 : fs_254[(49 : Nat)]? = some (.ref groupFar_) := by rw [z_255]; exact (xw_gn (by decide) g_211)
    have g_288 : fs_254[(50 : Nat)]? = some (.ref out_) := by rw [z_255]; exact (xw_gn (by decide) g_212)
    have g_289 : fs_254[(51 : Nat)]? = some (.ref top_) := by rw [z_255]; exact (xw_gn (by decide) g_213)
    have g_290 : fs_254[(52 : Nat)]? = some (.ref masks_) := by rw [z_255]; exact (xw_gn (by decide) g_214)
    have g_291 : fs_254[(53 : Nat)]? = some (.ref begins_) := by rw [z_255]; exact (xw_gn (by decide) g_215)
    have g_292 : fs_254[(54 : Nat)]? = some (.ref lasts_) := by rw [z_255]; exact (xw_gn (by decide) g_216)
    have g_293 : fs_254[(55 : Nat)]? = some (.int cl) := by rw [z_255]; exact (xw_gn (by decide) g_217)
    have g_294 : fs_254[(56 : Nat)]? = some (.int (nI fn)) := by rw [z_255]; exact (xw_gn (by decide) g_218)
    have g_295 : fs_254[(57 : Nat)]? = some (.ref truth_) := by rw [z_255]; exact (xw_gn (by decide) g_219)
    have g_296 : fs_254[(58 : Nat)]? = some (.ref answers_) := by rw [z_255]; exact (xw_gn (by decide) g_220)
    have g_297 : fs_254[(59 : Nat)]? = some (.ref order_) := by rw [z_255]; exact (xw_gn (by decide) g_221)
    have g_298 : fs_254[(60 : Nat)]? = some (.ref scores_) := by rw [z_255]; exact (xw_gn (by decide) g_222)
    have g_299 : fs_254[(61 : Nat)]? = some (.int zz8) := by rw [z_255]; exact (xw_gn (by decide) gz8)
    have ga_300 : ∀ i : Nat, i ∉ [0, 10, 11, 28, 29, 30, 31, 32, 33, 34, 35, 36, 37, 38, 39, 40, 55, 56, 61] → fs_254[i]? = fs[i]? := fun i hi => by rw [z_255]; exact xw_gn (fun z => hi (by rw [z]; simp)) (ga_223 i hi)
    clear z_255
    refine s_Model_ask_70 ?_
    refine s_Model_ask_71 ?_
    refine x_callV (As := [.int 0, .int 1]) (b := m) (rest := []) (F1 := 1) (L1 := 20) (mc := 0) (ms := 0) d_Model_ask_72 cV_Model_139 (f_fails0 l_256 e_227 g_257 (by omega) (by omega)) e_227 ⟨by decide, rfl⟩ ⟨by omega, by show 8 + (3 + 11) + 20 ≤ _; omega⟩ ⟨by omega, by omega⟩ (Nat.le_of_ble_eq_true rfl) (fun v_302 h_301 p_303 => ?_)
    obtain ⟨rfl, rfl⟩ := p_303
    refine s_Model_ask_75 (fun z_304 => ?_) (fun z => absurd z (by decide))
    refine s_Model_ask_80 l_256 e_227 g_272 ?_
    rw [xw_up_up]
    refine x_u1 (fun h_305 e_306 f_307 => ?_)
    have e_308 := (f_307 draft_ (nd_ne ND (i := 1) (j := 0) rfl rfl (by decide))).trans e_229
    have e_309 := (f_307 asked_ (nd_ne ND (i := 2) (j := 0) rfl rfl (by decide))).trans e_230
    have e_310 := (f_307 firstToken_ (nd_ne ND (i := 18) (j := 0) rfl rfl (by decide))).trans e_231
    have e_311 := (f_307 starred_ (nd_ne ND (i := 19) (j := 0) rfl rfl (by decide))).trans e_232
    have e_312 := (f_307 tokenAt_ (nd_ne ND (i := 20) (j := 0) rfl rfl (by decide))).trans e_233
    have e_313 := (f_307 tokenSize_ (nd_ne ND (i := 21) (j := 0) rfl rfl (by decide))).trans e_234
    have e_314 := (f_307 groupKind_ (nd_ne ND (i := 22) (j := 0) rfl rfl (by decide))).trans e_235
    have e_315 := (f_307 groupPhrase_ (nd_ne ND (i := 23) (j := 0) rfl rfl (by decide))).trans e_236
    have e_316 := (f_307 groupSize_ (nd_ne ND (i := 24) (j := 0) rfl rfl (by decide))).trans e_237
    have e_317 := (f_307 groupMask_ (nd_ne ND (i := 25) (j := 0) rfl rfl (by decide))).trans e_238
    have e_318 := (f_307 groupFar_ (nd_ne ND (i := 26) (j := 0) rfl rfl (by decide))).trans e_239
    have e_319 := (f_307 out_ (nd_ne ND (i := 27) (j := 0) rfl rfl (by decide))).trans e_240
    have e_320 := (f_307 top_ (nd_ne ND (i := 28) (j := 0) rfl rfl (by decide))).trans e_241
    have e_321 := (f_307 masks_ (nd_ne ND (i := 29) (j := 0) rfl rfl (by decide))).trans e_242
    have e_322 := (f_307 truth_ (nd_ne ND (i := 32) (j := 0) rfl rfl (by decide))).trans e_243
    have e_323 := (f_307 texts_ (nd_ne ND (i := 5) (j := 0) rfl rfl (by decide))).trans e_244
    have e_324 := (f_307 sizes_ (nd_ne ND (i := 6) (j := 0) rfl rfl (by decide))).trans e_245
    have e_325 := (f_307 weights_ (nd_ne ND (i := 7) (j := 0) rfl rfl (by decide))).trans e_246
    have e_326 := (f_307 live_ (nd_ne ND (i := 10) (j := 0) rfl rfl (by decide))).trans e_247
    have e_327 := (f_307 begins_ (nd_ne ND (i := 30) (j := 0) rfl rfl (by decide))).trans e_248
    have e_328 := (f_307 lasts_ (nd_ne ND (i := 31) (j := 0) rfl rfl (by decide))).trans e_249
    have e_329 := (f_307 answers_ (nd_ne ND (i := 33) (j := 0) rfl rfl (by decide))).trans e_250
    have e_330 := (f_307 order_ (nd_ne ND (i := 34) (j := 0) rfl rfl (by decide))).trans e_251
    have e_331 := (f_307 scores_ (nd_ne ND (i := 35) (j := 0) rfl rfl (by decide))).trans e_252
    have r_332 := r_253.up (by simp) f_307
    obtain ⟨fs_333, z_334⟩ : ∃ z, z = (fs_254.set 40 (.int (nI p5))).set 56 (.int 0) := ⟨_, rfl⟩
    rw [← z_334] at e_306
    have l_335 : fs_333.length = 62 := by rw [z_334]; simp only [List.length_set]; exact l_256
    have g_336 : fs_333[(0 : Nat)]? = some (.int 0) := by rw [z_334]; exact (xw_gn (by decide) (xw_gn (by decide) g_257))
    have g_337 : fs_333[(3 : Nat)]? = some (.ref draft_) := by rw [z_334]; exact (xw_gn (by decide) (xw_gn (by decide) g_258))
    have g_338 : fs_333[(4 : Nat)]? = some (.ref asked_) := by rw [z_334]; exact (xw_gn (by decide) (xw_gn (by decide) g_259))
    have g_339 : fs_333[(7 : Nat)]? = some (.ref texts_) := by rw [z_334]; exact (xw_gn (by decide) (xw_gn (by decide) g_260))
    have g_340 : fs_333[(8 : Nat)]? = some (.ref sizes_) := by rw [z_334]; exact (xw_gn (by decide) (xw_gn (by decide) g_261))
    have g_341 : fs_333[(9 : Nat)]? = some (.ref weights_) := by rw [z_334]; exact (xw_gn (by decide) (xw_gn (by decide) g_262))
    have g_342 : fs_333[(10 : Nat)]? = some (.int 0) := by rw [z_334]; exact (xw_gn (by decide) (xw_gn (by decide) g_263))
    have g_343 : fs_333[(11 : Nat)]? = some (.int (nI dl)) := by rw [z_334]; exact (xw_gn (by decide) (xw_gn (by decide) g_264))
    have g_344 : fs_333[(14 : Nat)]? = some (.ref live_) := by rw [z_334]; exact (xw_gn (by decide) (xw_gn (by decide) g_265))
    have g_345 : fs_333[(28 : Nat)]? = some (.int zz0) := by rw [z_334]; exact (xw_gn (by decide) (xw_gn (by decide) g_266))
    have g_346 : fs_333[(29 : Nat)]? = some (.int zz1) := by rw [z_334]; exact (xw_gn (by decide) (xw_gn (by decide) g_267))
    have g_347 : fs_333[(30 : Nat)]? = some (.int zz2) := by rw [z_334]; exact (xw_gn (by decide) (xw_gn (by decide) g_268))
    have g_348 : fs_333[(31 : Nat)]? = some (.int zz3) := by rw [z_334]; exact (xw_gn (by decide) (xw_gn (by decide) g_269))
    have g_349 : fs_333[(32 : Nat)]? = some (.int bd5) := by rw [z_334]; exact (xw_gn (by decide) (xw_gn (by decide) g_270))
    have g_350 : fs_333[(33 : Nat)]? = some (.int bd5) := by rw [z_334]; exact (xw_gn (by decide) (xw_gn (by decide) g_271))
    have g_351 : fs_333[(34 : Nat)]? = some (.int (nI p5)) := by rw [z_334]; exact (xw_gn (by decide) (xw_gn (by decide) g_272))
    have g_352 : fs_333[(35 : Nat)]? = some (.int zz4) := by rw [z_334]; exact (xw_gn (by decide) (xw_gn (by decide) g_273))
    have g_353 : fs_333[(36 : Nat)]? = some (.int zz5) := by rw [z_334]; exact (xw_gn (by decide) (xw_gn (by decide) g_274))
    have g_354 : fs_333[(37 : Nat)]? = some (.int (nI o5)) := by rw [z_334]; exact (xw_gn (by decide) (xw_gn (by decide) g_275))
    have g_355 : fs_333[(38 : Nat)]? = some (.int zz6) := by rw [z_334]; exact (xw_gn (by decide) (xw_gn (by decide) g_276))
    have g_356 : fs_333[(39 : Nat)]? = some (.int zz7) := by rw [z_334]; exact (xw_gn (by decide) (xw_gn (by decide) g_277))
    have g_357 : fs_333[(40 : Nat)]? = some (.int (nI p5)) := by rw [z_334]; exact (xw_gn (by decide) (xw_gs (by simp [l_256])))
    have g_358 : fs_333[(41 : Nat)]? = some (.ref firstToken_) := by rw [z_334]; exact (xw_gn (by decide) (xw_gn (by decide) g_279))
    have g_359 : fs_333[(42 : Nat)]? = some (.ref starred_) := by rw [z_334]; exact (xw_gn (by decide) (xw_gn (by decide) g_280))
    have g_360 : fs_333[(43 : Nat)]? = some (.ref tokenAt_) := by rw [z_334]; exact (xw_gn (by decide) (xw_gn (by decide) g_281))
    have g_361 : fs_333[(44 : Nat)]? = some (.ref tokenSize_) := by rw [z_334]; exact (xw_gn (by decide) (xw_gn (by decide) g_282))
    have g_362 : fs_333[(45 : Nat)]? = some (.ref groupKind_) := by rw [z_334]; exact (xw_gn (by decide) (xw_gn (by decide) g_283))
    have g_363 : fs_333[(46 : Nat)]? = some (.ref groupPhrase_) := by rw [z_334]; exact (xw_gn (by decide) (xw_gn (by decide) g_284))
    have g_364 : fs_333[(47 : Nat)]? = some (.ref groupSize_) := by rw [z_334]; exact (xw_gn (by decide) (xw_gn (by decide) g_285))
    have g_365 : fs_333[(48 : Nat)]? = some (.ref groupMask_) := by rw [z_334]; exact (xw_gn (by decide) (xw_gn (by decide) g_286))
    have g_366 : fs_333[(49 : Nat)]? = some (.ref groupFar_) := by rw [z_334]; exact (xw_gn (by decide) (xw_gn (by decide) g_287))
    have g_367 : fs_333[(50 : Nat)]? = some (.ref out_) := by rw [z_334]; exact (xw_gn (by decide) (xw_gn (by decide) g_288))
    have g_368 : fs_333[(51 : Nat)]? = some (.ref top_) := by rw [z_334]; exact (xw_gn (by decide) (xw_gn (by decide) g_289))
    have g_369 : fs_333[(52 : Nat)]? = some (.ref masks_) := by rw [z_334]; exact (xw_gn (by decide) (xw_gn (by decide) g_290))
    have g_370 : fs_333[(53 : Nat)]? = some (.ref begins_) := by rw [z_334]; exact (xw_gn (by decide) (xw_gn (by decide) g_291))
    have g_371 : fs_333[(54 : Nat)]? = some (.ref lasts_) := by rw [z_334]; exact (xw_gn (by decide) (xw_gn (by decide) g_292))
    have g_372 : fs_333[(55 : Nat)]? = some (.int cl) := by rw [z_334]; exact (xw_gn (by decide) (xw_gn (by decide) g_293))
    have g_373 : fs_333[(56 : Nat)]? = some (.int 0) := by rw [z_334]; exact (xw_gs (by simp [l_256]))
    have g_374 : fs_333[(57 : Nat)]? = some (.ref truth_) := by rw [z_334]; exact (xw_gn (by decide) (xw_gn (by decide) g_295))
    have g_375 : fs_333[(58 : Nat)]? = some (.ref answers_) := by rw [z_334]; exact (xw_gn (by decide) (xw_gn (by decide) g_296))
    have g_376 : fs_333[(59 : Nat)]? = some (.ref order_) := by rw [z_334]; exact (xw_gn (by decide) (xw_gn (by decide) g_297))
    have g_377 : fs_333[(60 : Nat)]? = some (.ref scores_) := by rw [z_334]; exact (xw_gn (by decide) (xw_gn (by decide) g_298))
    have g_378 : fs_333[(61 : Nat)]? = some (.int zz8) := by rw [z_334]; exact (xw_gn (by decide) (xw_gn (by decide) g_299))
    have ga_379 : ∀ i : Nat, i ∉ [0, 10, 11, 28, 29, 30, 31, 32, 33, 34, 35, 36, 37, 38, 39, 40, 55, 56, 61] → fs_333[i]? = fs[i]? := fun i hi => by rw [z_334]; exact xw_gn (fun z => hi (by rw [z]; simp)) (xw_gn (fun z => hi (by rw [z]; simp)) (ga_300 i hi))
    clear z_334
    obtain ⟨ht5, PH5, TK5, GR5, ho5, hO5, hC5⟩ := HB5 z_224
    refine lp_a2 (gs := fs_333) (h0 := h_305) g_354 g_351 g_370 g_371 g_360 g_361 g_339 g_338 g_358 g_359 g_362 g_363 g_364 g_366 g_365 g_340 g_367 g_374 g_344 g_341 g_375 g_376 g_377 e_312 e_313 e_323 e_309 e_310 e_311 e_314 e_315 e_316 e_318 e_317 e_324 e_319 e_326 e_325 ND hp12 PH5 ht5 TK5 GR5 hgp hSZ ho5 hO5 hC5 hwe (by omega) (by omega) (fun h4 fn4 fan4 fo4 fsc4 c134 cl4 fb4 fl4 fs4 l4 e4 gc4 gf4 ga4 eb4 el4 et4 ean4 eo4 es4 hfn4 hord4 r4 => ?_) 24 0 _ 0 _ _ _ _ _ _ _ _ (by omega) l_335 e_306 g_372 g_373 (fun _ _ => rfl) e_327 e_328 e_322 e_329 e_330 e_331 (Nat.le_refl _) (fun _ q => absurd q (Nat.not_lt_zero _)) FrO.rf
    have e_380 := r4 draft_ _ (by simp only [List.mem_cons, List.not_mem_nil, or_false, not_or]; exact ⟨(nd_ne ND (i := 1) (j := 0) rfl rfl (by decide)), (nd_ne ND (i := 1) (j := 30) rfl rfl (by decide)), (nd_ne ND (i := 1) (j := 31) rfl rfl (by decide)), (nd_ne ND (i := 1) (j := 32) rfl rfl (by decide)), (nd_ne ND (i := 1) (j := 33) rfl rfl (by decide)), (nd_ne ND (i := 1) (j := 34) rfl rfl (by decide)), (nd_ne ND (i := 1) (j := 35) rfl rfl (by decide))⟩) e_308
    have e_381 := r4 asked_ _ (by simp only [List.mem_cons, List.not_mem_nil, or_false, not_or]; exact ⟨(nd_ne ND (i := 2) (j := 0) rfl rfl (by decide)), (nd_ne ND (i := 2) (j := 30) rfl rfl (by decide)), (nd_ne ND (i := 2) (j := 31) rfl rfl (by decide)), (nd_ne ND (i := 2) (j := 32) rfl rfl (by decide)), (nd_ne ND (i := 2) (j := 33) rfl rfl (by decide)), (nd_ne ND (i := 2) (j := 34) rfl rfl (by decide)), (nd_ne ND (i := 2) (j := 35) rfl rfl (by decide))⟩) e_309
    have e_382 := r4 firstToken_ _ (by simp only [List.mem_cons, List.not_mem_nil, or_false, not_or]; exact ⟨(nd_ne ND (i := 18) (j := 0) rfl rfl (by decide)), (nd_ne ND (i := 18) (j := 30) rfl rfl (by decide)), (nd_ne ND (i := 18) (j := 31) rfl rfl (by decide)), (nd_ne ND (i := 18) (j := 32) rfl rfl (by decide)), (nd_ne ND (i := 18) (j := 33) rfl rfl (by decide)), (nd_ne ND (i := 18) (j := 34) rfl rfl (by decide)), (nd_ne ND (i := 18) (j := 35) rfl rfl (by decide))⟩) e_310
    have e_383 := r4 starred_ _ (by simp only [List.mem_cons, List.not_mem_nil, or_false, not_or]; exact ⟨(nd_ne ND (i := 19) (j := 0) rfl rfl (by decide)), (nd_ne ND (i := 19) (j := 30) rfl rfl (by decide)), (nd_ne ND (i := 19) (j := 31) rfl rfl (by decide)), (nd_ne ND (i := 19) (j := 32) rfl rfl (by decide)), (nd_ne ND (i := 19) (j := 33) rfl rfl (by decide)), (nd_ne ND (i := 19) (j := 34) rfl rfl (by decide)), (nd_ne ND (i := 19) (j := 35) rfl rfl (by decide))⟩) e_311
    have e_384 := r4 tokenAt_ _ (by simp only [List.mem_cons, List.not_mem_nil, or_false, not_or]; exact ⟨(nd_ne ND (i := 20) (j := 0) rfl rfl (by decide)), (nd_ne ND (i := 20) (j := 30) rfl rfl (by decide)), (nd_ne ND (i := 20) (j := 31) rfl rfl (by decide)), (nd_ne ND (i := 20) (j := 32) rfl rfl (by decide)), (nd_ne ND (i := 20) (j := 33) rfl rfl (by decide)), (nd_ne ND (i := 20) (j := 34) rfl rfl (by decide)), (nd_ne ND (i := 20) (j := 35) rfl rfl (by decide))⟩) e_312
    have e_385 := r4 tokenSize_ _ (by simp only [List.mem_cons, List.not_mem_nil, or_false, not_or]; exact ⟨(nd_ne ND (i := 21) (j := 0) rfl rfl (by decide)), (nd_ne ND (i := 21) (j := 30) rfl rfl (by decide)), (nd_ne ND (i := 21) (j := 31) rfl rfl (by decide)), (nd_ne ND (i := 21) (j := 32) rfl rfl (by decide)), (nd_ne ND (i := 21) (j := 33) rfl rfl (by decide)), (nd_ne ND (i := 21) (j := 34) rfl rfl (by decide)), (nd_ne ND (i := 21) (j := 35) rfl rfl (by decide))⟩) e_313
    have e_386 := r4 groupKind_ _ (by simp only [List.mem_cons, List.not_mem_nil, or_false, not_or]; exact ⟨(nd_ne ND (i := 22) (j := 0) rfl rfl (by decide)), (nd_ne ND (i := 22) (j := 30) rfl rfl (by decide)), (nd_ne ND (i := 22) (j := 31) rfl rfl (by decide)), (nd_ne ND (i := 22) (j := 32) rfl rfl (by decide)), (nd_ne ND (i := 22) (j := 33) rfl rfl (by decide)), (nd_ne ND (i := 22) (j := 34) rfl rfl (by decide)), (nd_ne ND (i := 22) (j := 35) rfl rfl (by decide))⟩) e_314
    have e_387 := r4 groupPhrase_ _ (by simp only [List.mem_cons, List.not_mem_nil, or_false, not_or]; exact ⟨(nd_ne ND (i := 23) (j := 0) rfl rfl (by decide)), (nd_ne ND (i := 23) (j := 30) rfl rfl (by decide)), (nd_ne ND (i := 23) (j := 31) rfl rfl (by decide)), (nd_ne ND (i := 23) (j := 32) rfl rfl (by decide)), (nd_ne ND (i := 23) (j := 33) rfl rfl (by decide)), (nd_ne ND (i := 23) (j := 34) rfl rfl (by decide)), (nd_ne ND (i := 23) (j := 35) rfl rfl (by decide))⟩) e_315
    have e_388 := r4 groupSize_ _ (by simp only [List.mem_cons, List.not_mem_nil, or_false, not_or]; exact ⟨(nd_ne ND (i := 24) (j := 0) rfl rfl (by decide)), (nd_ne ND (i := 24) (j := 30) rfl rfl (by decide)), (nd_ne ND (i := 24) (j := 31) rfl rfl (by decide)), (nd_ne ND (i := 24) (j := 32) rfl rfl (by decide)), (nd_ne ND (i := 24) (j := 33) rfl rfl (by decide)), (nd_ne ND (i := 24) (j := 34) rfl rfl (by decide)), (nd_ne ND (i := 24) (j := 35) rfl rfl (by decide))⟩) e_316
    have e_389 := r4 groupMask_ _ (by simp only [List.mem_cons, List.not_mem_nil, or_false, not_or]; exact ⟨(nd_ne ND (i := 25) (j := 0) rfl rfl (by decide)), (nd_ne ND (i := 25) (j := 30) rfl rfl (by decide)), (nd_ne ND (i := 25) (j := 31) rfl rfl (by decide)), (nd_ne ND (i := 25) (j := 32) rfl rfl (by decide)), (nd_ne ND (i := 25) (j := 33) rfl rfl (by decide)), (nd_ne ND (i := 25) (j := 34) rfl rfl (by decide)), (nd_ne ND (i := 25) (j := 35) rfl rfl (by decide))⟩) e_317
    have e_390 := r4 groupFar_ _ (by simp only [List.mem_cons, List.not_mem_nil, or_false, not_or]; exact ⟨(nd_ne ND (i := 26) (j := 0) rfl rfl (by decide)), (nd_ne ND (i := 26) (j := 30) rfl rfl (by decide)), (nd_ne ND (i := 26) (j := 31) rfl rfl (by decide)), (nd_ne ND (i := 26) (j := 32) rfl rfl (by decide)), (nd_ne ND (i := 26) (j := 33) rfl rfl (by decide)), (nd_ne ND (i := 26) (j := 34) rfl rfl (by decide)), (nd_ne ND (i := 26) (j := 35) rfl rfl (by decide))⟩) e_318
    have e_391 := r4 out_ _ (by simp only [List.mem_cons, List.not_mem_nil, or_false, not_or]; exact ⟨(nd_ne ND (i := 27) (j := 0) rfl rfl (by decide)), (nd_ne ND (i := 27) (j := 30) rfl rfl (by decide)), (nd_ne ND (i := 27) (j := 31) rfl rfl (by decide)), (nd_ne ND (i := 27) (j := 32) rfl rfl (by decide)), (nd_ne ND (i := 27) (j := 33) rfl rfl (by decide)), (nd_ne ND (i := 27) (j := 34) rfl rfl (by decide)), (nd_ne ND (i := 27) (j := 35) rfl rfl (by decide))⟩) e_319
    have e_392 := r4 top_ _ (by simp only [List.mem_cons, List.not_mem_nil, or_false, not_or]; exact ⟨(nd_ne ND (i := 28) (j := 0) rfl rfl (by decide)), (nd_ne ND (i := 28) (j := 30) rfl rfl (by decide)), (nd_ne ND (i := 28) (j := 31) rfl rfl (by decide)), (nd_ne ND (i := 28) (j := 32) rfl rfl (by decide)), (nd_ne ND (i := 28) (j := 33) rfl rfl (by decide)), (nd_ne ND (i := 28) (j := 34) rfl rfl (by decide)), (nd_ne ND (i := 28) (j := 35) rfl rfl (by decide))⟩) e_320
    have e_393 := r4 masks_ _ (by simp only [List.mem_cons, List.not_mem_nil, or_false, not_or]; exact ⟨(nd_ne ND (i := 29) (j := 0) rfl rfl (by decide)), (nd_ne ND (i := 29) (j := 30) rfl rfl (by decide)), (nd_ne ND (i := 29) (j := 31) rfl rfl (by decide)), (nd_ne ND (i := 29) (j := 32) rfl rfl (by decide)), (nd_ne ND (i := 29) (j := 33) rfl rfl (by decide)), (nd_ne ND (i := 29) (j := 34) rfl rfl (by decide)), (nd_ne ND (i := 29) (j := 35) rfl rfl (by decide))⟩) e_321
    have e_394 := r4 texts_ _ (by simp only [List.mem_cons, List.not_mem_nil, or_false, not_or]; exact ⟨(nd_ne ND (i := 5) (j := 0) rfl rfl (by decide)), (nd_ne ND (i := 5) (j := 30) rfl rfl (by decide)), (nd_ne ND (i := 5) (j := 31) rfl rfl (by decide)), (Ne.symm (nd_ne ND (i := 32) (j := 5) rfl rfl (by decide))), (nd_ne ND (i := 5) (j := 33) rfl rfl (by decide)), (nd_ne ND (i := 5) (j := 34) rfl rfl (by decide)), (nd_ne ND (i := 5) (j := 35) rfl rfl (by decide))⟩) e_323
    have e_395 := r4 sizes_ _ (by simp only [List.mem_cons, List.not_mem_nil, or_false, not_or]; exact ⟨(nd_ne ND (i := 6) (j := 0) rfl rfl (by decide)), (nd_ne ND (i := 6) (j := 30) rfl rfl (by decide)), (nd_ne ND (i := 6) (j := 31) rfl rfl (by decide)), (Ne.symm (nd_ne ND (i := 32) (j := 6) rfl rfl (by decide))), (nd_ne ND (i := 6) (j := 33) rfl rfl (by decide)), (nd_ne ND (i := 6) (j := 34) rfl rfl (by decide)), (nd_ne ND (i := 6) (j := 35) rfl rfl (by decide))⟩) e_324
    have e_396 := r4 weights_ _ (by simp only [List.mem_cons, List.not_mem_nil, or_false, not_or]; exact ⟨(nd_ne ND (i := 7) (j := 0) rfl rfl (by decide)), (nd_ne ND (i := 7) (j := 30) rfl rfl (by decide)), (nd_ne ND (i := 7) (j := 31) rfl rfl (by decide)), (Ne.symm (nd_ne ND (i := 32) (j := 7) rfl rfl (by decide))), (nd_ne ND (i := 7) (j := 33) rfl rfl (by decide)), (nd_ne ND (i := 7) (j := 34) rfl rfl (by decide)), (nd_ne ND (i := 7) (j := 35) rfl rfl (by decide))⟩) e_325
    have e_397 := r4 live_ _ (by simp only [List.mem_cons, List.not_mem_nil, or_false, not_or]; exact ⟨(nd_ne ND (i := 10) (j := 0) rfl rfl (by decide)), (nd_ne ND (i := 10) (j := 30) rfl rfl (by decide)), (nd_ne ND (i := 10) (j := 31) rfl rfl (by decide)), (Ne.symm (nd_ne ND (i := 32) (j := 10) rfl rfl (by decide))), (nd_ne ND (i := 10) (j := 33) rfl rfl (by decide)), (nd_ne ND (i := 10) (j := 34) rfl rfl (by decide)), (nd_ne ND (i := 10) (j := 35) rfl rfl (by decide))⟩) e_326
    have r_398 := r_332.trans (r4.mono (by simp))
    have g_399 : fs4[(0 : Nat)]? = some (.int 0) := (ga4 0 (by decide)).trans g_336
    have g_400 : fs4[(3 : Nat)]? = some (.ref draft_) := (ga4 3 (by decide)).trans g_337
    have g_401 : fs4[(4 : Nat)]? = some (.ref asked_) := (ga4 4 (by decide)).trans g_338
    have g_402 : fs4[(7 : Nat)]? = some (.ref texts_) := (ga4 7 (by decide)).trans g_339
    have g_403 : fs4[(8 : Nat)]? = some (.ref sizes_) := (ga4 8 (by decide)).trans g_340
    have g_404 : fs4[(9 : Nat)]? = some (.ref weights_) := (ga4 9 (by decide)).trans g_341
    have g_405 : fs4[(10 : Nat)]? = some (.int 0) := (ga4 10 (by decide)).trans g_342
    have g_406 : fs4[(11 : Nat)]? = some (.int (nI dl)) := (ga4 11 (by decide)).trans g_343
    have g_407 : fs4[(14 : Nat)]? = some (.ref live_) := (ga4 14 (by decide)).trans g_344
    have g_408 : fs4[(28 : Nat)]? = some (.int zz0) := (ga4 28 (by decide)).trans g_345
    have g_409 : fs4[(29 : Nat)]? = some (.int zz1) := (ga4 29 (by decide)).trans g_346
    have g_410 : fs4[(30 : Nat)]? = some (.int zz2) := (ga4 30 (by decide)).trans g_347
    have g_411 : fs4[(31 : Nat)]? = some (.int zz3) := (ga4 31 (by decide)).trans g_348
    have g_412 : fs4[(32 : Nat)]? = some (.int bd5) := (ga4 32 (by decide)).trans g_349
    have g_413 : fs4[(33 : Nat)]? = some (.int bd5) := (ga4 33 (by decide)).trans g_350
    have g_414 : fs4[(34 : Nat)]? = some (.int (nI p5)) := (ga4 34 (by decide)).trans g_351
    have g_415 : fs4[(35 : Nat)]? = some (.int zz4) := (ga4 35 (by decide)).trans g_352
    have g_416 : fs4[(36 : Nat)]? = some (.int zz5) := (ga4 36 (by decide)).trans g_353
    have g_417 : fs4[(37 : Nat)]? = some (.int (nI o5)) := (ga4 37 (by decide)).trans g_354
    have g_418 : fs4[(38 : Nat)]? = some (.int zz6) := (ga4 38 (by decide)).trans g_355
    have g_419 : fs4[(39 : Nat)]? = some (.int zz7) := (ga4 39 (by decide)).trans g_356
    have g_420 : fs4[(40 : Nat)]? = some (.int (nI p5)) := (ga4 40 (by decide)).trans g_357
    have g_421 : fs4[(41 : Nat)]? = some (.ref firstToken_) := (ga4 41 (by decide)).trans g_358
    have g_422 : fs4[(42 : Nat)]? = some (.ref starred_) := (ga4 42 (by decide)).trans g_359
    have g_423 : fs4[(43 : Nat)]? = some (.ref tokenAt_) := (ga4 43 (by decide)).trans g_360
    have g_424 : fs4[(44 : Nat)]? = some (.ref tokenSize_) := (ga4 44 (by decide)).trans g_361
    have g_425 : fs4[(45 : Nat)]? = some (.ref groupKind_) := (ga4 45 (by decide)).trans g_362
    have g_426 : fs4[(46 : Nat)]? = some (.ref groupPhrase_) := (ga4 46 (by decide)).trans g_363
    have g_427 : fs4[(47 : Nat)]? = some (.ref groupSize_) := (ga4 47 (by decide)).trans g_364
    have g_428 : fs4[(48 : Nat)]? = some (.ref groupMask_) := (ga4 48 (by decide)).trans g_365
    have g_429 : fs4[(49 : Nat)]? = some (.ref groupFar_) := (ga4 49 (by decide)).trans g_366
    have g_430 : fs4[(50 : Nat)]? = some (.ref out_) := (ga4 50 (by decide)).trans g_367
    have g_431 : fs4[(51 : Nat)]? = some (.ref top_) := (ga4 51 (by decide)).trans g_368
    have g_432 : fs4[(52 : Nat)]? = some (.ref masks_) := (ga4 52 (by decide)).trans g_369
    have g_433 : fs4[(53 : Nat)]? = some (.ref begins_) := (ga4 53 (by decide)).trans g_370
    have g_434 : fs4[(54 : Nat)]? = some (.ref lasts_) := (ga4 54 (by decide)).trans g_371
    have g_435 : fs4[(57 : Nat)]? = some (.ref truth_) := (ga4 57 (by decide)).trans g_374
    have g_436 : fs4[(58 : Nat)]? = some (.ref answers_) := (ga4 58 (by decide)).trans g_375
    have g_437 : fs4[(59 : Nat)]? = some (.ref order_) := (ga4 59 (by decide)).trans g_376
    have g_438 : fs4[(60 : Nat)]? = some (.ref scores_) := (ga4 60 (by decide)).trans g_377
    have g_439 : fs4[(61 : Nat)]? = some (.int zz8) := (ga4 61 (by decide)).trans g_378
    have ga_440 : ∀ i : Nat, i ∉ [0, 10, 11, 28, 29, 30, 31, 32, 33, 34, 35, 36, 37, 38, 39, 40, 55, 56, 61] → fs4[i]? = fs[i]? := fun i hi => (ga4 i (fun z => hi (by simp only [List.mem_cons, List.not_mem_nil, or_false] at z ⊢; omega))).trans (ga_379 i hi)
    refine s_Model_ask_225 l4 e4 gf4 ?_
    exact ⟨⟨_, rfl⟩, ⟨_, l4, e4, ⟨_, g_399⟩, ⟨0, fd, g_405, g_400, e_380, by omega⟩, (KPr.fr ga_440 r_398 (by decide) (pick_dis ND (l := [m, draft_, asked_, prepared_, preparedSize_, texts_, sizes_, weights_, entries_, lies_, live_, row_, level_, oldTexts_, oldSizes_, oldLies_, oldLive_, oldRow_, firstToken_, starred_, tokenAt_, tokenSize_, groupKind_, groupPhrase_, groupSize_, groupMask_, groupFar_, out_, top_, masks_, begins_, lasts_, truth_, answers_, order_, scores_]) (is := [3, 4]) (js := [0, 2, 18, 19, 20, 21, 22, 23, 24, 25, 26, 27, 28, 29, 30, 31, 32, 33, 34, 35]) (by decide))), (KTx.fr ga_440 r_398 (by decide) (pick_dis ND (l := [m, draft_, asked_, prepared_, preparedSize_, texts_, sizes_, weights_, entries_, lies_, live_, row_, level_, oldTexts_, oldSizes_, oldLies_, oldLive_, oldRow_, firstToken_, starred_, tokenAt_, tokenSize_, groupKind_, groupPhrase_, groupSize_, groupMask_, groupFar_, out_, top_, masks_, begins_, lasts_, truth_, answers_, order_, scores_]) (is := [5, 6]) (js := [0, 2, 18, 19, 20, 21, 22, 23, 24, 25, 26, 27, 28, 29, 30, 31, 32, 33, 34, 35]) (by decide))), (KOt.fr ga_440 r_398 (by decide) (pick_dis ND (l := [m, draft_, asked_, prepared_, preparedSize_, texts_, sizes_, weights_, entries_, lies_, live_, row_, level_, oldTexts_, oldSizes_, oldLies_, oldLive_, oldRow_, firstToken_, starred_, tokenAt_, tokenSize_, groupKind_, groupPhrase_, groupSize_, groupMask_, groupFar_, out_, top_, masks_, begins_, lasts_, truth_, answers_, order_, scores_]) (is := [13, 14]) (js := [0, 2, 18, 19, 20, 21, 22, 23, 24, 25, 26, 27, 28, 29, 30, 31, 32, 33, 34, 35]) (by decide))), (KSt.fr ga_440 r_398 (by decide) (pick_dis ND (l := [m, draft_, asked_, prepared_, preparedSize_, texts_, sizes_, weights_, entries_, lies_, live_, row_, level_, oldTexts_, oldSizes_, oldLies_, oldLive_, oldRow_, firstToken_, starred_, tokenAt_, tokenSize_, groupKind_, groupPhrase_, groupSize_, groupMask_, groupFar_, out_, top_, masks_, begins_, lasts_, truth_, answers_, order_, scores_]) (is := [8, 9, 10, 11, 12, 15, 16, 17]) (js := [0, 2, 18, 19, 20, 21, 22, 23, 24, 25, 26, 27, 28, 29, 30, 31, 32, 33, 34, 35]) (by decide))).succ, (KMo.fr ga_440 r_398 (by decide) (fun _ z => nomatch z)), (KWe.fr ga_440 r_398 (by decide) (pick_dis ND (l := [m, draft_, asked_, prepared_, preparedSize_, texts_, sizes_, weights_, entries_, lies_, live_, row_, level_, oldTexts_, oldSizes_, oldLies_, oldLive_, oldRow_, firstToken_, starred_, tokenAt_, tokenSize_, groupKind_, groupPhrase_, groupSize_, groupMask_, groupFar_, out_, top_, masks_, begins_, lasts_, truth_, answers_, order_, scores_]) (is := [7]) (js := [0, 2, 18, 19, 20, 21, 22, 23, 24, 25, 26, 27, 28, 29, 30, 31, 32, 33, 34, 35]) (by decide))), ⟨_, _, _, gc4, g_433, eb4, g_434, el4⟩, ⟨_, _, fn4, _, _, _, g_412, g_420, gf4, g_436, ean4, g_437, eo4, g_438, es4, hfn4, hord4⟩, ⟨dl, _, _, _, _, _, _, _, _, _, _, _, _, _, _, _, _, _, _, _, _, _, _, _, _, _, _, g_406, g_408, g_409, g_410, g_411, g_413, g_414, g_415, g_416, g_417, g_418, g_419, g_439, g_401, e_381, g_421, e_382, g_422, e_383, g_423, e_384, g_424, e_385, g_425, e_386, g_426, e_387, g_427, e_388, g_428, e_389, g_429, e_390, g_430, e_391, g_431, e_392, g_432, e_393, g_435, et4, hdl⟩⟩, r_398.mono (by simp), r_398, FF.of e e4 ga_440, ⟨_, e4, g_405⟩⟩
  · skip
    refine x_u1 (fun h_441 e_442 f_443 => ?_)
    have e_444 := (f_443 draft_ (nd_ne ND (i := 1) (j := 0) rfl rfl (by decide))).trans e_179
    have e_445 := (f_443 asked_ (nd_ne ND (i := 2) (j := 0) rfl rfl (by decide))).trans e_180
    have e_446 := (f_443 firstToken_ (nd_ne ND (i := 18) (j := 0) rfl rfl (by decide))).trans e5_firstToken
    have e_447 := (f_443 starred_ (nd_ne ND (i := 19) (j := 0) rfl rfl (by decide))).trans e5_starred
    have e_448 := (f_443 tokenAt_ (nd_ne ND (i := 20) (j := 0) rfl rfl (by decide))).trans e5_tokenAt
    have e_449 := (f_443 tokenSize_ (nd_ne ND (i := 21) (j := 0) rfl rfl (by decide))).trans e5_tokenSize
    have e_450 := (f_443 groupKind_ (nd_ne ND (i := 22) (j := 0) rfl rfl (by decide))).trans e5_groupKind
    have e_451 := (f_443 groupPhrase_ (nd_ne ND (i := 23) (j := 0) rfl rfl (by decide))).trans e5_groupPhrase
    have e_452 := (f_443 groupSize_ (nd_ne ND (i := 24) (j := 0) rfl rfl (by decide))).trans e5_groupSize
    have e_453 := (f_443 groupMask_ (nd_ne ND (i := 25) (j := 0) rfl rfl (by decide))).trans e5_groupMask
    have e_454 := (f_443 groupFar_ (nd_ne ND (i := 26) (j := 0) rfl rfl (by decide))).trans e5_groupFar
    have e_455 := (f_443 out_ (nd_ne ND (i := 27) (j := 0) rfl rfl (by decide))).trans e5_out
    have e_456 := (f_443 top_ (nd_ne ND (i := 28) (j := 0) rfl rfl (by decide))).trans e5_top
    have e_457 := (f_443 masks_ (nd_ne ND (i := 29) (j := 0) rfl rfl (by decide))).trans e5_masks
    have e_458 := (f_443 truth_ (nd_ne ND (i := 32) (j := 0) rfl rfl (by decide))).trans e_181
    have e_459 := (f_443 texts_ (nd_ne ND (i := 5) (j := 0) rfl rfl (by decide))).trans e_182
    have e_460 := (f_443 sizes_ (nd_ne ND (i := 6) (j := 0) rfl rfl (by decide))).trans e_183
    have e_461 := (f_443 weights_ (nd_ne ND (i := 7) (j := 0) rfl rfl (by decide))).trans e_184
    have e_462 := (f_443 live_ (nd_ne ND (i := 10) (j := 0) rfl rfl (by decide))).trans e_185
    have e_463 := (f_443 begins_ (nd_ne ND (i := 30) (j := 0) rfl rfl (by decide))).trans e_186
    have e_464 := (f_443 lasts_ (nd_ne ND (i := 31) (j := 0) rfl rfl (by decide))).trans e_187
    have e_465 := (f_443 answers_ (nd_ne ND (i := 33) (j := 0) rfl rfl (by decide))).trans e_188
    have e_466 := (f_443 order_ (nd_ne ND (i := 34) (j := 0) rfl rfl (by decide))).trans e_189
    have e_467 := (f_443 scores_ (nd_ne ND (i := 35) (j := 0) rfl rfl (by decide))).trans e_190
    have r_468 := r_191.up (by simp) f_443
    obtain ⟨fs_469, z_470⟩ : ∃ z, z = fs5.set 32 (.int bd5) := ⟨_, rfl⟩
    rw [← z_470] at e_442
    have l_471 : fs_469.length = 62 := by rw [z_470]; simp only [List.length_set]; exact l5
    have g_472 : fs_469[(0 : Nat)]? = some (.int 0) := by rw [z_470]; exact (xw_gn (by decide) g_192)
    have g_473 : fs_469[(3 : Nat)]? = some (.ref draft_) := by rw [z_470]; exact (xw_gn (by decide) g_193)
    have g_474 : fs_469[(4 : Nat)]? = some (.ref asked_) := by rw [z_470]; exact (xw_gn (by decide) g_194)
    have g_475 : fs_469[(7 : Nat)]? = some (.ref texts_) := by rw [z_470]; exact (xw_gn (by decide) g_195)
    have g_476 : fs_469[(8 : Nat)]? = some (.ref sizes_) := by rw [z_470]; exact (xw_gn (by decide) g_196)
    have g_477 : fs_469[(9 : Nat)]? = some (.ref weights_) := by rw [z_470]; exact (xw_gn (by decide) g_197)
    have g_478 : fs_469[(10 : Nat)]? = some (.int 0) := by rw [z_470]; exact (xw_gn (by decide) g_198)
    have g_479 : fs_469[(11 : Nat)]? = some (.int (nI dl)) := by rw [z_470]; exact (xw_gn (by decide) g_199)
    have g_480 : fs_469[(14 : Nat)]? = some (.ref live_) := by rw [z_470]; exact (xw_gn (by decide) g_200)
    have g_481 : fs_469[(28 : Nat)]? = some (.int zz0) := by rw [z_470]; exact (xw_gn (by decide) gz0)
    have g_482 : fs_469[(29 : Nat)]? = some (.int zz1) := by rw [z_470]; exact (xw_gn (by decide) gz1)
    have g_483 : fs_469[(30 : Nat)]? = some (.int zz2) := by rw [z_470]; exact (xw_gn (by decide) gz2)
    have g_484 : fs_469[(31 : Nat)]? = some (.int zz3) := by rw [z_470]; exact (xw_gn (by decide) gz3)
    have g_485 : fs_469[(32 : Nat)]? = some (.int bd5) := by rw [z_470]; exact (xw_gs (by simp [l5]))
    have g_486 : fs_469[(33 : Nat)]? = some (.int bd5) := by rw [z_470]; exact (xw_gn (by decide) gb5)
    have g_487 : fs_469[(34 : Nat)]? = some (.int (nI p5)) := by rw [z_470]; exact (xw_gn (by decide) gp5)
    have g_488 : fs_469[(35 : Nat)]? = some (.int zz4) := by rw [z_470]; exact (xw_gn (by decide) gz4)
    have g_489 : fs_469[(36 : Nat)]? = some (.int zz5) := by rw [z_470]; exact (xw_gn (by decide) gz5)
    have g_490 : fs_469[(37 : Nat)]? = some (.int (nI o5)) := by rw [z_470]; exact (xw_gn (by decide) go5)
    have g_491 : fs_469[(38 : Nat)]? = some (.int zz6) := by rw [z_470]; exact (xw_gn (by decide) gz6)
    have g_492 : fs_469[(39 : Nat)]? = some (.int zz7) := by rw [z_470]; exact (xw_gn (by decide) gz7)
    have g_493 : fs_469[(40 : Nat)]? = some (.int gd) := by rw [z_470]; exact (xw_gn (by decide) g_202)
    have g_494 : fs_469[(41 : Nat)]? = some (.ref firstToken_) := by rw [z_470]; exact (xw_gn (by decide) g_203)
    have g_495 : fs_469[(42 : Nat)]? = some (.ref starred_) := by rw [z_470]; exact (xw_gn (by decide) g_204)
    have g_496 : fs_469[(43 : Nat)]? = some (.ref tokenAt_) := by rw [z_470]; exact (xw_gn (by decide) g_205)
    have g_497 : fs_469[(44 : Nat)]? = some (.ref tokenSize_) := by rw [z_470]; exact (xw_gn (by decide) g_206)
    have g_498 : fs_469[(45 : Nat)]? = some (.ref groupKind_) := by rw [z_470]; exact (xw_gn (by decide) g_207)
    have g_499 : fs_469[(46 : Nat)]? = some (.ref groupPhrase_) := by rw [z_470]; exact (xw_gn (by decide) g_208)
    have g_500 : fs_469[(47 : Nat)]? = some (.ref groupSize_) := by rw [z_470]; exact (xw_gn (by decide) g_209)
    have g_501 : fs_469[(48 : Nat)]? = some (.ref groupMask_) := by rw [z_470]; exact (xw_gn (by decide) g_210)
    have g_502 : fs_469[(49 : Nat)]? = some (.ref groupFar_) := by rw [z_470]; exact (xw_gn (by decide) g_211)
    have g_503 : fs_469[(50 : Nat)]? = some (.ref out_) := by rw [z_470]; exact (xw_gn (by decide) g_212)
    have g_504 : fs_469[(51 : Nat)]? = some (.ref top_) := by rw [z_470]; exact (xw_gn (by decide) g_213)
    have g_505 : fs_469[(52 : Nat)]? = some (.ref masks_) := by rw [z_470]; exact (xw_gn (by decide) g_214)
    have g_506 : fs_469[(53 : Nat)]? = some (.ref begins_) := by rw [z_470]; exact (xw_gn (by decide) g_215)
    have g_507 : fs_469[(54 : Nat)]? = some (.ref lasts_) := by rw [z_470]; exact (xw_gn (by decide) g_216)
    have g_508 : fs_469[(55 : Nat)]? = some (.int cl) := by rw [z_470]; exact (xw_gn (by decide) g_217)
    have g_509 : fs_469[(56 : Nat)]? = some (.int (nI fn)) := by rw [z_470]; exact (xw_gn (by decide) g_218)
    have g_510 : fs_469[(57 : Nat)]? = some (.ref truth_) := by rw [z_470]; exact (xw_gn (by decide) g_219)
    have g_511 : fs_469[(58 : Nat)]? = some (.ref answers_) := by rw [z_470]; exact (xw_gn (by decide) g_220)
    have g_512 : fs_469[(59 : Nat)]? = some (.ref order_) := by rw [z_470]; exact (xw_gn (by decide) g_221)
    have g_513 : fs_469[(60 : Nat)]? = some (.ref scores_) := by rw [z_470]; exact (xw_gn (by decide) g_222)
    have g_514 : fs_469[(61 : Nat)]? = some (.int zz8) := by rw [z_470]; exact (xw_gn (by decide) gz8)
    have ga_515 : ∀ i : Nat, i ∉ [0, 10, 11, 28, 29, 30, 31, 32, 33, 34, 35, 36, 37, 38, 39, 40, 55, 56, 61] → fs_469[i]? = fs[i]? := fun i hi => by rw [z_470]; exact xw_gn (fun z => hi (by rw [z]; simp)) (ga_223 i hi)
    clear z_470
    refine s_Model_ask_66 ?_
    refine s_Model_ask_71 ?_
    refine x_callV (As := [.int 1, .int 1]) (b := m) (rest := []) (F1 := 1) (L1 := 20) (mc := 0) (ms := 0) d_Model_ask_72 cV_Model_139 (f_fails1 (c := 1) l_471 e_442 g_472 (by decide) (by omega) (by omega)) e_442 ⟨by decide, rfl⟩ ⟨by omega, by show 8 + (3 + 11) + 20 ≤ _; omega⟩ ⟨by omega, by omega⟩ (Nat.le_of_ble_eq_true rfl) (fun v_523 h_522 p_524 => ?_)
    obtain ⟨rfl, fs_516, l_517, e_518, g_520, ga_519, fr_521⟩ := p_524
    have g_525 : fs_516[(3 : Nat)]? = some (.ref draft_) := (ga_519 3 (by decide)).trans g_473
    have g_526 : fs_516[(4 : Nat)]? = some (.ref asked_) := (ga_519 4 (by decide)).trans g_474
    have g_527 : fs_516[(7 : Nat)]? = some (.ref texts_) := (ga_519 7 (by decide)).trans g_475
    have g_528 : fs_516[(8 : Nat)]? = some (.ref sizes_) := (ga_519 8 (by decide)).trans g_476
    have g_529 : fs_516[(9 : Nat)]? = some (.ref weights_) := (ga_519 9 (by decide)).trans g_477
    have g_530 : fs_516[(10 : Nat)]? = some (.int 0) := (ga_519 10 (by decide)).trans g_478
    have g_531 : fs_516[(11 : Nat)]? = some (.int (nI dl)) := (ga_519 11 (by decide)).trans g_479
    have g_532 : fs_516[(14 : Nat)]? = some (.ref live_) := (ga_519 14 (by decide)).trans g_480
    have g_533 : fs_516[(28 : Nat)]? = some (.int zz0) := (ga_519 28 (by decide)).trans g_481
    have g_534 : fs_516[(29 : Nat)]? = some (.int zz1) := (ga_519 29 (by decide)).trans g_482
    have g_535 : fs_516[(30 : Nat)]? = some (.int zz2) := (ga_519 30 (by decide)).trans g_483
    have g_536 : fs_516[(31 : Nat)]? = some (.int zz3) := (ga_519 31 (by decide)).trans g_484
    have g_537 : fs_516[(32 : Nat)]? = some (.int bd5) := (ga_519 32 (by decide)).trans g_485
    have g_538 : fs_516[(33 : Nat)]? = some (.int bd5) := (ga_519 33 (by decide)).trans g_486
    have g_539 : fs_516[(34 : Nat)]? = some (.int (nI p5)) := (ga_519 34 (by decide)).trans g_487
    have g_540 : fs_516[(35 : Nat)]? = some (.int zz4) := (ga_519 35 (by decide)).trans g_488
    have g_541 : fs_516[(36 : Nat)]? = some (.int zz5) := (ga_519 36 (by decide)).trans g_489
    have g_542 : fs_516[(37 : Nat)]? = some (.int (nI o5)) := (ga_519 37 (by decide)).trans g_490
    have g_543 : fs_516[(38 : Nat)]? = some (.int zz6) := (ga_519 38 (by decide)).trans g_491
    have g_544 : fs_516[(39 : Nat)]? = some (.int zz7) := (ga_519 39 (by decide)).trans g_492
    have g_545 : fs_516[(40 : Nat)]? = some (.int gd) := (ga_519 40 (by decide)).trans g_493
    have g_546 : fs_516[(41 : Nat)]? = some (.ref firstToken_) := (ga_519 41 (by decide)).trans g_494
    have g_547 : fs_516[(42 : Nat)]? = some (.ref starred_) := (ga_519 42 (by decide)).trans g_495
    have g_548 : fs_516[(43 : Nat)]? = some (.ref tokenAt_) := (ga_519 43 (by decide)).trans g_496
    have g_549 : fs_516[(44 : Nat)]? = some (.ref tokenSize_) := (ga_519 44 (by decide)).trans g_497
    have g_550 : fs_516[(45 : Nat)]? = some (.ref groupKind_) := (ga_519 45 (by decide)).trans g_498
    have g_551 : fs_516[(46 : Nat)]? = some (.ref groupPhrase_) := (ga_519 46 (by decide)).trans g_499
    have g_552 : fs_516[(47 : Nat)]? = some (.ref groupSize_) := (ga_519 47 (by decide)).trans g_500
    have g_553 : fs_516[(48 : Nat)]? = some (.ref groupMask_) := (ga_519 48 (by decide)).trans g_501
    have g_554 : fs_516[(49 : Nat)]? = some (.ref groupFar_) := (ga_519 49 (by decide)).trans g_502
    have g_555 : fs_516[(50 : Nat)]? = some (.ref out_) := (ga_519 50 (by decide)).trans g_503
    have g_556 : fs_516[(51 : Nat)]? = some (.ref top_) := (ga_519 51 (by decide)).trans g_504
    have g_557 : fs_516[(52 : Nat)]? = some (.ref masks_) := (ga_519 52 (by decide)).trans g_505
    have g_558 : fs_516[(53 : Nat)]? = some (.ref begins_) := (ga_519 53 (by decide)).trans g_506
    have g_559 : fs_516[(54 : Nat)]? = some (.ref lasts_) := (ga_519 54 (by decide)).trans g_507
    have g_560 : fs_516[(55 : Nat)]? = some (.int cl) := (ga_519 55 (by decide)).trans g_508
    have g_561 : fs_516[(56 : Nat)]? = some (.int (nI fn)) := (ga_519 56 (by decide)).trans g_509
    have g_562 : fs_516[(57 : Nat)]? = some (.ref truth_) := (ga_519 57 (by decide)).trans g_510
    have g_563 : fs_516[(58 : Nat)]? = some (.ref answers_) := (ga_519 58 (by decide)).trans g_511
    have g_564 : fs_516[(59 : Nat)]? = some (.ref order_) := (ga_519 59 (by decide)).trans g_512
    have g_565 : fs_516[(60 : Nat)]? = some (.ref scores_) := (ga_519 60 (by decide)).trans g_513
    have g_566 : fs_516[(61 : Nat)]? = some (.int zz8) := (ga_519 61 (by decide)).trans g_514
    have e_567 := fr_521 draft_ _ (by simp only [List.mem_cons, List.not_mem_nil, or_false, not_or]; exact (nd_ne ND (i := 1) (j := 0) rfl rfl (by decide))) e_444
    have e_568 := fr_521 asked_ _ (by simp only [List.mem_cons, List.not_mem_nil, or_false, not_or]; exact (nd_ne ND (i := 2) (j := 0) rfl rfl (by decide))) e_445
    have e_569 := fr_521 firstToken_ _ (by simp only [List.mem_cons, List.not_mem_nil, or_false, not_or]; exact (nd_ne ND (i := 18) (j := 0) rfl rfl (by decide))) e_446
    have e_570 := fr_521 starred_ _ (by simp only [List.mem_cons, List.not_mem_nil, or_false, not_or]; exact (nd_ne ND (i := 19) (j := 0) rfl rfl (by decide))) e_447
    have e_571 := fr_521 tokenAt_ _ (by simp only [List.mem_cons, List.not_mem_nil, or_false, not_or]; exact (nd_ne ND (i := 20) (j := 0) rfl rfl (by decide))) e_448
    have e_572 := fr_521 tokenSize_ _ (by simp only [List.mem_cons, List.not_mem_nil, or_false, not_or]; exact (nd_ne ND (i := 21) (j := 0) rfl rfl (by decide))) e_449
    have e_573 := fr_521 groupKind_ _ (by simp only [List.mem_cons, List.not_mem_nil, or_false, not_or]; exact (nd_ne ND (i := 22) (j := 0) rfl rfl (by decide))) e_450
    have e_574 := fr_521 groupPhrase_ _ (by simp only [List.mem_cons, List.not_mem_nil, or_false, not_or]; exact (nd_ne ND (i := 23) (j := 0) rfl rfl (by decide))) e_451
    have e_575 := fr_521 groupSize_ _ (by simp only [List.mem_cons, List.not_mem_nil, or_false, not_or]; exact (nd_ne ND (i := 24) (j := 0) rfl rfl (by decide))) e_452
    have e_576 := fr_521 groupMask_ _ (by simp only [List.mem_cons, List.not_mem_nil, or_false, not_or]; exact (nd_ne ND (i := 25) (j := 0) rfl rfl (by decide))) e_453
    have e_577 := fr_521 groupFar_ _ (by simp only [List.mem_cons, List.not_mem_nil, or_false, not_or]; exact (nd_ne ND (i := 26) (j := 0) rfl rfl (by decide))) e_454
    have e_578 := fr_521 out_ _ (by simp only [List.mem_cons, List.not_mem_nil, or_false, not_or]; exact (nd_ne ND (i := 27) (j := 0) rfl rfl (by decide))) e_455
    have e_579 := fr_521 top_ _ (by simp only [List.mem_cons, List.not_mem_nil, or_false, not_or]; exact (nd_ne ND (i := 28) (j := 0) rfl rfl (by decide))) e_456
    have e_580 := fr_521 masks_ _ (by simp only [List.mem_cons, List.not_mem_nil, or_false, not_or]; exact (nd_ne ND (i := 29) (j := 0) rfl rfl (by decide))) e_457
    have e_581 := fr_521 truth_ _ (by simp only [List.mem_cons, List.not_mem_nil, or_false, not_or]; exact (nd_ne ND (i := 32) (j := 0) rfl rfl (by decide))) e_458
    have e_582 := fr_521 texts_ _ (by simp only [List.mem_cons, List.not_mem_nil, or_false, not_or]; exact (nd_ne ND (i := 5) (j := 0) rfl rfl (by decide))) e_459
    have e_583 := fr_521 sizes_ _ (by simp only [List.mem_cons, List.not_mem_nil, or_false, not_or]; exact (nd_ne ND (i := 6) (j := 0) rfl rfl (by decide))) e_460
    have e_584 := fr_521 weights_ _ (by simp only [List.mem_cons, List.not_mem_nil, or_false, not_or]; exact (nd_ne ND (i := 7) (j := 0) rfl rfl (by decide))) e_461
    have e_585 := fr_521 live_ _ (by simp only [List.mem_cons, List.not_mem_nil, or_false, not_or]; exact (nd_ne ND (i := 10) (j := 0) rfl rfl (by decide))) e_462
    have e_586 := fr_521 begins_ _ (by simp only [List.mem_cons, List.not_mem_nil, or_false, not_or]; exact (nd_ne ND (i := 30) (j := 0) rfl rfl (by decide))) e_463
    have e_587 := fr_521 lasts_ _ (by simp only [List.mem_cons, List.not_mem_nil, or_false, not_or]; exact (nd_ne ND (i := 31) (j := 0) rfl rfl (by decide))) e_464
    have e_588 := fr_521 answers_ _ (by simp only [List.mem_cons, List.not_mem_nil, or_false, not_or]; exact (nd_ne ND (i := 33) (j := 0) rfl rfl (by decide))) e_465
    have e_589 := fr_521 order_ _ (by simp only [List.mem_cons, List.not_mem_nil, or_false, not_or]; exact (nd_ne ND (i := 34) (j := 0) rfl rfl (by decide))) e_466
    have e_590 := fr_521 scores_ _ (by simp only [List.mem_cons, List.not_mem_nil, or_false, not_or]; exact (nd_ne ND (i := 35) (j := 0) rfl rfl (by decide))) e_467
    have ga_591 : ∀ i : Nat, i ∉ [0, 10, 11, 28, 29, 30, 31, 32, 33, 34, 35, 36, 37, 38, 39, 40, 55, 56, 61] → fs_516[i]? = fs[i]? := fun i hi => (ga_519 i (fun z => hi (by simp only [List.mem_cons, List.not_mem_nil, or_false] at z ⊢; omega))).trans (ga_515 i hi)
    have r_592 := r_468.trans (fr_521.mono (by simp))
    refine s_Model_ask_75 (fun z => absurd z (by decide)) (fun z_593 => ?_)
    refine s_Model_ask_78 ?_
    exact ⟨⟨_, rfl⟩, ⟨_, l_517, e_518, ⟨_, g_520⟩, ⟨0, fd, g_530, g_525, e_567, by omega⟩, (KPr.fr ga_591 r_592 (by decide) (pick_dis ND (l := [m, draft_, asked_, prepared_, preparedSize_, texts_, sizes_, weights_, entries_, lies_, live_, row_, level_, oldTexts_, oldSizes_, oldLies_, oldLive_, oldRow_, firstToken_, starred_, tokenAt_, tokenSize_, groupKind_, groupPhrase_, groupSize_, groupMask_, groupFar_, out_, top_, masks_, begins_, lasts_, truth_, answers_, order_, scores_]) (is := [3, 4]) (js := [0, 2, 18, 19, 20, 21, 22, 23, 24, 25, 26, 27, 28, 29, 30, 31, 32, 33, 34, 35]) (by decide))), (KTx.fr ga_591 r_592 (by decide) (pick_dis ND (l := [m, draft_, asked_, prepared_, preparedSize_, texts_, sizes_, weights_, entries_, lies_, live_, row_, level_, oldTexts_, oldSizes_, oldLies_, oldLive_, oldRow_, firstToken_, starred_, tokenAt_, tokenSize_, groupKind_, groupPhrase_, groupSize_, groupMask_, groupFar_, out_, top_, masks_, begins_, lasts_, truth_, answers_, order_, scores_]) (is := [5, 6]) (js := [0, 2, 18, 19, 20, 21, 22, 23, 24, 25, 26, 27, 28, 29, 30, 31, 32, 33, 34, 35]) (by decide))), (KOt.fr ga_591 r_592 (by decide) (pick_dis ND (l := [m, draft_, asked_, prepared_, preparedSize_, texts_, sizes_, weights_, entries_, lies_, live_, row_, level_, oldTexts_, oldSizes_, oldLies_, oldLive_, oldRow_, firstToken_, starred_, tokenAt_, tokenSize_, groupKind_, groupPhrase_, groupSize_, groupMask_, groupFar_, out_, top_, masks_, begins_, lasts_, truth_, answers_, order_, scores_]) (is := [13, 14]) (js := [0, 2, 18, 19, 20, 21, 22, 23, 24, 25, 26, 27, 28, 29, 30, 31, 32, 33, 34, 35]) (by decide))), (KSt.fr ga_591 r_592 (by decide) (pick_dis ND (l := [m, draft_, asked_, prepared_, preparedSize_, texts_, sizes_, weights_, entries_, lies_, live_, row_, level_, oldTexts_, oldSizes_, oldLies_, oldLive_, oldRow_, firstToken_, starred_, tokenAt_, tokenSize_, groupKind_, groupPhrase_, groupSize_, groupMask_, groupFar_, out_, top_, masks_, begins_, lasts_, truth_, answers_, order_, scores_]) (is := [8, 9, 10, 11, 12, 15, 16, 17]) (js := [0, 2, 18, 19, 20, 21, 22, 23, 24, 25, 26, 27, 28, 29, 30, 31, 32, 33, 34, 35]) (by decide))).succ, (KMo.fr ga_591 r_592 (by decide) (fun _ z => nomatch z)), (KWe.fr ga_591 r_592 (by decide) (pick_dis ND (l := [m, draft_, asked_, prepared_, preparedSize_, texts_, sizes_, weights_, entries_, lies_, live_, row_, level_, oldTexts_, oldSizes_, oldLies_, oldLive_, oldRow_, firstToken_, starred_, tokenAt_, tokenSize_, groupKind_, groupPhrase_, groupSize_, groupMask_, groupFar_, out_, top_, masks_, begins_, lasts_, truth_, answers_, order_, scores_]) (is := [7]) (js := [0, 2, 18, 19, 20, 21, 22, 23, 24, 25, 26, 27, 28, 29, 30, 31, 32, 33, 34, 35]) (by decide))), ⟨_, _, _, g_560, g_558, e_586, g_559, e_587⟩, ⟨_, _, fn, _, _, _, g_537, g_545, g_561, g_563, e_588, g_564, e_589, g_565, e_590, hfn, hord⟩, ⟨dl, _, _, _, _, _, _, _, _, _, _, _, _, _, _, _, _, _, _, _, _, _, _, _, _, _, _, g_531, g_533, g_534, g_535, g_536, g_538, g_539, g_540, g_541, g_542, g_543, g_544, g_566, g_526, e_568, g_546, e_569, g_547, e_570, g_548, e_571, g_549, e_572, g_550, e_573, g_551, e_574, g_552, e_575, g_553, e_576, g_554, e_577, g_555, e_578, g_556, e_579, g_557, e_580, g_562, e_581, hdl⟩⟩, r_592.mono (by simp), r_592, FF.of e e_518 ga_591, ⟨_, e_518, g_530⟩⟩
