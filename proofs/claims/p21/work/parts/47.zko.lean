set_option maxHeartbeats 8000000 in
theorem r_askH {G : xw_G} {F L : Nat} {h : xw_A} {m draft_ asked_ prepared_ preparedSize_ texts_ sizes_ weights_ entries_ lies_ live_ row_ level_ oldTexts_ oldSizes_ oldLies_ oldLive_ oldRow_ firstToken_ starred_ tokenAt_ tokenSize_ groupKind_ groupPhrase_ groupSize_ groupMask_ groupFar_ out_ top_ masks_ begins_ lasts_ truth_ answers_ order_ scores_ T : Nat} (R : RI m draft_ asked_ prepared_ preparedSize_ texts_ sizes_ weights_ entries_ lies_ live_ row_ level_ oldTexts_ oldSizes_ oldLies_ oldLive_ oldRow_ firstToken_ starred_ tokenAt_ tokenSize_ groupKind_ groupPhrase_ groupSize_ groupMask_ groupFar_ out_ top_ masks_ begins_ lasts_ truth_ answers_ order_ scores_ T h) (ND : NDl [m, draft_, asked_, prepared_, preparedSize_, texts_, sizes_, weights_, entries_, lies_, live_, row_, level_, oldTexts_, oldSizes_, oldLies_, oldLive_, oldRow_, firstToken_, starred_, tokenAt_, tokenSize_, groupKind_, groupPhrase_, groupSize_, groupMask_, groupFar_, out_, top_, masks_, begins_, lasts_, truth_, answers_, order_, scores_]) (hT : T < 512) (H128 : ∀ (dl : Nat) (fd : Nat → Int32), dl ≤ 96 → Rf m 10 (.int (nI dl)) h → h draft_ = some (.inl (0, 96, .inl fd)) → ∀ j, j < dl → ∃ c, c < 128 ∧ fd j = nI c) (hF : 10 ≤ F) (hL : 210 ≤ L) :
    xw_Met G m_Model_ask F L 0 0 [.ref m] h (fun v h' => (∃ y : Int32, v = some (.int y)) ∧ RI m draft_ asked_ prepared_ preparedSize_ texts_ sizes_ weights_ entries_ lies_ live_ row_ level_ oldTexts_ oldSizes_ oldLies_ oldLive_ oldRow_ firstToken_ starred_ tokenAt_ tokenSize_ groupKind_ groupPhrase_ groupSize_ groupMask_ groupFar_ out_ top_ masks_ begins_ lasts_ truth_ answers_ order_ scores_ (T + 1) h' ∧ FrO [m, draft_, asked_, prepared_, preparedSize_, texts_, sizes_, weights_, entries_, lies_, live_, row_, level_, oldTexts_, oldSizes_, oldLies_, oldLive_, oldRow_, firstToken_, starred_, tokenAt_, tokenSize_, groupKind_, groupPhrase_, groupSize_, groupMask_, groupFar_, out_, top_, masks_, begins_, lasts_, truth_, answers_, order_, scores_] h h' ∧ FrO [m, asked_, firstToken_, starred_, tokenAt_, tokenSize_, groupKind_, groupPhrase_, groupSize_, groupMask_, groupFar_, out_, top_, masks_, begins_, lasts_, truth_, answers_, order_, scores_] h h' ∧ FF m [0, 10, 11, 28, 29, 30, 31, 32, 33, 34, 35, 36, 37, 38, 39, 40, 55, 56, 61] h h' ∧ Rf m 10 (.int (nI 0)) h' ∧ (∀ (dl : Nat) (fd ft fz fv : Nat → Int32), dl ≤ 96 → Rf m 10 (.int (nI dl)) h → h draft_ = some (.inl (0, 96, .inl fd)) → h texts_ = some (.inl (0, 2304, .inl ft)) → h sizes_ = some (.inl (0, 48, .inl fz)) → h live_ = some (.inl (0, 24, .inl fv)) → ∃ fa : Nat → Int32, (∀ j, j < dl → fa j = fd j) ∧ ((redQ fa dl = none ∧ Rf m 0 (.int 1) h' ∧ (∀ v9 : Value, Rf m 56 v9 h → Rf m 56 v9 h') ∧ ∀ v9 : Value, Rf m 40 v9 h → Rf m 40 v9 h') ∨ ∃ (sg : PSt) (e : List EV), redQ fa dl = some (sg, e) ∧ Rf m 0 (.int 0) h' ∧ v = some (.int (nI (fL (RfP (wds fa (spn sg.2.1)) (phA fa sg.2.1) (lqW fa sg.2.1) (phB sg.2.1) ft fz fv sg.2.2 e) 24).length)) ∧ Rf m 40 (.int (nI sg.2.1.length)) h' ∧ Rf m 56 (.int (nI (fL (RfP (wds fa (spn sg.2.1)) (phA fa sg.2.1) (lqW fa sg.2.1) (phB sg.2.1) ft fz fv sg.2.2 e) 24).length)) h' ∧ ∃ fan : Nat → Int32, h' answers_ = some (.inl (0, 24, .inl fan)) ∧ ∀ j r : Nat, (fL (RfP (wds fa (spn sg.2.1)) (phA fa sg.2.1) (lqW fa sg.2.1) (phB sg.2.1) ft fz fv sg.2.2 e) 24)[j]? = some r → fan j = nI r))) (fun _ _ => False) := by
  refine xw_Met.of rfl (by decide) (Nat.le_of_ble_eq_true rfl) ?_
  obtain ⟨fs, l, e, ⟨er, g_err⟩, KDr, KPr, KTx, KOt, KSt, KMo, KWe, KBe, KAn, KQu⟩ := R
  obtain ⟨dl, fd, g_drafted, g_draft, e_draft, hdl⟩ := id KDr
  obtain ⟨asz, y0, y1, y2, y3, y4, y5, y6, y7, y8, y9, y10, y11, c0, c1, c2, c3, c4, c5, c6, c7, c8, c9, c10, c11, c12, c13, g_askedSize, g_at, g_kind, g_from, g_to, g_bad, g_phrases, g_tokens, g_groups, g_outs, g_tops, g_mask, g_behind, g_asked, e_asked, g_firstToken, e_firstToken, g_starred, e_starred, g_tokenAt, e_tokenAt, g_tokenSize, e_tokenSize, g_groupKind, e_groupKind, g_groupPhrase, e_groupPhrase, g_groupSize, e_groupSize, g_groupMask, e_groupMask, g_groupFar, e_groupFar, g_out, e_out, g_top, e_top, g_masks, e_masks, g_truth, e_truth, hasz⟩ := id KQu
  obtain ⟨ft, fz, g_texts, e_texts, g_sizes, e_sizes, hSZ⟩ := id KTx
  obtain ⟨fw, g_weights, e_weights, hwe⟩ := id KWe
  obtain ⟨vs, md, sg, op, ov, os, fe, fi, fv, fr, fL, foi, fov, fow, g_versions, g_made, g_segments, g_open, g_oldVersions, g_oldSegments, g_entries, e_entries, g_lies, e_lies, g_live, e_live, g_row, e_row, g_level, e_level, g_oldLies, e_oldLies, g_oldLive, e_oldLive, g_oldRow, e_oldRow, hvs, hsg, hop, hov, hos, hLI, hRO, hLV, hOI, hOR, hOV, hpot⟩ := id KSt
  obtain ⟨cl, fb, fl, g_column, g_begins, e_begins, g_lasts, e_lasts⟩ := id KBe
  obtain ⟨wa, gd, fn, fa, fo, fsc, g_wrongAt, g_good, g_found, g_answers, e_answers, g_order, e_order, g_scores, e_scores, hfn, hord⟩ := id KAn
  have ga0 : ∀ i : Nat, i ∉ [0, 10, 11, 28, 29, 30, 31, 32, 33, 34, 35, 36, 37, 38, 39, 40, 55, 56, 61] → fs[i]? = fs[i]? := fun _ _ => rfl
  have r0 : FrO [m, asked_, firstToken_, starred_, tokenAt_, tokenSize_, groupKind_, groupPhrase_, groupSize_, groupMask_, groupFar_, out_, top_, masks_, begins_, lasts_, truth_, answers_, order_, scores_] h h := FrO.rf
  refine s_Model_ask_0 l e ?_
  refine x_u1 (fun h_1 e_2 f_3 => ?_)
  have e_4 := (f_3 draft_ (nd_ne ND (i := 1) (j := 0) rfl rfl (by decide))).trans e_draft
  have e_5 := (f_3 asked_ (nd_ne ND (i := 2) (j := 0) rfl rfl (by decide))).trans e_asked
  have e_6 := (f_3 firstToken_ (nd_ne ND (i := 18) (j := 0) rfl rfl (by decide))).trans e_firstToken
  have e_7 := (f_3 starred_ (nd_ne ND (i := 19) (j := 0) rfl rfl (by decide))).trans e_starred
  have e_8 := (f_3 tokenAt_ (nd_ne ND (i := 20) (j := 0) rfl rfl (by decide))).trans e_tokenAt
  have e_9 := (f_3 tokenSize_ (nd_ne ND (i := 21) (j := 0) rfl rfl (by decide))).trans e_tokenSize
  have e_10 := (f_3 groupKind_ (nd_ne ND (i := 22) (j := 0) rfl rfl (by decide))).trans e_groupKind
  have e_11 := (f_3 groupPhrase_ (nd_ne ND (i := 23) (j := 0) rfl rfl (by decide))).trans e_groupPhrase
  have e_12 := (f_3 groupSize_ (nd_ne ND (i := 24) (j := 0) rfl rfl (by decide))).trans e_groupSize
  have e_13 := (f_3 groupMask_ (nd_ne ND (i := 25) (j := 0) rfl rfl (by decide))).trans e_groupMask
  have e_14 := (f_3 groupFar_ (nd_ne ND (i := 26) (j := 0) rfl rfl (by decide))).trans e_groupFar
  have e_15 := (f_3 out_ (nd_ne ND (i := 27) (j := 0) rfl rfl (by decide))).trans e_out
  have e_16 := (f_3 top_ (nd_ne ND (i := 28) (j := 0) rfl rfl (by decide))).trans e_top
  have e_17 := (f_3 masks_ (nd_ne ND (i := 29) (j := 0) rfl rfl (by decide))).trans e_masks
  have e_18 := (f_3 truth_ (nd_ne ND (i := 32) (j := 0) rfl rfl (by decide))).trans e_truth
  have e_19 := (f_3 texts_ (nd_ne ND (i := 5) (j := 0) rfl rfl (by decide))).trans e_texts
  have e_20 := (f_3 sizes_ (nd_ne ND (i := 6) (j := 0) rfl rfl (by decide))).trans e_sizes
  have e_21 := (f_3 weights_ (nd_ne ND (i := 7) (j := 0) rfl rfl (by decide))).trans e_weights
  have e_22 := (f_3 live_ (nd_ne ND (i := 10) (j := 0) rfl rfl (by decide))).trans e_live
  have e_23 := (f_3 begins_ (nd_ne ND (i := 30) (j := 0) rfl rfl (by decide))).trans e_begins
  have e_24 := (f_3 lasts_ (nd_ne ND (i := 31) (j := 0) rfl rfl (by decide))).trans e_lasts
  have e_25 := (f_3 answers_ (nd_ne ND (i := 33) (j := 0) rfl rfl (by decide))).trans e_answers
  have e_26 := (f_3 order_ (nd_ne ND (i := 34) (j := 0) rfl rfl (by decide))).trans e_order
  have e_27 := (f_3 scores_ (nd_ne ND (i := 35) (j := 0) rfl rfl (by decide))).trans e_scores
  have r_28 := r0.up (by simp) f_3
  obtain ⟨fs_29, z_30⟩ : ∃ z, z = fs.set 0 (.int 0) := ⟨_, rfl⟩
  rw [← z_30] at e_2
  have l_31 : fs_29.length = 62 := by rw [z_30]; simp only [List.length_set]; exact l
  have g_32 : fs_29[(0 : Nat)]? = some (.int 0) := by rw [z_30]; exact (xw_gs (by simp [l]))
  have g_33 : fs_29[(3 : Nat)]? = some (.ref draft_) := by rw [z_30]; exact (xw_gn (by decide) g_draft)
  have g_34 : fs_29[(4 : Nat)]? = some (.ref asked_) := by rw [z_30]; exact (xw_gn (by decide) g_asked)
  have g_35 : fs_29[(7 : Nat)]? = some (.ref texts_) := by rw [z_30]; exact (xw_gn (by decide) g_texts)
  have g_36 : fs_29[(8 : Nat)]? = some (.ref sizes_) := by rw [z_30]; exact (xw_gn (by decide) g_sizes)
  have g_37 : fs_29[(9 : Nat)]? = some (.ref weights_) := by rw [z_30]; exact (xw_gn (by decide) g_weights)
  have g_38 : fs_29[(10 : Nat)]? = some (.int (nI dl)) := by rw [z_30]; exact (xw_gn (by decide) g_drafted)
  have g_39 : fs_29[(11 : Nat)]? = some (.int (nI asz)) := by rw [z_30]; exact (xw_gn (by decide) g_askedSize)
  have g_40 : fs_29[(14 : Nat)]? = some (.ref live_) := by rw [z_30]; exact (xw_gn (by decide) g_live)
  have g_41 : fs_29[(28 : Nat)]? = some (.int y0) := by rw [z_30]; exact (xw_gn (by decide) g_at)
  have g_42 : fs_29[(29 : Nat)]? = some (.int y1) := by rw [z_30]; exact (xw_gn (by decide) g_kind)
  have g_43 : fs_29[(30 : Nat)]? = some (.int y2) := by rw [z_30]; exact (xw_gn (by decide) g_from)
  have g_44 : fs_29[(31 : Nat)]? = some (.int y3) := by rw [z_30]; exact (xw_gn (by decide) g_to)
  have g_45 : fs_29[(32 : Nat)]? = some (.int wa) := by rw [z_30]; exact (xw_gn (by decide) g_wrongAt)
  have g_46 : fs_29[(33 : Nat)]? = some (.int y4) := by rw [z_30]; exact (xw_gn (by decide) g_bad)
  have g_47 : fs_29[(34 : Nat)]? = some (.int y5) := by rw [z_30]; exact (xw_gn (by decide) g_phrases)
  have g_48 : fs_29[(35 : Nat)]? = some (.int y6) := by rw [z_30]; exact (xw_gn (by decide) g_tokens)
  have g_49 : fs_29[(36 : Nat)]? = some (.int y7) := by rw [z_30]; exact (xw_gn (by decide) g_groups)
  have g_50 : fs_29[(37 : Nat)]? = some (.int y8) := by rw [z_30]; exact (xw_gn (by decide) g_outs)
  have g_51 : fs_29[(38 : Nat)]? = some (.int y9) := by rw [z_30]; exact (xw_gn (by decide) g_tops)
  have g_52 : fs_29[(39 : Nat)]? = some (.int y10) := by rw [z_30]; exact (xw_gn (by decide) g_mask)
  have g_53 : fs_29[(40 : Nat)]? = some (.int gd) := by rw [z_30]; exact (xw_gn (by decide) g_good)
  have g_54 : fs_29[(41 : Nat)]? = some (.ref firstToken_) := by rw [z_30]; exact (xw_gn (by decide) g_firstToken)
  have g_55 : fs_29[(42 : Nat)]? = some (.ref starred_) := by rw [z_30]; exact (xw_gn (by decide) g_starred)
  have g_56 : fs_29[(43 : Nat)]? = some (.ref tokenAt_) := by rw [z_30]; exact (xw_gn (by decide) g_tokenAt)
  have g_57 : fs_29[(44 : Nat)]? = some (.ref tokenSize_) := by rw [z_30]; exact (xw_gn (by decide) g_tokenSize)
  have g_58 : fs_29[(45 : Nat)]? = some (.ref groupKind_) := by rw [z_30]; exact (xw_gn (by decide) g_groupKind)
  have g_59 : fs_29[(46 : Nat)]? = some (.ref groupPhrase_) := by rw [z_30]; exact (xw_gn (by decide) g_groupPhrase)
  have g_60 : fs_29[(47 : Nat)]? = some (.ref groupSize_) := by rw [z_30]; exact (xw_gn (by decide) g_groupSize)
  have g_61 : fs_29[(48 : Nat)]? = some (.ref groupMask_) := by rw [z_30]; exact (xw_gn (by decide) g_groupMask)
  have g_62 : fs_29[(49 : Nat)]? = some (.ref groupFar_) := by rw [z_30]; exact (xw_gn (by decide) g_groupFar)
  have g_63 : fs_29[(50 : Nat)]? = some (.ref out_) := by rw [z_30]; exact (xw_gn (by decide) g_out)
  have g_64 : fs_29[(51 : Nat)]? = some (.ref top_) := by rw [z_30]; exact (xw_gn (by decide) g_top)
  have g_65 : fs_29[(52 : Nat)]? = some (.ref masks_) := by rw [z_30]; exact (xw_gn (by decide) g_masks)
  have g_66 : fs_29[(53 : Nat)]? = some (.ref begins_) := by rw [z_30]; exact (xw_gn (by decide) g_begins)
  have g_67 : fs_29[(54 : Nat)]? = some (.ref lasts_) := by rw [z_30]; exact (xw_gn (by decide) g_lasts)
  have g_68 : fs_29[(55 : Nat)]? = some (.int cl) := by rw [z_30]; exact (xw_gn (by decide) g_column)
  have g_69 : fs_29[(56 : Nat)]? = some (.int (nI fn)) := by rw [z_30]; exact (xw_gn (by decide) g_found)
  have g_70 : fs_29[(57 : Nat)]? = some (.ref truth_) := by rw [z_30]; exact (xw_gn (by decide) g_truth)
  have g_71 : fs_29[(58 : Nat)]? = some (.ref answers_) := by rw [z_30]; exact (xw_gn (by decide) g_answers)
  have g_72 : fs_29[(59 : Nat)]? = some (.ref order_) := by rw [z_30]; exact (xw_gn (by decide) g_order)
  have g_73 : fs_29[(60 : Nat)]? = some (.ref scores_) := by rw [z_30]; exact (xw_gn (by decide) g_scores)
  have g_74 : fs_29[(61 : Nat)]? = some (.int y11) := by rw [z_30]; exact (xw_gn (by decide) g_behind)
  have ga_75 : ∀ i : Nat, i ∉ [0, 10, 11, 28, 29, 30, 31, 32, 33, 34, 35, 36, 37, 38, 39, 40, 55, 56, 61] → fs_29[i]? = fs[i]? := fun i hi => by rw [z_30]; exact xw_gn (fun z => hi (by rw [z]; simp)) (ga0 i hi)
  clear z_30
  refine lp_a1H (gs := fs_29) (h0 := h_1) l_31 e_2 g_38 g_33 g_34 e_4 ⟨_, e_5⟩ (nd_ne ND (i := 1) (j := 2) rfl rfl (by decide)) hdl (fun h6 fa6 ea6 hfa6 r6 => ?_) dl 0 _ _ (Nat.zero_add _) e_5 (fun j hj => absurd hj (Nat.not_lt_zero _)) FrO.rf
  have e_76 := r6 draft_ _ (by simp only [List.mem_cons, List.not_mem_nil, or_false, not_or]; exact (nd_ne ND (i := 1) (j := 2) rfl rfl (by decide))) e_4
  have e_77 := r6 firstToken_ _ (by simp only [List.mem_cons, List.not_mem_nil, or_false, not_or]; exact (Ne.symm (nd_ne ND (i := 2) (j := 18) rfl rfl (by decide)))) e_6
  have e_78 := r6 starred_ _ (by simp only [List.mem_cons, List.not_mem_nil, or_false, not_or]; exact (Ne.symm (nd_ne ND (i := 2) (j := 19) rfl rfl (by decide)))) e_7
  have e_79 := r6 tokenAt_ _ (by simp only [List.mem_cons, List.not_mem_nil, or_false, not_or]; exact (Ne.symm (nd_ne ND (i := 2) (j := 20) rfl rfl (by decide)))) e_8
  have e_80 := r6 tokenSize_ _ (by simp only [List.mem_cons, List.not_mem_nil, or_false, not_or]; exact (Ne.symm (nd_ne ND (i := 2) (j := 21) rfl rfl (by decide)))) e_9
  have e_81 := r6 groupKind_ _ (by simp only [List.mem_cons, List.not_mem_nil, or_false, not_or]; exact (Ne.symm (nd_ne ND (i := 2) (j := 22) rfl rfl (by decide)))) e_10
  have e_82 := r6 groupPhrase_ _ (by simp only [List.mem_cons, List.not_mem_nil, or_false, not_or]; exact (Ne.symm (nd_ne ND (i := 2) (j := 23) rfl rfl (by decide)))) e_11
  have e_83 := r6 groupSize_ _ (by simp only [List.mem_cons, List.not_mem_nil, or_false, not_or]; exact (Ne.symm (nd_ne ND (i := 2) (j := 24) rfl rfl (by decide)))) e_12
  have e_84 := r6 groupMask_ _ (by simp only [List.mem_cons, List.not_mem_nil, or_false, not_or]; exact (Ne.symm (nd_ne ND (i := 2) (j := 25) rfl rfl (by decide)))) e_13
  have e_85 := r6 groupFar_ _ (by simp only [List.mem_cons, List.not_mem_nil, or_false, not_or]; exact (Ne.symm (nd_ne ND (i := 2) (j := 26) rfl rfl (by decide)))) e_14
  have e_86 := r6 out_ _ (by simp only [List.mem_cons, List.not_mem_nil, or_false, not_or]; exact (Ne.symm (nd_ne ND (i := 2) (j := 27) rfl rfl (by decide)))) e_15
  have e_87 := r6 top_ _ (by simp only [List.mem_cons, List.not_mem_nil, or_false, not_or]; exact (Ne.symm (nd_ne ND (i := 2) (j := 28) rfl rfl (by decide)))) e_16
  have e_88 := r6 masks_ _ (by simp only [List.mem_cons, List.not_mem_nil, or_false, not_or]; exact (Ne.symm (nd_ne ND (i := 2) (j := 29) rfl rfl (by decide)))) e_17
  have e_89 := r6 truth_ _ (by simp only [List.mem_cons, List.not_mem_nil, or_false, not_or]; exact (Ne.symm (nd_ne ND (i := 2) (j := 32) rfl rfl (by decide)))) e_18
  have e_90 := r6 texts_ _ (by simp only [List.mem_cons, List.not_mem_nil, or_false, not_or]; exact (Ne.symm (nd_ne ND (i := 2) (j := 5) rfl rfl (by decide)))) e_19
  have e_91 := r6 sizes_ _ (by simp only [List.mem_cons, List.not_mem_nil, or_false, not_or]; exact (Ne.symm (nd_ne ND (i := 2) (j := 6) rfl rfl (by decide)))) e_20
  have e_92 := r6 weights_ _ (by simp only [List.mem_cons, List.not_mem_nil, or_false, not_or]; exact (Ne.symm (nd_ne ND (i := 2) (j := 7) rfl rfl (by decide)))) e_21
  have e_93 := r6 live_ _ (by simp only [List.mem_cons, List.not_mem_nil, or_false, not_or]; exact (Ne.symm (nd_ne ND (i := 2) (j := 10) rfl rfl (by decide)))) e_22
  have e_94 := r6 begins_ _ (by simp only [List.mem_cons, List.not_mem_nil, or_false, not_or]; exact (Ne.symm (nd_ne ND (i := 2) (j := 30) rfl rfl (by decide)))) e_23
  have e_95 := r6 lasts_ _ (by simp only [List.mem_cons, List.not_mem_nil, or_false, not_or]; exact (Ne.symm (nd_ne ND (i := 2) (j := 31) rfl rfl (by decide)))) e_24
  have e_96 := r6 answers_ _ (by simp only [List.mem_cons, List.not_mem_nil, or_false, not_or]; exact (Ne.symm (nd_ne ND (i := 2) (j := 33) rfl rfl (by decide)))) e_25
  have e_97 := r6 order_ _ (by simp only [List.mem_cons, List.not_mem_nil, or_false, not_or]; exact (Ne.symm (nd_ne ND (i := 2) (j := 34) rfl rfl (by decide)))) e_26
  have e_98 := r6 scores_ _ (by simp only [List.mem_cons, List.not_mem_nil, or_false, not_or]; exact (Ne.symm (nd_ne ND (i := 2) (j := 35) rfl rfl (by decide)))) e_27
  have e_99 := r6 m _ (by simp only [List.mem_cons, List.not_mem_nil, or_false, not_or]; exact (Ne.symm (nd_ne ND (i := 2) (j := 0) rfl rfl (by decide)))) e_2
  have r_100 := r_28.trans (r6.mono (by simp))
  refine s_Model_ask_33 l_31 e_99 g_38 ?_
  rw [xw_up_up]
  refine x_u1 (fun h_101 e_102 f_103 => ?_)
  have e_104 := (f_103 draft_ (nd_ne ND (i := 1) (j := 0) rfl rfl (by decide))).trans e_76
  have e_105 := (f_103 asked_ (nd_ne ND (i := 2) (j := 0) rfl rfl (by decide))).trans ea6
  have e_106 := (f_103 firstToken_ (nd_ne ND (i := 18) (j := 0) rfl rfl (by decide))).trans e_77
  have e_107 := (f_103 starred_ (nd_ne ND (i := 19) (j := 0) rfl rfl (by decide))).trans e_78
  have e_108 := (f_103 tokenAt_ (nd_ne ND (i := 20) (j := 0) rfl rfl (by decide))).trans e_79
  have e_109 := (f_103 tokenSize_ (nd_ne ND (i := 21) (j := 0) rfl rfl (by decide))).trans e_80
  have e_110 := (f_103 groupKind_ (nd_ne ND (i := 22) (j := 0) rfl rfl (by decide))).trans e_81
  have e_111 := (f_103 groupPhrase_ (nd_ne ND (i := 23) (j := 0) rfl rfl (by decide))).trans e_82
  have e_112 := (f_103 groupSize_ (nd_ne ND (i := 24) (j := 0) rfl rfl (by decide))).trans e_83
  have e_113 := (f_103 groupMask_ (nd_ne ND (i := 25) (j := 0) rfl rfl (by decide))).trans e_84
  have e_114 := (f_103 groupFar_ (nd_ne ND (i := 26) (j := 0) rfl rfl (by decide))).trans e_85
  have e_115 := (f_103 out_ (nd_ne ND (i := 27) (j := 0) rfl rfl (by decide))).trans e_86
  have e_116 := (f_103 top_ (nd_ne ND (i := 28) (j := 0) rfl rfl (by decide))).trans e_87
  have e_117 := (f_103 masks_ (nd_ne ND (i := 29) (j := 0) rfl rfl (by decide))).trans e_88
  have e_118 := (f_103 truth_ (nd_ne ND (i := 32) (j := 0) rfl rfl (by decide))).trans e_89
  have e_119 := (f_103 texts_ (nd_ne ND (i := 5) (j := 0) rfl rfl (by decide))).trans e_90
  have e_120 := (f_103 sizes_ (nd_ne ND (i := 6) (j := 0) rfl rfl (by decide))).trans e_91
  have e_121 := (f_103 weights_ (nd_ne ND (i := 7) (j := 0) rfl rfl (by decide))).trans e_92
  have e_122 := (f_103 live_ (nd_ne ND (i := 10) (j := 0) rfl rfl (by decide))).trans e_93
  have e_123 := (f_103 begins_ (nd_ne ND (i := 30) (j := 0) rfl rfl (by decide))).trans e_94
  have e_124 := (f_103 lasts_ (nd_ne ND (i := 31) (j := 0) rfl rfl (by decide))).trans e_95
  have e_125 := (f_103 answers_ (nd_ne ND (i := 33) (j := 0) rfl rfl (by decide))).trans e_96
  have e_126 := (f_103 order_ (nd_ne ND (i := 34) (j := 0) rfl rfl (by decide))).trans e_97
  have e_127 := (f_103 scores_ (nd_ne ND (i := 35) (j := 0) rfl rfl (by decide))).trans e_98
  have r_128 := r_100.up (by simp) f_103
  obtain ⟨fs_129, z_130⟩ : ∃ z, z = (fs_29.set 11 (.int (nI dl))).set 10 (.int 0) := ⟨_, rfl⟩
  rw [← z_130] at e_102
  have l_131 : fs_129.length = 62 := by rw [z_130]; simp only [List.length_set]; exact l_31
  have g_132 : fs_129[(0 : Nat)]? = some (.int 0) := by rw [z_130]; exact (xw_gn (by decide) (xw_gn (by decide) g_32))
  have g_133 : fs_129[(3 : Nat)]? = some (.ref draft_) := by rw [z_130]; exact (xw_gn (by decide) (xw_gn (by decide) g_33))
  have g_134 : fs_129[(4 : Nat)]? = some (.ref asked_) := by rw [z_130]; exact (xw_gn (by decide) (xw_gn (by decide) g_34))
  have g_135 : fs_129[(7 : Nat)]? = some (.ref texts_) := by rw [z_130]; exact (xw_gn (by decide) (xw_gn (by decide) g_35))
  have g_136 : fs_129[(8 : Nat)]? = some (.ref sizes_) := by rw [z_130]; exact (xw_gn (by decide) (xw_gn (by decide) g_36))
  have g_137 : fs_129[(9 : Nat)]? = some (.ref weights_) := by rw [z_130]; exact (xw_gn (by decide) (xw_gn (by decide) g_37))
  have g_138 : fs_129[(10 : Nat)]? = some (.int 0) := by rw [z_130]; exact (xw_gs (by simp [l_31]))
  have g_139 : fs_129[(11 : Nat)]? = some (.int (nI dl)) := by rw [z_130]; exact (xw_gn (by decide) (xw_gs (by simp [l_31])))
  have g_140 : fs_129[(14 : Nat)]? = some (.ref live_) := by rw [z_130]; exact (xw_gn (by decide) (xw_gn (by decide) g_40))
  have g_141 : fs_129[(28 : Nat)]? = some (.int y0) := by rw [z_130]; exact (xw_gn (by decide) (xw_gn (by decide) g_41))
  have g_142 : fs_129[(29 : Nat)]? = some (.int y1) := by rw [z_130]; exact (xw_gn (by decide) (xw_gn (by decide) g_42))
  have g_143 : fs_129[(30 : Nat)]? = some (.int y2) := by rw [z_130]; exact (xw_gn (by decide) (xw_gn (by decide) g_43))
  have g_144 : fs_129[(31 : Nat)]? = some (.int y3) := by rw [z_130]; exact (xw_gn (by decide) (xw_gn (by decide) g_44))
  have g_145 : fs_129[(32 : Nat)]? = some (.int wa) := by rw [z_130]; exact (xw_gn (by decide) (xw_gn (by decide) g_45))
  have g_146 : fs_129[(33 : Nat)]? = some (.int y4) := by rw [z_130]; exact (xw_gn (by decide) (xw_gn (by decide) g_46))
  have g_147 : fs_129[(34 : Nat)]? = some (.int y5) := by rw [z_130]; exact (xw_gn (by decide) (xw_gn (by decide) g_47))
  have g_148 : fs_129[(35 : Nat)]? = some (.int y6) := by rw [z_130]; exact (xw_gn (by decide) (xw_gn (by decide) g_48))
  have g_149 : fs_129[(36 : Nat)]? = some (.int y7) := by rw [z_130]; exact (xw_gn (by decide) (xw_gn (by decide) g_49))
  have g_150 : fs_129[(37 : Nat)]? = some (.int y8) := by rw [z_130]; exact (xw_gn (by decide) (xw_gn (by decide) g_50))
  have g_151 : fs_129[(38 : Nat)]? = some (.int y9) := by rw [z_130]; exact (xw_gn (by decide) (xw_gn (by decide) g_51))
  have g_152 : fs_129[(39 : Nat)]? = some (.int y10) := by rw [z_130]; exact (xw_gn (by decide) (xw_gn (by decide) g_52))
  have g_153 : fs_129[(40 : Nat)]? = some (.int gd) := by rw [z_130]; exact (xw_gn (by decide) (xw_gn (by decide) g_53))
  have g_154 : fs_129[(41 : Nat)]? = some (.ref firstToken_) := by rw [z_130]; exact (xw_gn (by decide) (xw_gn (by decide) g_54))
  have g_155 : fs_129[(42 : Nat)]? = some (.ref starred_) := by rw [z_130]; exact (xw_gn (by decide) (xw_gn (by decide) g_55))
  have g_156 : fs_129[(43 : Nat)]? = some (.ref tokenAt_) := by rw [z_130]; exact (xw_gn (by decide) (xw_gn (by decide) g_56))
  have g_157 : fs_129[(44 : Nat)]? = some (.ref tokenSize_) := by rw [z_130]; exact (xw_gn (by decide) (xw_gn (by decide) g_57))
  have g_158 : fs_129[(45 : Nat)]? = some (.ref groupKind_) := by rw [z_130]; exact (xw_gn (by decide) (xw_gn (by decide) g_58))
  have g_159 : fs_129[(46 : Nat)]? = some (.ref groupPhrase_) := by rw [z_130]; exact (xw_gn (by decide) (xw_gn (by decide) g_59))
  have g_160 : fs_129[(47 : Nat)]? = some (.ref groupSize_) := by rw [z_130]; exact (xw_gn (by decide) (xw_gn (by decide) g_60))
  have g_161 : fs_129[(48 : Nat)]? = some (.ref groupMask_) := by rw [z_130]; exact (xw_gn (by decide) (xw_gn (by decide) g_61))
  have g_162 : fs_129[(49 : Nat)]? = some (.ref groupFar_) := by rw [z_130]; exact (xw_gn (by decide) (xw_gn (by decide) g_62))
  have g_163 : fs_129[(50 : Nat)]? = some (.ref out_) := by rw [z_130]; exact (xw_gn (by decide) (xw_gn (by decide) g_63))
  have g_164 : fs_129[(51 : Nat)]? = some (.ref top_) := by rw [z_130]; exact (xw_gn (by decide) (xw_gn (by decide) g_64))
  have g_165 : fs_129[(52 : Nat)]? = some (.ref masks_) := by rw [z_130]; exact (xw_gn (by decide) (xw_gn (by decide) g_65))
  have g_166 : fs_129[(53 : Nat)]? = some (.ref begins_) := by rw [z_130]; exact (xw_gn (by decide) (xw_gn (by decide) g_66))
  have g_167 : fs_129[(54 : Nat)]? = some (.ref lasts_) := by rw [z_130]; exact (xw_gn (by decide) (xw_gn (by decide) g_67))
  have g_168 : fs_129[(55 : Nat)]? = some (.int cl) := by rw [z_130]; exact (xw_gn (by decide) (xw_gn (by decide) g_68))
  have g_169 : fs_129[(56 : Nat)]? = some (.int (nI fn)) := by rw [z_130]; exact (xw_gn (by decide) (xw_gn (by decide) g_69))
  have g_170 : fs_129[(57 : Nat)]? = some (.ref truth_) := by rw [z_130]; exact (xw_gn (by decide) (xw_gn (by decide) g_70))
  have g_171 : fs_129[(58 : Nat)]? = some (.ref answers_) := by rw [z_130]; exact (xw_gn (by decide) (xw_gn (by decide) g_71))
  have g_172 : fs_129[(59 : Nat)]? = some (.ref order_) := by rw [z_130]; exact (xw_gn (by decide) (xw_gn (by decide) g_72))
  have g_173 : fs_129[(60 : Nat)]? = some (.ref scores_) := by rw [z_130]; exact (xw_gn (by decide) (xw_gn (by decide) g_73))
  have g_174 : fs_129[(61 : Nat)]? = some (.int y11) := by rw [z_130]; exact (xw_gn (by decide) (xw_gn (by decide) g_74))
  have ga_175 : ∀ i : Nat, i ∉ [0, 10, 11, 28, 29, 30, 31, 32, 33, 34, 35, 36, 37, 38, 39, 40, 55, 56, 61] → fs_129[i]? = fs[i]? := fun i hi => by rw [z_130]; exact xw_gn (fun z => hi (by rw [z]; simp)) (xw_gn (fun z => hi (by rw [z]; simp)) (ga_75 i hi))
  clear z_130
  have h128 : ∀ j, j < dl → ∃ c, c < 128 ∧ fa6 j = nI c := fun j hj => by rw [hfa6 j hj]; exact H128 dl fd hdl ⟨_, e, g_drafted⟩ e_draft j hj
  refine x_callV (As := []) (b := m) (rest := []) (F1 := 9) (L1 := 190) (mc := 0) (ms := 0) d_Model_ask_47 cV_Model_354 (f_readsH l_131 e_102 g_141 g_142 g_143 g_144 g_146 g_147 g_148 g_149 g_150 g_151 g_152 g_139 g_174 g_134 e_105 g_154 e_106 g_155 e_107 g_156 e_108 g_157 e_109 g_158 e_110 g_159 e_111 g_160 e_112 g_161 e_113 g_162 e_114 g_163 e_115 g_164 e_116 g_165 e_117 (ndQ ND) hdl h128 (by omega) (by omega)) e_102 ⟨by decide, rfl⟩ ⟨by omega, by show 8 + (1 + 11) + 190 ≤ _; omega⟩ ⟨by omega, by omega⟩ (Nat.le_of_ble_eq_true rfl) (fun v_177 h_176 p_178 => ?_)
  rcases p_178 with ⟨rfl, bd5, c15, c25, ca5, cs5, c55, c65, c75, c85, c95, co5, ct5, cm5, fs5, l5, e5, gb5, IN5, ga5, e5_firstToken, e5_starred, e5_tokenAt, e5_tokenSize, e5_groupKind, e5_groupPhrase, e5_groupSize, e5_groupMask, e5_groupFar, e5_out, e5_top, e5_masks, r5, ⟨hr5, nb5⟩ | ⟨p5, t5, ph5, gr5, ev5, hr5, hb5, RQ5, GR5, OU5, OG5, hp12, hgp, hcn5, g34, g35, g36, g37⟩⟩
  · skip
    have e_179 := r5 draft_ _ (by simp only [List.mem_cons, List.not_mem_nil, or_false, not_or]; exact ⟨(nd_ne ND (i := 1) (j := 0) rfl rfl (by decide)), (nd_ne ND (i := 1) (j := 18) rfl rfl (by decide)), (nd_ne ND (i := 1) (j := 19) rfl rfl (by decide)), (nd_ne ND (i := 1) (j := 20) rfl rfl (by decide)), (nd_ne ND (i := 1) (j := 21) rfl rfl (by decide)), (nd_ne ND (i := 1) (j := 22) rfl rfl (by decide)), (nd_ne ND (i := 1) (j := 23) rfl rfl (by decide)), (nd_ne ND (i := 1) (j := 24) rfl rfl (by decide)), (nd_ne ND (i := 1) (j := 25) rfl rfl (by decide)), (nd_ne ND (i := 1) (j := 26) rfl rfl (by decide)), (nd_ne ND (i := 1) (j := 27) rfl rfl (by decide)), (nd_ne ND (i := 1) (j := 28) rfl rfl (by decide)), (nd_ne ND (i := 1) (j := 29) rfl rfl (by decide))⟩) e_104
    have e_180 := r5 asked_ _ (by simp only [List.mem_cons, List.not_mem_nil, or_false, not_or]; exact ⟨(nd_ne ND (i := 2) (j := 0) rfl rfl (by decide)), (nd_ne ND (i := 2) (j := 18) rfl rfl (by decide)), (nd_ne ND (i := 2) (j := 19) rfl rfl (by decide)), (nd_ne ND (i := 2) (j := 20) rfl rfl (by decide)), (nd_ne ND (i := 2) (j := 21) rfl rfl (by decide)), (nd_ne ND (i := 2) (j := 22) rfl rfl (by decide)), (nd_ne ND (i := 2) (j := 23) rfl rfl (by decide)), (nd_ne ND (i := 2) (j := 24) rfl rfl (by decide)), (nd_ne ND (i := 2) (j := 25) rfl rfl (by decide)), (nd_ne ND (i := 2) (j := 26) rfl rfl (by decide)), (nd_ne ND (i := 2) (j := 27) rfl rfl (by decide)), (nd_ne ND (i := 2) (j := 28) rfl rfl (by decide)), (nd_ne ND (i := 2) (j := 29) rfl rfl (by decide))⟩) e_105
    have e_181 := r5 truth_ _ (by simp only [List.mem_cons, List.not_mem_nil, or_false, not_or]; exact ⟨(nd_ne ND (i := 32) (j := 0) rfl rfl (by decide)), (Ne.symm (nd_ne ND (i := 18) (j := 32) rfl rfl (by decide))), (Ne.symm (nd_ne ND (i := 19) (j := 32) rfl rfl (by decide))), (Ne.symm (nd_ne ND (i := 20) (j := 32) rfl rfl (by decide))), (Ne.symm (nd_ne ND (i := 21) (j := 32) rfl rfl (by decide))), (Ne.symm (nd_ne ND (i := 22) (j := 32) rfl rfl (by decide))), (Ne.symm (nd_ne ND (i := 23) (j := 32) rfl rfl (by decide))), (Ne.symm (nd_ne ND (i := 24) (j := 32) rfl rfl (by decide))), (Ne.symm (nd_ne ND (i := 25) (j := 32) rfl rfl (by decide))), (Ne.symm (nd_ne ND (i := 26) (j := 32) rfl rfl (by decide))), (Ne.symm (nd_ne ND (i := 27) (j := 32) rfl rfl (by decide))), (Ne.symm (nd_ne ND (i := 28) (j := 32) rfl rfl (by decide))), (Ne.symm (nd_ne ND (i := 29) (j := 32) rfl rfl (by decide)))⟩) e_118
    have e_182 := r5 texts_ _ (by simp only [List.mem_cons, List.not_mem_nil, or_false, not_or]; exact ⟨(nd_ne ND (i := 5) (j := 0) rfl rfl (by decide)), (Ne.symm (nd_ne ND (i := 18) (j := 5) rfl rfl (by decide))), (Ne.symm (nd_ne ND (i := 19) (j := 5) rfl rfl (by decide))), (Ne.symm (nd_ne ND (i := 20) (j := 5) rfl rfl (by decide))), (Ne.symm (nd_ne ND (i := 21) (j := 5) rfl rfl (by decide))), (Ne.symm (nd_ne ND (i := 22) (j := 5) rfl rfl (by decide))), (Ne.symm (nd_ne ND (i := 23) (j := 5) rfl rfl (by decide))), (Ne.symm (nd_ne ND (i := 24) (j := 5) rfl rfl (by decide))), (Ne.symm (nd_ne ND (i := 25) (j := 5) rfl rfl (by decide))), (Ne.symm (nd_ne ND (i := 26) (j := 5) rfl rfl (by decide))), (Ne.symm (nd_ne ND (i := 27) (j := 5) rfl rfl (by decide))), (Ne.symm (nd_ne ND (i := 28) (j := 5) rfl rfl (by decide))), (Ne.symm (nd_ne ND (i := 29) (j := 5) rfl rfl (by decide)))⟩) e_119
    have e_183 := r5 sizes_ _ (by simp only [List.mem_cons, List.not_mem_nil, or_false, not_or]; exact ⟨(nd_ne ND (i := 6) (j := 0) rfl rfl (by decide)), (Ne.symm (nd_ne ND (i := 18) (j := 6) rfl rfl (by decide))), (Ne.symm (nd_ne ND (i := 19) (j := 6) rfl rfl (by decide))), (Ne.symm (nd_ne ND (i := 20) (j := 6) rfl rfl (by decide))), (Ne.symm (nd_ne ND (i := 21) (j := 6) rfl rfl (by decide))), (Ne.symm (nd_ne ND (i := 22) (j := 6) rfl rfl (by decide))), (Ne.symm (nd_ne ND (i := 23) (j := 6) rfl rfl (by decide))), (Ne.symm (nd_ne ND (i := 24) (j := 6) rfl rfl (by decide))), (Ne.symm (nd_ne ND (i := 25) (j := 6) rfl rfl (by decide))), (Ne.symm (nd_ne ND (i := 26) (j := 6) rfl rfl (by decide))), (Ne.symm (nd_ne ND (i := 27) (j := 6) rfl rfl (by decide))), (Ne.symm (nd_ne ND (i := 28) (j := 6) rfl rfl (by decide))), (Ne.symm (nd_ne ND (i := 29) (j := 6) rfl rfl (by decide)))⟩) e_120
    have e_184 := r5 weights_ _ (by simp only [List.mem_cons, List.not_mem_nil, or_false, not_or]; exact ⟨(nd_ne ND (i := 7) (j := 0) rfl rfl (by decide)), (Ne.symm (nd_ne ND (i := 18) (j := 7) rfl rfl (by decide))), (Ne.symm (nd_ne ND (i := 19) (j := 7) rfl rfl (by decide))), (Ne.symm (nd_ne ND (i := 20) (j := 7) rfl rfl (by decide))), (Ne.symm (nd_ne ND (i := 21) (j := 7) rfl rfl (by decide))), (Ne.symm (nd_ne ND (i := 22) (j := 7) rfl rfl (by decide))), (Ne.symm (nd_ne ND (i := 23) (j := 7) rfl rfl (by decide))), (Ne.symm (nd_ne ND (i := 24) (j := 7) rfl rfl (by decide))), (Ne.symm (nd_ne ND (i := 25) (j := 7) rfl rfl (by decide))), (Ne.symm (nd_ne ND (i := 26) (j := 7) rfl rfl (by decide))), (Ne.symm (nd_ne ND (i := 27) (j := 7) rfl rfl (by decide))), (Ne.symm (nd_ne ND (i := 28) (j := 7) rfl rfl (by decide))), (Ne.symm (nd_ne ND (i := 29) (j := 7) rfl rfl (by decide)))⟩) e_121
    have e_185 := r5 live_ _ (by simp only [List.mem_cons, List.not_mem_nil, or_false, not_or]; exact ⟨(nd_ne ND (i := 10) (j := 0) rfl rfl (by decide)), (Ne.symm (nd_ne ND (i := 18) (j := 10) rfl rfl (by decide))), (Ne.symm (nd_ne ND (i := 19) (j := 10) rfl rfl (by decide))), (Ne.symm (nd_ne ND (i := 20) (j := 10) rfl rfl (by decide))), (Ne.symm (nd_ne ND (i := 21) (j := 10) rfl rfl (by decide))), (Ne.symm (nd_ne ND (i := 22) (j := 10) rfl rfl (by decide))), (Ne.symm (nd_ne ND (i := 23) (j := 10) rfl rfl (by decide))), (Ne.symm (nd_ne ND (i := 24) (j := 10) rfl rfl (by decide))), (Ne.symm (nd_ne ND (i := 25) (j := 10) rfl rfl (by decide))), (Ne.symm (nd_ne ND (i := 26) (j := 10) rfl rfl (by decide))), (Ne.symm (nd_ne ND (i := 27) (j := 10) rfl rfl (by decide))), (Ne.symm (nd_ne ND (i := 28) (j := 10) rfl rfl (by decide))), (Ne.symm (nd_ne ND (i := 29) (j := 10) rfl rfl (by decide)))⟩) e_122
    have e_186 := r5 begins_ _ (by simp only [List.mem_cons, List.not_mem_nil, or_false, not_or]; exact ⟨(nd_ne ND (i := 30) (j := 0) rfl rfl (by decide)), (Ne.symm (nd_ne ND (i := 18) (j := 30) rfl rfl (by decide))), (Ne.symm (nd_ne ND (i := 19) (j := 30) rfl rfl (by decide))), (Ne.symm (nd_ne ND (i := 20) (j := 30) rfl rfl (by decide))), (Ne.symm (nd_ne ND (i := 21) (j := 30) rfl rfl (by decide))), (Ne.symm (nd_ne ND (i := 22) (j := 30) rfl rfl (by decide))), (Ne.symm (nd_ne ND (i := 23) (j := 30) rfl rfl (by decide))), (Ne.symm (nd_ne ND (i := 24) (j := 30) rfl rfl (by decide))), (Ne.symm (nd_ne ND (i := 25) (j := 30) rfl rfl (by decide))), (Ne.symm (nd_ne ND (i := 26) (j := 30) rfl rfl (by decide))), (Ne.symm (nd_ne ND (i := 27) (j := 30) rfl rfl (by decide))), (Ne.symm (nd_ne ND (i := 28) (j := 30) rfl rfl (by decide))), (Ne.symm (nd_ne ND (i := 29) (j := 30) rfl rfl (by decide)))⟩) e_123
    have e_187 := r5 lasts_ _ (by simp only [List.mem_cons, List.not_mem_nil, or_false, not_or]; exact ⟨(nd_ne ND (i := 31) (j := 0) rfl rfl (by decide)), (Ne.symm (nd_ne ND (i := 18) (j := 31) rfl rfl (by decide))), (Ne.symm (nd_ne ND (i := 19) (j := 31) rfl rfl (by decide))), (Ne.symm (nd_ne ND (i := 20) (j := 31) rfl rfl (by decide))), (Ne.symm (nd_ne ND (i := 21) (j := 31) rfl rfl (by decide))), (Ne.symm (nd_ne ND (i := 22) (j := 31) rfl rfl (by decide))), (Ne.symm (nd_ne ND (i := 23) (j := 31) rfl rfl (by decide))), (Ne.symm (nd_ne ND (i := 24) (j := 31) rfl rfl (by decide))), (Ne.symm (nd_ne ND (i := 25) (j := 31) rfl rfl (by decide))), (Ne.symm (nd_ne ND (i := 26) (j := 31) rfl rfl (by decide))), (Ne.symm (nd_ne ND (i := 27) (j := 31) rfl rfl (by decide))), (Ne.symm (nd_ne ND (i := 28) (j := 31) rfl rfl (by decide))), (Ne.symm (nd_ne ND (i := 29) (j := 31) rfl rfl (by decide)))⟩) e_124
    have e_188 := r5 answers_ _ (by simp only [List.mem_cons, List.not_mem_nil, or_false, not_or]; exact ⟨(nd_ne ND (i := 33) (j := 0) rfl rfl (by decide)), (Ne.symm (nd_ne ND (i := 18) (j := 33) rfl rfl (by decide))), (Ne.symm (nd_ne ND (i := 19) (j := 33) rfl rfl (by decide))), (Ne.symm (nd_ne ND (i := 20) (j := 33) rfl rfl (by decide))), (Ne.symm (nd_ne ND (i := 21) (j := 33) rfl rfl (by decide))), (Ne.symm (nd_ne ND (i := 22) (j := 33) rfl rfl (by decide))), (Ne.symm (nd_ne ND (i := 23) (j := 33) rfl rfl (by decide))), (Ne.symm (nd_ne ND (i := 24) (j := 33) rfl rfl (by decide))), (Ne.symm (nd_ne ND (i := 25) (j := 33) rfl rfl (by decide))), (Ne.symm (nd_ne ND (i := 26) (j := 33) rfl rfl (by decide))), (Ne.symm (nd_ne ND (i := 27) (j := 33) rfl rfl (by decide))), (Ne.symm (nd_ne ND (i := 28) (j := 33) rfl rfl (by decide))), (Ne.symm (nd_ne ND (i := 29) (j := 33) rfl rfl (by decide)))⟩) e_125
    have e_189 := r5 order_ _ (by simp only [List.mem_cons, List.not_mem_nil, or_false, not_or]; exact ⟨(nd_ne ND (i := 34) (j := 0) rfl rfl (by decide)), (Ne.symm (nd_ne ND (i := 18) (j := 34) rfl rfl (by decide))), (Ne.symm (nd_ne ND (i := 19) (j := 34) rfl rfl (by decide))), (Ne.symm (nd_ne ND (i := 20) (j := 34) rfl rfl (by decide))), (Ne.symm (nd_ne ND (i := 21) (j := 34) rfl rfl (by decide))), (Ne.symm (nd_ne ND (i := 22) (j := 34) rfl rfl (by decide))), (Ne.symm (nd_ne ND (i := 23) (j := 34) rfl rfl (by decide))), (Ne.symm (nd_ne ND (i := 24) (j := 34) rfl rfl (by decide))), (Ne.symm (nd_ne ND (i := 25) (j := 34) rfl rfl (by decide))), (Ne.symm (nd_ne ND (i := 26) (j := 34) rfl rfl (by decide))), (Ne.symm (nd_ne ND (i := 27) (j := 34) rfl rfl (by decide))), (Ne.symm (nd_ne ND (i := 28) (j := 34) rfl rfl (by decide))), (Ne.symm (nd_ne ND (i := 29) (j := 34) rfl rfl (by decide)))⟩) e_126
    have e_190 := r5 scores_ _ (by simp only [List.mem_cons, List.not_mem_nil, or_false, not_or]; exact ⟨(nd_ne ND (i := 35) (j := 0) rfl rfl (by decide)), (Ne.symm (nd_ne ND (i := 18) (j := 35) rfl rfl (by decide))), (Ne.symm (nd_ne ND (i := 19) (j := 35) rfl rfl (by decide))), (Ne.symm (nd_ne ND (i := 20) (j := 35) rfl rfl (by decide))), (Ne.symm (nd_ne ND (i := 21) (j := 35) rfl rfl (by decide))), (Ne.symm (nd_ne ND (i := 22) (j := 35) rfl rfl (by decide))), (Ne.symm (nd_ne ND (i := 23) (j := 35) rfl rfl (by decide))), (Ne.symm (nd_ne ND (i := 24) (j := 35) rfl rfl (by decide))), (Ne.symm (nd_ne ND (i := 25) (j := 35) rfl rfl (by decide))), (Ne.symm (nd_ne ND (i := 26) (j := 35) rfl rfl (by decide))), (Ne.symm (nd_ne ND (i := 27) (j := 35) rfl rfl (by decide))), (Ne.symm (nd_ne ND (i := 28) (j := 35) rfl rfl (by decide))), (Ne.symm (nd_ne ND (i := 29) (j := 35) rfl rfl (by decide)))⟩) e_127
    have r_191 := r_128.trans (r5.mono (by simp))
    obtain ⟨v_192, g_193⟩ := IN5 28 (by decide)
    obtain ⟨v_194, g_195⟩ := IN5 29 (by decide)
    obtain ⟨v_196, g_197⟩ := IN5 30 (by decide)
    obtain ⟨v_198, g_199⟩ := IN5 31 (by decide)
    obtain ⟨v_200, g_201⟩ := IN5 34 (by decide)
    obtain ⟨v_202, g_203⟩ := IN5 35 (by decide)
    obtain ⟨v_204, g_205⟩ := IN5 36 (by decide)
    obtain ⟨v_206, g_207⟩ := IN5 37 (by decide)
    obtain ⟨v_208, g_209⟩ := IN5 38 (by decide)
    obtain ⟨v_210, g_211⟩ := IN5 39 (by decide)
    obtain ⟨v_212, g_213⟩ := IN5 61 (by decide)
    have g_214 : fs5[(0 : Nat)]? = some (.int 0) := (ga5 0 (by decide)).trans g_132
    have g_215 : fs5[(3 : Nat)]? = some (.ref draft_) := (ga5 3 (by decide)).trans g_133
    have g_216 : fs5[(4 : Nat)]? = some (.ref asked_) := (ga5 4 (by decide)).trans g_134
    have g_217 : fs5[(7 : Nat)]? = some (.ref texts_) := (ga5 7 (by decide)).trans g_135
    have g_218 : fs5[(8 : Nat)]? = some (.ref sizes_) := (ga5 8 (by decide)).trans g_136
    have g_219 : fs5[(9 : Nat)]? = some (.ref weights_) := (ga5 9 (by decide)).trans g_137
    have g_220 : fs5[(10 : Nat)]? = some (.int 0) := (ga5 10 (by decide)).trans g_138
    have g_221 : fs5[(11 : Nat)]? = some (.int (nI dl)) := (ga5 11 (by decide)).trans g_139
    have g_222 : fs5[(14 : Nat)]? = some (.ref live_) := (ga5 14 (by decide)).trans g_140
    have g_223 : fs5[(32 : Nat)]? = some (.int wa) := (ga5 32 (by decide)).trans g_145
    have g_224 : fs5[(40 : Nat)]? = some (.int gd) := (ga5 40 (by decide)).trans g_153
    have g_225 : fs5[(41 : Nat)]? = some (.ref firstToken_) := (ga5 41 (by decide)).trans g_154
    have g_226 : fs5[(42 : Nat)]? = some (.ref starred_) := (ga5 42 (by decide)).trans g_155
    have g_227 : fs5[(43 : Nat)]? = some (.ref tokenAt_) := (ga5 43 (by decide)).trans g_156
    have g_228 : fs5[(44 : Nat)]? = some (.ref tokenSize_) := (ga5 44 (by decide)).trans g_157
    have g_229 : fs5[(45 : Nat)]? = some (.ref groupKind_) := (ga5 45 (by decide)).trans g_158
    have g_230 : fs5[(46 : Nat)]? = some (.ref groupPhrase_) := (ga5 46 (by decide)).trans g_159
    have g_231 : fs5[(47 : Nat)]? = some (.ref groupSize_) := (ga5 47 (by decide)).trans g_160
    have g_232 : fs5[(48 : Nat)]? = some (.ref groupMask_) := (ga5 48 (by decide)).trans g_161
    have g_233 : fs5[(49 : Nat)]? = some (.ref groupFar_) := (ga5 49 (by decide)).trans g_162
    have g_234 : fs5[(50 : Nat)]? = some (.ref out_) := (ga5 50 (by decide)).trans g_163
    have g_235 : fs5[(51 : Nat)]? = some (.ref top_) := (ga5 51 (by decide)).trans g_164
    have g_236 : fs5[(52 : Nat)]? = some (.ref masks_) := (ga5 52 (by decide)).trans g_165
    have g_237 : fs5[(53 : Nat)]? = some (.ref begins_) := (ga5 53 (by decide)).trans g_166
    have g_238 : fs5[(54 : Nat)]? = some (.ref lasts_) := (ga5 54 (by decide)).trans g_167
    have g_239 : fs5[(55 : Nat)]? = some (.int cl) := (ga5 55 (by decide)).trans g_168
    have g_240 : fs5[(56 : Nat)]? = some (.int (nI fn)) := (ga5 56 (by decide)).trans g_169
    have g_241 : fs5[(57 : Nat)]? = some (.ref truth_) := (ga5 57 (by decide)).trans g_170
    have g_242 : fs5[(58 : Nat)]? = some (.ref answers_) := (ga5 58 (by decide)).trans g_171
    have g_243 : fs5[(59 : Nat)]? = some (.ref order_) := (ga5 59 (by decide)).trans g_172
    have g_244 : fs5[(60 : Nat)]? = some (.ref scores_) := (ga5 60 (by decide)).trans g_173
    have ga_245 : ∀ i : Nat, i ∉ [0, 10, 11, 28, 29, 30, 31, 32, 33, 34, 35, 36, 37, 38, 39, 40, 55, 56, 61] → fs5[i]? = fs[i]? := fun i hi => (ga5 i (fun z => hi (by simp only [List.mem_cons, List.not_mem_nil, or_false] at z ⊢; omega))).trans (ga_175 i hi)
    have hb_246 : 0 ≤ bd5 := Int32.not_lt.mp nb5
    refine s_Model_ask_50 l5 e5 gb5 (fun z => absurd z nb5) (fun z_247 => ?_)
    refine x_u1 (fun h_248 e_249 f_250 => ?_)
    have e_251 := (f_250 draft_ (nd_ne ND (i := 1) (j := 0) rfl rfl (by decide))).trans e_179
    have e_252 := (f_250 asked_ (nd_ne ND (i := 2) (j := 0) rfl rfl (by decide))).trans e_180
    have e_253 := (f_250 firstToken_ (nd_ne ND (i := 18) (j := 0) rfl rfl (by decide))).trans e5_firstToken
    have e_254 := (f_250 starred_ (nd_ne ND (i := 19) (j := 0) rfl rfl (by decide))).trans e5_starred
    have e_255 := (f_250 tokenAt_ (nd_ne ND (i := 20) (j := 0) rfl rfl (by decide))).trans e5_tokenAt
    have e_256 := (f_250 tokenSize_ (nd_ne ND (i := 21) (j := 0) rfl rfl (by decide))).trans e5_tokenSize
    have e_257 := (f_250 groupKind_ (nd_ne ND (i := 22) (j := 0) rfl rfl (by decide))).trans e5_groupKind
    have e_258 := (f_250 groupPhrase_ (nd_ne ND (i := 23) (j := 0) rfl rfl (by decide))).trans e5_groupPhrase
    have e_259 := (f_250 groupSize_ (nd_ne ND (i := 24) (j := 0) rfl rfl (by decide))).trans e5_groupSize
    have e_260 := (f_250 groupMask_ (nd_ne ND (i := 25) (j := 0) rfl rfl (by decide))).trans e5_groupMask
    have e_261 := (f_250 groupFar_ (nd_ne ND (i := 26) (j := 0) rfl rfl (by decide))).trans e5_groupFar
    have e_262 := (f_250 out_ (nd_ne ND (i := 27) (j := 0) rfl rfl (by decide))).trans e5_out
    have e_263 := (f_250 top_ (nd_ne ND (i := 28) (j := 0) rfl rfl (by decide))).trans e5_top
    have e_264 := (f_250 masks_ (nd_ne ND (i := 29) (j := 0) rfl rfl (by decide))).trans e5_masks
    have e_265 := (f_250 truth_ (nd_ne ND (i := 32) (j := 0) rfl rfl (by decide))).trans e_181
    have e_266 := (f_250 texts_ (nd_ne ND (i := 5) (j := 0) rfl rfl (by decide))).trans e_182
    have e_267 := (f_250 sizes_ (nd_ne ND (i := 6) (j := 0) rfl rfl (by decide))).trans e_183
    have e_268 := (f_250 weights_ (nd_ne ND (i := 7) (j := 0) rfl rfl (by decide))).trans e_184
    have e_269 := (f_250 live_ (nd_ne ND (i := 10) (j := 0) rfl rfl (by decide))).trans e_185
    have e_270 := (f_250 begins_ (nd_ne ND (i := 30) (j := 0) rfl rfl (by decide))).trans e_186
    have e_271 := (f_250 lasts_ (nd_ne ND (i := 31) (j := 0) rfl rfl (by decide))).trans e_187
    have e_272 := (f_250 answers_ (nd_ne ND (i := 33) (j := 0) rfl rfl (by decide))).trans e_188
    have e_273 := (f_250 order_ (nd_ne ND (i := 34) (j := 0) rfl rfl (by decide))).trans e_189
    have e_274 := (f_250 scores_ (nd_ne ND (i := 35) (j := 0) rfl rfl (by decide))).trans e_190
    have r_275 := r_191.up (by simp) f_250
    obtain ⟨fs_276, z_277⟩ : ∃ z, z = fs5.set 32 (.int bd5) := ⟨_, rfl⟩
    rw [← z_277] at e_249
    have l_278 : fs_276.length = 62 := by rw [z_277]; simp only [List.length_set]; exact l5
    have g_279 : fs_276[(0 : Nat)]? = some (.int 0) := by rw [z_277]; exact (xw_gn (by decide) g_214)
    have g_280 : fs_276[(3 : Nat)]? = some (.ref draft_) := by rw [z_277]; exact (xw_gn (by decide) g_215)
    have g_281 : fs_276[(4 : Nat)]? = some (.ref asked_) := by rw [z_277]; exact (xw_gn (by decide) g_216)
    have g_282 : fs_276[(7 : Nat)]? = some (.ref texts_) := by rw [z_277]; exact (xw_gn (by decide) g_217)
    have g_283 : fs_276[(8 : Nat)]? = some (.ref sizes_) := by rw [z_277]; exact (xw_gn (by decide) g_218)
    have g_284 : fs_276[(9 : Nat)]? = some (.ref weights_) := by rw [z_277]; exact (xw_gn (by decide) g_219)
    have g_285 : fs_276[(10 : Nat)]? = some (.int 0) := by rw [z_277]; exact (xw_gn (by decide) g_220)
    have g_286 : fs_276[(11 : Nat)]? = some (.int (nI dl)) := by rw [z_277]; exact (xw_gn (by decide) g_221)
    have g_287 : fs_276[(14 : Nat)]? = some (.ref live_) := by rw [z_277]; exact (xw_gn (by decide) g_222)
    have g_288 : fs_276[(28 : Nat)]? = some (.int v_192) := by rw [z_277]; exact (xw_gn (by decide) g_193)
    have g_289 : fs_276[(29 : Nat)]? = some (.int v_194) := by rw [z_277]; exact (xw_gn (by decide) g_195)
    have g_290 : fs_276[(30 : Nat)]? = some (.int v_196) := by rw [z_277]; exact (xw_gn (by decide) g_197)
    have g_291 : fs_276[(31 : Nat)]? = some (.int v_198) := by rw [z_277]; exact (xw_gn (by decide) g_199)
    have g_292 : fs_276[(32 : Nat)]? = some (.int bd5) := by rw [z_277]; exact (xw_gs (by simp [l5]))
    have g_293 : fs_276[(33 : Nat)]? = some (.int bd5) := by rw [z_277]; exact (xw_gn (by decide) gb5)
    have g_294 : fs_276[(34 : Nat)]? = some (.int v_200) := by rw [z_277]; exact (xw_gn (by decide) g_201)
    have g_295 : fs_276[(35 : Nat)]? = some (.int v_202) := by rw [z_277]; exact (xw_gn (by decide) g_203)
    have g_296 : fs_276[(36 : Nat)]? = some (.int v_204) := by rw [z_277]; exact (xw_gn (by decide) g_205)
    have g_297 : fs_276[(37 : Nat)]? = some (.int v_206) := by rw [z_277]; exact (xw_gn (by decide) g_207)
    have g_298 : fs_276[(38 : Nat)]? = some (.int v_208) := by rw [z_277]; exact (xw_gn (by decide) g_209)
    have g_299 : fs_276[(39 : Nat)]? = some (.int v_210) := by rw [z_277]; exact (xw_gn (by decide) g_211)
    have g_300 : fs_276[(40 : Nat)]? = some (.int gd) := by rw [z_277]; exact (xw_gn (by decide) g_224)
    have g_301 : fs_276[(41 : Nat)]? = some (.ref firstToken_) := by rw [z_277]; exact (xw_gn (by decide) g_225)
    have g_302 : fs_276[(42 : Nat)]? = some (.ref starred_) := by rw [z_277]; exact (xw_gn (by decide) g_226)
    have g_303 : fs_276[(43 : Nat)]? = some (.ref tokenAt_) := by rw [z_277]; exact (xw_gn (by decide) g_227)
    have g_304 : fs_276[(44 : Nat)]? = some (.ref tokenSize_) := by rw [z_277]; exact (xw_gn (by decide) g_228)
    have g_305 : fs_276[(45 : Nat)]? = some (.ref groupKind_) := by rw [z_277]; exact (xw_gn (by decide) g_229)
    have g_306 : fs_276[(46 : Nat)]? = some (.ref groupPhrase_) := by rw [z_277]; exact (xw_gn (by decide) g_230)
    have g_307 : fs_276[(47 : Nat)]? = some (.ref groupSize_) := by rw [z_277]; exact (xw_gn (by decide) g_231)
    have g_308 : fs_276[(48 : Nat)]? = some (.ref groupMask_) := by rw [z_277]; exact (xw_gn (by decide) g_232)
    have g_309 : fs_276[(49 : Nat)]? = some (.ref groupFar_) := by rw [z_277]; exact (xw_gn (by decide) g_233)
    have g_310 : fs_276[(50 : Nat)]? = some (.ref out_) := by rw [z_277]; exact (xw_gn (by decide) g_234)
    have g_311 : fs_276[(51 : Nat)]? = some (.ref top_) := by rw [z_277]; exact (xw_gn (by decide) g_235)
    have g_312 : fs_276[(52 : Nat)]? = some (.ref masks_) := by rw [z_277]; exact (xw_gn (by decide) g_236)
    have g_313 : fs_276[(53 : Nat)]? = some (.ref begins_) := by rw [z_277]; exact (xw_gn (by decide) g_237)
    have g_314 : fs_276[(54 : Nat)]? = some (.ref lasts_) := by rw [z_277]; exact (xw_gn (by decide) g_238)
    have g_315 : fs_276[(55 : Nat)]? = some (.int cl) := by rw [z_277]; exact (xw_gn (by decide) g_239)
    have g_316 : fs_276[(56 : Nat)]? = some (.int (nI fn)) := by rw [z_277]; exact (xw_gn (by decide) g_240)
    have g_317 : fs_276[(57 : Nat)]? = some (.ref truth_) := by rw [z_277]; exact (xw_gn (by decide) g_241)
    have g_318 : fs_276[(58 : Nat)]? = some (.ref answers_) := by rw [z_277]; exact (xw_gn (by decide) g_242)
    have g_319 : fs_276[(59 : Nat)]? = some (.ref order_) := by rw [z_277]; exact (xw_gn (by decide) g_243)
    have g_320 : fs_276[(60 : Nat)]? = some (.ref scores_) := by rw [z_277]; exact (xw_gn (by decide) g_244)
    have g_321 : fs_276[(61 : Nat)]? = some (.int v_212) := by rw [z_277]; exact (xw_gn (by decide) g_213)
    have ga_322 : ∀ i : Nat, i ∉ [0, 10, 11, 28, 29, 30, 31, 32, 33, 34, 35, 36, 37, 38, 39, 40, 55, 56, 61] → fs_276[i]? = fs[i]? := fun i hi => by rw [z_277]; exact xw_gn (fun z => hi (by rw [z]; simp)) (ga_245 i hi)
    clear z_277
    refine s_Model_ask_66 ?_
    refine s_Model_ask_71 ?_
    refine x_callV (As := [.int 1, .int 1]) (b := m) (rest := []) (F1 := 1) (L1 := 20) (mc := 0) (ms := 0) d_Model_ask_72 cV_Model_139 (f_fails1 (c := 1) l_278 e_249 g_279 (by decide) (by omega) (by omega)) e_249 ⟨by decide, rfl⟩ ⟨by omega, by show 8 + (3 + 11) + 20 ≤ _; omega⟩ ⟨by omega, by omega⟩ (Nat.le_of_ble_eq_true rfl) (fun v_330 h_329 p_331 => ?_)
    obtain ⟨rfl, fs_323, l_324, e_325, g_327, ga_326, fr_328⟩ := p_331
    have g_332 : fs_323[(3 : Nat)]? = some (.ref draft_) := (ga_326 3 (by decide)).trans g_280
    have g_333 : fs_323[(4 : Nat)]? = some (.ref asked_) := (ga_326 4 (by decide)).trans g_281
    have g_334 : fs_323[(7 : Nat)]? = some (.ref texts_) := (ga_326 7 (by decide)).trans g_282
    have g_335 : fs_323[(8 : Nat)]? = some (.ref sizes_) := (ga_326 8 (by decide)).trans g_283
    have g_336 : fs_323[(9 : Nat)]? = some (.ref weights_) := (ga_326 9 (by decide)).trans g_284
    have g_337 : fs_323[(10 : Nat)]? = some (.int 0) := (ga_326 10 (by decide)).trans g_285
    have g_338 : fs_323[(11 : Nat)]? = some (.int (nI dl)) := (ga_326 11 (by decide)).trans g_286
    have g_339 : fs_323[(14 : Nat)]? = some (.ref live_) := (ga_326 14 (by decide)).trans g_287
    have g_340 : fs_323[(28 : Nat)]? = some (.int v_192) := (ga_326 28 (by decide)).trans g_288
    have g_341 : fs_323[(29 : Nat)]? = some (.int v_194) := (ga_326 29 (by decide)).trans g_289
    have g_342 : fs_323[(30 : Nat)]? = some (.int v_196) := (ga_326 30 (by decide)).trans g_290
    have g_343 : fs_323[(31 : Nat)]? = some (.int v_198) := (ga_326 31 (by decide)).trans g_291
    have g_344 : fs_323[(32 : Nat)]? = some (.int bd5) := (ga_326 32 (by decide)).trans g_292
    have g_345 : fs_323[(33 : Nat)]? = some (.int bd5) := (ga_326 33 (by decide)).trans g_293
    have g_346 : fs_323[(34 : Nat)]? = some (.int v_200) := (ga_326 34 (by decide)).trans g_294
    have g_347 : fs_323[(35 : Nat)]? = some (.int v_202) := (ga_326 35 (by decide)).trans g_295
    have g_348 : fs_323[(36 : Nat)]? = some (.int v_204) := (ga_326 36 (by decide)).trans g_296
    have g_349 : fs_323[(37 : Nat)]? = some (.int v_206) := (ga_326 37 (by decide)).trans g_297
    have g_350 : fs_323[(38 : Nat)]? = some (.int v_208) := (ga_326 38 (by decide)).trans g_298
    have g_351 : fs_323[(39 : Nat)]? = some (.int v_210) := (ga_326 39 (by decide)).trans g_299
    have g_352 : fs_323[(40 : Nat)]? = some (.int gd) := (ga_326 40 (by decide)).trans g_300
    have g_353 : fs_323[(41 : Nat)]? = some (.ref firstToken_) := (ga_326 41 (by decide)).trans g_301
    have g_354 : fs_323[(42 : Nat)]? = some (.ref starred_) := (ga_326 42 (by decide)).trans g_302
    have g_355 : fs_323[(43 : Nat)]? = some (.ref tokenAt_) := (ga_326 43 (by decide)).trans g_303
    have g_356 : fs_323[(44 : Nat)]? = some (.ref tokenSize_) := (ga_326 44 (by decide)).trans g_304
    have g_357 : fs_323[(45 : Nat)]? = some (.ref groupKind_) := (ga_326 45 (by decide)).trans g_305
    have g_358 : fs_323[(46 : Nat)]? = some (.ref groupPhrase_) := (ga_326 46 (by decide)).trans g_306
    have g_359 : fs_323[(47 : Nat)]? = some (.ref groupSize_) := (ga_326 47 (by decide)).trans g_307
    have g_360 : fs_323[(48 : Nat)]? = some (.ref groupMask_) := (ga_326 48 (by decide)).trans g_308
    have g_361 : fs_323[(49 : Nat)]? = some (.ref groupFar_) := (ga_326 49 (by decide)).trans g_309
    have g_362 : fs_323[(50 : Nat)]? = some (.ref out_) := (ga_326 50 (by decide)).trans g_310
    have g_363 : fs_323[(51 : Nat)]? = some (.ref top_) := (ga_326 51 (by decide)).trans g_311
    have g_364 : fs_323[(52 : Nat)]? = some (.ref masks_) := (ga_326 52 (by decide)).trans g_312
    have g_365 : fs_323[(53 : Nat)]? = some (.ref begins_) := (ga_326 53 (by decide)).trans g_313
    have g_366 : fs_323[(54 : Nat)]? = some (.ref lasts_) := (ga_326 54 (by decide)).trans g_314
    have g_367 : fs_323[(55 : Nat)]? = some (.int cl) := (ga_326 55 (by decide)).trans g_315
    have g_368 : fs_323[(56 : Nat)]? = some (.int (nI fn)) := (ga_326 56 (by decide)).trans g_316
    have g_369 : fs_323[(57 : Nat)]? = some (.ref truth_) := (ga_326 57 (by decide)).trans g_317
    have g_370 : fs_323[(58 : Nat)]? = some (.ref answers_) := (ga_326 58 (by decide)).trans g_318
    have g_371 : fs_323[(59 : Nat)]? = some (.ref order_) := (ga_326 59 (by decide)).trans g_319
    have g_372 : fs_323[(60 : Nat)]? = some (.ref scores_) := (ga_326 60 (by decide)).trans g_320
    have g_373 : fs_323[(61 : Nat)]? = some (.int v_212) := (ga_326 61 (by decide)).trans g_321
    have e_374 := fr_328 draft_ _ (by simp only [List.mem_cons, List.not_mem_nil, or_false, not_or]; exact (nd_ne ND (i := 1) (j := 0) rfl rfl (by decide))) e_251
    have e_375 := fr_328 asked_ _ (by simp only [List.mem_cons, List.not_mem_nil, or_false, not_or]; exact (nd_ne ND (i := 2) (j := 0) rfl rfl (by decide))) e_252
    have e_376 := fr_328 firstToken_ _ (by simp only [List.mem_cons, List.not_mem_nil, or_false, not_or]; exact (nd_ne ND (i := 18) (j := 0) rfl rfl (by decide))) e_253
    have e_377 := fr_328 starred_ _ (by simp only [List.mem_cons, List.not_mem_nil, or_false, not_or]; exact (nd_ne ND (i := 19) (j := 0) rfl rfl (by decide))) e_254
    have e_378 := fr_328 tokenAt_ _ (by simp only [List.mem_cons, List.not_mem_nil, or_false, not_or]; exact (nd_ne ND (i := 20) (j := 0) rfl rfl (by decide))) e_255
    have e_379 := fr_328 tokenSize_ _ (by simp only [List.mem_cons, List.not_mem_nil, or_false, not_or]; exact (nd_ne ND (i := 21) (j := 0) rfl rfl (by decide))) e_256
    have e_380 := fr_328 groupKind_ _ (by simp only [List.mem_cons, List.not_mem_nil, or_false, not_or]; exact (nd_ne ND (i := 22) (j := 0) rfl rfl (by decide))) e_257
    have e_381 := fr_328 groupPhrase_ _ (by simp only [List.mem_cons, List.not_mem_nil, or_false, not_or]; exact (nd_ne ND (i := 23) (j := 0) rfl rfl (by decide))) e_258
    have e_382 := fr_328 groupSize_ _ (by simp only [List.mem_cons, List.not_mem_nil, or_false, not_or]; exact (nd_ne ND (i := 24) (j := 0) rfl rfl (by decide))) e_259
    have e_383 := fr_328 groupMask_ _ (by simp only [List.mem_cons, List.not_mem_nil, or_false, not_or]; exact (nd_ne ND (i := 25) (j := 0) rfl rfl (by decide))) e_260
    have e_384 := fr_328 groupFar_ _ (by simp only [List.mem_cons, List.not_mem_nil, or_false, not_or]; exact (nd_ne ND (i := 26) (j := 0) rfl rfl (by decide))) e_261
    have e_385 := fr_328 out_ _ (by simp only [List.mem_cons, List.not_mem_nil, or_false, not_or]; exact (nd_ne ND (i := 27) (j := 0) rfl rfl (by decide))) e_262
    have e_386 := fr_328 top_ _ (by simp only [List.mem_cons, List.not_mem_nil, or_false, not_or]; exact (nd_ne ND (i := 28) (j := 0) rfl rfl (by decide))) e_263
    have e_387 := fr_328 masks_ _ (by simp only [List.mem_cons, List.not_mem_nil, or_false, not_or]; exact (nd_ne ND (i := 29) (j := 0) rfl rfl (by decide))) e_264
    have e_388 := fr_328 truth_ _ (by simp only [List.mem_cons, List.not_mem_nil, or_false, not_or]; exact (nd_ne ND (i := 32) (j := 0) rfl rfl (by decide))) e_265
    have e_389 := fr_328 texts_ _ (by simp only [List.mem_cons, List.not_mem_nil, or_false, not_or]; exact (nd_ne ND (i := 5) (j := 0) rfl rfl (by decide))) e_266
    have e_390 := fr_328 sizes_ _ (by simp only [List.mem_cons, List.not_mem_nil, or_false, not_or]; exact (nd_ne ND (i := 6) (j := 0) rfl rfl (by decide))) e_267
    have e_391 := fr_328 weights_ _ (by simp only [List.mem_cons, List.not_mem_nil, or_false, not_or]; exact (nd_ne ND (i := 7) (j := 0) rfl rfl (by decide))) e_268
    have e_392 := fr_328 live_ _ (by simp only [List.mem_cons, List.not_mem_nil, or_false, not_or]; exact (nd_ne ND (i := 10) (j := 0) rfl rfl (by decide))) e_269
    have e_393 := fr_328 begins_ _ (by simp only [List.mem_cons, List.not_mem_nil, or_false, not_or]; exact (nd_ne ND (i := 30) (j := 0) rfl rfl (by decide))) e_270
    have e_394 := fr_328 lasts_ _ (by simp only [List.mem_cons, List.not_mem_nil, or_false, not_or]; exact (nd_ne ND (i := 31) (j := 0) rfl rfl (by decide))) e_271
    have e_395 := fr_328 answers_ _ (by simp only [List.mem_cons, List.not_mem_nil, or_false, not_or]; exact (nd_ne ND (i := 33) (j := 0) rfl rfl (by decide))) e_272
    have e_396 := fr_328 order_ _ (by simp only [List.mem_cons, List.not_mem_nil, or_false, not_or]; exact (nd_ne ND (i := 34) (j := 0) rfl rfl (by decide))) e_273
    have e_397 := fr_328 scores_ _ (by simp only [List.mem_cons, List.not_mem_nil, or_false, not_or]; exact (nd_ne ND (i := 35) (j := 0) rfl rfl (by decide))) e_274
    have ga_398 : ∀ i : Nat, i ∉ [0, 10, 11, 28, 29, 30, 31, 32, 33, 34, 35, 36, 37, 38, 39, 40, 55, 56, 61] → fs_323[i]? = fs[i]? := fun i hi => (ga_326 i (fun z => hi (by simp only [List.mem_cons, List.not_mem_nil, or_false] at z ⊢; omega))).trans (ga_322 i hi)
    have r_399 := r_275.trans (fr_328.mono (by simp))
    refine s_Model_ask_75 (fun z => absurd z (by decide)) (fun z_400 => ?_)
    refine s_Model_ask_78 ?_
    exact ⟨⟨_, rfl⟩, ⟨_, l_324, e_325, ⟨_, g_327⟩, ⟨0, fd, g_337, g_332, e_374, by omega⟩, (KPr.fr ga_398 r_399 (by decide) (pick_dis ND (l := [m, draft_, asked_, prepared_, preparedSize_, texts_, sizes_, weights_, entries_, lies_, live_, row_, level_, oldTexts_, oldSizes_, oldLies_, oldLive_, oldRow_, firstToken_, starred_, tokenAt_, tokenSize_, groupKind_, groupPhrase_, groupSize_, groupMask_, groupFar_, out_, top_, masks_, begins_, lasts_, truth_, answers_, order_, scores_]) (is := [3, 4]) (js := [0, 2, 18, 19, 20, 21, 22, 23, 24, 25, 26, 27, 28, 29, 30, 31, 32, 33, 34, 35]) (by decide))), (KTx.fr ga_398 r_399 (by decide) (pick_dis ND (l := [m, draft_, asked_, prepared_, preparedSize_, texts_, sizes_, weights_, entries_, lies_, live_, row_, level_, oldTexts_, oldSizes_, oldLies_, oldLive_, oldRow_, firstToken_, starred_, tokenAt_, tokenSize_, groupKind_, groupPhrase_, groupSize_, groupMask_, groupFar_, out_, top_, masks_, begins_, lasts_, truth_, answers_, order_, scores_]) (is := [5, 6]) (js := [0, 2, 18, 19, 20, 21, 22, 23, 24, 25, 26, 27, 28, 29, 30, 31, 32, 33, 34, 35]) (by decide))), (KOt.fr ga_398 r_399 (by decide) (pick_dis ND (l := [m, draft_, asked_, prepared_, preparedSize_, texts_, sizes_, weights_, entries_, lies_, live_, row_, level_, oldTexts_, oldSizes_, oldLies_, oldLive_, oldRow_, firstToken_, starred_, tokenAt_, tokenSize_, groupKind_, groupPhrase_, groupSize_, groupMask_, groupFar_, out_, top_, masks_, begins_, lasts_, truth_, answers_, order_, scores_]) (is := [13, 14]) (js := [0, 2, 18, 19, 20, 21, 22, 23, 24, 25, 26, 27, 28, 29, 30, 31, 32, 33, 34, 35]) (by decide))), (KSt.fr ga_398 r_399 (by decide) (pick_dis ND (l := [m, draft_, asked_, prepared_, preparedSize_, texts_, sizes_, weights_, entries_, lies_, live_, row_, level_, oldTexts_, oldSizes_, oldLies_, oldLive_, oldRow_, firstToken_, starred_, tokenAt_, tokenSize_, groupKind_, groupPhrase_, groupSize_, groupMask_, groupFar_, out_, top_, masks_, begins_, lasts_, truth_, answers_, order_, scores_]) (is := [8, 9, 10, 11, 12, 15, 16, 17]) (js := [0, 2, 18, 19, 20, 21, 22, 23, 24, 25, 26, 27, 28, 29, 30, 31, 32, 33, 34, 35]) (by decide))).succ, (KMo.fr ga_398 r_399 (by decide) (fun _ z => nomatch z)), (KWe.fr ga_398 r_399 (by decide) (pick_dis ND (l := [m, draft_, asked_, prepared_, preparedSize_, texts_, sizes_, weights_, entries_, lies_, live_, row_, level_, oldTexts_, oldSizes_, oldLies_, oldLive_, oldRow_, firstToken_, starred_, tokenAt_, tokenSize_, groupKind_, groupPhrase_, groupSize_, groupMask_, groupFar_, out_, top_, masks_, begins_, lasts_, truth_, answers_, order_, scores_]) (is := [7]) (js := [0, 2, 18, 19, 20, 21, 22, 23, 24, 25, 26, 27, 28, 29, 30, 31, 32, 33, 34, 35]) (by decide))), ⟨_, _, _, g_367, g_365, e_393, g_366, e_394⟩, ⟨_, _, fn, _, _, _, g_344, g_352, g_368, g_370, e_395, g_371, e_396, g_372, e_397, hfn, hord⟩, ⟨dl, _, _, _, _, _, _, _, _, _, _, _, _, _, _, _, _, _, _, _, _, _, _, _, _, _, _, g_338, g_340, g_341, g_342, g_343, g_345, g_346, g_347, g_348, g_349, g_350, g_351, g_373, g_333, e_375, g_353, e_376, g_354, e_377, g_355, e_378, g_356, e_379, g_357, e_380, g_358, e_381, g_359, e_382, g_360, e_383, g_361, e_384, g_362, e_385, g_363, e_386, g_364, e_387, g_369, e_388, hdl⟩⟩, r_399.mono (by simp), r_399, FF.of e e_325 ga_398, ⟨_, e_325, g_337⟩, fun dl8 fd8 ft8 fz8 fv8 w1 w2 w3 w4 w5 w6 => by obtain rfl : dl8 = dl := (nI_eq (by omega) (by omega)).mp (Value.int.inj (w2.inj ⟨_, e, g_drafted⟩)); obtain rfl := cinj w3 e_draft; obtain rfl := cinj w4 e_texts; obtain rfl := cinj w5 e_sizes; obtain rfl := cinj w6 e_live; exact ⟨fa6, hfa6, Or.inl ⟨hr5, ⟨_, e_325, g_327⟩, fun v9 q9 => (by rw [Rf.inj q9 ⟨_, e, g_found⟩]; exact ⟨_, e_325, g_368⟩), fun v9 q9 => (by rw [Rf.inj q9 ⟨_, e, g_good⟩]; exact ⟨_, e_325, g_352⟩)⟩⟩⟩
  · skip
    have e_401 := r5 draft_ _ (by simp only [List.mem_cons, List.not_mem_nil, or_false, not_or]; exact ⟨(nd_ne ND (i := 1) (j := 0) rfl rfl (by decide)), (nd_ne ND (i := 1) (j := 18) rfl rfl (by decide)), (nd_ne ND (i := 1) (j := 19) rfl rfl (by decide)), (nd_ne ND (i := 1) (j := 20) rfl rfl (by decide)), (nd_ne ND (i := 1) (j := 21) rfl rfl (by decide)), (nd_ne ND (i := 1) (j := 22) rfl rfl (by decide)), (nd_ne ND (i := 1) (j := 23) rfl rfl (by decide)), (nd_ne ND (i := 1) (j := 24) rfl rfl (by decide)), (nd_ne ND (i := 1) (j := 25) rfl rfl (by decide)), (nd_ne ND (i := 1) (j := 26) rfl rfl (by decide)), (nd_ne ND (i := 1) (j := 27) rfl rfl (by decide)), (nd_ne ND (i := 1) (j := 28) rfl rfl (by decide)), (nd_ne ND (i := 1) (j := 29) rfl rfl (by decide))⟩) e_104
    have e_402 := r5 asked_ _ (by simp only [List.mem_cons, List.not_mem_nil, or_false, not_or]; exact ⟨(nd_ne ND (i := 2) (j := 0) rfl rfl (by decide)), (nd_ne ND (i := 2) (j := 18) rfl rfl (by decide)), (nd_ne ND (i := 2) (j := 19) rfl rfl (by decide)), (nd_ne ND (i := 2) (j := 20) rfl rfl (by decide)), (nd_ne ND (i := 2) (j := 21) rfl rfl (by decide)), (nd_ne ND (i := 2) (j := 22) rfl rfl (by decide)), (nd_ne ND (i := 2) (j := 23) rfl rfl (by decide)), (nd_ne ND (i := 2) (j := 24) rfl rfl (by decide)), (nd_ne ND (i := 2) (j := 25) rfl rfl (by decide)), (nd_ne ND (i := 2) (j := 26) rfl rfl (by decide)), (nd_ne ND (i := 2) (j := 27) rfl rfl (by decide)), (nd_ne ND (i := 2) (j := 28) rfl rfl (by decide)), (nd_ne ND (i := 2) (j := 29) rfl rfl (by decide))⟩) e_105
    have e_403 := r5 truth_ _ (by simp only [List.mem_cons, List.not_mem_nil, or_false, not_or]; exact ⟨(nd_ne ND (i := 32) (j := 0) rfl rfl (by decide)), (Ne.symm (nd_ne ND (i := 18) (j := 32) rfl rfl (by decide))), (Ne.symm (nd_ne ND (i := 19) (j := 32) rfl rfl (by decide))), (Ne.symm (nd_ne ND (i := 20) (j := 32) rfl rfl (by decide))), (Ne.symm (nd_ne ND (i := 21) (j := 32) rfl rfl (by decide))), (Ne.symm (nd_ne ND (i := 22) (j := 32) rfl rfl (by decide))), (Ne.symm (nd_ne ND (i := 23) (j := 32) rfl rfl (by decide))), (Ne.symm (nd_ne ND (i := 24) (j := 32) rfl rfl (by decide))), (Ne.symm (nd_ne ND (i := 25) (j := 32) rfl rfl (by decide))), (Ne.symm (nd_ne ND (i := 26) (j := 32) rfl rfl (by decide))), (Ne.symm (nd_ne ND (i := 27) (j := 32) rfl rfl (by decide))), (Ne.symm (nd_ne ND (i := 28) (j := 32) rfl rfl (by decide))), (Ne.symm (nd_ne ND (i := 29) (j := 32) rfl rfl (by decide)))⟩) e_118
    have e_404 := r5 texts_ _ (by simp only [List.mem_cons, List.not_mem_nil, or_false, not_or]; exact ⟨(nd_ne ND (i := 5) (j := 0) rfl rfl (by decide)), (Ne.symm (nd_ne ND (i := 18) (j := 5) rfl rfl (by decide))), (Ne.symm (nd_ne ND (i := 19) (j := 5) rfl rfl (by decide))), (Ne.symm (nd_ne ND (i := 20) (j := 5) rfl rfl (by decide))), (Ne.symm (nd_ne ND (i := 21) (j := 5) rfl rfl (by decide))), (Ne.symm (nd_ne ND (i := 22) (j := 5) rfl rfl (by decide))), (Ne.symm (nd_ne ND (i := 23) (j := 5) rfl rfl (by decide))), (Ne.symm (nd_ne ND (i := 24) (j := 5) rfl rfl (by decide))), (Ne.symm (nd_ne ND (i := 25) (j := 5) rfl rfl (by decide))), (Ne.symm (nd_ne ND (i := 26) (j := 5) rfl rfl (by decide))), (Ne.symm (nd_ne ND (i := 27) (j := 5) rfl rfl (by decide))), (Ne.symm (nd_ne ND (i := 28) (j := 5) rfl rfl (by decide))), (Ne.symm (nd_ne ND (i := 29) (j := 5) rfl rfl (by decide)))⟩) e_119
    have e_405 := r5 sizes_ _ (by simp only [List.mem_cons, List.not_mem_nil, or_false, not_or]; exact ⟨(nd_ne ND (i := 6) (j := 0) rfl rfl (by decide)), (Ne.symm (nd_ne ND (i := 18) (j := 6) rfl rfl (by decide))), (Ne.symm (nd_ne ND (i := 19) (j := 6) rfl rfl (by decide))), (Ne.symm (nd_ne ND (i := 20) (j := 6) rfl rfl (by decide))), (Ne.symm (nd_ne ND (i := 21) (j := 6) rfl rfl (by decide))), (Ne.symm (nd_ne ND (i := 22) (j := 6) rfl rfl (by decide))), (Ne.symm (nd_ne ND (i := 23) (j := 6) rfl rfl (by decide))), (Ne.symm (nd_ne ND (i := 24) (j := 6) rfl rfl (by decide))), (Ne.symm (nd_ne ND (i := 25) (j := 6) rfl rfl (by decide))), (Ne.symm (nd_ne ND (i := 26) (j := 6) rfl rfl (by decide))), (Ne.symm (nd_ne ND (i := 27) (j := 6) rfl rfl (by decide))), (Ne.symm (nd_ne ND (i := 28) (j := 6) rfl rfl (by decide))), (Ne.symm (nd_ne ND (i := 29) (j := 6) rfl rfl (by decide)))⟩) e_120
    have e_406 := r5 weights_ _ (by simp only [List.mem_cons, List.not_mem_nil, or_false, not_or]; exact ⟨(nd_ne ND (i := 7) (j := 0) rfl rfl (by decide)), (Ne.symm (nd_ne ND (i := 18) (j := 7) rfl rfl (by decide))), (Ne.symm (nd_ne ND (i := 19) (j := 7) rfl rfl (by decide))), (Ne.symm (nd_ne ND (i := 20) (j := 7) rfl rfl (by decide))), (Ne.symm (nd_ne ND (i := 21) (j := 7) rfl rfl (by decide))), (Ne.symm (nd_ne ND (i := 22) (j := 7) rfl rfl (by decide))), (Ne.symm (nd_ne ND (i := 23) (j := 7) rfl rfl (by decide))), (Ne.symm (nd_ne ND (i := 24) (j := 7) rfl rfl (by decide))), (Ne.symm (nd_ne ND (i := 25) (j := 7) rfl rfl (by decide))), (Ne.symm (nd_ne ND (i := 26) (j := 7) rfl rfl (by decide))), (Ne.symm (nd_ne ND (i := 27) (j := 7) rfl rfl (by decide))), (Ne.symm (nd_ne ND (i := 28) (j := 7) rfl rfl (by decide))), (Ne.symm (nd_ne ND (i := 29) (j := 7) rfl rfl (by decide)))⟩) e_121
    have e_407 := r5 live_ _ (by simp only [List.mem_cons, List.not_mem_nil, or_false, not_or]; exact ⟨(nd_ne ND (i := 10) (j := 0) rfl rfl (by decide)), (Ne.symm (nd_ne ND (i := 18) (j := 10) rfl rfl (by decide))), (Ne.symm (nd_ne ND (i := 19) (j := 10) rfl rfl (by decide))), (Ne.symm (nd_ne ND (i := 20) (j := 10) rfl rfl (by decide))), (Ne.symm (nd_ne ND (i := 21) (j := 10) rfl rfl (by decide))), (Ne.symm (nd_ne ND (i := 22) (j := 10) rfl rfl (by decide))), (Ne.symm (nd_ne ND (i := 23) (j := 10) rfl rfl (by decide))), (Ne.symm (nd_ne ND (i := 24) (j := 10) rfl rfl (by decide))), (Ne.symm (nd_ne ND (i := 25) (j := 10) rfl rfl (by decide))), (Ne.symm (nd_ne ND (i := 26) (j := 10) rfl rfl (by decide))), (Ne.symm (nd_ne ND (i := 27) (j := 10) rfl rfl (by decide))), (Ne.symm (nd_ne ND (i := 28) (j := 10) rfl rfl (by decide))), (Ne.symm (nd_ne ND (i := 29) (j := 10) rfl rfl (by decide)))⟩) e_122
    have e_408 := r5 begins_ _ (by simp only [List.mem_cons, List.not_mem_nil, or_false, not_or]; exact ⟨(nd_ne ND (i := 30) (j := 0) rfl rfl (by decide)), (Ne.symm (nd_ne ND (i := 18) (j := 30) rfl rfl (by decide))), (Ne.symm (nd_ne ND (i := 19) (j := 30) rfl rfl (by decide))), (Ne.symm (nd_ne ND (i := 20) (j := 30) rfl rfl (by decide))), (Ne.symm (nd_ne ND (i := 21) (j := 30) rfl rfl (by decide))), (Ne.symm (nd_ne ND (i := 22) (j := 30) rfl rfl (by decide))), (Ne.symm (nd_ne ND (i := 23) (j := 30) rfl rfl (by decide))), (Ne.symm (nd_ne ND (i := 24) (j := 30) rfl rfl (by decide))), (Ne.symm (nd_ne ND (i := 25) (j := 30) rfl rfl (by decide))), (Ne.symm (nd_ne ND (i := 26) (j := 30) rfl rfl (by decide))), (Ne.symm (nd_ne ND (i := 27) (j := 30) rfl rfl (by decide))), (Ne.symm (nd_ne ND (i := 28) (j := 30) rfl rfl (by decide))), (Ne.symm (nd_ne ND (i := 29) (j := 30) rfl rfl (by decide)))⟩) e_123
    have e_409 := r5 lasts_ _ (by simp only [List.mem_cons, List.not_mem_nil, or_false, not_or]; exact ⟨(nd_ne ND (i := 31) (j := 0) rfl rfl (by decide)), (Ne.symm (nd_ne ND (i := 18) (j := 31) rfl rfl (by decide))), (Ne.symm (nd_ne ND (i := 19) (j := 31) rfl rfl (by decide))), (Ne.symm (nd_ne ND (i := 20) (j := 31) rfl rfl (by decide))), (Ne.symm (nd_ne ND (i := 21) (j := 31) rfl rfl (by decide))), (Ne.symm (nd_ne ND (i := 22) (j := 31) rfl rfl (by decide))), (Ne.symm (nd_ne ND (i := 23) (j := 31) rfl rfl (by decide))), (Ne.symm (nd_ne ND (i := 24) (j := 31) rfl rfl (by decide))), (Ne.symm (nd_ne ND (i := 25) (j := 31) rfl rfl (by decide))), (Ne.symm (nd_ne ND (i := 26) (j := 31) rfl rfl (by decide))), (Ne.symm (nd_ne ND (i := 27) (j := 31) rfl rfl (by decide))), (Ne.symm (nd_ne ND (i := 28) (j := 31) rfl rfl (by decide))), (Ne.symm (nd_ne ND (i := 29) (j := 31) rfl rfl (by decide)))⟩) e_124
    have e_410 := r5 answers_ _ (by simp only [List.mem_cons, List.not_mem_nil, or_false, not_or]; exact ⟨(nd_ne ND (i := 33) (j := 0) rfl rfl (by decide)), (Ne.symm (nd_ne ND (i := 18) (j := 33) rfl rfl (by decide))), (Ne.symm (nd_ne ND (i := 19) (j := 33) rfl rfl (by decide))), (Ne.symm (nd_ne ND (i := 20) (j := 33) rfl rfl (by decide))), (Ne.symm (nd_ne ND (i := 21) (j := 33) rfl rfl (by decide))), (Ne.symm (nd_ne ND (i := 22) (j := 33) rfl rfl (by decide))), (Ne.symm (nd_ne ND (i := 23) (j := 33) rfl rfl (by decide))), (Ne.symm (nd_ne ND (i := 24) (j := 33) rfl rfl (by decide))), (Ne.symm (nd_ne ND (i := 25) (j := 33) rfl rfl (by decide))), (Ne.symm (nd_ne ND (i := 26) (j := 33) rfl rfl (by decide))), (Ne.symm (nd_ne ND (i := 27) (j := 33) rfl rfl (by decide))), (Ne.symm (nd_ne ND (i := 28) (j := 33) rfl rfl (by decide))), (Ne.symm (nd_ne ND (i := 29) (j := 33) rfl rfl (by decide)))⟩) e_125
    have e_411 := r5 order_ _ (by simp only [List.mem_cons, List.not_mem_nil, or_false, not_or]; exact ⟨(nd_ne ND (i := 34) (j := 0) rfl rfl (by decide)), (Ne.symm (nd_ne ND (i := 18) (j := 34) rfl rfl (by decide))), (Ne.symm (nd_ne ND (i := 19) (j := 34) rfl rfl (by decide))), (Ne.symm (nd_ne ND (i := 20) (j := 34) rfl rfl (by decide))), (Ne.symm (nd_ne ND (i := 21) (j := 34) rfl rfl (by decide))), (Ne.symm (nd_ne ND (i := 22) (j := 34) rfl rfl (by decide))), (Ne.symm (nd_ne ND (i := 23) (j := 34) rfl rfl (by decide))), (Ne.symm (nd_ne ND (i := 24) (j := 34) rfl rfl (by decide))), (Ne.symm (nd_ne ND (i := 25) (j := 34) rfl rfl (by decide))), (Ne.symm (nd_ne ND (i := 26) (j := 34) rfl rfl (by decide))), (Ne.symm (nd_ne ND (i := 27) (j := 34) rfl rfl (by decide))), (Ne.symm (nd_ne ND (i := 28) (j := 34) rfl rfl (by decide))), (Ne.symm (nd_ne ND (i := 29) (j := 34) rfl rfl (by decide)))⟩) e_126
    have e_412 := r5 scores_ _ (by simp only [List.mem_cons, List.not_mem_nil, or_false, not_or]; exact ⟨(nd_ne ND (i := 35) (j := 0) rfl rfl (by decide)), (Ne.symm (nd_ne ND (i := 18) (j := 35) rfl rfl (by decide))), (Ne.symm (nd_ne ND (i := 19) (j := 35) rfl rfl (by decide))), (Ne.symm (nd_ne ND (i := 20) (j := 35) rfl rfl (by decide))), (Ne.symm (nd_ne ND (i := 21) (j := 35) rfl rfl (by decide))), (Ne.symm (nd_ne ND (i := 22) (j := 35) rfl rfl (by decide))), (Ne.symm (nd_ne ND (i := 23) (j := 35) rfl rfl (by decide))), (Ne.symm (nd_ne ND (i := 24) (j := 35) rfl rfl (by decide))), (Ne.symm (nd_ne ND (i := 25) (j := 35) rfl rfl (by decide))), (Ne.symm (nd_ne ND (i := 26) (j := 35) rfl rfl (by decide))), (Ne.symm (nd_ne ND (i := 27) (j := 35) rfl rfl (by decide))), (Ne.symm (nd_ne ND (i := 28) (j := 35) rfl rfl (by decide))), (Ne.symm (nd_ne ND (i := 29) (j := 35) rfl rfl (by decide)))⟩) e_127
    have r_413 := r_128.trans (r5.mono (by simp))
    obtain ⟨v_414, g_415⟩ := IN5 28 (by decide)
    obtain ⟨v_416, g_417⟩ := IN5 29 (by decide)
    obtain ⟨v_418, g_419⟩ := IN5 30 (by decide)
    obtain ⟨v_420, g_421⟩ := IN5 31 (by decide)
    obtain ⟨v_422, g_423⟩ := IN5 38 (by decide)
    obtain ⟨v_424, g_425⟩ := IN5 39 (by decide)
    obtain ⟨v_426, g_427⟩ := IN5 61 (by decide)
    have g_428 : fs5[(0 : Nat)]? = some (.int 0) := (ga5 0 (by decide)).trans g_132
    have g_429 : fs5[(3 : Nat)]? = some (.ref draft_) := (ga5 3 (by decide)).trans g_133
    have g_430 : fs5[(4 : Nat)]? = some (.ref asked_) := (ga5 4 (by decide)).trans g_134
    have g_431 : fs5[(7 : Nat)]? = some (.ref texts_) := (ga5 7 (by decide)).trans g_135
    have g_432 : fs5[(8 : Nat)]? = some (.ref sizes_) := (ga5 8 (by decide)).trans g_136
    have g_433 : fs5[(9 : Nat)]? = some (.ref weights_) := (ga5 9 (by decide)).trans g_137
    have g_434 : fs5[(10 : Nat)]? = some (.int 0) := (ga5 10 (by decide)).trans g_138
    have g_435 : fs5[(11 : Nat)]? = some (.int (nI dl)) := (ga5 11 (by decide)).trans g_139
    have g_436 : fs5[(14 : Nat)]? = some (.ref live_) := (ga5 14 (by decide)).trans g_140
    have g_437 : fs5[(32 : Nat)]? = some (.int wa) := (ga5 32 (by decide)).trans g_145
    have g_438 : fs5[(40 : Nat)]? = some (.int gd) := (ga5 40 (by decide)).trans g_153
    have g_439 : fs5[(41 : Nat)]? = some (.ref firstToken_) := (ga5 41 (by decide)).trans g_154
    have g_440 : fs5[(42 : Nat)]? = some (.ref starred_) := (ga5 42 (by decide)).trans g_155
    have g_441 : fs5[(43 : Nat)]? = some (.ref tokenAt_) := (ga5 43 (by decide)).trans g_156
    have g_442 : fs5[(44 : Nat)]? = some (.ref tokenSize_) := (ga5 44 (by decide)).trans g_157
    have g_443 : fs5[(45 : Nat)]? = some (.ref groupKind_) := (ga5 45 (by decide)).trans g_158
    have g_444 : fs5[(46 : Nat)]? = some (.ref groupPhrase_) := (ga5 46 (by decide)).trans g_159
    have g_445 : fs5[(47 : Nat)]? = some (.ref groupSize_) := (ga5 47 (by decide)).trans g_160
    have g_446 : fs5[(48 : Nat)]? = some (.ref groupMask_) := (ga5 48 (by decide)).trans g_161
    have g_447 : fs5[(49 : Nat)]? = some (.ref groupFar_) := (ga5 49 (by decide)).trans g_162
    have g_448 : fs5[(50 : Nat)]? = some (.ref out_) := (ga5 50 (by decide)).trans g_163
    have g_449 : fs5[(51 : Nat)]? = some (.ref top_) := (ga5 51 (by decide)).trans g_164
    have g_450 : fs5[(52 : Nat)]? = some (.ref masks_) := (ga5 52 (by decide)).trans g_165
    have g_451 : fs5[(53 : Nat)]? = some (.ref begins_) := (ga5 53 (by decide)).trans g_166
    have g_452 : fs5[(54 : Nat)]? = some (.ref lasts_) := (ga5 54 (by decide)).trans g_167
    have g_453 : fs5[(55 : Nat)]? = some (.int cl) := (ga5 55 (by decide)).trans g_168
    have g_454 : fs5[(56 : Nat)]? = some (.int (nI fn)) := (ga5 56 (by decide)).trans g_169
    have g_455 : fs5[(57 : Nat)]? = some (.ref truth_) := (ga5 57 (by decide)).trans g_170
    have g_456 : fs5[(58 : Nat)]? = some (.ref answers_) := (ga5 58 (by decide)).trans g_171
    have g_457 : fs5[(59 : Nat)]? = some (.ref order_) := (ga5 59 (by decide)).trans g_172
    have g_458 : fs5[(60 : Nat)]? = some (.ref scores_) := (ga5 60 (by decide)).trans g_173
    have ga_459 : ∀ i : Nat, i ∉ [0, 10, 11, 28, 29, 30, 31, 32, 33, 34, 35, 36, 37, 38, 39, 40, 55, 56, 61] → fs5[i]? = fs[i]? := fun i hi => (ga5 i (fun z => hi (by simp only [List.mem_cons, List.not_mem_nil, or_false] at z ⊢; omega))).trans (ga_175 i hi)
    have hb_460 : ¬ 0 ≤ bd5 := Int32.not_le.mpr hb5
    refine s_Model_ask_50 l5 e5 gb5 (fun z_461 => ?_) (fun z => absurd hb5 z)
    refine x_u1 (fun h_462 e_463 f_464 => ?_)
    have e_465 := (f_464 draft_ (nd_ne ND (i := 1) (j := 0) rfl rfl (by decide))).trans e_401
    have e_466 := (f_464 asked_ (nd_ne ND (i := 2) (j := 0) rfl rfl (by decide))).trans e_402
    have e_467 := (f_464 firstToken_ (nd_ne ND (i := 18) (j := 0) rfl rfl (by decide))).trans e5_firstToken
    have e_468 := (f_464 starred_ (nd_ne ND (i := 19) (j := 0) rfl rfl (by decide))).trans e5_starred
    have e_469 := (f_464 tokenAt_ (nd_ne ND (i := 20) (j := 0) rfl rfl (by decide))).trans e5_tokenAt
    have e_470 := (f_464 tokenSize_ (nd_ne ND (i := 21) (j := 0) rfl rfl (by decide))).trans e5_tokenSize
    have e_471 := (f_464 groupKind_ (nd_ne ND (i := 22) (j := 0) rfl rfl (by decide))).trans e5_groupKind
    have e_472 := (f_464 groupPhrase_ (nd_ne ND (i := 23) (j := 0) rfl rfl (by decide))).trans e5_groupPhrase
    have e_473 := (f_464 groupSize_ (nd_ne ND (i := 24) (j := 0) rfl rfl (by decide))).trans e5_groupSize
    have e_474 := (f_464 groupMask_ (nd_ne ND (i := 25) (j := 0) rfl rfl (by decide))).trans e5_groupMask
    have e_475 := (f_464 groupFar_ (nd_ne ND (i := 26) (j := 0) rfl rfl (by decide))).trans e5_groupFar
    have e_476 := (f_464 out_ (nd_ne ND (i := 27) (j := 0) rfl rfl (by decide))).trans e5_out
    have e_477 := (f_464 top_ (nd_ne ND (i := 28) (j := 0) rfl rfl (by decide))).trans e5_top
    have e_478 := (f_464 masks_ (nd_ne ND (i := 29) (j := 0) rfl rfl (by decide))).trans e5_masks
    have e_479 := (f_464 truth_ (nd_ne ND (i := 32) (j := 0) rfl rfl (by decide))).trans e_403
    have e_480 := (f_464 texts_ (nd_ne ND (i := 5) (j := 0) rfl rfl (by decide))).trans e_404
    have e_481 := (f_464 sizes_ (nd_ne ND (i := 6) (j := 0) rfl rfl (by decide))).trans e_405
    have e_482 := (f_464 weights_ (nd_ne ND (i := 7) (j := 0) rfl rfl (by decide))).trans e_406
    have e_483 := (f_464 live_ (nd_ne ND (i := 10) (j := 0) rfl rfl (by decide))).trans e_407
    have e_484 := (f_464 begins_ (nd_ne ND (i := 30) (j := 0) rfl rfl (by decide))).trans e_408
    have e_485 := (f_464 lasts_ (nd_ne ND (i := 31) (j := 0) rfl rfl (by decide))).trans e_409
    have e_486 := (f_464 answers_ (nd_ne ND (i := 33) (j := 0) rfl rfl (by decide))).trans e_410
    have e_487 := (f_464 order_ (nd_ne ND (i := 34) (j := 0) rfl rfl (by decide))).trans e_411
    have e_488 := (f_464 scores_ (nd_ne ND (i := 35) (j := 0) rfl rfl (by decide))).trans e_412
    have r_489 := r_413.up (by simp) f_464
    obtain ⟨fs_490, z_491⟩ : ∃ z, z = fs5.set 32 (.int bd5) := ⟨_, rfl⟩
    rw [← z_491] at e_463
    have l_492 : fs_490.length = 62 := by rw [z_491]; simp only [List.length_set]; exact l5
    have g_493 : fs_490[(0 : Nat)]? = some (.int 0) := by rw [z_491]; exact (xw_gn (by decide) g_428)
    have g_494 : fs_490[(3 : Nat)]? = some (.ref draft_) := by rw [z_491]; exact (xw_gn (by decide) g_429)
    have g_495 : fs_490[(4 : Nat)]? = some (.ref asked_) := by rw [z_491]; exact (xw_gn (by decide) g_430)
    have g_496 : fs_490[(7 : Nat)]? = some (.ref texts_) := by rw [z_491]; exact (xw_gn (by decide) g_431)
    have g_497 : fs_490[(8 : Nat)]? = some (.ref sizes_) := by rw [z_491]; exact (xw_gn (by decide) g_432)
    have g_498 : fs_490[(9 : Nat)]? = some (.ref weights_) := by rw [z_491]; exact (xw_gn (by decide) g_433)
    have g_499 : fs_490[(10 : Nat)]? = some (.int 0) := by rw [z_491]; exact (xw_gn (by decide) g_434)
    have g_500 : fs_490[(11 : Nat)]? = some (.int (nI dl)) := by rw [z_491]; exact (xw_gn (by decide) g_435)
    have g_501 : fs_490[(14 : Nat)]? = some (.ref live_) := by rw [z_491]; exact (xw_gn (by decide) g_436)
    have g_502 : fs_490[(28 : Nat)]? = some (.int v_414) := by rw [z_491]; exact (xw_gn (by decide) g_415)
    have g_503 : fs_490[(29 : Nat)]? = some (.int v_416) := by rw [z_491]; exact (xw_gn (by decide) g_417)
    have g_504 : fs_490[(30 : Nat)]? = some (.int v_418) := by rw [z_491]; exact (xw_gn (by decide) g_419)
    have g_505 : fs_490[(31 : Nat)]? = some (.int v_420) := by rw [z_491]; exact (xw_gn (by decide) g_421)
    have g_506 : fs_490[(32 : Nat)]? = some (.int bd5) := by rw [z_491]; exact (xw_gs (by simp [l5]))
    have g_507 : fs_490[(33 : Nat)]? = some (.int bd5) := by rw [z_491]; exact (xw_gn (by decide) gb5)
    have g_508 : fs_490[(34 : Nat)]? = some (.int (nI ph5.length)) := by rw [z_491]; exact (xw_gn (by decide) g34)
    have g_509 : fs_490[(35 : Nat)]? = some (.int (nI t5)) := by rw [z_491]; exact (xw_gn (by decide) g35)
    have g_510 : fs_490[(36 : Nat)]? = some (.int (nI gr5.length)) := by rw [z_491]; exact (xw_gn (by decide) g36)
    have g_511 : fs_490[(37 : Nat)]? = some (.int (nI ev5.length)) := by rw [z_491]; exact (xw_gn (by decide) g37)
    have g_512 : fs_490[(38 : Nat)]? = some (.int v_422) := by rw [z_491]; exact (xw_gn (by decide) g_423)
    have g_513 : fs_490[(39 : Nat)]? = some (.int v_424) := by rw [z_491]; exact (xw_gn (by decide) g_425)
    have g_514 : fs_490[(40 : Nat)]? = some (.int gd) := by rw [z_491]; exact (xw_gn (by decide) g_438)
    have g_515 : fs_490[(41 : Nat)]? = some (.ref firstToken_) := by rw [z_491]; exact (xw_gn (by decide) g_439)
    have g_516 : fs_490[(42 : Nat)]? = some (.ref starred_) := by rw [z_491]; exact (xw_gn (by decide) g_440)
    have g_517 : fs_490[(43 : Nat)]? = some (.ref tokenAt_) := by rw [z_491]; exact (xw_gn (by decide) g_441)
    have g_518 : fs_490[(44 : Nat)]? = some (.ref tokenSize_) := by rw [z_491]; exact (xw_gn (by decide) g_442)
    have g_519 : fs_490[(45 : Nat)]? = some (.ref groupKind_) := by rw [z_491]; exact (xw_gn (by decide) g_443)
    have g_520 : fs_490[(46 : Nat)]? = some (.ref groupPhrase_) := by rw [z_491]; exact (xw_gn (by decide) g_444)
    have g_521 : fs_490[(47 : Nat)]? = some (.ref groupSize_) := by rw [z_491]; exact (xw_gn (by decide) g_445)
    have g_522 : fs_490[(48 : Nat)]? = some (.ref groupMask_) := by rw [z_491]; exact (xw_gn (by decide) g_446)
    have g_523 : fs_490[(49 : Nat)]? = some (.ref groupFar_) := by rw [z_491]; exact (xw_gn (by decide) g_447)
    have g_524 : fs_490[(50 : Nat)]? = some (.ref out_) := by rw [z_491]; exact (xw_gn (by decide) g_448)
    have g_525 : fs_490[(51 : Nat)]? = some (.ref top_) := by rw [z_491]; exact (xw_gn (by decide) g_449)
    have g_526 : fs_490[(52 : Nat)]? = some (.ref masks_) := by rw [z_491]; exact (xw_gn (by decide) g_450)
    have g_527 : fs_490[(53 : Nat)]? = some (.ref begins_) := by rw [z_491]; exact (xw_gn (by decide) g_451)
    have g_528 : fs_490[(54 : Nat)]? = some (.ref lasts_) := by rw [z_491]; exact (xw_gn (by decide) g_452)
    have g_529 : fs_490[(55 : Nat)]? = some (.int cl) := by rw [z_491]; exact (xw_gn (by decide) g_453)
    have g_530 : fs_490[(56 : Nat)]? = some (.int (nI fn)) := by rw [z_491]; exact (xw_gn (by decide) g_454)
    have g_531 : fs_490[(57 : Nat)]? = some (.ref truth_) := by rw [z_491]; exact (xw_gn (by decide) g_455)
    have g_532 : fs_490[(58 : Nat)]? = some (.ref answers_) := by rw [z_491]; exact (xw_gn (by decide) g_456)
    have g_533 : fs_490[(59 : Nat)]? = some (.ref order_) := by rw [z_491]; exact (xw_gn (by decide) g_457)
    have g_534 : fs_490[(60 : Nat)]? = some (.ref scores_) := by rw [z_491]; exact (xw_gn (by decide) g_458)
    have g_535 : fs_490[(61 : Nat)]? = some (.int v_426) := by rw [z_491]; exact (xw_gn (by decide) g_427)
    have ga_536 : ∀ i : Nat, i ∉ [0, 10, 11, 28, 29, 30, 31, 32, 33, 34, 35, 36, 37, 38, 39, 40, 55, 56, 61] → fs_490[i]? = fs[i]? := fun i hi => by rw [z_491]; exact xw_gn (fun z => hi (by rw [z]; simp)) (ga_459 i hi)
    clear z_491
    refine s_Model_ask_70 ?_
    refine s_Model_ask_71 ?_
    refine x_callV (As := [.int 0, .int 1]) (b := m) (rest := []) (F1 := 1) (L1 := 20) (mc := 0) (ms := 0) d_Model_ask_72 cV_Model_139 (f_fails0 l_492 e_463 g_493 (by omega) (by omega)) e_463 ⟨by decide, rfl⟩ ⟨by omega, by show 8 + (3 + 11) + 20 ≤ _; omega⟩ ⟨by omega, by omega⟩ (Nat.le_of_ble_eq_true rfl) (fun v_538 h_537 p_539 => ?_)
    obtain ⟨rfl, rfl⟩ := p_539
    refine s_Model_ask_75 (fun z_540 => ?_) (fun z => absurd z (by decide))
    refine s_Model_ask_80 l_492 e_463 g_508 ?_
    rw [xw_up_up]
    refine x_u1 (fun h_541 e_542 f_543 => ?_)
    have e_544 := (f_543 draft_ (nd_ne ND (i := 1) (j := 0) rfl rfl (by decide))).trans e_465
    have e_545 := (f_543 asked_ (nd_ne ND (i := 2) (j := 0) rfl rfl (by decide))).trans e_466
    have e_546 := (f_543 firstToken_ (nd_ne ND (i := 18) (j := 0) rfl rfl (by decide))).trans e_467
    have e_547 := (f_543 starred_ (nd_ne ND (i := 19) (j := 0) rfl rfl (by decide))).trans e_468
    have e_548 := (f_543 tokenAt_ (nd_ne ND (i := 20) (j := 0) rfl rfl (by decide))).trans e_469
    have e_549 := (f_543 tokenSize_ (nd_ne ND (i := 21) (j := 0) rfl rfl (by decide))).trans e_470
    have e_550 := (f_543 groupKind_ (nd_ne ND (i := 22) (j := 0) rfl rfl (by decide))).trans e_471
    have e_551 := (f_543 groupPhrase_ (nd_ne ND (i := 23) (j := 0) rfl rfl (by decide))).trans e_472
    have e_552 := (f_543 groupSize_ (nd_ne ND (i := 24) (j := 0) rfl rfl (by decide))).trans e_473
    have e_553 := (f_543 groupMask_ (nd_ne ND (i := 25) (j := 0) rfl rfl (by decide))).trans e_474
    have e_554 := (f_543 groupFar_ (nd_ne ND (i := 26) (j := 0) rfl rfl (by decide))).trans e_475
    have e_555 := (f_543 out_ (nd_ne ND (i := 27) (j := 0) rfl rfl (by decide))).trans e_476
    have e_556 := (f_543 top_ (nd_ne ND (i := 28) (j := 0) rfl rfl (by decide))).trans e_477
    have e_557 := (f_543 masks_ (nd_ne ND (i := 29) (j := 0) rfl rfl (by decide))).trans e_478
    have e_558 := (f_543 truth_ (nd_ne ND (i := 32) (j := 0) rfl rfl (by decide))).trans e_479
    have e_559 := (f_543 texts_ (nd_ne ND (i := 5) (j := 0) rfl rfl (by decide))).trans e_480
    have e_560 := (f_543 sizes_ (nd_ne ND (i := 6) (j := 0) rfl rfl (by decide))).trans e_481
    have e_561 := (f_543 weights_ (nd_ne ND (i := 7) (j := 0) rfl rfl (by decide))).trans e_482
    have e_562 := (f_543 live_ (nd_ne ND (i := 10) (j := 0) rfl rfl (by decide))).trans e_483
    have e_563 := (f_543 begins_ (nd_ne ND (i := 30) (j := 0) rfl rfl (by decide))).trans e_484
    have e_564 := (f_543 lasts_ (nd_ne ND (i := 31) (j := 0) rfl rfl (by decide))).trans e_485
    have e_565 := (f_543 answers_ (nd_ne ND (i := 33) (j := 0) rfl rfl (by decide))).trans e_486
    have e_566 := (f_543 order_ (nd_ne ND (i := 34) (j := 0) rfl rfl (by decide))).trans e_487
    have e_567 := (f_543 scores_ (nd_ne ND (i := 35) (j := 0) rfl rfl (by decide))).trans e_488
    have r_568 := r_489.up (by simp) f_543
    obtain ⟨fs_569, z_570⟩ : ∃ z, z = (fs_490.set 40 (.int (nI ph5.length))).set 56 (.int 0) := ⟨_, rfl⟩
    rw [← z_570] at e_542
    have l_571 : fs_569.length = 62 := by rw [z_570]; simp only [List.length_set]; exact l_492
    have g_572 : fs_569[(0 : Nat)]? = some (.int 0) := by rw [z_570]; exact (xw_gn (by decide) (xw_gn (by decide) g_493))
    have g_573 : fs_569[(3 : Nat)]? = some (.ref draft_) := by rw [z_570]; exact (xw_gn (by decide) (xw_gn (by decide) g_494))
    have g_574 : fs_569[(4 : Nat)]? = some (.ref asked_) := by rw [z_570]; exact (xw_gn (by decide) (xw_gn (by decide) g_495))
    have g_575 : fs_569[(7 : Nat)]? = some (.ref texts_) := by rw [z_570]; exact (xw_gn (by decide) (xw_gn (by decide) g_496))
    have g_576 : fs_569[(8 : Nat)]? = some (.ref sizes_) := by rw [z_570]; exact (xw_gn (by decide) (xw_gn (by decide) g_497))
    have g_577 : fs_569[(9 : Nat)]? = some (.ref weights_) := by rw [z_570]; exact (xw_gn (by decide) (xw_gn (by decide) g_498))
    have g_578 : fs_569[(10 : Nat)]? = some (.int 0) := by rw [z_570]; exact (xw_gn (by decide) (xw_gn (by decide) g_499))
    have g_579 : fs_569[(11 : Nat)]? = some (.int (nI dl)) := by rw [z_570]; exact (xw_gn (by decide) (xw_gn (by decide) g_500))
    have g_580 : fs_569[(14 : Nat)]? = some (.ref live_) := by rw [z_570]; exact (xw_gn (by decide) (xw_gn (by decide) g_501))
    have g_581 : fs_569[(28 : Nat)]? = some (.int v_414) := by rw [z_570]; exact (xw_gn (by decide) (xw_gn (by decide) g_502))
    have g_582 : fs_569[(29 : Nat)]? = some (.int v_416) := by rw [z_570]; exact (xw_gn (by decide) (xw_gn (by decide) g_503))
    have g_583 : fs_569[(30 : Nat)]? = some (.int v_418) := by rw [z_570]; exact (xw_gn (by decide) (xw_gn (by decide) g_504))
    have g_584 : fs_569[(31 : Nat)]? = some (.int v_420) := by rw [z_570]; exact (xw_gn (by decide) (xw_gn (by decide) g_505))
    have g_585 : fs_569[(32 : Nat)]? = some (.int bd5) := by rw [z_570]; exact (xw_gn (by decide) (xw_gn (by decide) g_506))
    have g_586 : fs_569[(33 : Nat)]? = some (.int bd5) := by rw [z_570]; exact (xw_gn (by decide) (xw_gn (by decide) g_507))
    have g_587 : fs_569[(34 : Nat)]? = some (.int (nI ph5.length)) := by rw [z_570]; exact (xw_gn (by decide) (xw_gn (by decide) g_508))
    have g_588 : fs_569[(35 : Nat)]? = some (.int (nI t5)) := by rw [z_570]; exact (xw_gn (by decide) (xw_gn (by decide) g_509))
    have g_589 : fs_569[(36 : Nat)]? = some (.int (nI gr5.length)) := by rw [z_570]; exact (xw_gn (by decide) (xw_gn (by decide) g_510))
    have g_590 : fs_569[(37 : Nat)]? = some (.int (nI ev5.length)) := by rw [z_570]; exact (xw_gn (by decide) (xw_gn (by decide) g_511))
    have g_591 : fs_569[(38 : Nat)]? = some (.int v_422) := by rw [z_570]; exact (xw_gn (by decide) (xw_gn (by decide) g_512))
    have g_592 : fs_569[(39 : Nat)]? = some (.int v_424) := by rw [z_570]; exact (xw_gn (by decide) (xw_gn (by decide) g_513))
    have g_593 : fs_569[(40 : Nat)]? = some (.int (nI ph5.length)) := by rw [z_570]; exact (xw_gn (by decide) (xw_gs (by simp [l_492])))
    have g_594 : fs_569[(41 : Nat)]? = some (.ref firstToken_) := by rw [z_570]; exact (xw_gn (by decide) (xw_gn (by decide) g_515))
    have g_595 : fs_569[(42 : Nat)]? = some (.ref starred_) := by rw [z_570]; exact (xw_gn (by decide) (xw_gn (by decide) g_516))
    have g_596 : fs_569[(43 : Nat)]? = some (.ref tokenAt_) := by rw [z_570]; exact (xw_gn (by decide) (xw_gn (by decide) g_517))
    have g_597 : fs_569[(44 : Nat)]? = some (.ref tokenSize_) := by rw [z_570]; exact (xw_gn (by decide) (xw_gn (by decide) g_518))
    have g_598 : fs_569[(45 : Nat)]? = some (.ref groupKind_) := by rw [z_570]; exact (xw_gn (by decide) (xw_gn (by decide) g_519))
    have g_599 : fs_569[(46 : Nat)]? = some (.ref groupPhrase_) := by rw [z_570]; exact (xw_gn (by decide) (xw_gn (by decide) g_520))
    have g_600 : fs_569[(47 : Nat)]? = some (.ref groupSize_) := by rw [z_570]; exact (xw_gn (by decide) (xw_gn (by decide) g_521))
    have g_601 : fs_569[(48 : Nat)]? = some (.ref groupMask_) := by rw [z_570]; exact (xw_gn (by decide) (xw_gn (by decide) g_522))
    have g_602 : fs_569[(49 : Nat)]? = some (.ref groupFar_) := by rw [z_570]; exact (xw_gn (by decide) (xw_gn (by decide) g_523))
    have g_603 : fs_569[(50 : Nat)]? = some (.ref out_) := by rw [z_570]; exact (xw_gn (by decide) (xw_gn (by decide) g_524))
    have g_604 : fs_569[(51 : Nat)]? = some (.ref top_) := by rw [z_570]; exact (xw_gn (by decide) (xw_gn (by decide) g_525))
    have g_605 : fs_569[(52 : Nat)]? = some (.ref masks_) := by rw [z_570]; exact (xw_gn (by decide) (xw_gn (by decide) g_526))
    have g_606 : fs_569[(53 : Nat)]? = some (.ref begins_) := by rw [z_570]; exact (xw_gn (by decide) (xw_gn (by decide) g_527))
    have g_607 : fs_569[(54 : Nat)]? = some (.ref lasts_) := by rw [z_570]; exact (xw_gn (by decide) (xw_gn (by decide) g_528))
    have g_608 : fs_569[(55 : Nat)]? = some (.int cl) := by rw [z_570]; exact (xw_gn (by decide) (xw_gn (by decide) g_529))
    have g_609 : fs_569[(56 : Nat)]? = some (.int 0) := by rw [z_570]; exact (xw_gs (by simp [l_492]))
    have g_610 : fs_569[(57 : Nat)]? = some (.ref truth_) := by rw [z_570]; exact (xw_gn (by decide) (xw_gn (by decide) g_531))
    have g_611 : fs_569[(58 : Nat)]? = some (.ref answers_) := by rw [z_570]; exact (xw_gn (by decide) (xw_gn (by decide) g_532))
    have g_612 : fs_569[(59 : Nat)]? = some (.ref order_) := by rw [z_570]; exact (xw_gn (by decide) (xw_gn (by decide) g_533))
    have g_613 : fs_569[(60 : Nat)]? = some (.ref scores_) := by rw [z_570]; exact (xw_gn (by decide) (xw_gn (by decide) g_534))
    have g_614 : fs_569[(61 : Nat)]? = some (.int v_426) := by rw [z_570]; exact (xw_gn (by decide) (xw_gn (by decide) g_535))
    have ga_615 : ∀ i : Nat, i ∉ [0, 10, 11, 28, 29, 30, 31, 32, 33, 34, 35, 36, 37, 38, 39, 40, 55, 56, 61] → fs_569[i]? = fs[i]? := fun i hi => by rw [z_570]; exact xw_gn (fun z => hi (by rw [z]; simp)) (xw_gn (fun z => hi (by rw [z]; simp)) (ga_536 i hi))
    clear z_570
    have hj5 := redQ_j hr5
    have LK5 : LkE ev5 := dp_LK.1 _ _ _ hj5
    have hin5 := read_in hj5
    have ht5 : t5 ≤ 48 := RQ5.t48 (Nat.le_trans hin5.1 hdl)
    have TR5 := RQ5.2.1
    rw [List.append_nil] at TR5
    have PA5 := PhR.pa RQ5.2.2.2
    refine lp_a2H (gs := fs_569) (h0 := h_541) (P := ph5.length) ND hp12 PA5 (by rw [← TR5.1]; omega) TR5 GR5 (read_ok hj5) hgp OU5 OG5 (by omega) hSZ LK5 (PA5.po TR5.1) (by omega) TR5.to hwe g_590 g_587 g_606 g_607 g_596 g_597 g_575 g_574 g_594 g_595 g_598 g_599 g_600 g_602 g_601 g_576 g_603 g_610 g_580 g_577 g_611 g_612 g_613 e_548 e_549 e_559 e_545 e_546 e_547 e_550 e_551 e_552 e_554 e_553 e_560 e_555 e_562 e_561 (by omega) (by omega) (fun h4 fn4 fan4 fo4 fsc4 c134 cl4 fb4 fl4 fs4 l4 e4 gc4 gf4 ga4 eb4 el4 et4 ean4 eo4 es4 hfn4 hord4 hFN4 r4 => ?_) 24 0 _ 0 _ _ _ _ _ _ _ _ (by omega) l_571 e_542 g_608 g_609 (fun _ _ => rfl) e_563 e_564 e_558 e_565 e_566 e_567 (Nat.le_refl _) (fun _ q => absurd q (Nat.not_lt_zero _)) FnA.zero FrO.rf
    have e_616 := r4 draft_ _ (by simp only [List.mem_cons, List.not_mem_nil, or_false, not_or]; exact ⟨(nd_ne ND (i := 1) (j := 0) rfl rfl (by decide)), (nd_ne ND (i := 1) (j := 30) rfl rfl (by decide)), (nd_ne ND (i := 1) (j := 31) rfl rfl (by decide)), (nd_ne ND (i := 1) (j := 32) rfl rfl (by decide)), (nd_ne ND (i := 1) (j := 33) rfl rfl (by decide)), (nd_ne ND (i := 1) (j := 34) rfl rfl (by decide)), (nd_ne ND (i := 1) (j := 35) rfl rfl (by decide))⟩) e_544
    have e_617 := r4 asked_ _ (by simp only [List.mem_cons, List.not_mem_nil, or_false, not_or]; exact ⟨(nd_ne ND (i := 2) (j := 0) rfl rfl (by decide)), (nd_ne ND (i := 2) (j := 30) rfl rfl (by decide)), (nd_ne ND (i := 2) (j := 31) rfl rfl (by decide)), (nd_ne ND (i := 2) (j := 32) rfl rfl (by decide)), (nd_ne ND (i := 2) (j := 33) rfl rfl (by decide)), (nd_ne ND (i := 2) (j := 34) rfl rfl (by decide)), (nd_ne ND (i := 2) (j := 35) rfl rfl (by decide))⟩) e_545
    have e_618 := r4 firstToken_ _ (by simp only [List.mem_cons, List.not_mem_nil, or_false, not_or]; exact ⟨(nd_ne ND (i := 18) (j := 0) rfl rfl (by decide)), (nd_ne ND (i := 18) (j := 30) rfl rfl (by decide)), (nd_ne ND (i := 18) (j := 31) rfl rfl (by decide)), (nd_ne ND (i := 18) (j := 32) rfl rfl (by decide)), (nd_ne ND (i := 18) (j := 33) rfl rfl (by decide)), (nd_ne ND (i := 18) (j := 34) rfl rfl (by decide)), (nd_ne ND (i := 18) (j := 35) rfl rfl (by decide))⟩) e_546
    have e_619 := r4 starred_ _ (by simp only [List.mem_cons, List.not_mem_nil, or_false, not_or]; exact ⟨(nd_ne ND (i := 19) (j := 0) rfl rfl (by decide)), (nd_ne ND (i := 19) (j := 30) rfl rfl (by decide)), (nd_ne ND (i := 19) (j := 31) rfl rfl (by decide)), (nd_ne ND (i := 19) (j := 32) rfl rfl (by decide)), (nd_ne ND (i := 19) (j := 33) rfl rfl (by decide)), (nd_ne ND (i := 19) (j := 34) rfl rfl (by decide)), (nd_ne ND (i := 19) (j := 35) rfl rfl (by decide))⟩) e_547
    have e_620 := r4 tokenAt_ _ (by simp only [List.mem_cons, List.not_mem_nil, or_false, not_or]; exact ⟨(nd_ne ND (i := 20) (j := 0) rfl rfl (by decide)), (nd_ne ND (i := 20) (j := 30) rfl rfl (by decide)), (nd_ne ND (i := 20) (j := 31) rfl rfl (by decide)), (nd_ne ND (i := 20) (j := 32) rfl rfl (by decide)), (nd_ne ND (i := 20) (j := 33) rfl rfl (by decide)), (nd_ne ND (i := 20) (j := 34) rfl rfl (by decide)), (nd_ne ND (i := 20) (j := 35) rfl rfl (by decide))⟩) e_548
    have e_621 := r4 tokenSize_ _ (by simp only [List.mem_cons, List.not_mem_nil, or_false, not_or]; exact ⟨(nd_ne ND (i := 21) (j := 0) rfl rfl (by decide)), (nd_ne ND (i := 21) (j := 30) rfl rfl (by decide)), (nd_ne ND (i := 21) (j := 31) rfl rfl (by decide)), (nd_ne ND (i := 21) (j := 32) rfl rfl (by decide)), (nd_ne ND (i := 21) (j := 33) rfl rfl (by decide)), (nd_ne ND (i := 21) (j := 34) rfl rfl (by decide)), (nd_ne ND (i := 21) (j := 35) rfl rfl (by decide))⟩) e_549
    have e_622 := r4 groupKind_ _ (by simp only [List.mem_cons, List.not_mem_nil, or_false, not_or]; exact ⟨(nd_ne ND (i := 22) (j := 0) rfl rfl (by decide)), (nd_ne ND (i := 22) (j := 30) rfl rfl (by decide)), (nd_ne ND (i := 22) (j := 31) rfl rfl (by decide)), (nd_ne ND (i := 22) (j := 32) rfl rfl (by decide)), (nd_ne ND (i := 22) (j := 33) rfl rfl (by decide)), (nd_ne ND (i := 22) (j := 34) rfl rfl (by decide)), (nd_ne ND (i := 22) (j := 35) rfl rfl (by decide))⟩) e_550
    have e_623 := r4 groupPhrase_ _ (by simp only [List.mem_cons, List.not_mem_nil, or_false, not_or]; exact ⟨(nd_ne ND (i := 23) (j := 0) rfl rfl (by decide)), (nd_ne ND (i := 23) (j := 30) rfl rfl (by decide)), (nd_ne ND (i := 23) (j := 31) rfl rfl (by decide)), (nd_ne ND (i := 23) (j := 32) rfl rfl (by decide)), (nd_ne ND (i := 23) (j := 33) rfl rfl (by decide)), (nd_ne ND (i := 23) (j := 34) rfl rfl (by decide)), (nd_ne ND (i := 23) (j := 35) rfl rfl (by decide))⟩) e_551
    have e_624 := r4 groupSize_ _ (by simp only [List.mem_cons, List.not_mem_nil, or_false, not_or]; exact ⟨(nd_ne ND (i := 24) (j := 0) rfl rfl (by decide)), (nd_ne ND (i := 24) (j := 30) rfl rfl (by decide)), (nd_ne ND (i := 24) (j := 31) rfl rfl (by decide)), (nd_ne ND (i := 24) (j := 32) rfl rfl (by decide)), (nd_ne ND (i := 24) (j := 33) rfl rfl (by decide)), (nd_ne ND (i := 24) (j := 34) rfl rfl (by decide)), (nd_ne ND (i := 24) (j := 35) rfl rfl (by decide))⟩) e_552
    have e_625 := r4 groupMask_ _ (by simp only [List.mem_cons, List.not_mem_nil, or_false, not_or]; exact ⟨(nd_ne ND (i := 25) (j := 0) rfl rfl (by decide)), (nd_ne ND (i := 25) (j := 30) rfl rfl (by decide)), (nd_ne ND (i := 25) (j := 31) rfl rfl (by decide)), (nd_ne ND (i := 25) (j := 32) rfl rfl (by decide)), (nd_ne ND (i := 25) (j := 33) rfl rfl (by decide)), (nd_ne ND (i := 25) (j := 34) rfl rfl (by decide)), (nd_ne ND (i := 25) (j := 35) rfl rfl (by decide))⟩) e_553
    have e_626 := r4 groupFar_ _ (by simp only [List.mem_cons, List.not_mem_nil, or_false, not_or]; exact ⟨(nd_ne ND (i := 26) (j := 0) rfl rfl (by decide)), (nd_ne ND (i := 26) (j := 30) rfl rfl (by decide)), (nd_ne ND (i := 26) (j := 31) rfl rfl (by decide)), (nd_ne ND (i := 26) (j := 32) rfl rfl (by decide)), (nd_ne ND (i := 26) (j := 33) rfl rfl (by decide)), (nd_ne ND (i := 26) (j := 34) rfl rfl (by decide)), (nd_ne ND (i := 26) (j := 35) rfl rfl (by decide))⟩) e_554
    have e_627 := r4 out_ _ (by simp only [List.mem_cons, List.not_mem_nil, or_false, not_or]; exact ⟨(nd_ne ND (i := 27) (j := 0) rfl rfl (by decide)), (nd_ne ND (i := 27) (j := 30) rfl rfl (by decide)), (nd_ne ND (i := 27) (j := 31) rfl rfl (by decide)), (nd_ne ND (i := 27) (j := 32) rfl rfl (by decide)), (nd_ne ND (i := 27) (j := 33) rfl rfl (by decide)), (nd_ne ND (i := 27) (j := 34) rfl rfl (by decide)), (nd_ne ND (i := 27) (j := 35) rfl rfl (by decide))⟩) e_555
    have e_628 := r4 top_ _ (by simp only [List.mem_cons, List.not_mem_nil, or_false, not_or]; exact ⟨(nd_ne ND (i := 28) (j := 0) rfl rfl (by decide)), (nd_ne ND (i := 28) (j := 30) rfl rfl (by decide)), (nd_ne ND (i := 28) (j := 31) rfl rfl (by decide)), (nd_ne ND (i := 28) (j := 32) rfl rfl (by decide)), (nd_ne ND (i := 28) (j := 33) rfl rfl (by decide)), (nd_ne ND (i := 28) (j := 34) rfl rfl (by decide)), (nd_ne ND (i := 28) (j := 35) rfl rfl (by decide))⟩) e_556
    have e_629 := r4 masks_ _ (by simp only [List.mem_cons, List.not_mem_nil, or_false, not_or]; exact ⟨(nd_ne ND (i := 29) (j := 0) rfl rfl (by decide)), (nd_ne ND (i := 29) (j := 30) rfl rfl (by decide)), (nd_ne ND (i := 29) (j := 31) rfl rfl (by decide)), (nd_ne ND (i := 29) (j := 32) rfl rfl (by decide)), (nd_ne ND (i := 29) (j := 33) rfl rfl (by decide)), (nd_ne ND (i := 29) (j := 34) rfl rfl (by decide)), (nd_ne ND (i := 29) (j := 35) rfl rfl (by decide))⟩) e_557
    have e_630 := r4 texts_ _ (by simp only [List.mem_cons, List.not_mem_nil, or_false, not_or]; exact ⟨(nd_ne ND (i := 5) (j := 0) rfl rfl (by decide)), (nd_ne ND (i := 5) (j := 30) rfl rfl (by decide)), (nd_ne ND (i := 5) (j := 31) rfl rfl (by decide)), (Ne.symm (nd_ne ND (i := 32) (j := 5) rfl rfl (by decide))), (nd_ne ND (i := 5) (j := 33) rfl rfl (by decide)), (nd_ne ND (i := 5) (j := 34) rfl rfl (by decide)), (nd_ne ND (i := 5) (j := 35) rfl rfl (by decide))⟩) e_559
    have e_631 := r4 sizes_ _ (by simp only [List.mem_cons, List.not_mem_nil, or_false, not_or]; exact ⟨(nd_ne ND (i := 6) (j := 0) rfl rfl (by decide)), (nd_ne ND (i := 6) (j := 30) rfl rfl (by decide)), (nd_ne ND (i := 6) (j := 31) rfl rfl (by decide)), (Ne.symm (nd_ne ND (i := 32) (j := 6) rfl rfl (by decide))), (nd_ne ND (i := 6) (j := 33) rfl rfl (by decide)), (nd_ne ND (i := 6) (j := 34) rfl rfl (by decide)), (nd_ne ND (i := 6) (j := 35) rfl rfl (by decide))⟩) e_560
    have e_632 := r4 weights_ _ (by simp only [List.mem_cons, List.not_mem_nil, or_false, not_or]; exact ⟨(nd_ne ND (i := 7) (j := 0) rfl rfl (by decide)), (nd_ne ND (i := 7) (j := 30) rfl rfl (by decide)), (nd_ne ND (i := 7) (j := 31) rfl rfl (by decide)), (Ne.symm (nd_ne ND (i := 32) (j := 7) rfl rfl (by decide))), (nd_ne ND (i := 7) (j := 33) rfl rfl (by decide)), (nd_ne ND (i := 7) (j := 34) rfl rfl (by decide)), (nd_ne ND (i := 7) (j := 35) rfl rfl (by decide))⟩) e_561
    have e_633 := r4 live_ _ (by simp only [List.mem_cons, List.not_mem_nil, or_false, not_or]; exact ⟨(nd_ne ND (i := 10) (j := 0) rfl rfl (by decide)), (nd_ne ND (i := 10) (j := 30) rfl rfl (by decide)), (nd_ne ND (i := 10) (j := 31) rfl rfl (by decide)), (Ne.symm (nd_ne ND (i := 32) (j := 10) rfl rfl (by decide))), (nd_ne ND (i := 10) (j := 33) rfl rfl (by decide)), (nd_ne ND (i := 10) (j := 34) rfl rfl (by decide)), (nd_ne ND (i := 10) (j := 35) rfl rfl (by decide))⟩) e_562
    have r_634 := r_568.trans (r4.mono (by simp))
    have g_635 : fs4[(0 : Nat)]? = some (.int 0) := (ga4 0 (by decide)).trans g_572
    have g_636 : fs4[(3 : Nat)]? = some (.ref draft_) := (ga4 3 (by decide)).trans g_573
    have g_637 : fs4[(4 : Nat)]? = some (.ref asked_) := (ga4 4 (by decide)).trans g_574
    have g_638 : fs4[(7 : Nat)]? = some (.ref texts_) := (ga4 7 (by decide)).trans g_575
    have g_639 : fs4[(8 : Nat)]? = some (.ref sizes_) := (ga4 8 (by decide)).trans g_576
    have g_640 : fs4[(9 : Nat)]? = some (.ref weights_) := (ga4 9 (by decide)).trans g_577
    have g_641 : fs4[(10 : Nat)]? = some (.int 0) := (ga4 10 (by decide)).trans g_578
    have g_642 : fs4[(11 : Nat)]? = some (.int (nI dl)) := (ga4 11 (by decide)).trans g_579
    have g_643 : fs4[(14 : Nat)]? = some (.ref live_) := (ga4 14 (by decide)).trans g_580
    have g_644 : fs4[(28 : Nat)]? = some (.int v_414) := (ga4 28 (by decide)).trans g_581
    have g_645 : fs4[(29 : Nat)]? = some (.int v_416) := (ga4 29 (by decide)).trans g_582
    have g_646 : fs4[(30 : Nat)]? = some (.int v_418) := (ga4 30 (by decide)).trans g_583
    have g_647 : fs4[(31 : Nat)]? = some (.int v_420) := (ga4 31 (by decide)).trans g_584
    have g_648 : fs4[(32 : Nat)]? = some (.int bd5) := (ga4 32 (by decide)).trans g_585
    have g_649 : fs4[(33 : Nat)]? = some (.int bd5) := (ga4 33 (by decide)).trans g_586
    have g_650 : fs4[(34 : Nat)]? = some (.int (nI ph5.length)) := (ga4 34 (by decide)).trans g_587
    have g_651 : fs4[(35 : Nat)]? = some (.int (nI t5)) := (ga4 35 (by decide)).trans g_588
    have g_652 : fs4[(36 : Nat)]? = some (.int (nI gr5.length)) := (ga4 36 (by decide)).trans g_589
    have g_653 : fs4[(37 : Nat)]? = some (.int (nI ev5.length)) := (ga4 37 (by decide)).trans g_590
    have g_654 : fs4[(38 : Nat)]? = some (.int v_422) := (ga4 38 (by decide)).trans g_591
    have g_655 : fs4[(39 : Nat)]? = some (.int v_424) := (ga4 39 (by decide)).trans g_592
    have g_656 : fs4[(40 : Nat)]? = some (.int (nI ph5.length)) := (ga4 40 (by decide)).trans g_593
    have g_657 : fs4[(41 : Nat)]? = some (.ref firstToken_) := (ga4 41 (by decide)).trans g_594
    have g_658 : fs4[(42 : Nat)]? = some (.ref starred_) := (ga4 42 (by decide)).trans g_595
    have g_659 : fs4[(43 : Nat)]? = some (.ref tokenAt_) := (ga4 43 (by decide)).trans g_596
    have g_660 : fs4[(44 : Nat)]? = some (.ref tokenSize_) := (ga4 44 (by decide)).trans g_597
    have g_661 : fs4[(45 : Nat)]? = some (.ref groupKind_) := (ga4 45 (by decide)).trans g_598
    have g_662 : fs4[(46 : Nat)]? = some (.ref groupPhrase_) := (ga4 46 (by decide)).trans g_599
    have g_663 : fs4[(47 : Nat)]? = some (.ref groupSize_) := (ga4 47 (by decide)).trans g_600
    have g_664 : fs4[(48 : Nat)]? = some (.ref groupMask_) := (ga4 48 (by decide)).trans g_601
    have g_665 : fs4[(49 : Nat)]? = some (.ref groupFar_) := (ga4 49 (by decide)).trans g_602
    have g_666 : fs4[(50 : Nat)]? = some (.ref out_) := (ga4 50 (by decide)).trans g_603
    have g_667 : fs4[(51 : Nat)]? = some (.ref top_) := (ga4 51 (by decide)).trans g_604
    have g_668 : fs4[(52 : Nat)]? = some (.ref masks_) := (ga4 52 (by decide)).trans g_605
    have g_669 : fs4[(53 : Nat)]? = some (.ref begins_) := (ga4 53 (by decide)).trans g_606
    have g_670 : fs4[(54 : Nat)]? = some (.ref lasts_) := (ga4 54 (by decide)).trans g_607
    have g_671 : fs4[(57 : Nat)]? = some (.ref truth_) := (ga4 57 (by decide)).trans g_610
    have g_672 : fs4[(58 : Nat)]? = some (.ref answers_) := (ga4 58 (by decide)).trans g_611
    have g_673 : fs4[(59 : Nat)]? = some (.ref order_) := (ga4 59 (by decide)).trans g_612
    have g_674 : fs4[(60 : Nat)]? = some (.ref scores_) := (ga4 60 (by decide)).trans g_613
    have g_675 : fs4[(61 : Nat)]? = some (.int v_426) := (ga4 61 (by decide)).trans g_614
    have ga_676 : ∀ i : Nat, i ∉ [0, 10, 11, 28, 29, 30, 31, 32, 33, 34, 35, 36, 37, 38, 39, 40, 55, 56, 61] → fs4[i]? = fs[i]? := fun i hi => (ga4 i (fun z => hi (by simp only [List.mem_cons, List.not_mem_nil, or_false] at z ⊢; omega))).trans (ga_615 i hi)
    refine s_Model_ask_225 l4 e4 gf4 ?_
    have q56 : Rf m 56 (.int (nI fn4)) h4 := ⟨_, e4, gf4⟩
    have hfL := hFN4.1
    rw [hfL] at q56
    exact ⟨⟨_, rfl⟩, ⟨_, l4, e4, ⟨_, g_635⟩, ⟨0, fd, g_641, g_636, e_616, by omega⟩, (KPr.fr ga_676 r_634 (by decide) (pick_dis ND (l := [m, draft_, asked_, prepared_, preparedSize_, texts_, sizes_, weights_, entries_, lies_, live_, row_, level_, oldTexts_, oldSizes_, oldLies_, oldLive_, oldRow_, firstToken_, starred_, tokenAt_, tokenSize_, groupKind_, groupPhrase_, groupSize_, groupMask_, groupFar_, out_, top_, masks_, begins_, lasts_, truth_, answers_, order_, scores_]) (is := [3, 4]) (js := [0, 2, 18, 19, 20, 21, 22, 23, 24, 25, 26, 27, 28, 29, 30, 31, 32, 33, 34, 35]) (by decide))), (KTx.fr ga_676 r_634 (by decide) (pick_dis ND (l := [m, draft_, asked_, prepared_, preparedSize_, texts_, sizes_, weights_, entries_, lies_, live_, row_, level_, oldTexts_, oldSizes_, oldLies_, oldLive_, oldRow_, firstToken_, starred_, tokenAt_, tokenSize_, groupKind_, groupPhrase_, groupSize_, groupMask_, groupFar_, out_, top_, masks_, begins_, lasts_, truth_, answers_, order_, scores_]) (is := [5, 6]) (js := [0, 2, 18, 19, 20, 21, 22, 23, 24, 25, 26, 27, 28, 29, 30, 31, 32, 33, 34, 35]) (by decide))), (KOt.fr ga_676 r_634 (by decide) (pick_dis ND (l := [m, draft_, asked_, prepared_, preparedSize_, texts_, sizes_, weights_, entries_, lies_, live_, row_, level_, oldTexts_, oldSizes_, oldLies_, oldLive_, oldRow_, firstToken_, starred_, tokenAt_, tokenSize_, groupKind_, groupPhrase_, groupSize_, groupMask_, groupFar_, out_, top_, masks_, begins_, lasts_, truth_, answers_, order_, scores_]) (is := [13, 14]) (js := [0, 2, 18, 19, 20, 21, 22, 23, 24, 25, 26, 27, 28, 29, 30, 31, 32, 33, 34, 35]) (by decide))), (KSt.fr ga_676 r_634 (by decide) (pick_dis ND (l := [m, draft_, asked_, prepared_, preparedSize_, texts_, sizes_, weights_, entries_, lies_, live_, row_, level_, oldTexts_, oldSizes_, oldLies_, oldLive_, oldRow_, firstToken_, starred_, tokenAt_, tokenSize_, groupKind_, groupPhrase_, groupSize_, groupMask_, groupFar_, out_, top_, masks_, begins_, lasts_, truth_, answers_, order_, scores_]) (is := [8, 9, 10, 11, 12, 15, 16, 17]) (js := [0, 2, 18, 19, 20, 21, 22, 23, 24, 25, 26, 27, 28, 29, 30, 31, 32, 33, 34, 35]) (by decide))).succ, (KMo.fr ga_676 r_634 (by decide) (fun _ z => nomatch z)), (KWe.fr ga_676 r_634 (by decide) (pick_dis ND (l := [m, draft_, asked_, prepared_, preparedSize_, texts_, sizes_, weights_, entries_, lies_, live_, row_, level_, oldTexts_, oldSizes_, oldLies_, oldLive_, oldRow_, firstToken_, starred_, tokenAt_, tokenSize_, groupKind_, groupPhrase_, groupSize_, groupMask_, groupFar_, out_, top_, masks_, begins_, lasts_, truth_, answers_, order_, scores_]) (is := [7]) (js := [0, 2, 18, 19, 20, 21, 22, 23, 24, 25, 26, 27, 28, 29, 30, 31, 32, 33, 34, 35]) (by decide))), ⟨_, _, _, gc4, g_669, eb4, g_670, el4⟩, ⟨_, _, fn4, _, _, _, g_648, g_656, gf4, g_672, ean4, g_673, eo4, g_674, es4, hfn4, hord4⟩, ⟨dl, _, _, _, _, _, _, _, _, _, _, _, _, _, _, _, _, _, _, _, _, _, _, _, _, _, _, g_642, g_644, g_645, g_646, g_647, g_649, g_650, g_651, g_652, g_653, g_654, g_655, g_675, g_637, e_617, g_657, e_618, g_658, e_619, g_659, e_620, g_660, e_621, g_661, e_622, g_662, e_623, g_663, e_624, g_664, e_625, g_665, e_626, g_666, e_627, g_667, e_628, g_668, e_629, g_671, et4, hdl⟩⟩, r_634.mono (by simp), r_634, FF.of e e4 ga_676, ⟨_, e4, g_641⟩, fun dl8 fd8 ft8 fz8 fv8 w1 w2 w3 w4 w5 w6 => by obtain rfl : dl8 = dl := (nI_eq (by omega) (by omega)).mp (Value.int.inj (w2.inj ⟨_, e, g_drafted⟩)); obtain rfl := cinj w3 e_draft; obtain rfl := cinj w4 e_texts; obtain rfl := cinj w5 e_sizes; obtain rfl := cinj w6 e_live; exact ⟨fa6, hfa6, Or.inr ⟨(p5, ph5, gr5), ev5, hr5, ⟨_, e4, g_635⟩, congrArg (fun z => some (Value.int (nI z))) hfL, ⟨_, e4, g_656⟩, q56, fan4, ean4, hFN4.2⟩⟩⟩
