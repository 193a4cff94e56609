/-- the reference reads a question: the state z of its stack machine -/
def QzR (m asked_ firstToken_ starred_ tokenAt_ tokenSize_ groupKind_ groupPhrase_ groupSize_ groupMask_ groupFar_ out_ top_ masks_ : Nat) (gs : List Value) (h0 : xw_A) (fa : Nat → Int32) (asz : Nat) (z : CF PSt) (h : xw_A) : Prop :=
  ∃ (y t : Nat) (bd : Int32) (c1 c2 ca cs c5 c6 c7 c8 c9 co ct cm : Nat → Int32) (fs : List Value), PtO fa asz (bl fa asz z.2.1.1) y (nI (rkd (kdP fa asz z.2.1.1))) ∧ (¬ kdP fa asz z.2.1.1 = 1 → y = skP fa asz z.2.1.1) ∧ RqT fa asz c1 c2 ca cs t z.2.1.1 z.2.1.2.1 [] ∧ GrR z.2.1.2.2 c5 c6 c7 c8 c9 ∧ OuR z.2.2.2.2 co ∧ OgR z.2.2.2.2 z.2.1.2.2.length ∧ StR z.2.2.1 ct cm ∧ bd < 0 ∧ z.2.1.2.1.length ≤ 12 ∧ z.2.1.2.2.length ≤ z.2.1.2.1.length ∧ z.2.2.2.1 ≤ 3 ∧ depS z.2.2.1 ≤ 8 ∧ z.2.2.2.2.length + cJ z.2.2.1 + (if z.1 = true then 1 else 0) = 2 * z.2.1.2.2.length ∧ fs.length = 62 ∧ h m = some (.inr (11, fs)) ∧ fs[(28 : Nat)]? = some (.int (nI (bl fa asz z.2.1.1))) ∧ fs[(29 : Nat)]? = some (.int (nI (rkd (kdP fa asz z.2.1.1)))) ∧ fs[(30 : Nat)]? = some (.int (nI (bl fa asz z.2.1.1))) ∧ fs[(31 : Nat)]? = some (.int (nI y)) ∧ fs[(33 : Nat)]? = some (.int (bd)) ∧ fs[(34 : Nat)]? = some (.int (nI z.2.1.2.1.length)) ∧ fs[(35 : Nat)]? = some (.int (nI t)) ∧ fs[(36 : Nat)]? = some (.int (nI z.2.1.2.2.length)) ∧ fs[(37 : Nat)]? = some (.int (nI z.2.2.2.2.length)) ∧ fs[(38 : Nat)]? = some (.int (nI z.2.2.1.length)) ∧ fs[(39 : Nat)]? = some (.int (nI z.2.2.2.1)) ∧ fs[(61 : Nat)]? = some (.int (b01 z.1)) ∧ (∀ i : Nat, i ∉ [28, 29, 30, 31, 33, 34, 35, 36, 37, 38, 39, 61] → fs[i]? = gs[i]?) ∧ h firstToken_ = some (.inl (0, 13, .inl c1)) ∧ h starred_ = some (.inl (0, 13, .inl c2)) ∧ h tokenAt_ = some (.inl (0, 60, .inl ca)) ∧ h tokenSize_ = some (.inl (0, 60, .inl cs)) ∧ h groupKind_ = some (.inl (0, 13, .inl c5)) ∧ h groupPhrase_ = some (.inl (0, 13, .inl c6)) ∧ h groupSize_ = some (.inl (0, 13, .inl c7)) ∧ h groupMask_ = some (.inl (0, 13, .inl c8)) ∧ h groupFar_ = some (.inl (0, 13, .inl c9)) ∧ h out_ = some (.inl (0, 60, .inl co)) ∧ h top_ = some (.inl (0, 60, .inl ct)) ∧ h masks_ = some (.inl (0, 60, .inl cm)) ∧ FrO [m, firstToken_, starred_, tokenAt_, tokenSize_, groupKind_, groupPhrase_, groupSize_, groupMask_, groupFar_, out_, top_, masks_] h0 h
/-- and has refused it -/
def QzB (m asked_ firstToken_ starred_ tokenAt_ tokenSize_ groupKind_ groupPhrase_ groupSize_ groupMask_ groupFar_ out_ top_ masks_ : Nat) (gs : List Value) (h0 : xw_A) (h : xw_A) : Prop :=
  ∃ (o n : Nat) (bd : Int32) (c1 c2 ca cs c5 c6 c7 c8 c9 co ct cm : Nat → Int32) (fs : List Value), ¬ bd < 0 ∧ o + n ≤ 60 ∧ fs.length = 62 ∧ h m = some (.inr (11, fs)) ∧ fs[(33 : Nat)]? = some (.int bd) ∧ fs[(37 : Nat)]? = some (.int (nI o)) ∧ fs[(38 : Nat)]? = some (.int (nI n)) ∧ INT fs [28, 29, 30, 31, 34, 35, 36, 39, 61] ∧ (∀ i : Nat, i ∉ [28, 29, 30, 31, 33, 34, 35, 36, 37, 38, 39, 61] → fs[i]? = gs[i]?) ∧ h firstToken_ = some (.inl (0, 13, .inl c1)) ∧ h starred_ = some (.inl (0, 13, .inl c2)) ∧ h tokenAt_ = some (.inl (0, 60, .inl ca)) ∧ h tokenSize_ = some (.inl (0, 60, .inl cs)) ∧ h groupKind_ = some (.inl (0, 13, .inl c5)) ∧ h groupPhrase_ = some (.inl (0, 13, .inl c6)) ∧ h groupSize_ = some (.inl (0, 13, .inl c7)) ∧ h groupMask_ = some (.inl (0, 13, .inl c8)) ∧ h groupFar_ = some (.inl (0, 13, .inl c9)) ∧ h out_ = some (.inl (0, 60, .inl co)) ∧ h top_ = some (.inl (0, 60, .inl ct)) ∧ h masks_ = some (.inl (0, 60, .inl cm)) ∧ FrO [m, firstToken_, starred_, tokenAt_, tokenSize_, groupKind_, groupPhrase_, groupSize_, groupMask_, groupFar_, out_, top_, masks_] h0 h
set_option maxHeartbeats 8000000 in
theorem f_atomH {G : xw_G} {F L : Nat} {h : xw_A} {m asked_ firstToken_ starred_ tokenAt_ tokenSize_ groupKind_ groupPhrase_ groupSize_ groupMask_ groupFar_ out_ top_ masks_ asz : Nat} {gs : List Value} {fa : Nat → Int32} {h0 : xw_A} (q_askedSize : gs[(11 : Nat)]? = some (.int (nI asz))) (q_asked : gs[(4 : Nat)]? = some (.ref asked_)) (q_firstToken : gs[(41 : Nat)]? = some (.ref firstToken_)) (q_starred : gs[(42 : Nat)]? = some (.ref starred_)) (q_tokenAt : gs[(43 : Nat)]? = some (.ref tokenAt_)) (q_tokenSize : gs[(44 : Nat)]? = some (.ref tokenSize_)) (q_groupKind : gs[(45 : Nat)]? = some (.ref groupKind_)) (q_groupPhrase : gs[(46 : Nat)]? = some (.ref groupPhrase_)) (q_groupSize : gs[(47 : Nat)]? = some (.ref groupSize_)) (q_groupMask : gs[(48 : Nat)]? = some (.ref groupMask_)) (q_groupFar : gs[(49 : Nat)]? = some (.ref groupFar_)) (q_out : gs[(50 : Nat)]? = some (.ref out_)) (q_top : gs[(51 : Nat)]? = some (.ref top_)) (q_masks : gs[(52 : Nat)]? = some (.ref masks_)) (q_a : h0 asked_ = some (.inl (0, 96, .inl fa))) (ND : NDl [m, asked_, firstToken_, starred_, tokenAt_, tokenSize_, groupKind_, groupPhrase_, groupSize_, groupMask_, groupFar_, out_, top_, masks_]) (hasz : asz ≤ 96) (h128 : ∀ j, j < asz → ∃ c, c < 128 ∧ fa j = nI c) {p mk : Nat} {ph : List PHt} {gr : List GRt} {st o : List EV} (Q : QzR m asked_ firstToken_ starred_ tokenAt_ tokenSize_ groupKind_ groupPhrase_ groupSize_ groupMask_ groupFar_ out_ top_ masks_ gs h0 fa asz (false, (p, ph, gr), st, mk, o) h) (hF : 8 ≤ F) (hL : 170 ≤ L) :
    xw_Met G m_Model_atom F L 0 0 [.ref m] h (fun v h' => v = none ∧ ((stp (kdS fa asz) (skS fa asz) (gpP fa asz) (flP fa asz) (false, (p, ph, gr), st, mk, o) = none ∧ QzB m asked_ firstToken_ starred_ tokenAt_ tokenSize_ groupKind_ groupPhrase_ groupSize_ groupMask_ groupFar_ out_ top_ masks_ gs h0 h') ∨ ∃ z', stp (kdS fa asz) (skS fa asz) (gpP fa asz) (flP fa asz) (false, (p, ph, gr), st, mk, o) = some z' ∧ QzR m asked_ firstToken_ starred_ tokenAt_ tokenSize_ groupKind_ groupPhrase_ groupSize_ groupMask_ groupFar_ out_ top_ masks_ gs h0 fa asz z' h')) (fun _ _ => False) := by
  refine xw_Met.of rfl (by decide) (Nat.le_of_ble_eq_true rfl) ?_
  obtain ⟨y, t, bd, c1, c2, ca, cs, c5, c6, c7, c8, c9, co, ct, cm, fs, PT, HY, RQ, GR, OU, OG, ST, hbd, hp12, hgp, hmk, hd8, hcn, l, e, gz_28, gz_29, gz_30, gz_31, gz_33, gz_34, gz_35, gz_36, gz_37, gz_38, gz_39, gz_61, gq, e_firstToken, e_starred, e_tokenAt, e_tokenSize, e_groupKind, e_groupPhrase, e_groupSize, e_groupMask, e_groupFar, e_out, e_top, e_masks, rq⟩ := Q
  have g_askedSize := (gq 11 (by decide)).trans q_askedSize
  have g_asked := (gq 4 (by decide)).trans q_asked
  have g_firstToken := (gq 41 (by decide)).trans q_firstToken
  have g_starred := (gq 42 (by decide)).trans q_starred
  have g_tokenAt := (gq 43 (by decide)).trans q_tokenAt
  have g_tokenSize := (gq 44 (by decide)).trans q_tokenSize
  have g_groupKind := (gq 45 (by decide)).trans q_groupKind
  have g_groupPhrase := (gq 46 (by decide)).trans q_groupPhrase
  have g_groupSize := (gq 47 (by decide)).trans q_groupSize
  have g_groupMask := (gq 48 (by decide)).trans q_groupMask
  have g_groupFar := (gq 49 (by decide)).trans q_groupFar
  have g_out := (gq 50 (by decide)).trans q_out
  have g_top := (gq 51 (by decide)).trans q_top
  have g_masks := (gq 52 (by decide)).trans q_masks
  have e_asked := rq asked_ _ (by simp only [List.mem_cons, List.not_mem_nil, or_false, not_or]; exact ⟨(Ne.symm (nd_ne ND (i := 0) (j := 1) rfl rfl (by decide))), (nd_ne ND (i := 1) (j := 2) rfl rfl (by decide)), (nd_ne ND (i := 1) (j := 3) rfl rfl (by decide)), (nd_ne ND (i := 1) (j := 4) rfl rfl (by decide)), (nd_ne ND (i := 1) (j := 5) rfl rfl (by decide)), (nd_ne ND (i := 1) (j := 6) rfl rfl (by decide)), (nd_ne ND (i := 1) (j := 7) rfl rfl (by decide)), (nd_ne ND (i := 1) (j := 8) rfl rfl (by decide)), (nd_ne ND (i := 1) (j := 9) rfl rfl (by decide)), (nd_ne ND (i := 1) (j := 10) rfl rfl (by decide)), (nd_ne ND (i := 1) (j := 11) rfl rfl (by decide)), (nd_ne ND (i := 1) (j := 12) rfl rfl (by decide)), (nd_ne ND (i := 1) (j := 13) rfl rfl (by decide))⟩) q_a
  have hcl := cJ_len st
  dsimp only at PT HY RQ GR OU OG ST hp12 hgp hmk hd8 hcn gz_28 gz_29 gz_30 gz_31 gz_33 gz_34 gz_35 gz_36 gz_37 gz_38 gz_39 gz_61
  have hbd2 : ¬ 0 ≤ bd := Int32.not_le.mpr hbd
  have hxy0 := PT.1
  have hy97 := PT.2.1
  have ga0 : ∀ i : Nat, i ∉ [28, 29, 30, 31, 33, 34, 35, 36, 37, 38, 39, 61] → fs[i]? = fs[i]? := fun _ _ => rfl
  have r0 : FrO [m, firstToken_, starred_, tokenAt_, tokenSize_, groupKind_, groupPhrase_, groupSize_, groupMask_, groupFar_, out_, top_, masks_] h h := FrO.rf
  refine s_Model_atom_0 l e gz_29 (fun z_1 => ?_) (fun z_2 => ?_)
  · skip
    refine s_Model_atom_42 l e gz_29 (fun z_3 => ?_) (fun z_4 => ?_)
    · skip
      refine s_Model_atom_58 ?_
      have hk_36 : kdP fa asz p = 11 := ((rk_iff _ (kdP_le fa asz p)).2.2.2.2.2.1).mp ((nI_eq (b := 6) (by have := rk_le _ (kdP_le fa asz p); omega) (by decide)).mp z_3)
      refine x_callV (As := []) (b := m) (rest := []) (F1 := 5) (L1 := 107) (mc := 0) (ms := 0) d_Model_atom_59 cV_Model_291 (f_filterH (gr := gr) l e gz_28 gz_29 gz_30 gz_31 gz_33 gz_38 gz_39 g_askedSize g_asked e_asked g_top e_top g_masks e_masks (nd_ne ND (i := 12) (j := 13) rfl rfl (by decide)) hasz PT HY RQ ST hbd (by omega) hmk (Or.inl hk_36) (by omega) (by omega)) e ⟨by decide, rfl⟩ ⟨by omega, by show 8 + (4 + 11) + 107 ≤ _; omega⟩ ⟨by omega, by omega⟩ (Nat.le_of_ble_eq_true rfl) (fun v_38 h_37 p_39 => ?_)
      rcases p_39 with ⟨rfl, bd_5, ct_6, cm_7, fs_8, l_9, e_10, g_11, ga_12, e_13, e_14, r_15, ⟨hx_16, nb_17, IN_18, g_19⟩ | ⟨pm_20, p_21, y_22, hx_23, hd_24, hb_25, PT_26, HY_27, g_28, g_29, g_30, g_31, RQ_32, g_33, g_34, ST_35⟩⟩
      · skip
        have e_40 := r_15 asked_ _ (by simp only [List.mem_cons, List.not_mem_nil, or_false, not_or]; exact ⟨(Ne.symm (nd_ne ND (i := 0) (j := 1) rfl rfl (by decide))), (nd_ne ND (i := 1) (j := 12) rfl rfl (by decide)), (nd_ne ND (i := 1) (j := 13) rfl rfl (by decide))⟩) e_asked
        have e_41 := r_15 firstToken_ _ (by simp only [List.mem_cons, List.not_mem_nil, or_false, not_or]; exact ⟨(Ne.symm (nd_ne ND (i := 0) (j := 2) rfl rfl (by decide))), (nd_ne ND (i := 2) (j := 12) rfl rfl (by decide)), (nd_ne ND (i := 2) (j := 13) rfl rfl (by decide))⟩) e_firstToken
        have e_42 := r_15 starred_ _ (by simp only [List.mem_cons, List.not_mem_nil, or_false, not_or]; exact ⟨(Ne.symm (nd_ne ND (i := 0) (j := 3) rfl rfl (by decide))), (nd_ne ND (i := 3) (j := 12) rfl rfl (by decide)), (nd_ne ND (i := 3) (j := 13) rfl rfl (by decide))⟩) e_starred
        have e_43 := r_15 tokenAt_ _ (by simp only [List.mem_cons, List.not_mem_nil, or_false, not_or]; exact ⟨(Ne.symm (nd_ne ND (i := 0) (j := 4) rfl rfl (by decide))), (nd_ne ND (i := 4) (j := 12) rfl rfl (by decide)), (nd_ne ND (i := 4) (j := 13) rfl rfl (by decide))⟩) e_tokenAt
        have e_44 := r_15 tokenSize_ _ (by simp only [List.mem_cons, List.not_mem_nil, or_false, not_or]; exact ⟨(Ne.symm (nd_ne ND (i := 0) (j := 5) rfl rfl (by decide))), (nd_ne ND (i := 5) (j := 12) rfl rfl (by decide)), (nd_ne ND (i := 5) (j := 13) rfl rfl (by decide))⟩) e_tokenSize
        have e_45 := r_15 groupKind_ _ (by simp only [List.mem_cons, List.not_mem_nil, or_false, not_or]; exact ⟨(Ne.symm (nd_ne ND (i := 0) (j := 6) rfl rfl (by decide))), (nd_ne ND (i := 6) (j := 12) rfl rfl (by decide)), (nd_ne ND (i := 6) (j := 13) rfl rfl (by decide))⟩) e_groupKind
        have e_46 := r_15 groupPhrase_ _ (by simp only [List.mem_cons, List.not_mem_nil, or_false, not_or]; exact ⟨(Ne.symm (nd_ne ND (i := 0) (j := 7) rfl rfl (by decide))), (nd_ne ND (i := 7) (j := 12) rfl rfl (by decide)), (nd_ne ND (i := 7) (j := 13) rfl rfl (by decide))⟩) e_groupPhrase
        have e_47 := r_15 groupSize_ _ (by simp only [List.mem_cons, List.not_mem_nil, or_false, not_or]; exact ⟨(Ne.symm (nd_ne ND (i := 0) (j := 8) rfl rfl (by decide))), (nd_ne ND (i := 8) (j := 12) rfl rfl (by decide)), (nd_ne ND (i := 8) (j := 13) rfl rfl (by decide))⟩) e_groupSize
        have e_48 := r_15 groupMask_ _ (by simp only [List.mem_cons, List.not_mem_nil, or_false, not_or]; exact ⟨(Ne.symm (nd_ne ND (i := 0) (j := 9) rfl rfl (by decide))), (nd_ne ND (i := 9) (j := 12) rfl rfl (by decide)), (nd_ne ND (i := 9) (j := 13) rfl rfl (by decide))⟩) e_groupMask
        have e_49 := r_15 groupFar_ _ (by simp only [List.mem_cons, List.not_mem_nil, or_false, not_or]; exact ⟨(Ne.symm (nd_ne ND (i := 0) (j := 10) rfl rfl (by decide))), (nd_ne ND (i := 10) (j := 12) rfl rfl (by decide)), (nd_ne ND (i := 10) (j := 13) rfl rfl (by decide))⟩) e_groupFar
        have e_50 := r_15 out_ _ (by simp only [List.mem_cons, List.not_mem_nil, or_false, not_or]; exact ⟨(Ne.symm (nd_ne ND (i := 0) (j := 11) rfl rfl (by decide))), (nd_ne ND (i := 11) (j := 12) rfl rfl (by decide)), (nd_ne ND (i := 11) (j := 13) rfl rfl (by decide))⟩) e_out
        have r_51 := r0.trans (r_15.mono (by simp))
        obtain ⟨v_52, g_53⟩ := IN_18 28 (by decide)
        obtain ⟨v_54, g_55⟩ := IN_18 29 (by decide)
        obtain ⟨v_56, g_57⟩ := IN_18 30 (by decide)
        obtain ⟨v_58, g_59⟩ := IN_18 31 (by decide)
        obtain ⟨v_60, g_61⟩ := IN_18 39 (by decide)
        have g_62 : fs_8[(34 : Nat)]? = some (.int (nI ph.length)) := (ga_12 34 (by decide)).trans gz_34
        have g_63 : fs_8[(35 : Nat)]? = some (.int (nI t)) := (ga_12 35 (by decide)).trans gz_35
        have g_64 : fs_8[(36 : Nat)]? = some (.int (nI gr.length)) := (ga_12 36 (by decide)).trans gz_36
        have g_65 : fs_8[(37 : Nat)]? = some (.int (nI o.length)) := (ga_12 37 (by decide)).trans gz_37
        have g_66 : fs_8[(61 : Nat)]? = some (.int (b01 false)) := (ga_12 61 (by decide)).trans gz_61
        have g_67 : fs_8[(4 : Nat)]? = some (.ref asked_) := (ga_12 4 (by decide)).trans g_asked
        have g_68 : fs_8[(41 : Nat)]? = some (.ref firstToken_) := (ga_12 41 (by decide)).trans g_firstToken
        have g_69 : fs_8[(42 : Nat)]? = some (.ref starred_) := (ga_12 42 (by decide)).trans g_starred
        have g_70 : fs_8[(43 : Nat)]? = some (.ref tokenAt_) := (ga_12 43 (by decide)).trans g_tokenAt
        have g_71 : fs_8[(44 : Nat)]? = some (.ref tokenSize_) := (ga_12 44 (by decide)).trans g_tokenSize
        have g_72 : fs_8[(45 : Nat)]? = some (.ref groupKind_) := (ga_12 45 (by decide)).trans g_groupKind
        have g_73 : fs_8[(46 : Nat)]? = some (.ref groupPhrase_) := (ga_12 46 (by decide)).trans g_groupPhrase
        have g_74 : fs_8[(47 : Nat)]? = some (.ref groupSize_) := (ga_12 47 (by decide)).trans g_groupSize
        have g_75 : fs_8[(48 : Nat)]? = some (.ref groupMask_) := (ga_12 48 (by decide)).trans g_groupMask
        have g_76 : fs_8[(49 : Nat)]? = some (.ref groupFar_) := (ga_12 49 (by decide)).trans g_groupFar
        have g_77 : fs_8[(50 : Nat)]? = some (.ref out_) := (ga_12 50 (by decide)).trans g_out
        have g_78 : fs_8[(51 : Nat)]? = some (.ref top_) := (ga_12 51 (by decide)).trans g_top
        have g_79 : fs_8[(52 : Nat)]? = some (.ref masks_) := (ga_12 52 (by decide)).trans g_masks
        have g_80 : fs_8[(11 : Nat)]? = some (.int (nI asz)) := (ga_12 11 (by decide)).trans g_askedSize
        have ga_81 : ∀ i : Nat, i ∉ [28, 29, 30, 31, 33, 34, 35, 36, 37, 38, 39, 61] → fs_8[i]? = fs[i]? := fun i hi => (ga_12 i (fun z => hi (by simp only [List.mem_cons, List.not_mem_nil, or_false] at z ⊢; omega))).trans (ga0 i hi)
        have hb_82 : 0 ≤ bd_5 := Int32.not_lt.mp nb_17
        refine x_le (xw_le_n xw_le_e) ?_
        refine s_Model_atom_62 ?_
        refine s_Model_atom_111 ?_
        have hk_83 : ¬ kdP fa asz p = 9 := fun q => z_1 (by rw [q]; rfl)
        have hdp : dpr (kdS fa asz (p, ph, gr)) = true := by have q : kdP fa asz p = 11 := hk_36; show dpr (kdP fa asz p) = true; rw [q]; rfl
        exact ⟨rfl, Or.inl ⟨hx_16.elim (fun q => sp_fn hk_83 hdp q) (fun q => sp_f8 hk_83 hdp q), ⟨o.length, st.length, _, _, _, _, _, _, _, _, _, _, _, _, _, _, nb_17, (by omega), l_9, e_10, g_11, g_65, g_19, (fun i9 hi9 => by simp only [List.mem_cons, List.not_mem_nil, or_false] at hi9; rcases hi9 with rfl | rfl | rfl | rfl | rfl | rfl | rfl | rfl | rfl <;> first | exact ⟨_, g_53⟩ | exact ⟨_, g_55⟩ | exact ⟨_, g_57⟩ | exact ⟨_, g_59⟩ | exact ⟨_, g_62⟩ | exact ⟨_, g_63⟩ | exact ⟨_, g_64⟩ | exact ⟨_, g_61⟩ | exact ⟨_, g_66⟩), fun i hi => (ga_81 i hi).trans (gq i hi), e_41, e_42, e_43, e_44, e_45, e_46, e_47, e_48, e_49, e_50, e_13, e_14, rq.trans r_51⟩⟩⟩
      · skip
        have e_84 := r_15 asked_ _ (by simp only [List.mem_cons, List.not_mem_nil, or_false, not_or]; exact ⟨(Ne.symm (nd_ne ND (i := 0) (j := 1) rfl rfl (by decide))), (nd_ne ND (i := 1) (j := 12) rfl rfl (by decide)), (nd_ne ND (i := 1) (j := 13) rfl rfl (by decide))⟩) e_asked
        have e_85 := r_15 firstToken_ _ (by simp only [List.mem_cons, List.not_mem_nil, or_false, not_or]; exact ⟨(Ne.symm (nd_ne ND (i := 0) (j := 2) rfl rfl (by decide))), (nd_ne ND (i := 2) (j := 12) rfl rfl (by decide)), (nd_ne ND (i := 2) (j := 13) rfl rfl (by decide))⟩) e_firstToken
        have e_86 := r_15 starred_ _ (by simp only [List.mem_cons, List.not_mem_nil, or_false, not_or]; exact ⟨(Ne.symm (nd_ne ND (i := 0) (j := 3) rfl rfl (by decide))), (nd_ne ND (i := 3) (j := 12) rfl rfl (by decide)), (nd_ne ND (i := 3) (j := 13) rfl rfl (by decide))⟩) e_starred
        have e_87 := r_15 tokenAt_ _ (by simp only [List.mem_cons, List.not_mem_nil, or_false, not_or]; exact ⟨(Ne.symm (nd_ne ND (i := 0) (j := 4) rfl rfl (by decide))), (nd_ne ND (i := 4) (j := 12) rfl rfl (by decide)), (nd_ne ND (i := 4) (j := 13) rfl rfl (by decide))⟩) e_tokenAt
        have e_88 := r_15 tokenSize_ _ (by simp only [List.mem_cons, List.not_mem_nil, or_false, not_or]; exact ⟨(Ne.symm (nd_ne ND (i := 0) (j := 5) rfl rfl (by decide))), (nd_ne ND (i := 5) (j := 12) rfl rfl (by decide)), (nd_ne ND (i := 5) (j := 13) rfl rfl (by decide))⟩) e_tokenSize
        have e_89 := r_15 groupKind_ _ (by simp only [List.mem_cons, List.not_mem_nil, or_false, not_or]; exact ⟨(Ne.symm (nd_ne ND (i := 0) (j := 6) rfl rfl (by decide))), (nd_ne ND (i := 6) (j := 12) rfl rfl (by decide)), (nd_ne ND (i := 6) (j := 13) rfl rfl (by decide))⟩) e_groupKind
        have e_90 := r_15 groupPhrase_ _ (by simp only [List.mem_cons, List.not_mem_nil, or_false, not_or]; exact ⟨(Ne.symm (nd_ne ND (i := 0) (j := 7) rfl rfl (by decide))), (nd_ne ND (i := 7) (j := 12) rfl rfl (by decide)), (nd_ne ND (i := 7) (j := 13) rfl rfl (by decide))⟩) e_groupPhrase
        have e_91 := r_15 groupSize_ _ (by simp only [List.mem_cons, List.not_mem_nil, or_false, not_or]; exact ⟨(Ne.symm (nd_ne ND (i := 0) (j := 8) rfl rfl (by decide))), (nd_ne ND (i := 8) (j := 12) rfl rfl (by decide)), (nd_ne ND (i := 8) (j := 13) rfl rfl (by decide))⟩) e_groupSize
        have e_92 := r_15 groupMask_ _ (by simp only [List.mem_cons, List.not_mem_nil, or_false, not_or]; exact ⟨(Ne.symm (nd_ne ND (i := 0) (j := 9) rfl rfl (by decide))), (nd_ne ND (i := 9) (j := 12) rfl rfl (by decide)), (nd_ne ND (i := 9) (j := 13) rfl rfl (by decide))⟩) e_groupMask
        have e_93 := r_15 groupFar_ _ (by simp only [List.mem_cons, List.not_mem_nil, or_false, not_or]; exact ⟨(Ne.symm (nd_ne ND (i := 0) (j := 10) rfl rfl (by decide))), (nd_ne ND (i := 10) (j := 12) rfl rfl (by decide)), (nd_ne ND (i := 10) (j := 13) rfl rfl (by decide))⟩) e_groupFar
        have e_94 := r_15 out_ _ (by simp only [List.mem_cons, List.not_mem_nil, or_false, not_or]; exact ⟨(Ne.symm (nd_ne ND (i := 0) (j := 11) rfl rfl (by decide))), (nd_ne ND (i := 11) (j := 12) rfl rfl (by decide)), (nd_ne ND (i := 11) (j := 13) rfl rfl (by decide))⟩) e_out
        have r_95 := r0.trans (r_15.mono (by simp))
        have g_96 : fs_8[(34 : Nat)]? = some (.int (nI ph.length)) := (ga_12 34 (by decide)).trans gz_34
        have g_97 : fs_8[(35 : Nat)]? = some (.int (nI t)) := (ga_12 35 (by decide)).trans gz_35
        have g_98 : fs_8[(36 : Nat)]? = some (.int (nI gr.length)) := (ga_12 36 (by decide)).trans gz_36
        have g_99 : fs_8[(37 : Nat)]? = some (.int (nI o.length)) := (ga_12 37 (by decide)).trans gz_37
        have g_100 : fs_8[(61 : Nat)]? = some (.int (b01 false)) := (ga_12 61 (by decide)).trans gz_61
        have g_101 : fs_8[(4 : Nat)]? = some (.ref asked_) := (ga_12 4 (by decide)).trans g_asked
        have g_102 : fs_8[(41 : Nat)]? = some (.ref firstToken_) := (ga_12 41 (by decide)).trans g_firstToken
        have g_103 : fs_8[(42 : Nat)]? = some (.ref starred_) := (ga_12 42 (by decide)).trans g_starred
        have g_104 : fs_8[(43 : Nat)]? = some (.ref tokenAt_) := (ga_12 43 (by decide)).trans g_tokenAt
        have g_105 : fs_8[(44 : Nat)]? = some (.ref tokenSize_) := (ga_12 44 (by decide)).trans g_tokenSize
        have g_106 : fs_8[(45 : Nat)]? = some (.ref groupKind_) := (ga_12 45 (by decide)).trans g_groupKind
        have g_107 : fs_8[(46 : Nat)]? = some (.ref groupPhrase_) := (ga_12 46 (by decide)).trans g_groupPhrase
        have g_108 : fs_8[(47 : Nat)]? = some (.ref groupSize_) := (ga_12 47 (by decide)).trans g_groupSize
        have g_109 : fs_8[(48 : Nat)]? = some (.ref groupMask_) := (ga_12 48 (by decide)).trans g_groupMask
        have g_110 : fs_8[(49 : Nat)]? = some (.ref groupFar_) := (ga_12 49 (by decide)).trans g_groupFar
        have g_111 : fs_8[(50 : Nat)]? = some (.ref out_) := (ga_12 50 (by decide)).trans g_out
        have g_112 : fs_8[(51 : Nat)]? = some (.ref top_) := (ga_12 51 (by decide)).trans g_top
        have g_113 : fs_8[(52 : Nat)]? = some (.ref masks_) := (ga_12 52 (by decide)).trans g_masks
        have g_114 : fs_8[(11 : Nat)]? = some (.int (nI asz)) := (ga_12 11 (by decide)).trans g_askedSize
        have ga_115 : ∀ i : Nat, i ∉ [28, 29, 30, 31, 33, 34, 35, 36, 37, 38, 39, 61] → fs_8[i]? = fs[i]? := fun i hi => (ga_12 i (fun z => hi (by simp only [List.mem_cons, List.not_mem_nil, or_false] at z ⊢; omega))).trans (ga0 i hi)
        have hb_116 : ¬ 0 ≤ bd_5 := Int32.not_le.mpr hb_25
        refine x_le (xw_le_n xw_le_e) ?_
        refine s_Model_atom_62 ?_
        refine s_Model_atom_111 ?_
        have hk_117 : ¬ kdP fa asz p = 9 := fun q => z_1 (by rw [q]; rfl)
        have hdp : dpr (kdS fa asz (p, ph, gr)) = true := by have q : kdP fa asz p = 11 := hk_36; show dpr (kdP fa asz p) = true; rw [q]; rfl
        exact ⟨rfl, Or.inr ⟨_, sp_fy hk_117 hdp hx_23 hd_24, ⟨_, _, _, _, _, _, _, _, _, _, _, _, _, _, _, _, PT_26, HY_27, RQ_32, GR, OU, OG, ST_35, hb_25, hp12, hgp, (and3 hmk), (by show depS ((6, mk) :: st) ≤ 8; rw [depS, if_pos (show 5 ≤ ((6 : Nat), mk).1 from (by decide : 5 ≤ 6))]; omega), (by show o.length + cJ ((6, mk) :: st) + 0 = 2 * gr.length; rw [cJ, if_neg (show ¬ ((6 : Nat), mk).1 < 5 from (by decide : ¬ 6 < 5))]; simp only [Bool.false_eq_true, if_false] at hcn; omega), l_9, e_10, g_28, g_29, g_30, g_31, g_11, g_96, g_97, g_98, g_99, g_33, g_34, g_100, fun i hi => (ga_115 i hi).trans (gq i hi), e_85, e_86, e_87, e_88, e_89, e_90, e_91, e_92, e_93, e_94, e_13, e_14, rq.trans r_95⟩⟩⟩
    · skip
      refine s_Model_atom_51 ?_
      refine x_callV (As := []) (b := m) (rest := []) (F1 := 2) (L1 := 41) (mc := 0) (ms := 0) d_Model_atom_52 cV_Model_237 (f_isFilterH (pp := p) l e gz_29 gz_31 g_askedSize g_asked e_asked (by have := PT.2.1; omega) hasz HY (by omega) (by omega)) e ⟨by decide, rfl⟩ ⟨by omega, by show 8 + (1 + 11) + 41 ≤ _; omega⟩ ⟨by omega, by omega⟩ (Nat.le_of_ble_eq_true rfl) (fun v_121 h_120 p_122 => ?_)
      obtain ⟨⟨c_118, rfl, hc_119⟩, rfl⟩ := p_122
      refine s_Model_atom_55 (fun z_123 => ?_) (fun z_124 => ?_)
      · skip
        refine s_Model_atom_65 l e gz_29 (fun z_125 => ?_) (fun z_126 => ?_)
        · skip
          refine s_Model_atom_90 ?_
          refine x_callV (As := []) (b := m) (rest := []) (F1 := 7) (L1 := 150) (mc := 0) (ms := 0) d_Model_atom_91 cV_Model_294 (f_groupH l e gz_28 gz_29 gz_30 gz_31 gz_33 gz_34 gz_35 gz_36 gz_37 gz_38 gz_39 g_askedSize g_asked e_asked g_firstToken e_firstToken g_starred e_starred g_tokenAt e_tokenAt g_tokenSize e_tokenSize g_groupKind e_groupKind g_groupPhrase e_groupPhrase g_groupSize e_groupSize g_groupMask e_groupMask g_groupFar e_groupFar g_out e_out g_top e_top g_masks e_masks ND hasz h128 PT HY RQ GR OU ST hbd hp12 hgp (by omega) hmk (by omega) (by omega)) e ⟨by decide, rfl⟩ ⟨by omega, by show 8 + (1 + 11) + 150 ≤ _; omega⟩ ⟨by omega, by omega⟩ (Nat.le_of_ble_eq_true rfl) (fun v_186 h_185 p_187 => ?_)
          rcases p_187 with ⟨rfl, bd_127, c1_128, c2_129, ca_130, cs_131, c5_132, c6_133, c7_134, c8_135, c9_136, co_137, fs_138, l_139, e_140, g_141, ga_142, e_143, e_144, e_145, e_146, e_147, e_148, e_149, e_150, e_151, e_152, r_153, ⟨hx_154, nb_155, IN_156, g_157, g_158⟩ | ⟨p_159, ph_160, gr_161, gi_162, y_163, t_164, hx_165, hb_166, PT_167, HY_168, g_169, g_170, g_171, g_172, g_173, g_174, RQ_175, g_176, GR_177, hgp_178, g_179, OU_180, g_181, g_182, ST_183, hm_184⟩⟩
          · skip
            have e_188 := r_153 asked_ _ (by simp only [List.mem_cons, List.not_mem_nil, or_false, not_or]; exact ⟨(Ne.symm (nd_ne ND (i := 0) (j := 1) rfl rfl (by decide))), (nd_ne ND (i := 1) (j := 2) rfl rfl (by decide)), (nd_ne ND (i := 1) (j := 3) rfl rfl (by decide)), (nd_ne ND (i := 1) (j := 4) rfl rfl (by decide)), (nd_ne ND (i := 1) (j := 5) rfl rfl (by decide)), (nd_ne ND (i := 1) (j := 6) rfl rfl (by decide)), (nd_ne ND (i := 1) (j := 7) rfl rfl (by decide)), (nd_ne ND (i := 1) (j := 8) rfl rfl (by decide)), (nd_ne ND (i := 1) (j := 9) rfl rfl (by decide)), (nd_ne ND (i := 1) (j := 10) rfl rfl (by decide)), (nd_ne ND (i := 1) (j := 11) rfl rfl (by decide))⟩) e_asked
            have e_189 := r_153 top_ _ (by simp only [List.mem_cons, List.not_mem_nil, or_false, not_or]; exact ⟨(Ne.symm (nd_ne ND (i := 0) (j := 12) rfl rfl (by decide))), (Ne.symm (nd_ne ND (i := 2) (j := 12) rfl rfl (by decide))), (Ne.symm (nd_ne ND (i := 3) (j := 12) rfl rfl (by decide))), (Ne.symm (nd_ne ND (i := 4) (j := 12) rfl rfl (by decide))), (Ne.symm (nd_ne ND (i := 5) (j := 12) rfl rfl (by decide))), (Ne.symm (nd_ne ND (i := 6) (j := 12) rfl rfl (by decide))), (Ne.symm (nd_ne ND (i := 7) (j := 12) rfl rfl (by decide))), (Ne.symm (nd_ne ND (i := 8) (j := 12) rfl rfl (by decide))), (Ne.symm (nd_ne ND (i := 9) (j := 12) rfl rfl (by decide))), (Ne.symm (nd_ne ND (i := 10) (j := 12) rfl rfl (by decide))), (Ne.symm (nd_ne ND (i := 11) (j := 12) rfl rfl (by decide)))⟩) e_top
            have e_190 := r_153 masks_ _ (by simp only [List.mem_cons, List.not_mem_nil, or_false, not_or]; exact ⟨(Ne.symm (nd_ne ND (i := 0) (j := 13) rfl rfl (by decide))), (Ne.symm (nd_ne ND (i := 2) (j := 13) rfl rfl (by decide))), (Ne.symm (nd_ne ND (i := 3) (j := 13) rfl rfl (by decide))), (Ne.symm (nd_ne ND (i := 4) (j := 13) rfl rfl (by decide))), (Ne.symm (nd_ne ND (i := 5) (j := 13) rfl rfl (by decide))), (Ne.symm (nd_ne ND (i := 6) (j := 13) rfl rfl (by decide))), (Ne.symm (nd_ne ND (i := 7) (j := 13) rfl rfl (by decide))), (Ne.symm (nd_ne ND (i := 8) (j := 13) rfl rfl (by decide))), (Ne.symm (nd_ne ND (i := 9) (j := 13) rfl rfl (by decide))), (Ne.symm (nd_ne ND (i := 10) (j := 13) rfl rfl (by decide))), (Ne.symm (nd_ne ND (i := 11) (j := 13) rfl rfl (by decide)))⟩) e_masks
            have r_191 := r0.trans (r_153.mono (by simp))
            obtain ⟨v_192, g_193⟩ := IN_156 28 (by decide)
            obtain ⟨v_194, g_195⟩ := IN_156 29 (by decide)
            obtain ⟨v_196, g_197⟩ := IN_156 30 (by decide)
            obtain ⟨v_198, g_199⟩ := IN_156 31 (by decide)
            obtain ⟨v_200, g_201⟩ := IN_156 34 (by decide)
            obtain ⟨v_202, g_203⟩ := IN_156 35 (by decide)
            obtain ⟨v_204, g_205⟩ := IN_156 36 (by decide)
            obtain ⟨v_206, g_207⟩ := IN_156 39 (by decide)
            have g_208 : fs_138[(61 : Nat)]? = some (.int (b01 false)) := (ga_142 61 (by decide)).trans gz_61
            have g_209 : fs_138[(4 : Nat)]? = some (.ref asked_) := (ga_142 4 (by decide)).trans g_asked
            have g_210 : fs_138[(41 : Nat)]? = some (.ref firstToken_) := (ga_142 41 (by decide)).trans g_firstToken
            have g_211 : fs_138[(42 : Nat)]? = some (.ref starred_) := (ga_142 42 (by decide)).trans g_starred
            have g_212 : fs_138[(43 : Nat)]? = some (.ref tokenAt_) := (ga_142 43 (by decide)).trans g_tokenAt
            have g_213 : fs_138[(44 : Nat)]? = some (.ref tokenSize_) := (ga_142 44 (by decide)).trans g_tokenSize
            have g_214 : fs_138[(45 : Nat)]? = some (.ref groupKind_) := (ga_142 45 (by decide)).trans g_groupKind
            have g_215 : fs_138[(46 : Nat)]? = some (.ref groupPhrase_) := (ga_142 46 (by decide)).trans g_groupPhrase
            have g_216 : fs_138[(47 : Nat)]? = some (.ref groupSize_) := (ga_142 47 (by decide)).trans g_groupSize
            have g_217 : fs_138[(48 : Nat)]? = some (.ref groupMask_) := (ga_142 48 (by decide)).trans g_groupMask
            have g_218 : fs_138[(49 : Nat)]? = some (.ref groupFar_) := (ga_142 49 (by decide)).trans g_groupFar
            have g_219 : fs_138[(50 : Nat)]? = some (.ref out_) := (ga_142 50 (by decide)).trans g_out
            have g_220 : fs_138[(51 : Nat)]? = some (.ref top_) := (ga_142 51 (by decide)).trans g_top
            have g_221 : fs_138[(52 : Nat)]? = some (.ref masks_) := (ga_142 52 (by decide)).trans g_masks
            have g_222 : fs_138[(11 : Nat)]? = some (.int (nI asz)) := (ga_142 11 (by decide)).trans g_askedSize
            have ga_223 : ∀ i : Nat, i ∉ [28, 29, 30, 31, 33, 34, 35, 36, 37, 38, 39, 61] → fs_138[i]? = fs[i]? := fun i hi => (ga_142 i (fun z => hi (by simp only [List.mem_cons, List.not_mem_nil, or_false] at z ⊢; omega))).trans (ga0 i hi)
            have hb_224 : 0 ≤ bd_127 := Int32.not_lt.mp nb_155
            refine s_Model_atom_94 l_139 e_140 ?_
            refine x_u1 (fun h_225 e_226 f_227 => ?_)
            have e_228 := (f_227 asked_ (Ne.symm (nd_ne ND (i := 0) (j := 1) rfl rfl (by decide)))).trans e_188
            have e_229 := (f_227 firstToken_ (Ne.symm (nd_ne ND (i := 0) (j := 2) rfl rfl (by decide)))).trans e_143
            have e_230 := (f_227 starred_ (Ne.symm (nd_ne ND (i := 0) (j := 3) rfl rfl (by decide)))).trans e_144
            have e_231 := (f_227 tokenAt_ (Ne.symm (nd_ne ND (i := 0) (j := 4) rfl rfl (by decide)))).trans e_145
            have e_232 := (f_227 tokenSize_ (Ne.symm (nd_ne ND (i := 0) (j := 5) rfl rfl (by decide)))).trans e_146
            have e_233 := (f_227 groupKind_ (Ne.symm (nd_ne ND (i := 0) (j := 6) rfl rfl (by decide)))).trans e_147
            have e_234 := (f_227 groupPhrase_ (Ne.symm (nd_ne ND (i := 0) (j := 7) rfl rfl (by decide)))).trans e_148
            have e_235 := (f_227 groupSize_ (Ne.symm (nd_ne ND (i := 0) (j := 8) rfl rfl (by decide)))).trans e_149
            have e_236 := (f_227 groupMask_ (Ne.symm (nd_ne ND (i := 0) (j := 9) rfl rfl (by decide)))).trans e_150
            have e_237 := (f_227 groupFar_ (Ne.symm (nd_ne ND (i := 0) (j := 10) rfl rfl (by decide)))).trans e_151
            have e_238 := (f_227 out_ (Ne.symm (nd_ne ND (i := 0) (j := 11) rfl rfl (by decide)))).trans e_152
            have e_239 := (f_227 top_ (Ne.symm (nd_ne ND (i := 0) (j := 12) rfl rfl (by decide)))).trans e_189
            have e_240 := (f_227 masks_ (Ne.symm (nd_ne ND (i := 0) (j := 13) rfl rfl (by decide)))).trans e_190
            have r_241 := r_191.up (by simp) f_227
            obtain ⟨fs_242, z_243⟩ : ∃ z, z = fs_138.set 61 (.int 1) := ⟨_, rfl⟩
            rw [← z_243] at e_226
            have l_244 : fs_242.length = 62 := by rw [z_243]; simp only [List.length_set]; exact l_139
            have g_245 : fs_242[(4 : Nat)]? = some (.ref asked_) := by rw [z_243]; exact (xw_gn (by decide) g_209)
            have g_246 : fs_242[(11 : Nat)]? = some (.int (nI asz)) := by rw [z_243]; exact (xw_gn (by decide) g_222)
            have g_247 : fs_242[(28 : Nat)]? = some (.int v_192) := by rw [z_243]; exact (xw_gn (by decide) g_193)
            have g_248 : fs_242[(29 : Nat)]? = some (.int v_194) := by rw [z_243]; exact (xw_gn (by decide) g_195)
            have g_249 : fs_242[(30 : Nat)]? = some (.int v_196) := by rw [z_243]; exact (xw_gn (by decide) g_197)
            have g_250 : fs_242[(31 : Nat)]? = some (.int v_198) := by rw [z_243]; exact (xw_gn (by decide) g_199)
            have g_251 : fs_242[(33 : Nat)]? = some (.int bd_127) := by rw [z_243]; exact (xw_gn (by decide) g_141)
            have g_252 : fs_242[(34 : Nat)]? = some (.int v_200) := by rw [z_243]; exact (xw_gn (by decide) g_201)
            have g_253 : fs_242[(35 : Nat)]? = some (.int v_202) := by rw [z_243]; exact (xw_gn (by decide) g_203)
            have g_254 : fs_242[(36 : Nat)]? = some (.int v_204) := by rw [z_243]; exact (xw_gn (by decide) g_205)
            have g_255 : fs_242[(37 : Nat)]? = some (.int (nI o.length)) := by rw [z_243]; exact (xw_gn (by decide) g_157)
            have g_256 : fs_242[(38 : Nat)]? = some (.int (nI st.length)) := by rw [z_243]; exact (xw_gn (by decide) g_158)
            have g_257 : fs_242[(39 : Nat)]? = some (.int v_206) := by rw [z_243]; exact (xw_gn (by decide) g_207)
            have g_258 : fs_242[(41 : Nat)]? = some (.ref firstToken_) := by rw [z_243]; exact (xw_gn (by decide) g_210)
            have g_259 : fs_242[(42 : Nat)]? = some (.ref starred_) := by rw [z_243]; exact (xw_gn (by decide) g_211)
            have g_260 : fs_242[(43 : Nat)]? = some (.ref tokenAt_) := by rw [z_243]; exact (xw_gn (by decide) g_212)
            have g_261 : fs_242[(44 : Nat)]? = some (.ref tokenSize_) := by rw [z_243]; exact (xw_gn (by decide) g_213)
            have g_262 : fs_242[(45 : Nat)]? = some (.ref groupKind_) := by rw [z_243]; exact (xw_gn (by decide) g_214)
            have g_263 : fs_242[(46 : Nat)]? = some (.ref groupPhrase_) := by rw [z_243]; exact (xw_gn (by decide) g_215)
            have g_264 : fs_242[(47 : Nat)]? = some (.ref groupSize_) := by rw [z_243]; exact (xw_gn (by decide) g_216)
            have g_265 : fs_242[(48 : Nat)]? = some (.ref groupMask_) := by rw [z_243]; exact (xw_gn (by decide) g_217)
            have g_266 : fs_242[(49 : Nat)]? = some (.ref groupFar_) := by rw [z_243]; exact (xw_gn (by decide) g_218)
            have g_267 : fs_242[(50 : Nat)]? = some (.ref out_) := by rw [z_243]; exact (xw_gn (by decide) g_219)
            have g_268 : fs_242[(51 : Nat)]? = some (.ref top_) := by rw [z_243]; exact (xw_gn (by decide) g_220)
            have g_269 : fs_242[(52 : Nat)]? = some (.ref masks_) := by rw [z_243]; exact (xw_gn (by decide) g_221)
            have g_270 : fs_242[(61 : Nat)]? = some (.int 1) := by rw [z_243]; exact (xw_gs (by simp [l_139]))
            have ga_271 : ∀ i : Nat, i ∉ [28, 29, 30, 31, 33, 34, 35, 36, 37, 38, 39, 61] → fs_242[i]? = fs[i]? := fun i hi => by rw [z_243]; exact xw_gn (fun z => hi (by rw [z]; simp)) (ga_223 i hi)
            clear z_243
            refine s_Model_atom_111 ?_
            have hk_272 : ¬ kdP fa asz p = 9 := fun q => z_1 (by rw [q]; rfl)
            have hk_273 : ¬ kdP fa asz p = 11 := fun q => z_4 (by rw [q]; rfl)
            have hs_274 := (hc_119.resolve_right (fun q => absurd (q.1.symm.trans z_123) (by decide))).2
            have hdp : dpr (kdS fa asz (p, ph, gr)) = false := bF (fun q => by have q2 : kdP fa asz p = 9 ∨ kdP fa asz p = 11 ∨ kdP fa asz p = 3 := (by simpa [dpr, kdS, or_assoc] using q); rcases q2 with q2 | q2 | q2; (exact hk_272 q2); (exact hk_273 q2); (exact hs_274 q2))
            exact ⟨rfl, Or.inl ⟨sp_gn hk_272 hdp hx_154, ⟨o.length, st.length, _, _, _, _, _, _, _, _, _, _, _, _, _, _, nb_155, (by omega), l_244, e_226, g_251, g_255, g_256, (fun i9 hi9 => by simp only [List.mem_cons, List.not_mem_nil, or_false] at hi9; rcases hi9 with rfl | rfl | rfl | rfl | rfl | rfl | rfl | rfl | rfl <;> first | exact ⟨_, g_247⟩ | exact ⟨_, g_248⟩ | exact ⟨_, g_249⟩ | exact ⟨_, g_250⟩ | exact ⟨_, g_252⟩ | exact ⟨_, g_253⟩ | exact ⟨_, g_254⟩ | exact ⟨_, g_257⟩ | exact ⟨_, g_270⟩), fun i hi => (ga_271 i hi).trans (gq i hi), e_229, e_230, e_231, e_232, e_233, e_234, e_235, e_236, e_237, e_238, e_239, e_240, rq.trans r_241⟩⟩⟩
          · skip
            have e_275 := r_153 asked_ _ (by simp only [List.mem_cons, List.not_mem_nil, or_false, not_or]; exact ⟨(Ne.symm (nd_ne ND (i := 0) (j := 1) rfl rfl (by decide))), (nd_ne ND (i := 1) (j := 2) rfl rfl (by decide)), (nd_ne ND (i := 1) (j := 3) rfl rfl (by decide)), (nd_ne ND (i := 1) (j := 4) rfl rfl (by decide)), (nd_ne ND (i := 1) (j := 5) rfl rfl (by decide)), (nd_ne ND (i := 1) (j := 6) rfl rfl (by decide)), (nd_ne ND (i := 1) (j := 7) rfl rfl (by decide)), (nd_ne ND (i := 1) (j := 8) rfl rfl (by decide)), (nd_ne ND (i := 1) (j := 9) rfl rfl (by decide)), (nd_ne ND (i := 1) (j := 10) rfl rfl (by decide)), (nd_ne ND (i := 1) (j := 11) rfl rfl (by decide))⟩) e_asked
            have e_276 := r_153 top_ _ (by simp only [List.mem_cons, List.not_mem_nil, or_false, not_or]; exact ⟨(Ne.symm (nd_ne ND (i := 0) (j := 12) rfl rfl (by decide))), (Ne.symm (nd_ne ND (i := 2) (j := 12) rfl rfl (by decide))), (Ne.symm (nd_ne ND (i := 3) (j := 12) rfl rfl (by decide))), (Ne.symm (nd_ne ND (i := 4) (j := 12) rfl rfl (by decide))), (Ne.symm (nd_ne ND (i := 5) (j := 12) rfl rfl (by decide))), (Ne.symm (nd_ne ND (i := 6) (j := 12) rfl rfl (by decide))), (Ne.symm (nd_ne ND (i := 7) (j := 12) rfl rfl (by decide))), (Ne.symm (nd_ne ND (i := 8) (j := 12) rfl rfl (by decide))), (Ne.symm (nd_ne ND (i := 9) (j := 12) rfl rfl (by decide))), (Ne.symm (nd_ne ND (i := 10) (j := 12) rfl rfl (by decide))), (Ne.symm (nd_ne ND (i := 11) (j := 12) rfl rfl (by decide)))⟩) e_top
            have e_277 := r_153 masks_ _ (by simp only [List.mem_cons, List.not_mem_nil, or_false, not_or]; exact ⟨(Ne.symm (nd_ne ND (i := 0) (j := 13) rfl rfl (by decide))), (Ne.symm (nd_ne ND (i := 2) (j := 13) rfl rfl (by decide))), (Ne.symm (nd_ne ND (i := 3) (j := 13) rfl rfl (by decide))), (Ne.symm (nd_ne ND (i := 4) (j := 13) rfl rfl (by decide))), (Ne.symm (nd_ne ND (i := 5) (j := 13) rfl rfl (by decide))), (Ne.symm (nd_ne ND (i := 6) (j := 13) rfl rfl (by decide))), (Ne.symm (nd_ne ND (i := 7) (j := 13) rfl rfl (by decide))), (Ne.symm (nd_ne ND (i := 8) (j := 13) rfl rfl (by decide))), (Ne.symm (nd_ne ND (i := 9) (j := 13) rfl rfl (by decide))), (Ne.symm (nd_ne ND (i := 10) (j := 13) rfl rfl (by decide))), (Ne.symm (nd_ne ND (i := 11) (j := 13) rfl rfl (by decide)))⟩) e_masks
            have r_278 := r0.trans (r_153.mono (by simp))
            have g_279 : fs_138[(61 : Nat)]? = some (.int (b01 false)) := (ga_142 61 (by decide)).trans gz_61
            have g_280 : fs_138[(4 : Nat)]? = some (.ref asked_) := (ga_142 4 (by decide)).trans g_asked
            have g_281 : fs_138[(41 : Nat)]? = some (.ref firstToken_) := (ga_142 41 (by decide)).trans g_firstToken
            have g_282 : fs_138[(42 : Nat)]? = some (.ref starred_) := (ga_142 42 (by decide)).trans g_starred
            have g_283 : fs_138[(43 : Nat)]? = some (.ref tokenAt_) := (ga_142 43 (by decide)).trans g_tokenAt
            have g_284 : fs_138[(44 : Nat)]? = some (.ref tokenSize_) := (ga_142 44 (by decide)).trans g_tokenSize
            have g_285 : fs_138[(45 : Nat)]? = some (.ref groupKind_) := (ga_142 45 (by decide)).trans g_groupKind
            have g_286 : fs_138[(46 : Nat)]? = some (.ref groupPhrase_) := (ga_142 46 (by decide)).trans g_groupPhrase
            have g_287 : fs_138[(47 : Nat)]? = some (.ref groupSize_) := (ga_142 47 (by decide)).trans g_groupSize
            have g_288 : fs_138[(48 : Nat)]? = some (.ref groupMask_) := (ga_142 48 (by decide)).trans g_groupMask
            have g_289 : fs_138[(49 : Nat)]? = some (.ref groupFar_) := (ga_142 49 (by decide)).trans g_groupFar
            have g_290 : fs_138[(50 : Nat)]? = some (.ref out_) := (ga_142 50 (by decide)).trans g_out
            have g_291 : fs_138[(51 : Nat)]? = some (.ref top_) := (ga_142 51 (by decide)).trans g_top
            have g_292 : fs_138[(52 : Nat)]? = some (.ref masks_) := (ga_142 52 (by decide)).trans g_masks
            have g_293 : fs_138[(11 : Nat)]? = some (.int (nI asz)) := (ga_142 11 (by decide)).trans g_askedSize
            have ga_294 : ∀ i : Nat, i ∉ [28, 29, 30, 31, 33, 34, 35, 36, 37, 38, 39, 61] → fs_138[i]? = fs[i]? := fun i hi => (ga_142 i (fun z => hi (by simp only [List.mem_cons, List.not_mem_nil, or_false] at z ⊢; omega))).trans (ga0 i hi)
            have hb_295 : ¬ 0 ≤ bd_127 := Int32.not_le.mpr hb_166
            refine s_Model_atom_94 l_139 e_140 ?_
            refine x_u1 (fun h_296 e_297 f_298 => ?_)
            have e_299 := (f_298 asked_ (Ne.symm (nd_ne ND (i := 0) (j := 1) rfl rfl (by decide)))).trans e_275
            have e_300 := (f_298 firstToken_ (Ne.symm (nd_ne ND (i := 0) (j := 2) rfl rfl (by decide)))).trans e_143
            have e_301 := (f_298 starred_ (Ne.symm (nd_ne ND (i := 0) (j := 3) rfl rfl (by decide)))).trans e_144
            have e_302 := (f_298 tokenAt_ (Ne.symm (nd_ne ND (i := 0) (j := 4) rfl rfl (by decide)))).trans e_145
            have e_303 := (f_298 tokenSize_ (Ne.symm (nd_ne ND (i := 0) (j := 5) rfl rfl (by decide)))).trans e_146
            have e_304 := (f_298 groupKind_ (Ne.symm (nd_ne ND (i := 0) (j := 6) rfl rfl (by decide)))).trans e_147
            have e_305 := (f_298 groupPhrase_ (Ne.symm (nd_ne ND (i := 0) (j := 7) rfl rfl (by decide)))).trans e_148
            have e_306 := (f_298 groupSize_ (Ne.symm (nd_ne ND (i := 0) (j := 8) rfl rfl (by decide)))).trans e_149
            have e_307 := (f_298 groupMask_ (Ne.symm (nd_ne ND (i := 0) (j := 9) rfl rfl (by decide)))).trans e_150
            have e_308 := (f_298 groupFar_ (Ne.symm (nd_ne ND (i := 0) (j := 10) rfl rfl (by decide)))).trans e_151
            have e_309 := (f_298 out_ (Ne.symm (nd_ne ND (i := 0) (j := 11) rfl rfl (by decide)))).trans e_152
            have e_310 := (f_298 top_ (Ne.symm (nd_ne ND (i := 0) (j := 12) rfl rfl (by decide)))).trans e_276
            have e_311 := (f_298 masks_ (Ne.symm (nd_ne ND (i := 0) (j := 13) rfl rfl (by decide)))).trans e_277
            have r_312 := r_278.up (by simp) f_298
            obtain ⟨fs_313, z_314⟩ : ∃ z, z = fs_138.set 61 (.int 1) := ⟨_, rfl⟩
            rw [← z_314] at e_297
            have l_315 : fs_313.length = 62 := by rw [z_314]; simp only [List.length_set]; exact l_139
            have g_316 : fs_313[(4 : Nat)]? = some (.ref asked_) := by rw [z_314]; exact (xw_gn (by decide) g_280)
            have g_317 : fs_313[(11 : Nat)]? = some (.int (nI asz)) := by rw [z_314]; exact (xw_gn (by decide) g_293)
            have g_318 : fs_313[(28 : Nat)]? = some (.int (nI (bl fa asz p_159))) := by rw [z_314]; exact (xw_gn (by decide) g_169)
            have g_319 : fs_313[(29 : Nat)]? = some (.int (nI (rkd (kdP fa asz p_159)))) := by rw [z_314]; exact (xw_gn (by decide) g_170)
            have g_320 : fs_313[(30 : Nat)]? = some (.int (nI (bl fa asz p_159))) := by rw [z_314]; exact (xw_gn (by decide) g_171)
            have g_321 : fs_313[(31 : Nat)]? = some (.int (nI y_163)) := by rw [z_314]; exact (xw_gn (by decide) g_172)
            have g_322 : fs_313[(33 : Nat)]? = some (.int bd_127) := by rw [z_314]; exact (xw_gn (by decide) g_141)
            have g_323 : fs_313[(34 : Nat)]? = some (.int (nI ph_160.length)) := by rw [z_314]; exact (xw_gn (by decide) g_173)
            have g_324 : fs_313[(35 : Nat)]? = some (.int (nI t_164)) := by rw [z_314]; exact (xw_gn (by decide) g_174)
            have g_325 : fs_313[(36 : Nat)]? = some (.int (nI gr_161.length)) := by rw [z_314]; exact (xw_gn (by decide) g_176)
            have g_326 : fs_313[(37 : Nat)]? = some (.int (nI (o ++ [(0, gi_162)]).length)) := by rw [z_314]; exact (xw_gn (by decide) g_179)
            have g_327 : fs_313[(38 : Nat)]? = some (.int (nI (cfS st mk).1.length)) := by rw [z_314]; exact (xw_gn (by decide) g_181)
            have g_328 : fs_313[(39 : Nat)]? = some (.int (nI (cfS st mk).2)) := by rw [z_314]; exact (xw_gn (by decide) g_182)
            have g_329 : fs_313[(41 : Nat)]? = some (.ref firstToken_) := by rw [z_314]; exact (xw_gn (by decide) g_281)
            have g_330 : fs_313[(42 : Nat)]? = some (.ref starred_) := by rw [z_314]; exact (xw_gn (by decide) g_282)
            have g_331 : fs_313[(43 : Nat)]? = some (.ref tokenAt_) := by rw [z_314]; exact (xw_gn (by decide) g_283)
            have g_332 : fs_313[(44 : Nat)]? = some (.ref tokenSize_) := by rw [z_314]; exact (xw_gn (by decide) g_284)
            have g_333 : fs_313[(45 : Nat)]? = some (.ref groupKind_) := by rw [z_314]; exact (xw_gn (by decide) g_285)
            have g_334 : fs_313[(46 : Nat)]? = some (.ref groupPhrase_) := by rw [z_314]; exact (xw_gn (by decide) g_286)
            have g_335 : fs_313[(47 : Nat)]? = some (.ref groupSize_) := by rw [z_314]; exact (xw_gn (by decide) g_287)
            have g_336 : fs_313[(48 : Nat)]? = some (.ref groupMask_) := by rw [z_314]; exact (xw_gn (by decide) g_288)
            have g_337 : fs_313[(49 : Nat)]? = some (.ref groupFar_) := by rw [z_314]; exact (xw_gn (by decide) g_289)
            have g_338 : fs_313[(50 : Nat)]? = some (.ref out_) := by rw [z_314]; exact (xw_gn (by decide) g_290)
            have g_339 : fs_313[(51 : Nat)]? = some (.ref top_) := by rw [z_314]; exact (xw_gn (by decide) g_291)
            have g_340 : fs_313[(52 : Nat)]? = some (.ref masks_) := by rw [z_314]; exact (xw_gn (by decide) g_292)
            have g_341 : fs_313[(61 : Nat)]? = some (.int 1) := by rw [z_314]; exact (xw_gs (by simp [l_139]))
            have ga_342 : ∀ i : Nat, i ∉ [28, 29, 30, 31, 33, 34, 35, 36, 37, 38, 39, 61] → fs_313[i]? = fs[i]? := fun i hi => by rw [z_314]; exact xw_gn (fun z => hi (by rw [z]; simp)) (ga_294 i hi)
            clear z_314
            refine s_Model_atom_111 ?_
            have hk_343 : ¬ kdP fa asz p = 9 := fun q => z_1 (by rw [q]; rfl)
            have hk_344 : ¬ kdP fa asz p = 11 := fun q => z_4 (by rw [q]; rfl)
            have hs_345 := (hc_119.resolve_right (fun q => absurd (q.1.symm.trans z_123) (by decide))).2
            have hdp : dpr (kdS fa asz (p, ph, gr)) = false := bF (fun q => by have q2 : kdP fa asz p = 9 ∨ kdP fa asz p = 11 ∨ kdP fa asz p = 3 := (by simpa [dpr, kdS, or_assoc] using q); rcases q2 with q2 | q2 | q2; (exact hk_343 q2); (exact hk_344 q2); (exact hs_345 q2))
            have ck := cf_kp st mk
            have hgl := gp_len hx_165
            have hp9 := gp_12 hx_165 hp12
            exact ⟨rfl, Or.inr ⟨_, sp_gy hk_343 hdp hx_165, ⟨_, _, _, _, _, _, _, _, _, _, _, _, _, _, _, _, PT_167, HY_168, RQ_175, GR_177, OU_180, (OG.add (show gr.length ≤ gr_161.length by omega) (show gi_162 < gr_161.length by have := gp_gi hx_165; omega)), ST_183, hb_166, hp9, hgp_178, hm_184, (Nat.le_trans ck.2 hd8), (by show (o ++ [(0, gi_162)]).length + cJ (cfS st mk).1 + 1 = 2 * gr_161.length; rw [List.length_append, ck.1]; simp only [List.length_cons, List.length_nil, Bool.false_eq_true, if_false] at hgl hcn ⊢; omega), l_315, e_297, g_318, g_319, g_320, g_321, g_322, g_323, g_324, g_325, g_326, g_327, g_328, g_341, fun i hi => (ga_342 i hi).trans (gq i hi), e_300, e_301, e_302, e_303, e_304, e_305, e_306, e_307, e_308, e_309, e_310, e_311, rq.trans r_312⟩⟩⟩
        · skip
          refine s_Model_atom_74 l e gz_29 (fun z_346 => ?_) (fun z_347 => ?_)
          · skip
            refine s_Model_atom_90 ?_
            refine x_callV (As := []) (b := m) (rest := []) (F1 := 7) (L1 := 150) (mc := 0) (ms := 0) d_Model_atom_91 cV_Model_294 (f_groupH l e gz_28 gz_29 gz_30 gz_31 gz_33 gz_34 gz_35 gz_36 gz_37 gz_38 gz_39 g_askedSize g_asked e_asked g_firstToken e_firstToken g_starred e_starred g_tokenAt e_tokenAt g_tokenSize e_tokenSize g_groupKind e_groupKind g_groupPhrase e_groupPhrase g_groupSize e_groupSize g_groupMask e_groupMask g_groupFar e_groupFar g_out e_out g_top e_top g_masks e_masks ND hasz h128 PT HY RQ GR OU ST hbd hp12 hgp (by omega) hmk (by omega) (by omega)) e ⟨by decide, rfl⟩ ⟨by omega, by show 8 + (1 + 11) + 150 ≤ _; omega⟩ ⟨by omega, by omega⟩ (Nat.le_of_ble_eq_true rfl) (fun v_407 h_406 p_408 => ?_)
            rcases p_408 with ⟨rfl, bd_348, c1_349, c2_350, ca_351, cs_352, c5_353, c6_354, c7_355, c8_356, c9_357, co_358, fs_359, l_360, e_361, g_362, ga_363, e_364, e_365, e_366, e_367, e_368, e_369, e_370, e_371, e_372, e_373, r_374, ⟨hx_375, nb_376, IN_377, g_378, g_379⟩ | ⟨p_380, ph_381, gr_382, gi_383, y_384, t_385, hx_386, hb_387, PT_388, HY_389, g_390, g_391, g_392, g_393, g_394, g_395, RQ_396, g_397, GR_398, hgp_399, g_400, OU_401, g_402, g_403, ST_404, hm_405⟩⟩
            · skip
              have e_409 := r_374 asked_ _ (by simp only [List.mem_cons, List.not_mem_nil, or_false, not_or]; exact ⟨(Ne.symm (nd_ne ND (i := 0) (j := 1) rfl rfl (by decide))), (nd_ne ND (i := 1) (j := 2) rfl rfl (by decide)), (nd_ne ND (i := 1) (j := 3) rfl rfl (by decide)), (nd_ne ND (i := 1) (j := 4) rfl rfl (by decide)), (nd_ne ND (i := 1) (j := 5) rfl rfl (by decide)), (nd_ne ND (i := 1) (j := 6) rfl rfl (by decide)), (nd_ne ND (i := 1) (j := 7) rfl rfl (by decide)), (nd_ne ND (i := 1) (j := 8) rfl rfl (by decide)), (nd_ne ND (i := 1) (j := 9) rfl rfl (by decide)), (nd_ne ND (i := 1) (j := 10) rfl rfl (by decide)), (nd_ne ND (i := 1) (j := 11) rfl rfl (by decide))⟩) e_asked
              have e_410 := r_374 top_ _ (by simp only [List.mem_cons, List.not_mem_nil, or_false, not_or]; exact ⟨(Ne.symm (nd_ne ND (i := 0) (j := 12) rfl rfl (by decide))), (Ne.symm (nd_ne ND (i := 2) (j := 12) rfl rfl (by decide))), (Ne.symm (nd_ne ND (i := 3) (j := 12) rfl rfl (by decide))), (Ne.symm (nd_ne ND (i := 4) (j := 12) rfl rfl (by decide))), (Ne.symm (nd_ne ND (i := 5) (j := 12) rfl rfl (by decide))), (Ne.symm (nd_ne ND (i := 6) (j := 12) rfl rfl (by decide))), (Ne.symm (nd_ne ND (i := 7) (j := 12) rfl rfl (by decide))), (Ne.symm (nd_ne ND (i := 8) (j := 12) rfl rfl (by decide))), (Ne.symm (nd_ne ND (i := 9) (j := 12) rfl rfl (by decide))), (Ne.symm (nd_ne ND (i := 10) (j := 12) rfl rfl (by decide))), (Ne.symm (nd_ne ND (i := 11) (j := 12) rfl rfl (by decide)))⟩) e_top
              have e_411 := r_374 masks_ _ (by simp only [List.mem_cons, List.not_mem_nil, or_false, not_or]; exact ⟨(Ne.symm (nd_ne ND (i := 0) (j := 13) rfl rfl (by decide))), (Ne.symm (nd_ne ND (i := 2) (j := 13) rfl rfl (by decide))), (Ne.symm (nd_ne ND (i := 3) (j := 13) rfl rfl (by decide))), (Ne.symm (nd_ne ND (i := 4) (j := 13) rfl rfl (by decide))), (Ne.symm (nd_ne ND (i := 5) (j := 13) rfl rfl (by decide))), (Ne.symm (nd_ne ND (i := 6) (j := 13) rfl rfl (by decide))), (Ne.symm (nd_ne ND (i := 7) (j := 13) rfl rfl (by decide))), (Ne.symm (nd_ne ND (i := 8) (j := 13) rfl rfl (by decide))), (Ne.symm (nd_ne ND (i := 9) (j := 13) rfl rfl (by decide))), (Ne.symm (nd_ne ND (i := 10) (j := 13) rfl rfl (by decide))), (Ne.symm (nd_ne ND (i := 11) (j := 13) rfl rfl (by decide)))⟩) e_masks
              have r_412 := r0.trans (r_374.mono (by simp))
              obtain ⟨v_413, g_414⟩ := IN_377 28 (by decide)
              obtain ⟨v_415, g_416⟩ := IN_377 29 (by decide)
              obtain ⟨v_417, g_418⟩ := IN_377 30 (by decide)
              obtain ⟨v_419, g_420⟩ := IN_377 31 (by decide)
              obtain ⟨v_421, g_422⟩ := IN_377 34 (by decide)
              obtain ⟨v_423, g_424⟩ := IN_377 35 (by decide)
              obtain ⟨v_425, g_426⟩ := IN_377 36 (by decide)
              obtain ⟨v_427, g_428⟩ := IN_377 39 (by decide)
              have g_429 : fs_359[(61 : Nat)]? = some (.int (b01 false)) := (ga_363 61 (by decide)).trans gz_61
              have g_430 : fs_359[(4 : Nat)]? = some (.ref asked_) := (ga_363 4 (by decide)).trans g_asked
              have g_431 : fs_359[(41 : Nat)]? = some (.ref firstToken_) := (ga_363 41 (by decide)).trans g_firstToken
              have g_432 : fs_359[(42 : Nat)]? = some (.ref starred_) := (ga_363 42 (by decide)).trans g_starred
              have g_433 : fs_359[(43 : Nat)]? = some (.ref tokenAt_) := (ga_363 43 (by decide)).trans g_tokenAt
              have g_434 : fs_359[(44 : Nat)]? = some (.ref tokenSize_) := (ga_363 44 (by decide)).trans g_tokenSize
              have g_435 : fs_359[(45 : Nat)]? = some (.ref groupKind_) := (ga_363 45 (by decide)).trans g_groupKind
              have g_436 : fs_359[(46 : Nat)]? = some (.ref groupPhrase_) := (ga_363 46 (by decide)).trans g_groupPhrase
              have g_437 : fs_359[(47 : Nat)]? = some (.ref groupSize_) := (ga_363 47 (by decide)).trans g_groupSize
              have g_438 : fs_359[(48 : Nat)]? = some (.ref groupMask_) := (ga_363 48 (by decide)).trans g_groupMask
              have g_439 : fs_359[(49 : Nat)]? = some (.ref groupFar_) := (ga_363 49 (by decide)).trans g_groupFar
              have g_440 : fs_359[(50 : Nat)]? = some (.ref out_) := (ga_363 50 (by decide)).trans g_out
              have g_441 : fs_359[(51 : Nat)]? = some (.ref top_) := (ga_363 51 (by decide)).trans g_top
              have g_442 : fs_359[(52 : Nat)]? = some (.ref masks_) := (ga_363 52 (by decide)).trans g_masks
              have g_443 : fs_359[(11 : Nat)]? = some (.int (nI asz)) := (ga_363 11 (by decide)).trans g_askedSize
              have ga_444 : ∀ i : Nat, i ∉ [28, 29, 30, 31, 33, 34, 35, 36, 37, 38, 39, 61] → fs_359[i]? = fs[i]? := fun i hi => (ga_363 i (fun z => hi (by simp only [List.mem_cons, List.not_mem_nil, or_false] at z ⊢; omega))).trans (ga0 i hi)
              have hb_445 : 0 ≤ bd_348 := Int32.not_lt.mp nb_376
              refine s_Model_atom_94 l_360 e_361 ?_
              refine x_u1 (fun h_446 e_447 f_448 => ?_)
              have e_449 := (f_448 asked_ (Ne.symm (nd_ne ND (i := 0) (j := 1) rfl rfl (by decide)))).trans e_409
              have e_450 := (f_448 firstToken_ (Ne.symm (nd_ne ND (i := 0) (j := 2) rfl rfl (by decide)))).trans e_364
              have e_451 := (f_448 starred_ (Ne.symm (nd_ne ND (i := 0) (j := 3) rfl rfl (by decide)))).trans e_365
              have e_452 := (f_448 tokenAt_ (Ne.symm (nd_ne ND (i := 0) (j := 4) rfl rfl (by decide)))).trans e_366
              have e_453 := (f_448 tokenSize_ (Ne.symm (nd_ne ND (i := 0) (j := 5) rfl rfl (by decide)))).trans e_367
              have e_454 := (f_448 groupKind_ (Ne.symm (nd_ne ND (i := 0) (j := 6) rfl rfl (by decide)))).trans e_368
              have e_455 := (f_448 groupPhrase_ (Ne.symm (nd_ne ND (i := 0) (j := 7) rfl rfl (by decide)))).trans e_369
              have e_456 := (f_448 groupSize_ (Ne.symm (nd_ne ND (i := 0) (j := 8) rfl rfl (by decide)))).trans e_370
              have e_457 := (f_448 groupMask_ (Ne.symm (nd_ne ND (i := 0) (j := 9) rfl rfl (by decide)))).trans e_371
              have e_458 := (f_448 groupFar_ (Ne.symm (nd_ne ND (i := 0) (j := 10) rfl rfl (by decide)))).trans e_372
              have e_459 := (f_448 out_ (Ne.symm (nd_ne ND (i := 0) (j := 11) rfl rfl (by decide)))).trans e_373
              have e_460 := (f_448 top_ (Ne.symm (nd_ne ND (i := 0) (j := 12) rfl rfl (by decide)))).trans e_410
              have e_461 := (f_448 masks_ (Ne.symm (nd_ne ND (i := 0) (j := 13) rfl rfl (by decide)))).trans e_411
              have r_462 := r_412.up (by simp) f_448
              obtain ⟨fs_463, z_464⟩ : ∃ z, z = fs_359.set 61 (.int 1) := ⟨_, rfl⟩
              rw [← z_464] at e_447
              have l_465 : fs_463.length = 62 := by rw [z_464]; simp only [List.length_set]; exact l_360
              have g_466 : fs_463[(4 : Nat)]? = some (.ref asked_) := by rw [z_464]; exact (xw_gn (by decide) g_430)
              have g_467 : fs_463[(11 : Nat)]? = some (.int (nI asz)) := by rw [z_464]; exact (xw_gn (by decide) g_443)
              have g_468 : fs_463[(28 : Nat)]? = some (.int v_413) := by rw [z_464]; exact (xw_gn (by decide) g_414)
              have g_469 : fs_463[(29 : Nat)]? = some (.int v_415) := by rw [z_464]; exact (xw_gn (by decide) g_416)
              have g_470 : fs_463[(30 : Nat)]? = some (.int v_417) := by rw [z_464]; exact (xw_gn (by decide) g_418)
              have g_471 : fs_463[(31 : Nat)]? = some (.int v_419) := by rw [z_464]; exact (xw_gn (by decide) g_420)
              have g_472 : fs_463[(33 : Nat)]? = some (.int bd_348) := by rw [z_464]; exact (xw_gn (by decide) g_362)
              have g_473 : fs_463[(34 : Nat)]? = some (.int v_421) := by rw [z_464]; exact (xw_gn (by decide) g_422)
              have g_474 : fs_463[(35 : Nat)]? = some (.int v_423) := by rw [z_464]; exact (xw_gn (by decide) g_424)
              have g_475 : fs_463[(36 : Nat)]? = some (.int v_425) := by rw [z_464]; exact (xw_gn (by decide) g_426)
              have g_476 : fs_463[(37 : Nat)]? = some (.int (nI o.length)) := by rw [z_464]; exact (xw_gn (by decide) g_378)
              have g_477 : fs_463[(38 : Nat)]? = some (.int (nI st.length)) := by rw [z_464]; exact (xw_gn (by decide) g_379)
              have g_478 : fs_463[(39 : Nat)]? = some (.int v_427) := by rw [z_464]; exact (xw_gn (by decide) g_428)
              have g_479 : fs_463[(41 : Nat)]? = some (.ref firstToken_) := by rw [z_464]; exact (xw_gn (by decide) g_431)
              have g_480 : fs_463[(42 : Nat)]? = some (.ref starred_) := by rw [z_464]; exact (xw_gn (by decide) g_432)
              have g_481 : fs_463[(43 : Nat)]? = some (.ref tokenAt_) := by rw [z_464]; exact (xw_gn (by decide) g_433)
              have g_482 : fs_463[(44 : Nat)]? = some (.ref tokenSize_) := by rw [z_464]; exact (xw_gn (by decide) g_434)
              have g_483 : fs_463[(45 : Nat)]? = some (.ref groupKind_) := by rw [z_464]; exact (xw_gn (by decide) g_435)
              have g_484 : fs_463[(46 : Nat)]? = some (.ref groupPhrase_) := by rw [z_464]; exact (xw_gn (by decide) g_436)
              have g_485 : fs_463[(47 : Nat)]? = some (.ref groupSize_) := by rw [z_464]; exact (xw_gn (by decide) g_437)
              have g_486 : fs_463[(48 : Nat)]? = some (.ref groupMask_) := by rw [z_464]; exact (xw_gn (by decide) g_438)
              have g_487 : fs_463[(49 : Nat)]? = some (.ref groupFar_) := by rw [z_464]; exact (xw_gn (by decide) g_439)
              have g_488 : fs_463[(50 : Nat)]? = some (.ref out_) := by rw [z_464]; exact (xw_gn (by decide) g_440)
              have g_489 : fs_463[(51 : Nat)]? = some (.ref top_) := by rw [z_464]; exact (xw_gn (by decide) g_441)
              have g_490 : fs_463[(52 : Nat)]? = some (.ref masks_) := by rw [z_464]; exact (xw_gn (by decide) g_442)
              have g_491 : fs_463[(61 : Nat)]? = some (.int 1) := by rw [z_464]; exact (xw_gs (by simp [l_360]))
              have ga_492 : ∀ i : Nat, i ∉ [28, 29, 30, 31, 33, 34, 35, 36, 37, 38, 39, 61] → fs_463[i]? = fs[i]? := fun i hi => by rw [z_464]; exact xw_gn (fun z => hi (by rw [z]; simp)) (ga_444 i hi)
              clear z_464
              refine s_Model_atom_111 ?_
              have hk_493 : ¬ kdP fa asz p = 9 := fun q => z_1 (by rw [q]; rfl)
              have hk_494 : ¬ kdP fa asz p = 11 := fun q => z_4 (by rw [q]; rfl)
              have hs_495 := (hc_119.resolve_right (fun q => absurd (q.1.symm.trans z_123) (by decide))).2
              have hdp : dpr (kdS fa asz (p, ph, gr)) = false := bF (fun q => by have q2 : kdP fa asz p = 9 ∨ kdP fa asz p = 11 ∨ kdP fa asz p = 3 := (by simpa [dpr, kdS, or_assoc] using q); rcases q2 with q2 | q2 | q2; (exact hk_493 q2); (exact hk_494 q2); (exact hs_495 q2))
              exact ⟨rfl, Or.inl ⟨sp_gn hk_493 hdp hx_375, ⟨o.length, st.length, _, _, _, _, _, _, _, _, _, _, _, _, _, _, nb_376, (by omega), l_465, e_447, g_472, g_476, g_477, (fun i9 hi9 => by simp only [List.mem_cons, List.not_mem_nil, or_false] at hi9; rcases hi9 with rfl | rfl | rfl | rfl | rfl | rfl | rfl | rfl | rfl <;> first | exact ⟨_, g_468⟩ | exact ⟨_, g_469⟩ | exact ⟨_, g_470⟩ | exact ⟨_, g_471⟩ | exact ⟨_, g_473⟩ | exact ⟨_, g_474⟩ | exact ⟨_, g_475⟩ | exact ⟨_, g_478⟩ | exact ⟨_, g_491⟩), fun i hi => (ga_492 i hi).trans (gq i hi), e_450, e_451, e_452, e_453, e_454, e_455, e_456, e_457, e_458, e_459, e_460, e_461, rq.trans r_462⟩⟩⟩
            · skip
              have e_496 := r_374 asked_ _ (by simp only [List.mem_cons, List.not_mem_nil, or_false, not_or]; exact ⟨(Ne.symm (nd_ne ND (i := 0) (j := 1) rfl rfl (by decide))), (nd_ne ND (i := 1) (j := 2) rfl rfl (by decide)), (nd_ne ND (i := 1) (j := 3) rfl rfl (by decide)), (nd_ne ND (i := 1) (j := 4) rfl rfl (by decide)), (nd_ne ND (i := 1) (j := 5) rfl rfl (by decide)), (nd_ne ND (i := 1) (j := 6) rfl rfl (by decide)), (nd_ne ND (i := 1) (j := 7) rfl rfl (by decide)), (nd_ne ND (i := 1) (j := 8) rfl rfl (by decide)), (nd_ne ND (i := 1) (j := 9) rfl rfl (by decide)), (nd_ne ND (i := 1) (j := 10) rfl rfl (by decide)), (nd_ne ND (i := 1) (j := 11) rfl rfl (by decide))⟩) e_asked
              have e_497 := r_374 top_ _ (by simp only [List.mem_cons, List.not_mem_nil, or_false, not_or]; exact ⟨(Ne.symm (nd_ne ND (i := 0) (j := 12) rfl rfl (by decide))), (Ne.symm (nd_ne ND (i := 2) (j := 12) rfl rfl (by decide))), (Ne.symm (nd_ne ND (i := 3) (j := 12) rfl rfl (by decide))), (Ne.symm (nd_ne ND (i := 4) (j := 12) rfl rfl (by decide))), (Ne.symm (nd_ne ND (i := 5) (j := 12) rfl rfl (by decide))), (Ne.symm (nd_ne ND (i := 6) (j := 12) rfl rfl (by decide))), (Ne.symm (nd_ne ND (i := 7) (j := 12) rfl rfl (by decide))), (Ne.symm (nd_ne ND (i := 8) (j := 12) rfl rfl (by decide))), (Ne.symm (nd_ne ND (i := 9) (j := 12) rfl rfl (by decide))), (Ne.symm (nd_ne ND (i := 10) (j := 12) rfl rfl (by decide))), (Ne.symm (nd_ne ND (i := 11) (j := 12) rfl rfl (by decide)))⟩) e_top
              have e_498 := r_374 masks_ _ (by simp only [List.mem_cons, List.not_mem_nil, or_false, not_or]; exact ⟨(Ne.symm (nd_ne ND (i := 0) (j := 13) rfl rfl (by decide))), (Ne.symm (nd_ne ND (i := 2) (j := 13) rfl rfl (by decide))), (Ne.symm (nd_ne ND (i := 3) (j := 13) rfl rfl (by decide))), (Ne.symm (nd_ne ND (i := 4) (j := 13) rfl rfl (by decide))), (Ne.symm (nd_ne ND (i := 5) (j := 13) rfl rfl (by decide))), (Ne.symm (nd_ne ND (i := 6) (j := 13) rfl rfl (by decide))), (Ne.symm (nd_ne ND (i := 7) (j := 13) rfl rfl (by decide))), (Ne.symm (nd_ne ND (i := 8) (j := 13) rfl rfl (by decide))), (Ne.symm (nd_ne ND (i := 9) (j := 13) rfl rfl (by decide))), (Ne.symm (nd_ne ND (i := 10) (j := 13) rfl rfl (by decide))), (Ne.symm (nd_ne ND (i := 11) (j := 13) rfl rfl (by decide)))⟩) e_masks
              have r_499 := r0.trans (r_374.mono (by simp))
              have g_500 : fs_359[(61 : Nat)]? = some (.int (b01 false)) := (ga_363 61 (by decide)).trans gz_61
              have g_501 : fs_359[(4 : Nat)]? = some (.ref asked_) := (ga_363 4 (by decide)).trans g_asked
              have g_502 : fs_359[(41 : Nat)]? = some (.ref firstToken_) := (ga_363 41 (by decide)).trans g_firstToken
              have g_503 : fs_359[(42 : Nat)]? = some (.ref starred_) := (ga_363 42 (by decide)).trans g_starred
              have g_504 : fs_359[(43 : Nat)]? = some (.ref tokenAt_) := (ga_363 43 (by decide)).trans g_tokenAt
              have g_505 : fs_359[(44 : Nat)]? = some (.ref tokenSize_) := (ga_363 44 (by decide)).trans g_tokenSize
              have g_506 : fs_359[(45 : Nat)]? = some (.ref groupKind_) := (ga_363 45 (by decide)).trans g_groupKind
              have g_507 : fs_359[(46 : Nat)]? = some (.ref groupPhrase_) := (ga_363 46 (by decide)).trans g_groupPhrase
              have g_508 : fs_359[(47 : Nat)]? = some (.ref groupSize_) := (ga_363 47 (by decide)).trans g_groupSize
              have g_509 : fs_359[(48 : Nat)]? = some (.ref groupMask_) := (ga_363 48 (by decide)).trans g_groupMask
              have g_510 : fs_359[(49 : Nat)]? = some (.ref groupFar_) := (ga_363 49 (by decide)).trans g_groupFar
              have g_511 : fs_359[(50 : Nat)]? = some (.ref out_) := (ga_363 50 (by decide)).trans g_out
              have g_512 : fs_359[(51 : Nat)]? = some (.ref top_) := (ga_363 51 (by decide)).trans g_top
              have g_513 : fs_359[(52 : Nat)]? = some (.ref masks_) := (ga_363 52 (by decide)).trans g_masks
              have g_514 : fs_359[(11 : Nat)]? = some (.int (nI asz)) := (ga_363 11 (by decide)).trans g_askedSize
              have ga_515 : ∀ i : Nat, i ∉ [28, 29, 30, 31, 33, 34, 35, 36, 37, 38, 39, 61] → fs_359[i]? = fs[i]? := fun i hi => (ga_363 i (fun z => hi (by simp only [List.mem_cons, List.not_mem_nil, or_false] at z ⊢; omega))).trans (ga0 i hi)
              have hb_516 : ¬ 0 ≤ bd_348 := Int32.not_le.mpr hb_387
              refine s_Model_atom_94 l_360 e_361 ?_
              refine x_u1 (fun h_517 e_518 f_519 => ?_)
              have e_520 := (f_519 asked_ (Ne.symm (nd_ne ND (i := 0) (j := 1) rfl rfl (by decide)))).trans e_496
              have e_521 := (f_519 firstToken_ (Ne.symm (nd_ne ND (i := 0) (j := 2) rfl rfl (by decide)))).trans e_364
              have e_522 := (f_519 starred_ (Ne.symm (nd_ne ND (i := 0) (j := 3) rfl rfl (by decide)))).trans e_365
              have e_523 := (f_519 tokenAt_ (Ne.symm (nd_ne ND (i := 0) (j := 4) rfl rfl (by decide)))).trans e_366
              have e_524 := (f_519 tokenSize_ (Ne.symm (nd_ne ND (i := 0) (j := 5) rfl rfl (by decide)))).trans e_367
              have e_525 := (f_519 groupKind_ (Ne.symm (nd_ne ND (i := 0) (j := 6) rfl rfl (by decide)))).trans e_368
              have e_526 := (f_519 groupPhrase_ (Ne.symm (nd_ne ND (i := 0) (j := 7) rfl rfl (by decide)))).trans e_369
              have e_527 := (f_519 groupSize_ (Ne.symm (nd_ne ND (i := 0) (j := 8) rfl rfl (by decide)))).trans e_370
              have e_528 := (f_519 groupMask_ (Ne.symm (nd_ne ND (i := 0) (j := 9) rfl rfl (by decide)))).trans e_371
              have e_529 := (f_519 groupFar_ (Ne.symm (nd_ne ND (i := 0) (j := 10) rfl rfl (by decide)))).trans e_372
              have e_530 := (f_519 out_ (Ne.symm (nd_ne ND (i := 0) (j := 11) rfl rfl (by decide)))).trans e_373
              have e_531 := (f_519 top_ (Ne.symm (nd_ne ND (i := 0) (j := 12) rfl rfl (by decide)))).trans e_497
              have e_532 := (f_519 masks_ (Ne.symm (nd_ne ND (i := 0) (j := 13) rfl rfl (by decide)))).trans e_498
              have r_533 := r_499.up (by simp) f_519
              obtain ⟨fs_534, z_535⟩ : ∃ z, z = fs_359.set 61 (.int 1) := ⟨_, rfl⟩
              rw [← z_535] at e_518
              have l_536 : fs_534.length = 62 := by rw [z_535]; simp only [List.length_set]; exact l_360
              have g_537 : fs_534[(4 : Nat)]? = some (.ref asked_) := by rw [z_535]; exact (xw_gn (by decide) g_501)
              have g_538 : fs_534[(11 : Nat)]? = some (.int (nI asz)) := by rw [z_535]; exact (xw_gn (by decide) g_514)
              have g_539 : fs_534[(28 : Nat)]? = some (.int (nI (bl fa asz p_380))) := by rw [z_535]; exact (xw_gn (by decide) g_390)
              have g_540 : fs_534[(29 : Nat)]? = some (.int (nI (rkd (kdP fa asz p_380)))) := by rw [z_535]; exact (xw_gn (by decide) g_391)
              have g_541 : fs_534[(30 : Nat)]? = some (.int (nI (bl fa asz p_380))) := by rw [z_535]; exact (xw_gn (by decide) g_392)
              have g_542 : fs_534[(31 : Nat)]? = some (.int (nI y_384)) := by rw [z_535]; exact (xw_gn (by decide) g_393)
              have g_543 : fs_534[(33 : Nat)]? = some (.int bd_348) := by rw [z_535]; exact (xw_gn (by decide) g_362)
              have g_544 : fs_534[(34 : Nat)]? = some (.int (nI ph_381.length)) := by rw [z_535]; exact (xw_gn (by decide) g_394)
              have g_545 : fs_534[(35 : Nat)]? = some (.int (nI t_385)) := by rw [z_535]; exact (xw_gn (by decide) g_395)
              have g_546 : fs_534[(36 : Nat)]? = some (.int (nI gr_382.length)) := by rw [z_535]; exact (xw_gn (by decide) g_397)
              have g_547 : fs_534[(37 : Nat)]? = some (.int (nI (o ++ [(0, gi_383)]).length)) := by rw [z_535]; exact (xw_gn (by decide) g_400)
              have g_548 : fs_534[(38 : Nat)]? = some (.int (nI (cfS st mk).1.length)) := by rw [z_535]; exact (xw_gn (by decide) g_402)
              have g_549 : fs_534[(39 : Nat)]? = some (.int (nI (cfS st mk).2)) := by rw [z_535]; exact (xw_gn (by decide) g_403)
              have g_550 : fs_534[(41 : Nat)]? = some (.ref firstToken_) := by rw [z_535]; exact (xw_gn (by decide) g_502)
              have g_551 : fs_534[(42 : Nat)]? = some (.ref starred_) := by rw [z_535]; exact (xw_gn (by decide) g_503)
              have g_552 : fs_534[(43 : Nat)]? = some (.ref tokenAt_) := by rw [z_535]; exact (xw_gn (by decide) g_504)
              have g_553 : fs_534[(44 : Nat)]? = some (.ref tokenSize_) := by rw [z_535]; exact (xw_gn (by decide) g_505)
              have g_554 : fs_534[(45 : Nat)]? = some (.ref groupKind_) := by rw [z_535]; exact (xw_gn (by decide) g_506)
              have g_555 : fs_534[(46 : Nat)]? = some (.ref groupPhrase_) := by rw [z_535]; exact (xw_gn (by decide) g_507)
              have g_556 : fs_534[(47 : Nat)]? = some (.ref groupSize_) := by rw [z_535]; exact (xw_gn (by decide) g_508)
              have g_557 : fs_534[(48 : Nat)]? = some (.ref groupMask_) := by rw [z_535]; exact (xw_gn (by decide) g_509)
              have g_558 : fs_534[(49 : Nat)]? = some (.ref groupFar_) := by rw [z_535]; exact (xw_gn (by decide) g_510)
              have g_559 : fs_534[(50 : Nat)]? = some (.ref out_) := by rw [z_535]; exact (xw_gn (by decide) g_511)
              have g_560 : fs_534[(51 : Nat)]? = some (.ref top_) := by rw [z_535]; exact (xw_gn (by decide) g_512)
              have g_561 : fs_534[(52 : Nat)]? = some (.ref masks_) := by rw [z_535]; exact (xw_gn (by decide) g_513)
              have g_562 : fs_534[(61 : Nat)]? = some (.int 1) := by rw [z_535]; exact (xw_gs (by simp [l_360]))
              have ga_563 : ∀ i : Nat, i ∉ [28, 29, 30, 31, 33, 34, 35, 36, 37, 38, 39, 61] → fs_534[i]? = fs[i]? := fun i hi => by rw [z_535]; exact xw_gn (fun z => hi (by rw [z]; simp)) (ga_515 i hi)
              clear z_535
              refine s_Model_atom_111 ?_
              have hk_564 : ¬ kdP fa asz p = 9 := fun q => z_1 (by rw [q]; rfl)
              have hk_565 : ¬ kdP fa asz p = 11 := fun q => z_4 (by rw [q]; rfl)
              have hs_566 := (hc_119.resolve_right (fun q => absurd (q.1.symm.trans z_123) (by decide))).2
              have hdp : dpr (kdS fa asz (p, ph, gr)) = false := bF (fun q => by have q2 : kdP fa asz p = 9 ∨ kdP fa asz p = 11 ∨ kdP fa asz p = 3 := (by simpa [dpr, kdS, or_assoc] using q); rcases q2 with q2 | q2 | q2; (exact hk_564 q2); (exact hk_565 q2); (exact hs_566 q2))
              have ck := cf_kp st mk
              have hgl := gp_len hx_386
              have hp9 := gp_12 hx_386 hp12
              exact ⟨rfl, Or.inr ⟨_, sp_gy hk_564 hdp hx_386, ⟨_, _, _, _, _, _, _, _, _, _, _, _, _, _, _, _, PT_388, HY_389, RQ_396, GR_398, OU_401, (OG.add (show gr.length ≤ gr_382.length by omega) (show gi_383 < gr_382.length by have := gp_gi hx_386; omega)), ST_404, hb_387, hp9, hgp_399, hm_405, (Nat.le_trans ck.2 hd8), (by show (o ++ [(0, gi_383)]).length + cJ (cfS st mk).1 + 1 = 2 * gr_382.length; rw [List.length_append, ck.1]; simp only [List.length_cons, List.length_nil, Bool.false_eq_true, if_false] at hgl hcn ⊢; omega), l_536, e_518, g_539, g_540, g_541, g_542, g_543, g_544, g_545, g_546, g_547, g_548, g_549, g_562, fun i hi => (ga_563 i hi).trans (gq i hi), e_521, e_522, e_523, e_524, e_525, e_526, e_527, e_528, e_529, e_530, e_531, e_532, rq.trans r_533⟩⟩⟩
          · skip
            refine s_Model_atom_83 ?_
            refine x_callV (As := []) (b := m) (rest := []) (F1 := 3) (L1 := 61) (mc := 0) (ms := 0) d_Model_atom_84 cV_Model_244 (f_isStringH (pp := p) l e gz_29 gz_31 g_askedSize g_asked e_asked (by have := PT.2.1; omega) hasz HY (by omega) (by omega)) e ⟨by decide, rfl⟩ ⟨by omega, by show 8 + (1 + 11) + 61 ≤ _; omega⟩ ⟨by omega, by omega⟩ (Nat.le_of_ble_eq_true rfl) (fun v_570 h_569 p_571 => ?_)
            obtain ⟨⟨c_567, rfl, hc_568⟩, rfl⟩ := p_571
            refine s_Model_atom_87 (fun z_572 => ?_) (fun z_573 => ?_)
            · skip
              refine s_Model_atom_102 l e gz_30 ?_
              refine x_callV (As := [.int 1, .int (nI (bl fa asz p))]) (b := m) (rest := []) (F1 := 1) (L1 := 20) (mc := 0) (ms := 0) d_Model_atom_108 cV_Model_250 (f_wrongsH (k := bl fa asz p) l e gz_33 (by omega) (by omega) (by omega)) e ⟨by decide, rfl⟩ ⟨by omega, by show 8 + (3 + 11) + 20 ≤ _; omega⟩ ⟨by omega, by omega⟩ (Nat.le_of_ble_eq_true rfl) (fun v_585 h_584 p_586 => ?_)
              obtain ⟨rfl, bd_574, fs_575, hw_576, hw_577, hw_578, l_579, e_580, g_581, ga_582, r_583⟩ := p_586
              have e_587 := r_583 asked_ _ (by simp only [List.mem_cons, List.not_mem_nil, or_false, not_or]; exact (Ne.symm (nd_ne ND (i := 0) (j := 1) rfl rfl (by decide)))) e_asked
              have e_588 := r_583 firstToken_ _ (by simp only [List.mem_cons, List.not_mem_nil, or_false, not_or]; exact (Ne.symm (nd_ne ND (i := 0) (j := 2) rfl rfl (by decide)))) e_firstToken
              have e_589 := r_583 starred_ _ (by simp only [List.mem_cons, List.not_mem_nil, or_false, not_or]; exact (Ne.symm (nd_ne ND (i := 0) (j := 3) rfl rfl (by decide)))) e_starred
              have e_590 := r_583 tokenAt_ _ (by simp only [List.mem_cons, List.not_mem_nil, or_false, not_or]; exact (Ne.symm (nd_ne ND (i := 0) (j := 4) rfl rfl (by decide)))) e_tokenAt
              have e_591 := r_583 tokenSize_ _ (by simp only [List.mem_cons, List.not_mem_nil, or_false, not_or]; exact (Ne.symm (nd_ne ND (i := 0) (j := 5) rfl rfl (by decide)))) e_tokenSize
              have e_592 := r_583 groupKind_ _ (by simp only [List.mem_cons, List.not_mem_nil, or_false, not_or]; exact (Ne.symm (nd_ne ND (i := 0) (j := 6) rfl rfl (by decide)))) e_groupKind
              have e_593 := r_583 groupPhrase_ _ (by simp only [List.mem_cons, List.not_mem_nil, or_false, not_or]; exact (Ne.symm (nd_ne ND (i := 0) (j := 7) rfl rfl (by decide)))) e_groupPhrase
              have e_594 := r_583 groupSize_ _ (by simp only [List.mem_cons, List.not_mem_nil, or_false, not_or]; exact (Ne.symm (nd_ne ND (i := 0) (j := 8) rfl rfl (by decide)))) e_groupSize
              have e_595 := r_583 groupMask_ _ (by simp only [List.mem_cons, List.not_mem_nil, or_false, not_or]; exact (Ne.symm (nd_ne ND (i := 0) (j := 9) rfl rfl (by decide)))) e_groupMask
              have e_596 := r_583 groupFar_ _ (by simp only [List.mem_cons, List.not_mem_nil, or_false, not_or]; exact (Ne.symm (nd_ne ND (i := 0) (j := 10) rfl rfl (by decide)))) e_groupFar
              have e_597 := r_583 out_ _ (by simp only [List.mem_cons, List.not_mem_nil, or_false, not_or]; exact (Ne.symm (nd_ne ND (i := 0) (j := 11) rfl rfl (by decide)))) e_out
              have e_598 := r_583 top_ _ (by simp only [List.mem_cons, List.not_mem_nil, or_false, not_or]; exact (Ne.symm (nd_ne ND (i := 0) (j := 12) rfl rfl (by decide)))) e_top
              have e_599 := r_583 masks_ _ (by simp only [List.mem_cons, List.not_mem_nil, or_false, not_or]; exact (Ne.symm (nd_ne ND (i := 0) (j := 13) rfl rfl (by decide)))) e_masks
              have r_600 := r0.trans (r_583.mono (by simp))
              have g_601 : fs_575[(28 : Nat)]? = some (.int (nI (bl fa asz p))) := (ga_582 28 (by decide)).trans gz_28
              have g_602 : fs_575[(29 : Nat)]? = some (.int (nI (rkd (kdP fa asz p)))) := (ga_582 29 (by decide)).trans gz_29
              have g_603 : fs_575[(30 : Nat)]? = some (.int (nI (bl fa asz p))) := (ga_582 30 (by decide)).trans gz_30
              have g_604 : fs_575[(31 : Nat)]? = some (.int (nI y)) := (ga_582 31 (by decide)).trans gz_31
              have g_605 : fs_575[(34 : Nat)]? = some (.int (nI ph.length)) := (ga_582 34 (by decide)).trans gz_34
              have g_606 : fs_575[(35 : Nat)]? = some (.int (nI t)) := (ga_582 35 (by decide)).trans gz_35
              have g_607 : fs_575[(36 : Nat)]? = some (.int (nI gr.length)) := (ga_582 36 (by decide)).trans gz_36
              have g_608 : fs_575[(37 : Nat)]? = some (.int (nI o.length)) := (ga_582 37 (by decide)).trans gz_37
              have g_609 : fs_575[(38 : Nat)]? = some (.int (nI st.length)) := (ga_582 38 (by decide)).trans gz_38
              have g_610 : fs_575[(39 : Nat)]? = some (.int (nI mk)) := (ga_582 39 (by decide)).trans gz_39
              have g_611 : fs_575[(61 : Nat)]? = some (.int (b01 false)) := (ga_582 61 (by decide)).trans gz_61
              have g_612 : fs_575[(4 : Nat)]? = some (.ref asked_) := (ga_582 4 (by decide)).trans g_asked
              have g_613 : fs_575[(41 : Nat)]? = some (.ref firstToken_) := (ga_582 41 (by decide)).trans g_firstToken
              have g_614 : fs_575[(42 : Nat)]? = some (.ref starred_) := (ga_582 42 (by decide)).trans g_starred
              have g_615 : fs_575[(43 : Nat)]? = some (.ref tokenAt_) := (ga_582 43 (by decide)).trans g_tokenAt
              have g_616 : fs_575[(44 : Nat)]? = some (.ref tokenSize_) := (ga_582 44 (by decide)).trans g_tokenSize
              have g_617 : fs_575[(45 : Nat)]? = some (.ref groupKind_) := (ga_582 45 (by decide)).trans g_groupKind
              have g_618 : fs_575[(46 : Nat)]? = some (.ref groupPhrase_) := (ga_582 46 (by decide)).trans g_groupPhrase
              have g_619 : fs_575[(47 : Nat)]? = some (.ref groupSize_) := (ga_582 47 (by decide)).trans g_groupSize
              have g_620 : fs_575[(48 : Nat)]? = some (.ref groupMask_) := (ga_582 48 (by decide)).trans g_groupMask
              have g_621 : fs_575[(49 : Nat)]? = some (.ref groupFar_) := (ga_582 49 (by decide)).trans g_groupFar
              have g_622 : fs_575[(50 : Nat)]? = some (.ref out_) := (ga_582 50 (by decide)).trans g_out
              have g_623 : fs_575[(51 : Nat)]? = some (.ref top_) := (ga_582 51 (by decide)).trans g_top
              have g_624 : fs_575[(52 : Nat)]? = some (.ref masks_) := (ga_582 52 (by decide)).trans g_masks
              have g_625 : fs_575[(11 : Nat)]? = some (.int (nI asz)) := (ga_582 11 (by decide)).trans g_askedSize
              have ga_626 : ∀ i : Nat, i ∉ [28, 29, 30, 31, 33, 34, 35, 36, 37, 38, 39, 61] → fs_575[i]? = fs[i]? := fun i hi => (ga_582 i (fun z => hi (by simp only [List.mem_cons, List.not_mem_nil, or_false] at z ⊢; omega))).trans (ga0 i hi)
              have hb_627 : ¬ bd_574 < 0 := hw_577 (by decide)
              have hb_628 : 0 ≤ bd_574 := Int32.not_lt.mp hb_627
              refine x_le (xw_le_n xw_le_e) ?_
              refine s_Model_atom_111 ?_
              have hk_629 : ¬ kdP fa asz p = 9 := fun q => z_1 (by rw [q]; rfl)
              have hk_630 : ¬ kdP fa asz p = 11 := fun q => z_4 (by rw [q]; rfl)
              have hs_631 := (hc_119.resolve_right (fun q => absurd (q.1.symm.trans z_123) (by decide))).2
              have hk_632 : ¬ kdP fa asz p = 12 := fun q => z_126 (by rw [q]; rfl)
              have hk_633 : ¬ kdP fa asz p = 8 := fun q => z_347 (by rw [q]; rfl)
              have hs_634 := (hc_568.resolve_right (fun q => absurd (q.1.symm.trans z_572) (by decide))).2
              have hdp : dpr (kdS fa asz (p, ph, gr)) = false := bF (fun q => by have q2 : kdP fa asz p = 9 ∨ kdP fa asz p = 11 ∨ kdP fa asz p = 3 := (by simpa [dpr, kdS, or_assoc] using q); rcases q2 with q2 | q2 | q2; (exact hk_629 q2); (exact hk_630 q2); (exact hs_631 q2))
              exact ⟨rfl, Or.inl ⟨sp_gn hk_629 hdp (gp_0n hk_633 hk_632 (rdPh_s (bF hs_634))), ⟨o.length, st.length, _, _, _, _, _, _, _, _, _, _, _, _, _, _, hb_627, (by omega), l_579, e_580, g_581, g_608, g_609, (fun i9 hi9 => by simp only [List.mem_cons, List.not_mem_nil, or_false] at hi9; rcases hi9 with rfl | rfl | rfl | rfl | rfl | rfl | rfl | rfl | rfl <;> first | exact ⟨_, g_601⟩ | exact ⟨_, g_602⟩ | exact ⟨_, g_603⟩ | exact ⟨_, g_604⟩ | exact ⟨_, g_605⟩ | exact ⟨_, g_606⟩ | exact ⟨_, g_607⟩ | exact ⟨_, g_610⟩ | exact ⟨_, g_611⟩), fun i hi => (ga_626 i hi).trans (gq i hi), e_588, e_589, e_590, e_591, e_592, e_593, e_594, e_595, e_596, e_597, e_598, e_599, rq.trans r_600⟩⟩⟩
            · skip
              refine s_Model_atom_90 ?_
              refine x_callV (As := []) (b := m) (rest := []) (F1 := 7) (L1 := 150) (mc := 0) (ms := 0) d_Model_atom_91 cV_Model_294 (f_groupH l e gz_28 gz_29 gz_30 gz_31 gz_33 gz_34 gz_35 gz_36 gz_37 gz_38 gz_39 g_askedSize g_asked e_asked g_firstToken e_firstToken g_starred e_starred g_tokenAt e_tokenAt g_tokenSize e_tokenSize g_groupKind e_groupKind g_groupPhrase e_groupPhrase g_groupSize e_groupSize g_groupMask e_groupMask g_groupFar e_groupFar g_out e_out g_top e_top g_masks e_masks ND hasz h128 PT HY RQ GR OU ST hbd hp12 hgp (by omega) hmk (by omega) (by omega)) e ⟨by decide, rfl⟩ ⟨by omega, by show 8 + (1 + 11) + 150 ≤ _; omega⟩ ⟨by omega, by omega⟩ (Nat.le_of_ble_eq_true rfl) (fun v_694 h_693 p_695 => ?_)
              rcases p_695 with ⟨rfl, bd_635, c1_636, c2_637, ca_638, cs_639, c5_640, c6_641, c7_642, c8_643, c9_644, co_645, fs_646, l_647, e_648, g_649, ga_650, e_651, e_652, e_653, e_654, e_655, e_656, e_657, e_658, e_659, e_660, r_661, ⟨hx_662, nb_663, IN_664, g_665, g_666⟩ | ⟨p_667, ph_668, gr_669, gi_670, y_671, t_672, hx_673, hb_674, PT_675, HY_676, g_677, g_678, g_679, g_680, g_681, g_682, RQ_683, g_684, GR_685, hgp_686, g_687, OU_688, g_689, g_690, ST_691, hm_692⟩⟩
              · skip
                have e_696 := r_661 asked_ _ (by simp only [List.mem_cons, List.not_mem_nil, or_false, not_or]; exact ⟨(Ne.symm (nd_ne ND (i := 0) (j := 1) rfl rfl (by decide))), (nd_ne ND (i := 1) (j := 2) rfl rfl (by decide)), (nd_ne ND (i := 1) (j := 3) rfl rfl (by decide)), (nd_ne ND (i := 1) (j := 4) rfl rfl (by decide)), (nd_ne ND (i := 1) (j := 5) rfl rfl (by decide)), (nd_ne ND (i := 1) (j := 6) rfl rfl (by decide)), (nd_ne ND (i := 1) (j := 7) rfl rfl (by decide)), (nd_ne ND (i := 1) (j := 8) rfl rfl (by decide)), (nd_ne ND (i := 1) (j := 9) rfl rfl (by decide)), (nd_ne ND (i := 1) (j := 10) rfl rfl (by decide)), (nd_ne ND (i := 1) (j := 11) rfl rfl (by decide))⟩) e_asked
                have e_697 := r_661 top_ _ (by simp only [List.mem_cons, List.not_mem_nil, or_false, not_or]; exact ⟨(Ne.symm (nd_ne ND (i := 0) (j := 12) rfl rfl (by decide))), (Ne.symm (nd_ne ND (i := 2) (j := 12) rfl rfl (by decide))), (Ne.symm (nd_ne ND (i := 3) (j := 12) rfl rfl (by decide))), (Ne.symm (nd_ne ND (i := 4) (j := 12) rfl rfl (by decide))), (Ne.symm (nd_ne ND (i := 5) (j := 12) rfl rfl (by decide))), (Ne.symm (nd_ne ND (i := 6) (j := 12) rfl rfl (by decide))), (Ne.symm (nd_ne ND (i := 7) (j := 12) rfl rfl (by decide))), (Ne.symm (nd_ne ND (i := 8) (j := 12) rfl rfl (by decide))), (Ne.symm (nd_ne ND (i := 9) (j := 12) rfl rfl (by decide))), (Ne.symm (nd_ne ND (i := 10) (j := 12) rfl rfl (by decide))), (Ne.symm (nd_ne ND (i := 11) (j := 12) rfl rfl (by decide)))⟩) e_top
                have e_698 := r_661 masks_ _ (by simp only [List.mem_cons, List.not_mem_nil, or_false, not_or]; exact ⟨(Ne.symm (nd_ne ND (i := 0) (j := 13) rfl rfl (by decide))), (Ne.symm (nd_ne ND (i := 2) (j := 13) rfl rfl (by decide))), (Ne.symm (nd_ne ND (i := 3) (j := 13) rfl rfl (by decide))), (Ne.symm (nd_ne ND (i := 4) (j := 13) rfl rfl (by decide))), (Ne.symm (nd_ne ND (i := 5) (j := 13) rfl rfl (by decide))), (Ne.symm (nd_ne ND (i := 6) (j := 13) rfl rfl (by decide))), (Ne.symm (nd_ne ND (i := 7) (j := 13) rfl rfl (by decide))), (Ne.symm (nd_ne ND (i := 8) (j := 13) rfl rfl (by decide))), (Ne.symm (nd_ne ND (i := 9) (j := 13) rfl rfl (by decide))), (Ne.symm (nd_ne ND (i := 10) (j := 13) rfl rfl (by decide))), (Ne.symm (nd_ne ND (i := 11) (j := 13) rfl rfl (by decide)))⟩) e_masks
                have r_699 := r0.trans (r_661.mono (by simp))
                obtain ⟨v_700, g_701⟩ := IN_664 28 (by decide)
                obtain ⟨v_702, g_703⟩ := IN_664 29 (by decide)
                obtain ⟨v_704, g_705⟩ := IN_664 30 (by decide)
                obtain ⟨v_706, g_707⟩ := IN_664 31 (by decide)
                obtain ⟨v_708, g_709⟩ := IN_664 34 (by decide)
                obtain ⟨v_710, g_711⟩ := IN_664 35 (by decide)
                obtain ⟨v_712, g_713⟩ := IN_664 36 (by decide)
                obtain ⟨v_714, g_715⟩ := IN_664 39 (by decide)
                have g_716 : fs_646[(61 : Nat)]? = some (.int (b01 false)) := (ga_650 61 (by decide)).trans gz_61
                have g_717 : fs_646[(4 : Nat)]? = some (.ref asked_) := (ga_650 4 (by decide)).trans g_asked
                have g_718 : fs_646[(41 : Nat)]? = some (.ref firstToken_) := (ga_650 41 (by decide)).trans g_firstToken
                have g_719 : fs_646[(42 : Nat)]? = some (.ref starred_) := (ga_650 42 (by decide)).trans g_starred
                have g_720 : fs_646[(43 : Nat)]? = some (.ref tokenAt_) := (ga_650 43 (by decide)).trans g_tokenAt
                have g_721 : fs_646[(44 : Nat)]? = some (.ref tokenSize_) := (ga_650 44 (by decide)).trans g_tokenSize
                have g_722 : fs_646[(45 : Nat)]? = some (.ref groupKind_) := (ga_650 45 (by decide)).trans g_groupKind
                have g_723 : fs_646[(46 : Nat)]? = some (.ref groupPhrase_) := (ga_650 46 (by decide)).trans g_groupPhrase
                have g_724 : fs_646[(47 : Nat)]? = some (.ref groupSize_) := (ga_650 47 (by decide)).trans g_groupSize
                have g_725 : fs_646[(48 : Nat)]? = some (.ref groupMask_) := (ga_650 48 (by decide)).trans g_groupMask
                have g_726 : fs_646[(49 : Nat)]? = some (.ref groupFar_) := (ga_650 49 (by decide)).trans g_groupFar
                have g_727 : fs_646[(50 : Nat)]? = some (.ref out_) := (ga_650 50 (by decide)).trans g_out
                have g_728 : fs_646[(51 : Nat)]? = some (.ref top_) := (ga_650 51 (by decide)).trans g_top
                have g_729 : fs_646[(52 : Nat)]? = some (.ref masks_) := (ga_650 52 (by decide)).trans g_masks
                have g_730 : fs_646[(11 : Nat)]? = some (.int (nI asz)) := (ga_650 11 (by decide)).trans g_askedSize
                have ga_731 : ∀ i : Nat, i ∉ [28, 29, 30, 31, 33, 34, 35, 36, 37, 38, 39, 61] → fs_646[i]? = fs[i]? := fun i hi => (ga_650 i (fun z => hi (by simp only [List.mem_cons, List.not_mem_nil, or_false] at z ⊢; omega))).trans (ga0 i hi)
                have hb_732 : 0 ≤ bd_635 := Int32.not_lt.mp nb_663
                refine s_Model_atom_94 l_647 e_648 ?_
                refine x_u1 (fun h_733 e_734 f_735 => ?_)
                have e_736 := (f_735 asked_ (Ne.symm (nd_ne ND (i := 0) (j := 1) rfl rfl (by decide)))).trans e_696
                have e_737 := (f_735 firstToken_ (Ne.symm (nd_ne ND (i := 0) (j := 2) rfl rfl (by decide)))).trans e_651
                have e_738 := (f_735 starred_ (Ne.symm (nd_ne ND (i := 0) (j := 3) rfl rfl (by decide)))).trans e_652
                have e_739 := (f_735 tokenAt_ (Ne.symm (nd_ne ND (i := 0) (j := 4) rfl rfl (by decide)))).trans e_653
                have e_740 := (f_735 tokenSize_ (Ne.symm (nd_ne ND (i := 0) (j := 5) rfl rfl (by decide)))).trans e_654
                have e_741 := (f_735 groupKind_ (Ne.symm (nd_ne ND (i := 0) (j := 6) rfl rfl (by decide)))).trans e_655
                have e_742 := (f_735 groupPhrase_ (Ne.symm (nd_ne ND (i := 0) (j := 7) rfl rfl (by decide)))).trans e_656
                have e_743 := (f_735 groupSize_ (Ne.symm (nd_ne ND (i := 0) (j := 8) rfl rfl (by decide)))).trans e_657
                have e_744 := (f_735 groupMask_ (Ne.symm (nd_ne ND (i := 0) (j := 9) rfl rfl (by decide)))).trans e_658
                have e_745 := (f_735 groupFar_ (Ne.symm (nd_ne ND (i := 0) (j := 10) rfl rfl (by decide)))).trans e_659
                have e_746 := (f_735 out_ (Ne.symm (nd_ne ND (i := 0) (j := 11) rfl rfl (by decide)))).trans e_660
                have e_747 := (f_735 top_ (Ne.symm (nd_ne ND (i := 0) (j := 12) rfl rfl (by decide)))).trans e_697
                have e_748 := (f_735 masks_ (Ne.symm (nd_ne ND (i := 0) (j := 13) rfl rfl (by decide)))).trans e_698
                have r_749 := r_699.up (by simp) f_735
                obtain ⟨fs_750, z_751⟩ : ∃ z, z = fs_646.set 61 (.int 1) := ⟨_, rfl⟩
                rw [← z_751] at e_734
                have l_752 : fs_750.length = 62 := by rw [z_751]; simp only [List.length_set]; exact l_647
                have g_753 : fs_750[(4 : Nat)]? = some (.ref asked_) := by rw [z_751]; exact (xw_gn (by decide) g_717)
                have g_754 : fs_750[(11 : Nat)]? = some (.int (nI asz)) := by rw [z_751]; exact (xw_gn (by decide) g_730)
                have g_755 : fs_750[(28 : Nat)]? = some (.int v_700) := by rw [z_751]; exact (xw_gn (by decide) g_701)
                have g_756 : fs_750[(29 : Nat)]? = some (.int v_702) := by rw [z_751]; exact (xw_gn (by decide) g_703)
                have g_757 : fs_750[(30 : Nat)]? = some (.int v_704) := by rw [z_751]; exact (xw_gn (by decide) g_705)
                have g_758 : fs_750[(31 : Nat)]? = some (.int v_706) := by rw [z_751]; exact (xw_gn (by decide) g_707)
                have g_759 : fs_750[(33 : Nat)]? = some (.int bd_635) := by rw [z_751]; exact (xw_gn (by decide) g_649)
                have g_760 : fs_750[(34 : Nat)]? = some (.int v_708) := by rw [z_751]; exact (xw_gn (by decide) g_709)
                have g_761 : fs_750[(35 : Nat)]? = some (.int v_710) := by rw [z_751]; exact (xw_gn (by decide) g_711)
                have g_762 : fs_750[(36 : Nat)]? = some (.int v_712) := by rw [z_751]; exact (xw_gn (by decide) g_713)
                have g_763 : fs_750[(37 : Nat)]? = some (.int (nI o.length)) := by rw [z_751]; exact (xw_gn (by decide) g_665)
                have g_764 : fs_750[(38 : Nat)]? = some (.int (nI st.length)) := by rw [z_751]; exact (xw_gn (by decide) g_666)
                have g_765 : fs_750[(39 : Nat)]? = some (.int v_714) := by rw [z_751]; exact (xw_gn (by decide) g_715)
                have g_766 : fs_750[(41 : Nat)]? = some (.ref firstToken_) := by rw [z_751]; exact (xw_gn (by decide) g_718)
                have g_767 : fs_750[(42 : Nat)]? = some (.ref starred_) := by rw [z_751]; exact (xw_gn (by decide) g_719)
                have g_768 : fs_750[(43 : Nat)]? = some (.ref tokenAt_) := by rw [z_751]; exact (xw_gn (by decide) g_720)
                have g_769 : fs_750[(44 : Nat)]? = some (.ref tokenSize_) := by rw [z_751]; exact (xw_gn (by decide) g_721)
                have g_770 : fs_750[(45 : Nat)]? = some (.ref groupKind_) := by rw [z_751]; exact (xw_gn (by decide) g_722)
                have g_771 : fs_750[(46 : Nat)]? = some (.ref groupPhrase_) := by rw [z_751]; exact (xw_gn (by decide) g_723)
                have g_772 : fs_750[(47 : Nat)]? = some (.ref groupSize_) := by rw [z_751]; exact (xw_gn (by decide) g_724)
                have g_773 : fs_750[(48 : Nat)]? = some (.ref groupMask_) := by rw [z_751]; exact (xw_gn (by decide) g_725)
                have g_774 : fs_750[(49 : Nat)]? = some (.ref groupFar_) := by rw [z_751]; exact (xw_gn (by decide) g_726)
                have g_775 : fs_750[(50 : Nat)]? = some (.ref out_) := by rw [z_751]; exact (xw_gn (by decide) g_727)
                have g_776 : fs_750[(51 : Nat)]? = some (.ref top_) := by rw [z_751]; exact (xw_gn (by decide) g_728)
                have g_777 : fs_750[(52 : Nat)]? = some (.ref masks_) := by rw [z_751]; exact (xw_gn (by decide) g_729)
                have g_778 : fs_750[(61 : Nat)]? = some (.int 1) := by rw [z_751]; exact (xw_gs (by simp [l_647]))
                have ga_779 : ∀ i : Nat, i ∉ [28, 29, 30, 31, 33, 34, 35, 36, 37, 38, 39, 61] → fs_750[i]? = fs[i]? := fun i hi => by rw [z_751]; exact xw_gn (fun z => hi (by rw [z]; simp)) (ga_731 i hi)
                clear z_751
                refine s_Model_atom_111 ?_
                have hk_780 : ¬ kdP fa asz p = 9 := fun q => z_1 (by rw [q]; rfl)
                have hk_781 : ¬ kdP fa asz p = 11 := fun q => z_4 (by rw [q]; rfl)
                have hs_782 := (hc_119.resolve_right (fun q => absurd (q.1.symm.trans z_123) (by decide))).2
                have hdp : dpr (kdS fa asz (p, ph, gr)) = false := bF (fun q => by have q2 : kdP fa asz p = 9 ∨ kdP fa asz p = 11 ∨ kdP fa asz p = 3 := (by simpa [dpr, kdS, or_assoc] using q); rcases q2 with q2 | q2 | q2; (exact hk_780 q2); (exact hk_781 q2); (exact hs_782 q2))
                exact ⟨rfl, Or.inl ⟨sp_gn hk_780 hdp hx_662, ⟨o.length, st.length, _, _, _, _, _, _, _, _, _, _, _, _, _, _, nb_663, (by omega), l_752, e_734, g_759, g_763, g_764, (fun i9 hi9 => by simp only [List.mem_cons, List.not_mem_nil, or_false] at hi9; rcases hi9 with rfl | rfl | rfl | rfl | rfl | rfl | rfl | rfl | rfl <;> first | exact ⟨_, g_755⟩ | exact ⟨_, g_756⟩ | exact ⟨_, g_757⟩ | exact ⟨_, g_758⟩ | exact ⟨_, g_760⟩ | exact ⟨_, g_761⟩ | exact ⟨_, g_762⟩ | exact ⟨_, g_765⟩ | exact ⟨_, g_778⟩), fun i hi => (ga_779 i hi).trans (gq i hi), e_737, e_738, e_739, e_740, e_741, e_742, e_743, e_744, e_745, e_746, e_747, e_748, rq.trans r_749⟩⟩⟩
              · skip
                have e_783 := r_661 asked_ _ (by simp only [List.mem_cons, List.not_mem_nil, or_false, not_or]; exact ⟨(Ne.symm (nd_ne ND (i := 0) (j := 1) rfl rfl (by decide))), (nd_ne ND (i := 1) (j := 2) rfl rfl (by decide)), (nd_ne ND (i := 1) (j := 3) rfl rfl (by decide)), (nd_ne ND (i := 1) (j := 4) rfl rfl (by decide)), (nd_ne ND (i := 1) (j := 5) rfl rfl (by decide)), (nd_ne ND (i := 1) (j := 6) rfl rfl (by decide)), (nd_ne ND (i := 1) (j := 7) rfl rfl (by decide)), (nd_ne ND (i := 1) (j := 8) rfl rfl (by decide)), (nd_ne ND (i := 1) (j := 9) rfl rfl (by decide)), (nd_ne ND (i := 1) (j := 10) rfl rfl (by decide)), (nd_ne ND (i := 1) (j := 11) rfl rfl (by decide))⟩) e_asked
                have e_784 := r_661 top_ _ (by simp only [List.mem_cons, List.not_mem_nil, or_false, not_or]; exact ⟨(Ne.symm (nd_ne ND (i := 0) (j := 12) rfl rfl (by decide))), (Ne.symm (nd_ne ND (i := 2) (j := 12) rfl rfl (by decide))), (Ne.symm (nd_ne ND (i := 3) (j := 12) rfl rfl (by decide))), (Ne.symm (nd_ne ND (i := 4) (j := 12) rfl rfl (by decide))), (Ne.symm (nd_ne ND (i := 5) (j := 12) rfl rfl (by decide))), (Ne.symm (nd_ne ND (i := 6) (j := 12) rfl rfl (by decide))), (Ne.symm (nd_ne ND (i := 7) (j := 12) rfl rfl (by decide))), (Ne.symm (nd_ne ND (i := 8) (j := 12) rfl rfl (by decide))), (Ne.symm (nd_ne ND (i := 9) (j := 12) rfl rfl (by decide))), (Ne.symm (nd_ne ND (i := 10) (j := 12) rfl rfl (by decide))), (Ne.symm (nd_ne ND (i := 11) (j := 12) rfl rfl (by decide)))⟩) e_top
                have e_785 := r_661 masks_ _ (by simp only [List.mem_cons, List.not_mem_nil, or_false, not_or]; exact ⟨(Ne.symm (nd_ne ND (i := 0) (j := 13) rfl rfl (by decide))), (Ne.symm (nd_ne ND (i := 2) (j := 13) rfl rfl (by decide))), (Ne.symm (nd_ne ND (i := 3) (j := 13) rfl rfl (by decide))), (Ne.symm (nd_ne ND (i := 4) (j := 13) rfl rfl (by decide))), (Ne.symm (nd_ne ND (i := 5) (j := 13) rfl rfl (by decide))), (Ne.symm (nd_ne ND (i := 6) (j := 13) rfl rfl (by decide))), (Ne.symm (nd_ne ND (i := 7) (j := 13) rfl rfl (by decide))), (Ne.symm (nd_ne ND (i := 8) (j := 13) rfl rfl (by decide))), (Ne.symm (nd_ne ND (i := 9) (j := 13) rfl rfl (by decide))), (Ne.symm (nd_ne ND (i := 10) (j := 13) rfl rfl (by decide))), (Ne.symm (nd_ne ND (i := 11) (j := 13) rfl rfl (by decide)))⟩) e_masks
                have r_786 := r0.trans (r_661.mono (by simp))
                have g_787 : fs_646[(61 : Nat)]? = some (.int (b01 false)) := (ga_650 61 (by decide)).trans gz_61
                have g_788 : fs_646[(4 : Nat)]? = some (.ref asked_) := (ga_650 4 (by decide)).trans g_asked
                have g_789 : fs_646[(41 : Nat)]? = some (.ref firstToken_) := (ga_650 41 (by decide)).trans g_firstToken
                have g_790 : fs_646[(42 : Nat)]? = some (.ref starred_) := (ga_650 42 (by decide)).trans g_starred
                have g_791 : fs_646[(43 : Nat)]? = some (.ref tokenAt_) := (ga_650 43 (by decide)).trans g_tokenAt
                have g_792 : fs_646[(44 : Nat)]? = some (.ref tokenSize_) := (ga_650 44 (by decide)).trans g_tokenSize
                have g_793 : fs_646[(45 : Nat)]? = some (.ref groupKind_) := (ga_650 45 (by decide)).trans g_groupKind
                have g_794 : fs_646[(46 : Nat)]? = some (.ref groupPhrase_) := (ga_650 46 (by decide)).trans g_groupPhrase
                have g_795 : fs_646[(47 : Nat)]? = some (.ref groupSize_) := (ga_650 47 (by decide)).trans g_groupSize
                have g_796 : fs_646[(48 : Nat)]? = some (.ref groupMask_) := (ga_650 48 (by decide)).trans g_groupMask
                have g_797 : fs_646[(49 : Nat)]? = some (.ref groupFar_) := (ga_650 49 (by decide)).trans g_groupFar
                have g_798 : fs_646[(50 : Nat)]? = some (.ref out_) := (ga_650 50 (by decide)).trans g_out
                have g_799 : fs_646[(51 : Nat)]? = some (.ref top_) := (ga_650 51 (by decide)).trans g_top
                have g_800 : fs_646[(52 : Nat)]? = some (.ref masks_) := (ga_650 52 (by decide)).trans g_masks
                have g_801 : fs_646[(11 : Nat)]? = some (.int (nI asz)) := (ga_650 11 (by decide)).trans g_askedSize
                have ga_802 : ∀ i : Nat, i ∉ [28, 29, 30, 31, 33, 34, 35, 36, 37, 38, 39, 61] → fs_646[i]? = fs[i]? := fun i hi => (ga_650 i (fun z => hi (by simp only [List.mem_cons, List.not_mem_nil, or_false] at z ⊢; omega))).trans (ga0 i hi)
                have hb_803 : ¬ 0 ≤ bd_635 := Int32.not_le.mpr hb_674
                refine s_Model_atom_94 l_647 e_648 ?_
                refine x_u1 (fun h_804 e_805 f_806 => ?_)
                have e_807 := (f_806 asked_ (Ne.symm (nd_ne ND (i := 0) (j := 1) rfl rfl (by decide)))).trans e_783
                have e_808 := (f_806 firstToken_ (Ne.symm (nd_ne ND (i := 0) (j := 2) rfl rfl (by decide)))).trans e_651
                have e_809 := (f_806 starred_ (Ne.symm (nd_ne ND (i := 0) (j := 3) rfl rfl (by decide)))).trans e_652
                have e_810 := (f_806 tokenAt_ (Ne.symm (nd_ne ND (i := 0) (j := 4) rfl rfl (by decide)))).trans e_653
                have e_811 := (f_806 tokenSize_ (Ne.symm (nd_ne ND (i := 0) (j := 5) rfl rfl (by decide)))).trans e_654
                have e_812 := (f_806 groupKind_ (Ne.symm (nd_ne ND (i := 0) (j := 6) rfl rfl (by decide)))).trans e_655
                have e_813 := (f_806 groupPhrase_ (Ne.symm (nd_ne ND (i := 0) (j := 7) rfl rfl (by decide)))).trans e_656
                have e_814 := (f_806 groupSize_ (Ne.symm (nd_ne ND (i := 0) (j := 8) rfl rfl (by decide)))).trans e_657
                have e_815 := (f_806 groupMask_ (Ne.symm (nd_ne ND (i := 0) (j := 9) rfl rfl (by decide)))).trans e_658
                have e_816 := (f_806 groupFar_ (Ne.symm (nd_ne ND (i := 0) (j := 10) rfl rfl (by decide)))).trans e_659
                have e_817 := (f_806 out_ (Ne.symm (nd_ne ND (i := 0) (j := 11) rfl rfl (by decide)))).trans e_660
                have e_818 := (f_806 top_ (Ne.symm (nd_ne ND (i := 0) (j := 12) rfl rfl (by decide)))).trans e_784
                have e_819 := (f_806 masks_ (Ne.symm (nd_ne ND (i := 0) (j := 13) rfl rfl (by decide)))).trans e_785
                have r_820 := r_786.up (by simp) f_806
                obtain ⟨fs_821, z_822⟩ : ∃ z, z = fs_646.set 61 (.int 1) := ⟨_, rfl⟩
                rw [← z_822] at e_805
                have l_823 : fs_821.length = 62 := by rw [z_822]; simp only [List.length_set]; exact l_647
                have g_824 : fs_821[(4 : Nat)]? = some (.ref asked_) := by rw [z_822]; exact (xw_gn (by decide) g_788)
                have g_825 : fs_821[(11 : Nat)]? = some (.int (nI asz)) := by rw [z_822]; exact (xw_gn (by decide) g_801)
                have g_826 : fs_821[(28 : Nat)]? = some (.int (nI (bl fa asz p_667))) := by rw [z_822]; exact (xw_gn (by decide) g_677)
                have g_827 : fs_821[(29 : Nat)]? = some (.int (nI (rkd (kdP fa asz p_667)))) := by rw [z_822]; exact (xw_gn (by decide) g_678)
                have g_828 : fs_821[(30 : Nat)]? = some (.int (nI (bl fa asz p_667))) := by rw [z_822]; exact (xw_gn (by decide) g_679)
                have g_829 : fs_821[(31 : Nat)]? = some (.int (nI y_671)) := by rw [z_822]; exact (xw_gn (by decide) g_680)
                have g_830 : fs_821[(33 : Nat)]? = some (.int bd_635) := by rw [z_822]; exact (xw_gn (by decide) g_649)
                have g_831 : fs_821[(34 : Nat)]? = some (.int (nI ph_668.length)) := by rw [z_822]; exact (xw_gn (by decide) g_681)
                have g_832 : fs_821[(35 : Nat)]? = some (.int (nI t_672)) := by rw [z_822]; exact (xw_gn (by decide) g_682)
                have g_833 : fs_821[(36 : Nat)]? = some (.int (nI gr_669.length)) := by rw [z_822]; exact (xw_gn (by decide) g_684)
                have g_834 : fs_821[(37 : Nat)]? = some (.int (nI (o ++ [(0, gi_670)]).length)) := by rw [z_822]; exact (xw_gn (by decide) g_687)
                have g_835 : fs_821[(38 : Nat)]? = some (.int (nI (cfS st mk).1.length)) := by rw [z_822]; exact (xw_gn (by decide) g_689)
                have g_836 : fs_821[(39 : Nat)]? = some (.int (nI (cfS st mk).2)) := by rw [z_822]; exact (xw_gn (by decide) g_690)
                have g_837 : fs_821[(41 : Nat)]? = some (.ref firstToken_) := by rw [z_822]; exact (xw_gn (by decide) g_789)
                have g_838 : fs_821[(42 : Nat)]? = some (.ref starred_) := by rw [z_822]; exact (xw_gn (by decide) g_790)
                have g_839 : fs_821[(43 : Nat)]? = some (.ref tokenAt_) := by rw [z_822]; exact (xw_gn (by decide) g_791)
                have g_840 : fs_821[(44 : Nat)]? = some (.ref tokenSize_) := by rw [z_822]; exact (xw_gn (by decide) g_792)
                have g_841 : fs_821[(45 : Nat)]? = some (.ref groupKind_) := by rw [z_822]; exact (xw_gn (by decide) g_793)
                have g_842 : fs_821[(46 : Nat)]? = some (.ref groupPhrase_) := by rw [z_822]; exact (xw_gn (by decide) g_794)
                have g_843 : fs_821[(47 : Nat)]? = some (.ref groupSize_) := by rw [z_822]; exact (xw_gn (by decide) g_795)
                have g_844 : fs_821[(48 : Nat)]? = some (.ref groupMask_) := by rw [z_822]; exact (xw_gn (by decide) g_796)
                have g_845 : fs_821[(49 : Nat)]? = some (.ref groupFar_) := by rw [z_822]; exact (xw_gn (by decide) g_797)
                have g_846 : fs_821[(50 : Nat)]? = some (.ref out_) := by rw [z_822]; exact (xw_gn (by decide) g_798)
                have g_847 : fs_821[(51 : Nat)]? = some (.ref top_) := by rw [z_822]; exact (xw_gn (by decide) g_799)
                have g_848 : fs_821[(52 : Nat)]? = some (.ref masks_) := by rw [z_822]; exact (xw_gn (by decide) g_800)
                have g_849 : fs_821[(61 : Nat)]? = some (.int 1) := by rw [z_822]; exact (xw_gs (by simp [l_647]))
                have ga_850 : ∀ i : Nat, i ∉ [28, 29, 30, 31, 33, 34, 35, 36, 37, 38, 39, 61] → fs_821[i]? = fs[i]? := fun i hi => by rw [z_822]; exact xw_gn (fun z => hi (by rw [z]; simp)) (ga_802 i hi)
                clear z_822
                refine s_Model_atom_111 ?_
                have hk_851 : ¬ kdP fa asz p = 9 := fun q => z_1 (by rw [q]; rfl)
                have hk_852 : ¬ kdP fa asz p = 11 := fun q => z_4 (by rw [q]; rfl)
                have hs_853 := (hc_119.resolve_right (fun q => absurd (q.1.symm.trans z_123) (by decide))).2
                have hdp : dpr (kdS fa asz (p, ph, gr)) = false := bF (fun q => by have q2 : kdP fa asz p = 9 ∨ kdP fa asz p = 11 ∨ kdP fa asz p = 3 := (by simpa [dpr, kdS, or_assoc] using q); rcases q2 with q2 | q2 | q2; (exact hk_851 q2); (exact hk_852 q2); (exact hs_853 q2))
                have ck := cf_kp st mk
                have hgl := gp_len hx_673
                have hp9 := gp_12 hx_673 hp12
                exact ⟨rfl, Or.inr ⟨_, sp_gy hk_851 hdp hx_673, ⟨_, _, _, _, _, _, _, _, _, _, _, _, _, _, _, _, PT_675, HY_676, RQ_683, GR_685, OU_688, (OG.add (show gr.length ≤ gr_669.length by omega) (show gi_670 < gr_669.length by have := gp_gi hx_673; omega)), ST_691, hb_674, hp9, hgp_686, hm_692, (Nat.le_trans ck.2 hd8), (by show (o ++ [(0, gi_670)]).length + cJ (cfS st mk).1 + 1 = 2 * gr_669.length; rw [List.length_append, ck.1]; simp only [List.length_cons, List.length_nil, Bool.false_eq_true, if_false] at hgl hcn ⊢; omega), l_823, e_805, g_826, g_827, g_828, g_829, g_830, g_831, g_832, g_833, g_834, g_835, g_836, g_849, fun i hi => (ga_850 i hi).trans (gq i hi), e_808, e_809, e_810, e_811, e_812, e_813, e_814, e_815, e_816, e_817, e_818, e_819, rq.trans r_820⟩⟩⟩
      · skip
        refine s_Model_atom_58 ?_
        have hk_885 : ¬ kdP fa asz p = 11 := fun q => z_4 (by rw [q]; rfl)
        have hs_886 := (hc_119.resolve_left (fun q => z_124 q.1)).2
        refine x_callV (As := []) (b := m) (rest := []) (F1 := 5) (L1 := 107) (mc := 0) (ms := 0) d_Model_atom_59 cV_Model_291 (f_filterH (gr := gr) l e gz_28 gz_29 gz_30 gz_31 gz_33 gz_38 gz_39 g_askedSize g_asked e_asked g_top e_top g_masks e_masks (nd_ne ND (i := 12) (j := 13) rfl rfl (by decide)) hasz PT HY RQ ST hbd (by omega) hmk (Or.inr hs_886) (by omega) (by omega)) e ⟨by decide, rfl⟩ ⟨by omega, by show 8 + (4 + 11) + 107 ≤ _; omega⟩ ⟨by omega, by omega⟩ (Nat.le_of_ble_eq_true rfl) (fun v_888 h_887 p_889 => ?_)
        rcases p_889 with ⟨rfl, bd_854, ct_855, cm_856, fs_857, l_858, e_859, g_860, ga_861, e_862, e_863, r_864, ⟨hx_865, nb_866, IN_867, g_868⟩ | ⟨pm_869, p_870, y_871, hx_872, hd_873, hb_874, PT_875, HY_876, g_877, g_878, g_879, g_880, RQ_881, g_882, g_883, ST_884⟩⟩
        · skip
          have e_890 := r_864 asked_ _ (by simp only [List.mem_cons, List.not_mem_nil, or_false, not_or]; exact ⟨(Ne.symm (nd_ne ND (i := 0) (j := 1) rfl rfl (by decide))), (nd_ne ND (i := 1) (j := 12) rfl rfl (by decide)), (nd_ne ND (i := 1) (j := 13) rfl rfl (by decide))⟩) e_asked
          have e_891 := r_864 firstToken_ _ (by simp only [List.mem_cons, List.not_mem_nil, or_false, not_or]; exact ⟨(Ne.symm (nd_ne ND (i := 0) (j := 2) rfl rfl (by decide))), (nd_ne ND (i := 2) (j := 12) rfl rfl (by decide)), (nd_ne ND (i := 2) (j := 13) rfl rfl (by decide))⟩) e_firstToken
          have e_892 := r_864 starred_ _ (by simp only [List.mem_cons, List.not_mem_nil, or_false, not_or]; exact ⟨(Ne.symm (nd_ne ND (i := 0) (j := 3) rfl rfl (by decide))), (nd_ne ND (i := 3) (j := 12) rfl rfl (by decide)), (nd_ne ND (i := 3) (j := 13) rfl rfl (by decide))⟩) e_starred
          have e_893 := r_864 tokenAt_ _ (by simp only [List.mem_cons, List.not_mem_nil, or_false, not_or]; exact ⟨(Ne.symm (nd_ne ND (i := 0) (j := 4) rfl rfl (by decide))), (nd_ne ND (i := 4) (j := 12) rfl rfl (by decide)), (nd_ne ND (i := 4) (j := 13) rfl rfl (by decide))⟩) e_tokenAt
          have e_894 := r_864 tokenSize_ _ (by simp only [List.mem_cons, List.not_mem_nil, or_false, not_or]; exact ⟨(Ne.symm (nd_ne ND (i := 0) (j := 5) rfl rfl (by decide))), (nd_ne ND (i := 5) (j := 12) rfl rfl (by decide)), (nd_ne ND (i := 5) (j := 13) rfl rfl (by decide))⟩) e_tokenSize
          have e_895 := r_864 groupKind_ _ (by simp only [List.mem_cons, List.not_mem_nil, or_false, not_or]; exact ⟨(Ne.symm (nd_ne ND (i := 0) (j := 6) rfl rfl (by decide))), (nd_ne ND (i := 6) (j := 12) rfl rfl (by decide)), (nd_ne ND (i := 6) (j := 13) rfl rfl (by decide))⟩) e_groupKind
          have e_896 := r_864 groupPhrase_ _ (by simp only [List.mem_cons, List.not_mem_nil, or_false, not_or]; exact ⟨(Ne.symm (nd_ne ND (i := 0) (j := 7) rfl rfl (by decide))), (nd_ne ND (i := 7) (j := 12) rfl rfl (by decide)), (nd_ne ND (i := 7) (j := 13) rfl rfl (by decide))⟩) e_groupPhrase
          have e_897 := r_864 groupSize_ _ (by simp only [List.mem_cons, List.not_mem_nil, or_false, not_or]; exact ⟨(Ne.symm (nd_ne ND (i := 0) (j := 8) rfl rfl (by decide))), (nd_ne ND (i := 8) (j := 12) rfl rfl (by decide)), (nd_ne ND (i := 8) (j := 13) rfl rfl (by decide))⟩) e_groupSize
          have e_898 := r_864 groupMask_ _ (by simp only [List.mem_cons, List.not_mem_nil, or_false, not_or]; exact ⟨(Ne.symm (nd_ne ND (i := 0) (j := 9) rfl rfl (by decide))), (nd_ne ND (i := 9) (j := 12) rfl rfl (by decide)), (nd_ne ND (i := 9) (j := 13) rfl rfl (by decide))⟩) e_groupMask
          have e_899 := r_864 groupFar_ _ (by simp only [List.mem_cons, List.not_mem_nil, or_false, not_or]; exact ⟨(Ne.symm (nd_ne ND (i := 0) (j := 10) rfl rfl (by decide))), (nd_ne ND (i := 10) (j := 12) rfl rfl (by decide)), (nd_ne ND (i := 10) (j := 13) rfl rfl (by decide))⟩) e_groupFar
          have e_900 := r_864 out_ _ (by simp only [List.mem_cons, List.not_mem_nil, or_false, not_or]; exact ⟨(Ne.symm (nd_ne ND (i := 0) (j := 11) rfl rfl (by decide))), (nd_ne ND (i := 11) (j := 12) rfl rfl (by decide)), (nd_ne ND (i := 11) (j := 13) rfl rfl (by decide))⟩) e_out
          have r_901 := r0.trans (r_864.mono (by simp))
          obtain ⟨v_902, g_903⟩ := IN_867 28 (by decide)
          obtain ⟨v_904, g_905⟩ := IN_867 29 (by decide)
          obtain ⟨v_906, g_907⟩ := IN_867 30 (by decide)
          obtain ⟨v_908, g_909⟩ := IN_867 31 (by decide)
          obtain ⟨v_910, g_911⟩ := IN_867 39 (by decide)
          have g_912 : fs_857[(34 : Nat)]? = some (.int (nI ph.length)) := (ga_861 34 (by decide)).trans gz_34
          have g_913 : fs_857[(35 : Nat)]? = some (.int (nI t)) := (ga_861 35 (by decide)).trans gz_35
          have g_914 : fs_857[(36 : Nat)]? = some (.int (nI gr.length)) := (ga_861 36 (by decide)).trans gz_36
          have g_915 : fs_857[(37 : Nat)]? = some (.int (nI o.length)) := (ga_861 37 (by decide)).trans gz_37
          have g_916 : fs_857[(61 : Nat)]? = some (.int (b01 false)) := (ga_861 61 (by decide)).trans gz_61
          have g_917 : fs_857[(4 : Nat)]? = some (.ref asked_) := (ga_861 4 (by decide)).trans g_asked
          have g_918 : fs_857[(41 : Nat)]? = some (.ref firstToken_) := (ga_861 41 (by decide)).trans g_firstToken
          have g_919 : fs_857[(42 : Nat)]? = some (.ref starred_) := (ga_861 42 (by decide)).trans g_starred
          have g_920 : fs_857[(43 : Nat)]? = some (.ref tokenAt_) := (ga_861 43 (by decide)).trans g_tokenAt
          have g_921 : fs_857[(44 : Nat)]? = some (.ref tokenSize_) := (ga_861 44 (by decide)).trans g_tokenSize
          have g_922 : fs_857[(45 : Nat)]? = some (.ref groupKind_) := (ga_861 45 (by decide)).trans g_groupKind
          have g_923 : fs_857[(46 : Nat)]? = some (.ref groupPhrase_) := (ga_861 46 (by decide)).trans g_groupPhrase
          have g_924 : fs_857[(47 : Nat)]? = some (.ref groupSize_) := (ga_861 47 (by decide)).trans g_groupSize
          have g_925 : fs_857[(48 : Nat)]? = some (.ref groupMask_) := (ga_861 48 (by decide)).trans g_groupMask
          have g_926 : fs_857[(49 : Nat)]? = some (.ref groupFar_) := (ga_861 49 (by decide)).trans g_groupFar
          have g_927 : fs_857[(50 : Nat)]? = some (.ref out_) := (ga_861 50 (by decide)).trans g_out
          have g_928 : fs_857[(51 : Nat)]? = some (.ref top_) := (ga_861 51 (by decide)).trans g_top
          have g_929 : fs_857[(52 : Nat)]? = some (.ref masks_) := (ga_861 52 (by decide)).trans g_masks
          have g_930 : fs_857[(11 : Nat)]? = some (.int (nI asz)) := (ga_861 11 (by decide)).trans g_askedSize
          have ga_931 : ∀ i : Nat, i ∉ [28, 29, 30, 31, 33, 34, 35, 36, 37, 38, 39, 61] → fs_857[i]? = fs[i]? := fun i hi => (ga_861 i (fun z => hi (by simp only [List.mem_cons, List.not_mem_nil, or_false] at z ⊢; omega))).trans (ga0 i hi)
          have hb_932 : 0 ≤ bd_854 := Int32.not_lt.mp nb_866
          refine x_le (xw_le_n xw_le_e) ?_
          refine s_Model_atom_62 ?_
          refine s_Model_atom_111 ?_
          have hk_933 : ¬ kdP fa asz p = 9 := fun q => z_1 (by rw [q]; rfl)
          have hdp : dpr (kdS fa asz (p, ph, gr)) = true := by have q : kdP fa asz p = 3 := hs_886; show dpr (kdP fa asz p) = true; rw [q]; rfl
          exact ⟨rfl, Or.inl ⟨hx_865.elim (fun q => sp_fn hk_933 hdp q) (fun q => sp_f8 hk_933 hdp q), ⟨o.length, st.length, _, _, _, _, _, _, _, _, _, _, _, _, _, _, nb_866, (by omega), l_858, e_859, g_860, g_915, g_868, (fun i9 hi9 => by simp only [List.mem_cons, List.not_mem_nil, or_false] at hi9; rcases hi9 with rfl | rfl | rfl | rfl | rfl | rfl | rfl | rfl | rfl <;> first | exact ⟨_, g_903⟩ | exact ⟨_, g_905⟩ | exact ⟨_, g_907⟩ | exact ⟨_, g_909⟩ | exact ⟨_, g_912⟩ | exact ⟨_, g_913⟩ | exact ⟨_, g_914⟩ | exact ⟨_, g_911⟩ | exact ⟨_, g_916⟩), fun i hi => (ga_931 i hi).trans (gq i hi), e_891, e_892, e_893, e_894, e_895, e_896, e_897, e_898, e_899, e_900, e_862, e_863, rq.trans r_901⟩⟩⟩
        · skip
          have e_934 := r_864 asked_ _ (by simp only [List.mem_cons, List.not_mem_nil, or_false, not_or]; exact ⟨(Ne.symm (nd_ne ND (i := 0) (j := 1) rfl rfl (by decide))), (nd_ne ND (i := 1) (j := 12) rfl rfl (by decide)), (nd_ne ND (i := 1) (j := 13) rfl rfl (by decide))⟩) e_asked
          have e_935 := r_864 firstToken_ _ (by simp only [List.mem_cons, List.not_mem_nil, or_false, not_or]; exact ⟨(Ne.symm (nd_ne ND (i := 0) (j := 2) rfl rfl (by decide))), (nd_ne ND (i := 2) (j := 12) rfl rfl (by decide)), (nd_ne ND (i := 2) (j := 13) rfl rfl (by decide))⟩) e_firstToken
          have e_936 := r_864 starred_ _ (by simp only [List.mem_cons, List.not_mem_nil, or_false, not_or]; exact ⟨(Ne.symm (nd_ne ND (i := 0) (j := 3) rfl rfl (by decide))), (nd_ne ND (i := 3) (j := 12) rfl rfl (by decide)), (nd_ne ND (i := 3) (j := 13) rfl rfl (by decide))⟩) e_starred
          have e_937 := r_864 tokenAt_ _ (by simp only [List.mem_cons, List.not_mem_nil, or_false, not_or]; exact ⟨(Ne.symm (nd_ne ND (i := 0) (j := 4) rfl rfl (by decide))), (nd_ne ND (i := 4) (j := 12) rfl rfl (by decide)), (nd_ne ND (i := 4) (j := 13) rfl rfl (by decide))⟩) e_tokenAt
          have e_938 := r_864 tokenSize_ _ (by simp only [List.mem_cons, List.not_mem_nil, or_false, not_or]; exact ⟨(Ne.symm (nd_ne ND (i := 0) (j := 5) rfl rfl (by decide))), (nd_ne ND (i := 5) (j := 12) rfl rfl (by decide)), (nd_ne ND (i := 5) (j := 13) rfl rfl (by decide))⟩) e_tokenSize
          have e_939 := r_864 groupKind_ _ (by simp only [List.mem_cons, List.not_mem_nil, or_false, not_or]; exact ⟨(Ne.symm (nd_ne ND (i := 0) (j := 6) rfl rfl (by decide))), (nd_ne ND (i := 6) (j := 12) rfl rfl (by decide)), (nd_ne ND (i := 6) (j := 13) rfl rfl (by decide))⟩) e_groupKind
          have e_940 := r_864 groupPhrase_ _ (by simp only [List.mem_cons, List.not_mem_nil, or_false, not_or]; exact ⟨(Ne.symm (nd_ne ND (i := 0) (j := 7) rfl rfl (by decide))), (nd_ne ND (i := 7) (j := 12) rfl rfl (by decide)), (nd_ne ND (i := 7) (j := 13) rfl rfl (by decide))⟩) e_groupPhrase
          have e_941 := r_864 groupSize_ _ (by simp only [List.mem_cons, List.not_mem_nil, or_false, not_or]; exact ⟨(Ne.symm (nd_ne ND (i := 0) (j := 8) rfl rfl (by decide))), (nd_ne ND (i := 8) (j := 12) rfl rfl (by decide)), (nd_ne ND (i := 8) (j := 13) rfl rfl (by decide))⟩) e_groupSize
          have e_942 := r_864 groupMask_ _ (by simp only [List.mem_cons, List.not_mem_nil, or_false, not_or]; exact ⟨(Ne.symm (nd_ne ND (i := 0) (j := 9) rfl rfl (by decide))), (nd_ne ND (i := 9) (j := 12) rfl rfl (by decide)), (nd_ne ND (i := 9) (j := 13) rfl rfl (by decide))⟩) e_groupMask
          have e_943 := r_864 groupFar_ _ (by simp only [List.mem_cons, List.not_mem_nil, or_false, not_or]; exact ⟨(Ne.symm (nd_ne ND (i := 0) (j := 10) rfl rfl (by decide))), (nd_ne ND (i := 10) (j := 12) rfl rfl (by decide)), (nd_ne ND (i := 10) (j := 13) rfl rfl (by decide))⟩) e_groupFar
          have e_944 := r_864 out_ _ (by simp only [List.mem_cons, List.not_mem_nil, or_false, not_or]; exact ⟨(Ne.symm (nd_ne ND (i := 0) (j := 11) rfl rfl (by decide))), (nd_ne ND (i := 11) (j := 12) rfl rfl (by decide)), (nd_ne ND (i := 11) (j := 13) rfl rfl (by decide))⟩) e_out
          have r_945 := r0.trans (r_864.mono (by simp))
          have g_946 : fs_857[(34 : Nat)]? = some (.int (nI ph.length)) := (ga_861 34 (by decide)).trans gz_34
          have g_947 : fs_857[(35 : Nat)]? = some (.int (nI t)) := (ga_861 35 (by decide)).trans gz_35
          have g_948 : fs_857[(36 : Nat)]? = some (.int (nI gr.length)) := (ga_861 36 (by decide)).trans gz_36
          have g_949 : fs_857[(37 : Nat)]? = some (.int (nI o.length)) := (ga_861 37 (by decide)).trans gz_37
          have g_950 : fs_857[(61 : Nat)]? = some (.int (b01 false)) := (ga_861 61 (by decide)).trans gz_61
          have g_951 : fs_857[(4 : Nat)]? = some (.ref asked_) := (ga_861 4 (by decide)).trans g_asked
          have g_952 : fs_857[(41 : Nat)]? = some (.ref firstToken_) := (ga_861 41 (by decide)).trans g_firstToken
          have g_953 : fs_857[(42 : Nat)]? = some (.ref starred_) := (ga_861 42 (by decide)).trans g_starred
          have g_954 : fs_857[(43 : Nat)]? = some (.ref tokenAt_) := (ga_861 43 (by decide)).trans g_tokenAt
          have g_955 : fs_857[(44 : Nat)]? = some (.ref tokenSize_) := (ga_861 44 (by decide)).trans g_tokenSize
          have g_956 : fs_857[(45 : Nat)]? = some (.ref groupKind_) := (ga_861 45 (by decide)).trans g_groupKind
          have g_957 : fs_857[(46 : Nat)]? = some (.ref groupPhrase_) := (ga_861 46 (by decide)).trans g_groupPhrase
          have g_958 : fs_857[(47 : Nat)]? = some (.ref groupSize_) := (ga_861 47 (by decide)).trans g_groupSize
          have g_959 : fs_857[(48 : Nat)]? = some (.ref groupMask_) := (ga_861 48 (by decide)).trans g_groupMask
          have g_960 : fs_857[(49 : Nat)]? = some (.ref groupFar_) := (ga_861 49 (by decide)).trans g_groupFar
          have g_961 : fs_857[(50 : Nat)]? = some (.ref out_) := (ga_861 50 (by decide)).trans g_out
          have g_962 : fs_857[(51 : Nat)]? = some (.ref top_) := (ga_861 51 (by decide)).trans g_top
          have g_963 : fs_857[(52 : Nat)]? = some (.ref masks_) := (ga_861 52 (by decide)).trans g_masks
          have g_964 : fs_857[(11 : Nat)]? = some (.int (nI asz)) := (ga_861 11 (by decide)).trans g_askedSize
          have ga_965 : ∀ i : Nat, i ∉ [28, 29, 30, 31, 33, 34, 35, 36, 37, 38, 39, 61] → fs_857[i]? = fs[i]? := fun i hi => (ga_861 i (fun z => hi (by simp only [List.mem_cons, List.not_mem_nil, or_false] at z ⊢; omega))).trans (ga0 i hi)
          have hb_966 : ¬ 0 ≤ bd_854 := Int32.not_le.mpr hb_874
          refine x_le (xw_le_n xw_le_e) ?_
          refine s_Model_atom_62 ?_
          refine s_Model_atom_111 ?_
          have hk_967 : ¬ kdP fa asz p = 9 := fun q => z_1 (by rw [q]; rfl)
          have hdp : dpr (kdS fa asz (p, ph, gr)) = true := by have q : kdP fa asz p = 3 := hs_886; show dpr (kdP fa asz p) = true; rw [q]; rfl
          exact ⟨rfl, Or.inr ⟨_, sp_fy hk_967 hdp hx_872 hd_873, ⟨_, _, _, _, _, _, _, _, _, _, _, _, _, _, _, _, PT_875, HY_876, RQ_881, GR, OU, OG, ST_884, hb_874, hp12, hgp, (and3 hmk), (by show depS ((6, mk) :: st) ≤ 8; rw [depS, if_pos (show 5 ≤ ((6 : Nat), mk).1 from (by decide : 5 ≤ 6))]; omega), (by show o.length + cJ ((6, mk) :: st) + 0 = 2 * gr.length; rw [cJ, if_neg (show ¬ ((6 : Nat), mk).1 < 5 from (by decide : ¬ 6 < 5))]; simp only [Bool.false_eq_true, if_false] at hcn; omega), l_858, e_859, g_877, g_878, g_879, g_880, g_860, g_946, g_947, g_948, g_949, g_882, g_883, g_950, fun i hi => (ga_965 i hi).trans (gq i hi), e_935, e_936, e_937, e_938, e_939, e_940, e_941, e_942, e_943, e_944, e_862, e_863, rq.trans r_945⟩⟩⟩
  · skip
    refine s_Model_atom_8 ?_
    refine x_callV (As := []) (b := m) (rest := [.ref m]) (F1 := 1) (L1 := 20) (mc := 0) (ms := 0) d_Model_atom_10 cV_Model_288 (f_depth (n := st.length) l e gz_38 g_top e_top (by omega) (by omega) (by omega)) e ⟨by decide, rfl⟩ ⟨by omega, by show 8 + (3 + 11) + 20 ≤ _; omega⟩ ⟨by omega, by omega⟩ (Nat.le_of_ble_eq_true rfl) (fun v_969 h_968 p_970 => ?_)
    obtain ⟨rfl, rfl⟩ := p_970
    rw [cntD_dep ST]
    refine s_Model_atom_13 (fun z_971 => ?_) (fun z_972 => ?_)
    · skip
      refine s_Model_atom_22 ?_
      refine s_Model_atom_23 l e gz_30 ?_
      refine x_callV (As := [.int 0, .int (nI (bl fa asz p))]) (b := m) (rest := []) (F1 := 1) (L1 := 20) (mc := 0) (ms := 0) d_Model_atom_27 cV_Model_250 (f_wrongsH (k := bl fa asz p) l e gz_33 (by omega) (by omega) (by omega)) e ⟨by decide, rfl⟩ ⟨by omega, by show 8 + (3 + 11) + 20 ≤ _; omega⟩ ⟨by omega, by omega⟩ (Nat.le_of_ble_eq_true rfl) (fun v_984 h_983 p_985 => ?_)
      obtain ⟨rfl, bd_973, fs_974, hw_975, hw_976, hw_977, l_978, e_979, g_980, ga_981, r_982⟩ := p_985
      have e_986 := r_982 asked_ _ (by simp only [List.mem_cons, List.not_mem_nil, or_false, not_or]; exact (Ne.symm (nd_ne ND (i := 0) (j := 1) rfl rfl (by decide)))) e_asked
      have e_987 := r_982 firstToken_ _ (by simp only [List.mem_cons, List.not_mem_nil, or_false, not_or]; exact (Ne.symm (nd_ne ND (i := 0) (j := 2) rfl rfl (by decide)))) e_firstToken
      have e_988 := r_982 starred_ _ (by simp only [List.mem_cons, List.not_mem_nil, or_false, not_or]; exact (Ne.symm (nd_ne ND (i := 0) (j := 3) rfl rfl (by decide)))) e_starred
      have e_989 := r_982 tokenAt_ _ (by simp only [List.mem_cons, List.not_mem_nil, or_false, not_or]; exact (Ne.symm (nd_ne ND (i := 0) (j := 4) rfl rfl (by decide)))) e_tokenAt
      have e_990 := r_982 tokenSize_ _ (by simp only [List.mem_cons, List.not_mem_nil, or_false, not_or]; exact (Ne.symm (nd_ne ND (i := 0) (j := 5) rfl rfl (by decide)))) e_tokenSize
      have e_991 := r_982 groupKind_ _ (by simp only [List.mem_cons, List.not_mem_nil, or_false, not_or]; exact (Ne.symm (nd_ne ND (i := 0) (j := 6) rfl rfl (by decide)))) e_groupKind
      have e_992 := r_982 groupPhrase_ _ (by simp only [List.mem_cons, List.not_mem_nil, or_false, not_or]; exact (Ne.symm (nd_ne ND (i := 0) (j := 7) rfl rfl (by decide)))) e_groupPhrase
      have e_993 := r_982 groupSize_ _ (by simp only [List.mem_cons, List.not_mem_nil, or_false, not_or]; exact (Ne.symm (nd_ne ND (i := 0) (j := 8) rfl rfl (by decide)))) e_groupSize
      have e_994 := r_982 groupMask_ _ (by simp only [List.mem_cons, List.not_mem_nil, or_false, not_or]; exact (Ne.symm (nd_ne ND (i := 0) (j := 9) rfl rfl (by decide)))) e_groupMask
      have e_995 := r_982 groupFar_ _ (by simp only [List.mem_cons, List.not_mem_nil, or_false, not_or]; exact (Ne.symm (nd_ne ND (i := 0) (j := 10) rfl rfl (by decide)))) e_groupFar
      have e_996 := r_982 out_ _ (by simp only [List.mem_cons, List.not_mem_nil, or_false, not_or]; exact (Ne.symm (nd_ne ND (i := 0) (j := 11) rfl rfl (by decide)))) e_out
      have e_997 := r_982 top_ _ (by simp only [List.mem_cons, List.not_mem_nil, or_false, not_or]; exact (Ne.symm (nd_ne ND (i := 0) (j := 12) rfl rfl (by decide)))) e_top
      have e_998 := r_982 masks_ _ (by simp only [List.mem_cons, List.not_mem_nil, or_false, not_or]; exact (Ne.symm (nd_ne ND (i := 0) (j := 13) rfl rfl (by decide)))) e_masks
      have r_999 := r0.trans (r_982.mono (by simp))
      have g_1000 : fs_974[(28 : Nat)]? = some (.int (nI (bl fa asz p))) := (ga_981 28 (by decide)).trans gz_28
      have g_1001 : fs_974[(29 : Nat)]? = some (.int (nI (rkd (kdP fa asz p)))) := (ga_981 29 (by decide)).trans gz_29
      have g_1002 : fs_974[(30 : Nat)]? = some (.int (nI (bl fa asz p))) := (ga_981 30 (by decide)).trans gz_30
      have g_1003 : fs_974[(31 : Nat)]? = some (.int (nI y)) := (ga_981 31 (by decide)).trans gz_31
      have g_1004 : fs_974[(34 : Nat)]? = some (.int (nI ph.length)) := (ga_981 34 (by decide)).trans gz_34
      have g_1005 : fs_974[(35 : Nat)]? = some (.int (nI t)) := (ga_981 35 (by decide)).trans gz_35
      have g_1006 : fs_974[(36 : Nat)]? = some (.int (nI gr.length)) := (ga_981 36 (by decide)).trans gz_36
      have g_1007 : fs_974[(37 : Nat)]? = some (.int (nI o.length)) := (ga_981 37 (by decide)).trans gz_37
      have g_1008 : fs_974[(38 : Nat)]? = some (.int (nI st.length)) := (ga_981 38 (by decide)).trans gz_38
      have g_1009 : fs_974[(39 : Nat)]? = some (.int (nI mk)) := (ga_981 39 (by decide)).trans gz_39
      have g_1010 : fs_974[(61 : Nat)]? = some (.int (b01 false)) := (ga_981 61 (by decide)).trans gz_61
      have g_1011 : fs_974[(4 : Nat)]? = some (.ref asked_) := (ga_981 4 (by decide)).trans g_asked
      have g_1012 : fs_974[(41 : Nat)]? = some (.ref firstToken_) := (ga_981 41 (by decide)).trans g_firstToken
      have g_1013 : fs_974[(42 : Nat)]? = some (.ref starred_) := (ga_981 42 (by decide)).trans g_starred
      have g_1014 : fs_974[(43 : Nat)]? = some (.ref tokenAt_) := (ga_981 43 (by decide)).trans g_tokenAt
      have g_1015 : fs_974[(44 : Nat)]? = some (.ref tokenSize_) := (ga_981 44 (by decide)).trans g_tokenSize
      have g_1016 : fs_974[(45 : Nat)]? = some (.ref groupKind_) := (ga_981 45 (by decide)).trans g_groupKind
      have g_1017 : fs_974[(46 : Nat)]? = some (.ref groupPhrase_) := (ga_981 46 (by decide)).trans g_groupPhrase
      have g_1018 : fs_974[(47 : Nat)]? = some (.ref groupSize_) := (ga_981 47 (by decide)).trans g_groupSize
      have g_1019 : fs_974[(48 : Nat)]? = some (.ref groupMask_) := (ga_981 48 (by decide)).trans g_groupMask
      have g_1020 : fs_974[(49 : Nat)]? = some (.ref groupFar_) := (ga_981 49 (by decide)).trans g_groupFar
      have g_1021 : fs_974[(50 : Nat)]? = some (.ref out_) := (ga_981 50 (by decide)).trans g_out
      have g_1022 : fs_974[(51 : Nat)]? = some (.ref top_) := (ga_981 51 (by decide)).trans g_top
      have g_1023 : fs_974[(52 : Nat)]? = some (.ref masks_) := (ga_981 52 (by decide)).trans g_masks
      have g_1024 : fs_974[(11 : Nat)]? = some (.int (nI asz)) := (ga_981 11 (by decide)).trans g_askedSize
      have ga_1025 : ∀ i : Nat, i ∉ [28, 29, 30, 31, 33, 34, 35, 36, 37, 38, 39, 61] → fs_974[i]? = fs[i]? := fun i hi => (ga_981 i (fun z => hi (by simp only [List.mem_cons, List.not_mem_nil, or_false] at z ⊢; omega))).trans (ga0 i hi)
      have hb_1026 : bd_973 < 0 := by rw [hw_975 rfl]; exact hbd
      have hb_1027 : ¬ 0 ≤ bd_973 := Int32.not_le.mpr hb_1026
      refine s_Model_atom_30 ?_
      refine x_callV (As := [.int 5]) (b := m) (rest := []) (F1 := 1) (L1 := 20) (mc := 0) (ms := 0) d_Model_atom_32 cV_Model_285 (f_pushesH (n := st.length) (mk := mk) l_978 e_979 g_1008 g_1009 g_1022 e_997 g_1023 e_998 (nd_ne ND (i := 12) (j := 13) rfl rfl (by decide)) (by omega) (by omega) (by omega)) e_979 ⟨by decide, rfl⟩ ⟨by omega, by show 8 + (2 + 11) + 20 ≤ _; omega⟩ ⟨by omega, by omega⟩ (Nat.le_of_ble_eq_true rfl) (fun v_1037 h_1036 p_1038 => ?_)
      obtain ⟨rfl, fs_1028, l_1029, e_1030, g_1031, ga_1032, e_1033, e_1034, r_1035⟩ := p_1038
      have e_1039 := r_1035 asked_ _ (by simp only [List.mem_cons, List.not_mem_nil, or_false, not_or]; exact ⟨(Ne.symm (nd_ne ND (i := 0) (j := 1) rfl rfl (by decide))), (nd_ne ND (i := 1) (j := 12) rfl rfl (by decide)), (nd_ne ND (i := 1) (j := 13) rfl rfl (by decide))⟩) e_986
      have e_1040 := r_1035 firstToken_ _ (by simp only [List.mem_cons, List.not_mem_nil, or_false, not_or]; exact ⟨(Ne.symm (nd_ne ND (i := 0) (j := 2) rfl rfl (by decide))), (nd_ne ND (i := 2) (j := 12) rfl rfl (by decide)), (nd_ne ND (i := 2) (j := 13) rfl rfl (by decide))⟩) e_987
      have e_1041 := r_1035 starred_ _ (by simp only [List.mem_cons, List.not_mem_nil, or_false, not_or]; exact ⟨(Ne.symm (nd_ne ND (i := 0) (j := 3) rfl rfl (by decide))), (nd_ne ND (i := 3) (j := 12) rfl rfl (by decide)), (nd_ne ND (i := 3) (j := 13) rfl rfl (by decide))⟩) e_988
      have e_1042 := r_1035 tokenAt_ _ (by simp only [List.mem_cons, List.not_mem_nil, or_false, not_or]; exact ⟨(Ne.symm (nd_ne ND (i := 0) (j := 4) rfl rfl (by decide))), (nd_ne ND (i := 4) (j := 12) rfl rfl (by decide)), (nd_ne ND (i := 4) (j := 13) rfl rfl (by decide))⟩) e_989
      have e_1043 := r_1035 tokenSize_ _ (by simp only [List.mem_cons, List.not_mem_nil, or_false, not_or]; exact ⟨(Ne.symm (nd_ne ND (i := 0) (j := 5) rfl rfl (by decide))), (nd_ne ND (i := 5) (j := 12) rfl rfl (by decide)), (nd_ne ND (i := 5) (j := 13) rfl rfl (by decide))⟩) e_990
      have e_1044 := r_1035 groupKind_ _ (by simp only [List.mem_cons, List.not_mem_nil, or_false, not_or]; exact ⟨(Ne.symm (nd_ne ND (i := 0) (j := 6) rfl rfl (by decide))), (nd_ne ND (i := 6) (j := 12) rfl rfl (by decide)), (nd_ne ND (i := 6) (j := 13) rfl rfl (by decide))⟩) e_991
      have e_1045 := r_1035 groupPhrase_ _ (by simp only [List.mem_cons, List.not_mem_nil, or_false, not_or]; exact ⟨(Ne.symm (nd_ne ND (i := 0) (j := 7) rfl rfl (by decide))), (nd_ne ND (i := 7) (j := 12) rfl rfl (by decide)), (nd_ne ND (i := 7) (j := 13) rfl rfl (by decide))⟩) e_992
      have e_1046 := r_1035 groupSize_ _ (by simp only [List.mem_cons, List.not_mem_nil, or_false, not_or]; exact ⟨(Ne.symm (nd_ne ND (i := 0) (j := 8) rfl rfl (by decide))), (nd_ne ND (i := 8) (j := 12) rfl rfl (by decide)), (nd_ne ND (i := 8) (j := 13) rfl rfl (by decide))⟩) e_993
      have e_1047 := r_1035 groupMask_ _ (by simp only [List.mem_cons, List.not_mem_nil, or_false, not_or]; exact ⟨(Ne.symm (nd_ne ND (i := 0) (j := 9) rfl rfl (by decide))), (nd_ne ND (i := 9) (j := 12) rfl rfl (by decide)), (nd_ne ND (i := 9) (j := 13) rfl rfl (by decide))⟩) e_994
      have e_1048 := r_1035 groupFar_ _ (by simp only [List.mem_cons, List.not_mem_nil, or_false, not_or]; exact ⟨(Ne.symm (nd_ne ND (i := 0) (j := 10) rfl rfl (by decide))), (nd_ne ND (i := 10) (j := 12) rfl rfl (by decide)), (nd_ne ND (i := 10) (j := 13) rfl rfl (by decide))⟩) e_995
      have e_1049 := r_1035 out_ _ (by simp only [List.mem_cons, List.not_mem_nil, or_false, not_or]; exact ⟨(Ne.symm (nd_ne ND (i := 0) (j := 11) rfl rfl (by decide))), (nd_ne ND (i := 11) (j := 12) rfl rfl (by decide)), (nd_ne ND (i := 11) (j := 13) rfl rfl (by decide))⟩) e_996
      have r_1050 := r_999.trans (r_1035.mono (by simp))
      have g_1051 : fs_1028[(28 : Nat)]? = some (.int (nI (bl fa asz p))) := (ga_1032 28 (by decide)).trans g_1000
      have g_1052 : fs_1028[(29 : Nat)]? = some (.int (nI (rkd (kdP fa asz p)))) := (ga_1032 29 (by decide)).trans g_1001
      have g_1053 : fs_1028[(30 : Nat)]? = some (.int (nI (bl fa asz p))) := (ga_1032 30 (by decide)).trans g_1002
      have g_1054 : fs_1028[(31 : Nat)]? = some (.int (nI y)) := (ga_1032 31 (by decide)).trans g_1003
      have g_1055 : fs_1028[(34 : Nat)]? = some (.int (nI ph.length)) := (ga_1032 34 (by decide)).trans g_1004
      have g_1056 : fs_1028[(35 : Nat)]? = some (.int (nI t)) := (ga_1032 35 (by decide)).trans g_1005
      have g_1057 : fs_1028[(36 : Nat)]? = some (.int (nI gr.length)) := (ga_1032 36 (by decide)).trans g_1006
      have g_1058 : fs_1028[(37 : Nat)]? = some (.int (nI o.length)) := (ga_1032 37 (by decide)).trans g_1007
      have g_1059 : fs_1028[(39 : Nat)]? = some (.int (nI mk)) := (ga_1032 39 (by decide)).trans g_1009
      have g_1060 : fs_1028[(61 : Nat)]? = some (.int (b01 false)) := (ga_1032 61 (by decide)).trans g_1010
      have g_1061 : fs_1028[(4 : Nat)]? = some (.ref asked_) := (ga_1032 4 (by decide)).trans g_1011
      have g_1062 : fs_1028[(41 : Nat)]? = some (.ref firstToken_) := (ga_1032 41 (by decide)).trans g_1012
      have g_1063 : fs_1028[(42 : Nat)]? = some (.ref starred_) := (ga_1032 42 (by decide)).trans g_1013
      have g_1064 : fs_1028[(43 : Nat)]? = some (.ref tokenAt_) := (ga_1032 43 (by decide)).trans g_1014
      have g_1065 : fs_1028[(44 : Nat)]? = some (.ref tokenSize_) := (ga_1032 44 (by decide)).trans g_1015
      have g_1066 : fs_1028[(45 : Nat)]? = some (.ref groupKind_) := (ga_1032 45 (by decide)).trans g_1016
      have g_1067 : fs_1028[(46 : Nat)]? = some (.ref groupPhrase_) := (ga_1032 46 (by decide)).trans g_1017
      have g_1068 : fs_1028[(47 : Nat)]? = some (.ref groupSize_) := (ga_1032 47 (by decide)).trans g_1018
      have g_1069 : fs_1028[(48 : Nat)]? = some (.ref groupMask_) := (ga_1032 48 (by decide)).trans g_1019
      have g_1070 : fs_1028[(49 : Nat)]? = some (.ref groupFar_) := (ga_1032 49 (by decide)).trans g_1020
      have g_1071 : fs_1028[(50 : Nat)]? = some (.ref out_) := (ga_1032 50 (by decide)).trans g_1021
      have g_1072 : fs_1028[(51 : Nat)]? = some (.ref top_) := (ga_1032 51 (by decide)).trans g_1022
      have g_1073 : fs_1028[(52 : Nat)]? = some (.ref masks_) := (ga_1032 52 (by decide)).trans g_1023
      have g_1074 : fs_1028[(11 : Nat)]? = some (.int (nI asz)) := (ga_1032 11 (by decide)).trans g_1024
      have g_1075 : fs_1028[(33 : Nat)]? = some (.int bd_973) := (ga_1032 33 (by decide)).trans g_980
      have ga_1076 : ∀ i : Nat, i ∉ [28, 29, 30, 31, 33, 34, 35, 36, 37, 38, 39, 61] → fs_1028[i]? = fs[i]? := fun i hi => (ga_1032 i (fun z => hi (by simp only [List.mem_cons, List.not_mem_nil, or_false] at z ⊢; omega))).trans (ga_1025 i hi)
      refine s_Model_atom_35 ?_
      have hk_1077 : kdP fa asz p = 9 := ((rk_iff _ (kdP_le fa asz p)).2.2.1).mp ((nI_eq (b := 3) (by have := rk_le _ (kdP_le fa asz p); omega) (by decide)).mp z_2)
      have hE_1090 := HY (by rw [hk_1077]; decide)
      rw [hE_1090] at g_1054
      refine x_callV (As := []) (b := m) (rest := []) (F1 := 4) (L1 := 87) (mc := 0) (ms := 0) d_Model_atom_36 cV_Model_257 (f_nextH (x0 := (skP fa asz p)) l_1029 e_1030 g_1051 g_1052 g_1053 g_1054 g_1074 g_1061 e_1039 (by rw [← hE_1090]; exact PT.2.1) hasz (by omega) (by omega)) e_1030 ⟨by decide, rfl⟩ ⟨by omega, by show 8 + (1 + 11) + 87 ≤ _; omega⟩ ⟨by omega, by omega⟩ (Nat.le_of_ble_eq_true rfl) (fun v_1092 h_1091 p_1093 => ?_)
      obtain ⟨rfl, y_1078, fs_1079, PT_1080, HY_1081, l_1082, e_1083, g_1084, g_1085, g_1086, g_1087, ga_1088, r_1089⟩ := p_1093
      have e_1094 := r_1089 asked_ _ (by simp only [List.mem_cons, List.not_mem_nil, or_false, not_or]; exact (Ne.symm (nd_ne ND (i := 0) (j := 1) rfl rfl (by decide)))) e_1039
      have e_1095 := r_1089 firstToken_ _ (by simp only [List.mem_cons, List.not_mem_nil, or_false, not_or]; exact (Ne.symm (nd_ne ND (i := 0) (j := 2) rfl rfl (by decide)))) e_1040
      have e_1096 := r_1089 starred_ _ (by simp only [List.mem_cons, List.not_mem_nil, or_false, not_or]; exact (Ne.symm (nd_ne ND (i := 0) (j := 3) rfl rfl (by decide)))) e_1041
      have e_1097 := r_1089 tokenAt_ _ (by simp only [List.mem_cons, List.not_mem_nil, or_false, not_or]; exact (Ne.symm (nd_ne ND (i := 0) (j := 4) rfl rfl (by decide)))) e_1042
      have e_1098 := r_1089 tokenSize_ _ (by simp only [List.mem_cons, List.not_mem_nil, or_false, not_or]; exact (Ne.symm (nd_ne ND (i := 0) (j := 5) rfl rfl (by decide)))) e_1043
      have e_1099 := r_1089 groupKind_ _ (by simp only [List.mem_cons, List.not_mem_nil, or_false, not_or]; exact (Ne.symm (nd_ne ND (i := 0) (j := 6) rfl rfl (by decide)))) e_1044
      have e_1100 := r_1089 groupPhrase_ _ (by simp only [List.mem_cons, List.not_mem_nil, or_false, not_or]; exact (Ne.symm (nd_ne ND (i := 0) (j := 7) rfl rfl (by decide)))) e_1045
      have e_1101 := r_1089 groupSize_ _ (by simp only [List.mem_cons, List.not_mem_nil, or_false, not_or]; exact (Ne.symm (nd_ne ND (i := 0) (j := 8) rfl rfl (by decide)))) e_1046
      have e_1102 := r_1089 groupMask_ _ (by simp only [List.mem_cons, List.not_mem_nil, or_false, not_or]; exact (Ne.symm (nd_ne ND (i := 0) (j := 9) rfl rfl (by decide)))) e_1047
      have e_1103 := r_1089 groupFar_ _ (by simp only [List.mem_cons, List.not_mem_nil, or_false, not_or]; exact (Ne.symm (nd_ne ND (i := 0) (j := 10) rfl rfl (by decide)))) e_1048
      have e_1104 := r_1089 out_ _ (by simp only [List.mem_cons, List.not_mem_nil, or_false, not_or]; exact (Ne.symm (nd_ne ND (i := 0) (j := 11) rfl rfl (by decide)))) e_1049
      have e_1105 := r_1089 top_ _ (by simp only [List.mem_cons, List.not_mem_nil, or_false, not_or]; exact (Ne.symm (nd_ne ND (i := 0) (j := 12) rfl rfl (by decide)))) e_1033
      have e_1106 := r_1089 masks_ _ (by simp only [List.mem_cons, List.not_mem_nil, or_false, not_or]; exact (Ne.symm (nd_ne ND (i := 0) (j := 13) rfl rfl (by decide)))) e_1034
      have r_1107 := r_1050.trans (r_1089.mono (by simp))
      have g_1108 : fs_1079[(34 : Nat)]? = some (.int (nI ph.length)) := (ga_1088 34 (by decide)).trans g_1055
      have g_1109 : fs_1079[(35 : Nat)]? = some (.int (nI t)) := (ga_1088 35 (by decide)).trans g_1056
      have g_1110 : fs_1079[(36 : Nat)]? = some (.int (nI gr.length)) := (ga_1088 36 (by decide)).trans g_1057
      have g_1111 : fs_1079[(37 : Nat)]? = some (.int (nI o.length)) := (ga_1088 37 (by decide)).trans g_1058
      have g_1112 : fs_1079[(39 : Nat)]? = some (.int (nI mk)) := (ga_1088 39 (by decide)).trans g_1059
      have g_1113 : fs_1079[(61 : Nat)]? = some (.int (b01 false)) := (ga_1088 61 (by decide)).trans g_1060
      have g_1114 : fs_1079[(4 : Nat)]? = some (.ref asked_) := (ga_1088 4 (by decide)).trans g_1061
      have g_1115 : fs_1079[(41 : Nat)]? = some (.ref firstToken_) := (ga_1088 41 (by decide)).trans g_1062
      have g_1116 : fs_1079[(42 : Nat)]? = some (.ref starred_) := (ga_1088 42 (by decide)).trans g_1063
      have g_1117 : fs_1079[(43 : Nat)]? = some (.ref tokenAt_) := (ga_1088 43 (by decide)).trans g_1064
      have g_1118 : fs_1079[(44 : Nat)]? = some (.ref tokenSize_) := (ga_1088 44 (by decide)).trans g_1065
      have g_1119 : fs_1079[(45 : Nat)]? = some (.ref groupKind_) := (ga_1088 45 (by decide)).trans g_1066
      have g_1120 : fs_1079[(46 : Nat)]? = some (.ref groupPhrase_) := (ga_1088 46 (by decide)).trans g_1067
      have g_1121 : fs_1079[(47 : Nat)]? = some (.ref groupSize_) := (ga_1088 47 (by decide)).trans g_1068
      have g_1122 : fs_1079[(48 : Nat)]? = some (.ref groupMask_) := (ga_1088 48 (by decide)).trans g_1069
      have g_1123 : fs_1079[(49 : Nat)]? = some (.ref groupFar_) := (ga_1088 49 (by decide)).trans g_1070
      have g_1124 : fs_1079[(50 : Nat)]? = some (.ref out_) := (ga_1088 50 (by decide)).trans g_1071
      have g_1125 : fs_1079[(51 : Nat)]? = some (.ref top_) := (ga_1088 51 (by decide)).trans g_1072
      have g_1126 : fs_1079[(52 : Nat)]? = some (.ref masks_) := (ga_1088 52 (by decide)).trans g_1073
      have g_1127 : fs_1079[(11 : Nat)]? = some (.int (nI asz)) := (ga_1088 11 (by decide)).trans g_1074
      have g_1128 : fs_1079[(33 : Nat)]? = some (.int bd_973) := (ga_1088 33 (by decide)).trans g_1075
      have g_1129 : fs_1079[(38 : Nat)]? = some (.int (nI (st.length + 1))) := (ga_1088 38 (by decide)).trans g_1031
      have ga_1130 : ∀ i : Nat, i ∉ [28, 29, 30, 31, 33, 34, 35, 36, 37, 38, 39, 61] → fs_1079[i]? = fs[i]? := fun i hi => (ga_1088 i (fun z => hi (by simp only [List.mem_cons, List.not_mem_nil, or_false] at z ⊢; omega))).trans (ga_1076 i hi)
      have RQ_1131 := RQ.next (by rw [hk_1077]; decide) (by rw [hk_1077]; decide)
      have hb_1132 := Nat.le_trans PT_1080.1 PT_1080.2.1
      refine x_le (xw_le_n xw_le_e) ?_
      refine s_Model_atom_39 ?_
      refine s_Model_atom_111 ?_
      have hd_1133 : ¬ depS st = 8 := fun q => z_971 (by rw [q]; rfl)
      exact ⟨rfl, Or.inr ⟨_, sp_py hk_1077 hd_1133, ⟨_, _, _, _, _, _, _, _, _, _, _, _, _, _, _, _, PT_1080, HY_1081, RQ_1131, GR, OU, OG, (ST.push (a := 5) (by omega) (by omega) hmk), hb_1026, hp12, hgp, hmk, (by show depS ((5, mk) :: st) ≤ 8; rw [depS, if_pos (show 5 ≤ ((5 : Nat), mk).1 from Nat.le_refl 5)]; omega), (by show o.length + cJ ((5, mk) :: st) + 0 = 2 * gr.length; rw [cJ, if_neg (show ¬ ((5 : Nat), mk).1 < 5 from Nat.lt_irrefl 5)]; simp only [Bool.false_eq_true, if_false] at hcn; omega), l_1082, e_1083, g_1084, g_1085, g_1086, g_1087, g_1128, g_1108, g_1109, g_1110, g_1111, g_1129, g_1112, g_1113, fun i hi => (ga_1130 i hi).trans (gq i hi), e_1095, e_1096, e_1097, e_1098, e_1099, e_1100, e_1101, e_1102, e_1103, e_1104, e_1105, e_1106, rq.trans r_1107⟩⟩⟩
    · skip
      refine s_Model_atom_18 ?_
      refine s_Model_atom_23 l e gz_30 ?_
      refine x_callV (As := [.int 1, .int (nI (bl fa asz p))]) (b := m) (rest := []) (F1 := 1) (L1 := 20) (mc := 0) (ms := 0) d_Model_atom_27 cV_Model_250 (f_wrongsH (k := bl fa asz p) l e gz_33 (by omega) (by omega) (by omega)) e ⟨by decide, rfl⟩ ⟨by omega, by show 8 + (3 + 11) + 20 ≤ _; omega⟩ ⟨by omega, by omega⟩ (Nat.le_of_ble_eq_true rfl) (fun v_1145 h_1144 p_1146 => ?_)
      obtain ⟨rfl, bd_1134, fs_1135, hw_1136, hw_1137, hw_1138, l_1139, e_1140, g_1141, ga_1142, r_1143⟩ := p_1146
      have e_1147 := r_1143 asked_ _ (by simp only [List.mem_cons, List.not_mem_nil, or_false, not_or]; exact (Ne.symm (nd_ne ND (i := 0) (j := 1) rfl rfl (by decide)))) e_asked
      have e_1148 := r_1143 firstToken_ _ (by simp only [List.mem_cons, List.not_mem_nil, or_false, not_or]; exact (Ne.symm (nd_ne ND (i := 0) (j := 2) rfl rfl (by decide)))) e_firstToken
      have e_1149 := r_1143 starred_ _ (by simp only [List.mem_cons, List.not_mem_nil, or_false, not_or]; exact (Ne.symm (nd_ne ND (i := 0) (j := 3) rfl rfl (by decide)))) e_starred
      have e_1150 := r_1143 tokenAt_ _ (by simp only [List.mem_cons, List.not_mem_nil, or_false, not_or]; exact (Ne.symm (nd_ne ND (i := 0) (j := 4) rfl rfl (by decide)))) e_tokenAt
      have e_1151 := r_1143 tokenSize_ _ (by simp only [List.mem_cons, List.not_mem_nil, or_false, not_or]; exact (Ne.symm (nd_ne ND (i := 0) (j := 5) rfl rfl (by decide)))) e_tokenSize
      have e_1152 := r_1143 groupKind_ _ (by simp only [List.mem_cons, List.not_mem_nil, or_false, not_or]; exact (Ne.symm (nd_ne ND (i := 0) (j := 6) rfl rfl (by decide)))) e_groupKind
      have e_1153 := r_1143 groupPhrase_ _ (by simp only [List.mem_cons, List.not_mem_nil, or_false, not_or]; exact (Ne.symm (nd_ne ND (i := 0) (j := 7) rfl rfl (by decide)))) e_groupPhrase
      have e_1154 := r_1143 groupSize_ _ (by simp only [List.mem_cons, List.not_mem_nil, or_false, not_or]; exact (Ne.symm (nd_ne ND (i := 0) (j := 8) rfl rfl (by decide)))) e_groupSize
      have e_1155 := r_1143 groupMask_ _ (by simp only [List.mem_cons, List.not_mem_nil, or_false, not_or]; exact (Ne.symm (nd_ne ND (i := 0) (j := 9) rfl rfl (by decide)))) e_groupMask
      have e_1156 := r_1143 groupFar_ _ (by simp only [List.mem_cons, List.not_mem_nil, or_false, not_or]; exact (Ne.symm (nd_ne ND (i := 0) (j := 10) rfl rfl (by decide)))) e_groupFar
      have e_1157 := r_1143 out_ _ (by simp only [List.mem_cons, List.not_mem_nil, or_false, not_or]; exact (Ne.symm (nd_ne ND (i := 0) (j := 11) rfl rfl (by decide)))) e_out
      have e_1158 := r_1143 top_ _ (by simp only [List.mem_cons, List.not_mem_nil, or_false, not_or]; exact (Ne.symm (nd_ne ND (i := 0) (j := 12) rfl rfl (by decide)))) e_top
      have e_1159 := r_1143 masks_ _ (by simp only [List.mem_cons, List.not_mem_nil, or_false, not_or]; exact (Ne.symm (nd_ne ND (i := 0) (j := 13) rfl rfl (by decide)))) e_masks
      have r_1160 := r0.trans (r_1143.mono (by simp))
      have g_1161 : fs_1135[(28 : Nat)]? = some (.int (nI (bl fa asz p))) := (ga_1142 28 (by decide)).trans gz_28
      have g_1162 : fs_1135[(29 : Nat)]? = some (.int (nI (rkd (kdP fa asz p)))) := (ga_1142 29 (by decide)).trans gz_29
      have g_1163 : fs_1135[(30 : Nat)]? = some (.int (nI (bl fa asz p))) := (ga_1142 30 (by decide)).trans gz_30
      have g_1164 : fs_1135[(31 : Nat)]? = some (.int (nI y)) := (ga_1142 31 (by decide)).trans gz_31
      have g_1165 : fs_1135[(34 : Nat)]? = some (.int (nI ph.length)) := (ga_1142 34 (by decide)).trans gz_34
      have g_1166 : fs_1135[(35 : Nat)]? = some (.int (nI t)) := (ga_1142 35 (by decide)).trans gz_35
      have g_1167 : fs_1135[(36 : Nat)]? = some (.int (nI gr.length)) := (ga_1142 36 (by decide)).trans gz_36
      have g_1168 : fs_1135[(37 : Nat)]? = some (.int (nI o.length)) := (ga_1142 37 (by decide)).trans gz_37
      have g_1169 : fs_1135[(38 : Nat)]? = some (.int (nI st.length)) := (ga_1142 38 (by decide)).trans gz_38
      have g_1170 : fs_1135[(39 : Nat)]? = some (.int (nI mk)) := (ga_1142 39 (by decide)).trans gz_39
      have g_1171 : fs_1135[(61 : Nat)]? = some (.int (b01 false)) := (ga_1142 61 (by decide)).trans gz_61
      have g_1172 : fs_1135[(4 : Nat)]? = some (.ref asked_) := (ga_1142 4 (by decide)).trans g_asked
      have g_1173 : fs_1135[(41 : Nat)]? = some (.ref firstToken_) := (ga_1142 41 (by decide)).trans g_firstToken
      have g_1174 : fs_1135[(42 : Nat)]? = some (.ref starred_) := (ga_1142 42 (by decide)).trans g_starred
      have g_1175 : fs_1135[(43 : Nat)]? = some (.ref tokenAt_) := (ga_1142 43 (by decide)).trans g_tokenAt
      have g_1176 : fs_1135[(44 : Nat)]? = some (.ref tokenSize_) := (ga_1142 44 (by decide)).trans g_tokenSize
      have g_1177 : fs_1135[(45 : Nat)]? = some (.ref groupKind_) := (ga_1142 45 (by decide)).trans g_groupKind
      have g_1178 : fs_1135[(46 : Nat)]? = some (.ref groupPhrase_) := (ga_1142 46 (by decide)).trans g_groupPhrase
      have g_1179 : fs_1135[(47 : Nat)]? = some (.ref groupSize_) := (ga_1142 47 (by decide)).trans g_groupSize
      have g_1180 : fs_1135[(48 : Nat)]? = some (.ref groupMask_) := (ga_1142 48 (by decide)).trans g_groupMask
      have g_1181 : fs_1135[(49 : Nat)]? = some (.ref groupFar_) := (ga_1142 49 (by decide)).trans g_groupFar
      have g_1182 : fs_1135[(50 : Nat)]? = some (.ref out_) := (ga_1142 50 (by decide)).trans g_out
      have g_1183 : fs_1135[(51 : Nat)]? = some (.ref top_) := (ga_1142 51 (by decide)).trans g_top
      have g_1184 : fs_1135[(52 : Nat)]? = some (.ref masks_) := (ga_1142 52 (by decide)).trans g_masks
      have g_1185 : fs_1135[(11 : Nat)]? = some (.int (nI asz)) := (ga_1142 11 (by decide)).trans g_askedSize
      have ga_1186 : ∀ i : Nat, i ∉ [28, 29, 30, 31, 33, 34, 35, 36, 37, 38, 39, 61] → fs_1135[i]? = fs[i]? := fun i hi => (ga_1142 i (fun z => hi (by simp only [List.mem_cons, List.not_mem_nil, or_false] at z ⊢; omega))).trans (ga0 i hi)
      have hb_1187 : ¬ bd_1134 < 0 := hw_1137 (by decide)
      have hb_1188 : 0 ≤ bd_1134 := Int32.not_lt.mp hb_1187
      refine s_Model_atom_30 ?_
      refine x_callV (As := [.int 5]) (b := m) (rest := []) (F1 := 1) (L1 := 20) (mc := 0) (ms := 0) d_Model_atom_32 cV_Model_285 (f_pushesH (n := st.length) (mk := mk) l_1139 e_1140 g_1169 g_1170 g_1183 e_1158 g_1184 e_1159 (nd_ne ND (i := 12) (j := 13) rfl rfl (by decide)) (by omega) (by omega) (by omega)) e_1140 ⟨by decide, rfl⟩ ⟨by omega, by show 8 + (2 + 11) + 20 ≤ _; omega⟩ ⟨by omega, by omega⟩ (Nat.le_of_ble_eq_true rfl) (fun v_1198 h_1197 p_1199 => ?_)
      obtain ⟨rfl, fs_1189, l_1190, e_1191, g_1192, ga_1193, e_1194, e_1195, r_1196⟩ := p_1199
      have e_1200 := r_1196 asked_ _ (by simp only [List.mem_cons, List.not_mem_nil, or_false, not_or]; exact ⟨(Ne.symm (nd_ne ND (i := 0) (j := 1) rfl rfl (by decide))), (nd_ne ND (i := 1) (j := 12) rfl rfl (by decide)), (nd_ne ND (i := 1) (j := 13) rfl rfl (by decide))⟩) e_1147
      have e_1201 := r_1196 firstToken_ _ (by simp only [List.mem_cons, List.not_mem_nil, or_false, not_or]; exact ⟨(Ne.symm (nd_ne ND (i := 0) (j := 2) rfl rfl (by decide))), (nd_ne ND (i := 2) (j := 12) rfl rfl (by decide)), (nd_ne ND (i := 2) (j := 13) rfl rfl (by decide))⟩) e_1148
      have e_1202 := r_1196 starred_ _ (by simp only [List.mem_cons, List.not_mem_nil, or_false, not_or]; exact ⟨(Ne.symm (nd_ne ND (i := 0) (j := 3) rfl rfl (by decide))), (nd_ne ND (i := 3) (j := 12) rfl rfl (by decide)), (nd_ne ND (i := 3) (j := 13) rfl rfl (by decide))⟩) e_1149
      have e_1203 := r_1196 tokenAt_ _ (by simp only [List.mem_cons, List.not_mem_nil, or_false, not_or]; exact ⟨(Ne.symm (nd_ne ND (i := 0) (j := 4) rfl rfl (by decide))), (nd_ne ND (i := 4) (j := 12) rfl rfl (by decide)), (nd_ne ND (i := 4) (j := 13) rfl rfl (by decide))⟩) e_1150
      have e_1204 := r_1196 tokenSize_ _ (by simp only [List.mem_cons, List.not_mem_nil, or_false, not_or]; exact ⟨(Ne.symm (nd_ne ND (i := 0) (j := 5) rfl rfl (by decide))), (nd_ne ND (i := 5) (j := 12) rfl rfl (by decide)), (nd_ne ND (i := 5) (j := 13) rfl rfl (by decide))⟩) e_1151
      have e_1205 := r_1196 groupKind_ _ (by simp only [List.mem_cons, List.not_mem_nil, or_false, not_or]; exact ⟨(Ne.symm (nd_ne ND (i := 0) (j := 6) rfl rfl (by decide))), (nd_ne ND (i := 6) (j := 12) rfl rfl (by decide)), (nd_ne ND (i := 6) (j := 13) rfl rfl (by decide))⟩) e_1152
      have e_1206 := r_1196 groupPhrase_ _ (by simp only [List.mem_cons, List.not_mem_nil, or_false, not_or]; exact ⟨(Ne.symm (nd_ne ND (i := 0) (j := 7) rfl rfl (by decide))), (nd_ne ND (i := 7) (j := 12) rfl rfl (by decide)), (nd_ne ND (i := 7) (j := 13) rfl rfl (by decide))⟩) e_1153
      have e_1207 := r_1196 groupSize_ _ (by simp only [List.mem_cons, List.not_mem_nil, or_false, not_or]; exact ⟨(Ne.symm (nd_ne ND (i := 0) (j := 8) rfl rfl (by decide))), (nd_ne ND (i := 8) (j := 12) rfl rfl (by decide)), (nd_ne ND (i := 8) (j := 13) rfl rfl (by decide))⟩) e_1154
      have e_1208 := r_1196 groupMask_ _ (by simp only [List.mem_cons, List.not_mem_nil, or_false, not_or]; exact ⟨(Ne.symm (nd_ne ND (i := 0) (j := 9) rfl rfl (by decide))), (nd_ne ND (i := 9) (j := 12) rfl rfl (by decide)), (nd_ne ND (i := 9) (j := 13) rfl rfl (by decide))⟩) e_1155
      have e_1209 := r_1196 groupFar_ _ (by simp only [List.mem_cons, List.not_mem_nil, or_false, not_or]; exact ⟨(Ne.symm (nd_ne ND (i := 0) (j := 10) rfl rfl (by decide))), (nd_ne ND (i := 10) (j := 12) rfl rfl (by decide)), (nd_ne ND (i := 10) (j := 13) rfl rfl (by decide))⟩) e_1156
      have e_1210 := r_1196 out_ _ (by simp only [List.mem_cons, List.not_mem_nil, or_false, not_or]; exact ⟨(Ne.symm (nd_ne ND (i := 0) (j := 11) rfl rfl (by decide))), (nd_ne ND (i := 11) (j := 12) rfl rfl (by decide)), (nd_ne ND (i := 11) (j := 13) rfl rfl (by decide))⟩) e_1157
      have r_1211 := r_1160.trans (r_1196.mono (by simp))
      have g_1212 : fs_1189[(28 : Nat)]? = some (.int (nI (bl fa asz p))) := (ga_1193 28 (by decide)).trans g_1161
      have g_1213 : fs_1189[(29 : Nat)]? = some (.int (nI (rkd (kdP fa asz p)))) := (ga_1193 29 (by decide)).trans g_1162
      have g_1214 : fs_1189[(30 : Nat)]? = some (.int (nI (bl fa asz p))) := (ga_1193 30 (by decide)).trans g_1163
      have g_1215 : fs_1189[(31 : Nat)]? = some (.int (nI y)) := (ga_1193 31 (by decide)).trans g_1164
      have g_1216 : fs_1189[(34 : Nat)]? = some (.int (nI ph.length)) := (ga_1193 34 (by decide)).trans g_1165
      have g_1217 : fs_1189[(35 : Nat)]? = some (.int (nI t)) := (ga_1193 35 (by decide)).trans g_1166
      have g_1218 : fs_1189[(36 : Nat)]? = some (.int (nI gr.length)) := (ga_1193 36 (by decide)).trans g_1167
      have g_1219 : fs_1189[(37 : Nat)]? = some (.int (nI o.length)) := (ga_1193 37 (by decide)).trans g_1168
      have g_1220 : fs_1189[(39 : Nat)]? = some (.int (nI mk)) := (ga_1193 39 (by decide)).trans g_1170
      have g_1221 : fs_1189[(61 : Nat)]? = some (.int (b01 false)) := (ga_1193 61 (by decide)).trans g_1171
      have g_1222 : fs_1189[(4 : Nat)]? = some (.ref asked_) := (ga_1193 4 (by decide)).trans g_1172
      have g_1223 : fs_1189[(41 : Nat)]? = some (.ref firstToken_) := (ga_1193 41 (by decide)).trans g_1173
      have g_1224 : fs_1189[(42 : Nat)]? = some (.ref starred_) := (ga_1193 42 (by decide)).trans g_1174
      have g_1225 : fs_1189[(43 : Nat)]? = some (.ref tokenAt_) := (ga_1193 43 (by decide)).trans g_1175
      have g_1226 : fs_1189[(44 : Nat)]? = some (.ref tokenSize_) := (ga_1193 44 (by decide)).trans g_1176
      have g_1227 : fs_1189[(45 : Nat)]? = some (.ref groupKind_) := (ga_1193 45 (by decide)).trans g_1177
      have g_1228 : fs_1189[(46 : Nat)]? = some (.ref groupPhrase_) := (ga_1193 46 (by decide)).trans g_1178
      have g_1229 : fs_1189[(47 : Nat)]? = some (.ref groupSize_) := (ga_1193 47 (by decide)).trans g_1179
      have g_1230 : fs_1189[(48 : Nat)]? = some (.ref groupMask_) := (ga_1193 48 (by decide)).trans g_1180
      have g_1231 : fs_1189[(49 : Nat)]? = some (.ref groupFar_) := (ga_1193 49 (by decide)).trans g_1181
      have g_1232 : fs_1189[(50 : Nat)]? = some (.ref out_) := (ga_1193 50 (by decide)).trans g_1182
      have g_1233 : fs_1189[(51 : Nat)]? = some (.ref top_) := (ga_1193 51 (by decide)).trans g_1183
      have g_1234 : fs_1189[(52 : Nat)]? = some (.ref masks_) := (ga_1193 52 (by decide)).trans g_1184
      have g_1235 : fs_1189[(11 : Nat)]? = some (.int (nI asz)) := (ga_1193 11 (by decide)).trans g_1185
      have g_1236 : fs_1189[(33 : Nat)]? = some (.int bd_1134) := (ga_1193 33 (by decide)).trans g_1141
      have ga_1237 : ∀ i : Nat, i ∉ [28, 29, 30, 31, 33, 34, 35, 36, 37, 38, 39, 61] → fs_1189[i]? = fs[i]? := fun i hi => (ga_1193 i (fun z => hi (by simp only [List.mem_cons, List.not_mem_nil, or_false] at z ⊢; omega))).trans (ga_1186 i hi)
      refine s_Model_atom_35 ?_
      have hk_1238 : kdP fa asz p = 9 := ((rk_iff _ (kdP_le fa asz p)).2.2.1).mp ((nI_eq (b := 3) (by have := rk_le _ (kdP_le fa asz p); omega) (by decide)).mp z_2)
      have hE_1251 := HY (by rw [hk_1238]; decide)
      rw [hE_1251] at g_1215
      refine x_callV (As := []) (b := m) (rest := []) (F1 := 4) (L1 := 87) (mc := 0) (ms := 0) d_Model_atom_36 cV_Model_257 (f_nextH (x0 := (skP fa asz p)) l_1190 e_1191 g_1212 g_1213 g_1214 g_1215 g_1235 g_1222 e_1200 (by rw [← hE_1251]; exact PT.2.1) hasz (by omega) (by omega)) e_1191 ⟨by decide, rfl⟩ ⟨by omega, by show 8 + (1 + 11) + 87 ≤ _; omega⟩ ⟨by omega, by omega⟩ (Nat.le_of_ble_eq_true rfl) (fun v_1253 h_1252 p_1254 => ?_)
      obtain ⟨rfl, y_1239, fs_1240, PT_1241, HY_1242, l_1243, e_1244, g_1245, g_1246, g_1247, g_1248, ga_1249, r_1250⟩ := p_1254
      have e_1255 := r_1250 asked_ _ (by simp only [List.mem_cons, List.not_mem_nil, or_false, not_or]; exact (Ne.symm (nd_ne ND (i := 0) (j := 1) rfl rfl (by decide)))) e_1200
      have e_1256 := r_1250 firstToken_ _ (by simp only [List.mem_cons, List.not_mem_nil, or_false, not_or]; exact (Ne.symm (nd_ne ND (i := 0) (j := 2) rfl rfl (by decide)))) e_1201
      have e_1257 := r_1250 starred_ _ (by simp only [List.mem_cons, List.not_mem_nil, or_false, not_or]; exact (Ne.symm (nd_ne ND (i := 0) (j := 3) rfl rfl (by decide)))) e_1202
      have e_1258 := r_1250 tokenAt_ _ (by simp only [List.mem_cons, List.not_mem_nil, or_false, not_or]; exact (Ne.symm (nd_ne ND (i := 0) (j := 4) rfl rfl (by decide)))) e_1203
      have e_1259 := r_1250 tokenSize_ _ (by simp only [List.mem_cons, List.not_mem_nil, or_false, not_or]; exact (Ne.symm (nd_ne ND (i := 0) (j := 5) rfl rfl (by decide)))) e_1204
      have e_1260 := r_1250 groupKind_ _ (by simp only [List.mem_cons, List.not_mem_nil, or_false, not_or]; exact (Ne.symm (nd_ne ND (i := 0) (j := 6) rfl rfl (by decide)))) e_1205
      have e_1261 := r_1250 groupPhrase_ _ (by simp only [List.mem_cons, List.not_mem_nil, or_false, not_or]; exact (Ne.symm (nd_ne ND (i := 0) (j := 7) rfl rfl (by decide)))) e_1206
      have e_1262 := r_1250 groupSize_ _ (by simp only [List.mem_cons, List.not_mem_nil, or_false, not_or]; exact (Ne.symm (nd_ne ND (i := 0) (j := 8) rfl rfl (by decide)))) e_1207
      have e_1263 := r_1250 groupMask_ _ (by simp only [List.mem_cons, List.not_mem_nil, or_false, not_or]; exact (Ne.symm (nd_ne ND (i := 0) (j := 9) rfl rfl (by decide)))) e_1208
      have e_1264 := r_1250 groupFar_ _ (by simp only [List.mem_cons, List.not_mem_nil, or_false, not_or]; exact (Ne.symm (nd_ne ND (i := 0) (j := 10) rfl rfl (by decide)))) e_1209
      have e_1265 := r_1250 out_ _ (by simp only [List.mem_cons, List.not_mem_nil, or_false, not_or]; exact (Ne.symm (nd_ne ND (i := 0) (j := 11) rfl rfl (by decide)))) e_1210
      have e_1266 := r_1250 top_ _ (by simp only [List.mem_cons, List.not_mem_nil, or_false, not_or]; exact (Ne.symm (nd_ne ND (i := 0) (j := 12) rfl rfl (by decide)))) e_1194
      have e_1267 := r_1250 masks_ _ (by simp only [List.mem_cons, List.not_mem_nil, or_false, not_or]; exact (Ne.symm (nd_ne ND (i := 0) (j := 13) rfl rfl (by decide)))) e_1195
      have r_1268 := r_1211.trans (r_1250.mono (by simp))
      have g_1269 : fs_1240[(34 : Nat)]? = some (.int (nI ph.length)) := (ga_1249 34 (by decide)).trans g_1216
      have g_1270 : fs_1240[(35 : Nat)]? = some (.int (nI t)) := (ga_1249 35 (by decide)).trans g_1217
      have g_1271 : fs_1240[(36 : Nat)]? = some (.int (nI gr.length)) := (ga_1249 36 (by decide)).trans g_1218
      have g_1272 : fs_1240[(37 : Nat)]? = some (.int (nI o.length)) := (ga_1249 37 (by decide)).trans g_1219
      have g_1273 : fs_1240[(39 : Nat)]? = some (.int (nI mk)) := (ga_1249 39 (by decide)).trans g_1220
      have g_1274 : fs_1240[(61 : Nat)]? = some (.int (b01 false)) := (ga_1249 61 (by decide)).trans g_1221
      have g_1275 : fs_1240[(4 : Nat)]? = some (.ref asked_) := (ga_1249 4 (by decide)).trans g_1222
      have g_1276 : fs_1240[(41 : Nat)]? = some (.ref firstToken_) := (ga_1249 41 (by decide)).trans g_1223
      have g_1277 : fs_1240[(42 : Nat)]? = some (.ref starred_) := (ga_1249 42 (by decide)).trans g_1224
      have g_1278 : fs_1240[(43 : Nat)]? = some (.ref tokenAt_) := (ga_1249 43 (by decide)).trans g_1225
      have g_1279 : fs_1240[(44 : Nat)]? = some (.ref tokenSize_) := (ga_1249 44 (by decide)).trans g_1226
      have g_1280 : fs_1240[(45 : Nat)]? = some (.ref groupKind_) := (ga_1249 45 (by decide)).trans g_1227
      have g_1281 : fs_1240[(46 : Nat)]? = some (.ref groupPhrase_) := (ga_1249 46 (by decide)).trans g_1228
      have g_1282 : fs_1240[(47 : Nat)]? = some (.ref groupSize_) := (ga_1249 47 (by decide)).trans g_1229
      have g_1283 : fs_1240[(48 : Nat)]? = some (.ref groupMask_) := (ga_1249 48 (by decide)).trans g_1230
      have g_1284 : fs_1240[(49 : Nat)]? = some (.ref groupFar_) := (ga_1249 49 (by decide)).trans g_1231
      have g_1285 : fs_1240[(50 : Nat)]? = some (.ref out_) := (ga_1249 50 (by decide)).trans g_1232
      have g_1286 : fs_1240[(51 : Nat)]? = some (.ref top_) := (ga_1249 51 (by decide)).trans g_1233
      have g_1287 : fs_1240[(52 : Nat)]? = some (.ref masks_) := (ga_1249 52 (by decide)).trans g_1234
      have g_1288 : fs_1240[(11 : Nat)]? = some (.int (nI asz)) := (ga_1249 11 (by decide)).trans g_1235
      have g_1289 : fs_1240[(33 : Nat)]? = some (.int bd_1134) := (ga_1249 33 (by decide)).trans g_1236
      have g_1290 : fs_1240[(38 : Nat)]? = some (.int (nI (st.length + 1))) := (ga_1249 38 (by decide)).trans g_1192
      have ga_1291 : ∀ i : Nat, i ∉ [28, 29, 30, 31, 33, 34, 35, 36, 37, 38, 39, 61] → fs_1240[i]? = fs[i]? := fun i hi => (ga_1249 i (fun z => hi (by simp only [List.mem_cons, List.not_mem_nil, or_false] at z ⊢; omega))).trans (ga_1237 i hi)
      have RQ_1292 := RQ.next (by rw [hk_1238]; decide) (by rw [hk_1238]; decide)
      have hb_1293 := Nat.le_trans PT_1241.1 PT_1241.2.1
      refine x_le (xw_le_n xw_le_e) ?_
      refine s_Model_atom_39 ?_
      refine s_Model_atom_111 ?_
      have hd_1294 : depS st = 8 := (nI_eq (b := 8) (by omega) (by decide)).mp z_972
      exact ⟨rfl, Or.inl ⟨sp_p8 hk_1238 hd_1294, ⟨o.length, (st.length + 1), _, _, _, _, _, _, _, _, _, _, _, _, _, _, hb_1187, (by omega), l_1243, e_1244, g_1289, g_1272, g_1290, (fun i9 hi9 => by simp only [List.mem_cons, List.not_mem_nil, or_false] at hi9; rcases hi9 with rfl | rfl | rfl | rfl | rfl | rfl | rfl | rfl | rfl <;> first | exact ⟨_, g_1245⟩ | exact ⟨_, g_1246⟩ | exact ⟨_, g_1247⟩ | exact ⟨_, g_1248⟩ | exact ⟨_, g_1269⟩ | exact ⟨_, g_1270⟩ | exact ⟨_, g_1271⟩ | exact ⟨_, g_1273⟩ | exact ⟨_, g_1274⟩), fun i hi => (ga_1291 i hi).trans (gq i hi), e_1256, e_1257, e_1258, e_1259, e_1260, e_1261, e_1262, e_1263, e_1264, e_1265, e_1266, e_1267, rq.trans r_1268⟩⟩⟩
