set_option maxHeartbeats 400000 in
theorem f_joinsH {G : xw_G} {F L : Nat} {h : xw_A} {lv mk : Nat} {st o : List EV} {x : Int32} {co ct cm : Nat → Int32} {out_ top_ masks_ : Nat} {m : Nat} {fs : List Value} (l : fs.length = 62) (e : h m = some (.inr (11, fs))) (g_outs : fs[(37 : Nat)]? = some (.int (nI o.length))) (g_tops : fs[(38 : Nat)]? = some (.int (nI st.length))) (g_mask : fs[(39 : Nat)]? = some (.int (nI mk))) (g_out : fs[(50 : Nat)]? = some (.ref out_)) (e_out : h out_ = some (.inl (0, 60, .inl (co)))) (g_top : fs[(51 : Nat)]? = some (.ref top_)) (e_top : h top_ = some (.inl (0, 60, .inl (ct)))) (g_masks : fs[(52 : Nat)]? = some (.ref masks_)) (e_masks : h masks_ = some (.inl (0, 60, .inl (cm)))) (n_out_top : out_ ≠ top_) (n_out_masks : out_ ≠ masks_) (n_top_masks : top_ ≠ masks_) (hon : o.length + st.length < 60) (hx : x = nI lv) (hlv1 : 1 ≤ lv) (hlv : lv ≤ 4) (ST : StR st ct cm) (OU : OuR o co) (hmk : mk ≤ 3) (hF : 2 ≤ F) (hL : 41 ≤ L) :
    xw_Met G m_Model_joins F L 0 0 [.ref m, .int x] h (fun v h' => v = none ∧ ∃ (co' ct' cm' : Nat → Int32) (fs' : List Value), fs'.length = 62 ∧ h' m = some (.inr (11, fs')) ∧ fs'[(37 : Nat)]? = some (.int (nI (redS lv st o).2.length)) ∧ fs'[(38 : Nat)]? = some (.int (nI ((redS lv st o).1.length + 1))) ∧ (∀ i : Nat, i ∉ [37, 38] → fs'[i]? = fs[i]?) ∧ h' out_ = some (.inl (0, 60, .inl co')) ∧ h' top_ = some (.inl (0, 60, .inl ct')) ∧ h' masks_ = some (.inl (0, 60, .inl cm')) ∧ StR ((lv, mk) :: (redS lv st o).1) ct' cm' ∧ OuR (redS lv st o).2 co' ∧ FrO [m, out_, top_, masks_] h h') (fun _ _ => False) := by
  refine xw_Met.of rfl (by decide) (Nat.le_of_ble_eq_true rfl) ?_
  have hcl := cJ_len st
  have ga0 : ∀ i : Nat, i ∉ [37, 38] → fs[i]? = fs[i]? := fun _ _ => rfl
  have r0 : FrO [m, out_, top_, masks_] h h := FrO.rf
  refine s_Model_joins_0 ?_
  refine x_callV (As := [.int x]) (b := m) (rest := []) (F1 := 1) (L1 := 20) (mc := 0) (ms := 0) d_Model_joins_2 cV_Model_281 (f_reducesH (lv := lv) (st := st) (o := o) (cm := cm) l e g_outs g_tops g_out e_out g_top e_top n_out_top (by omega) hx hlv1 hlv ST OU (by omega) (by omega)) e ⟨by decide, rfl⟩ ⟨by omega, by show 8 + (2 + 11) + 20 ≤ _; omega⟩ ⟨by omega, by omega⟩ (Nat.le_of_ble_eq_true rfl) (fun v_13 h_12 p_14 => ?_)
  obtain ⟨rfl, co_1, fs_2, l_3, e_4, g_5, g_6, ga_7, e_8, ST_9, OU_10, r_11⟩ := p_14
  have e_15 := r_11 top_ _ (by simp only [List.mem_cons, List.not_mem_nil, or_false, not_or]; exact ⟨(xw_neC e_top e (by simp)), (Ne.symm n_out_top)⟩) e_top
  have e_16 := r_11 masks_ _ (by simp only [List.mem_cons, List.not_mem_nil, or_false, not_or]; exact ⟨(xw_neC e_masks e (by simp)), (Ne.symm n_out_masks)⟩) e_masks
  have r_17 := r0.trans (r_11.mono (by simp))
  have g_18 : fs_2[(39 : Nat)]? = some (.int (nI mk)) := (ga_7 39 (by decide)).trans g_mask
  have g_19 : fs_2[(50 : Nat)]? = some (.ref out_) := (ga_7 50 (by decide)).trans g_out
  have g_20 : fs_2[(51 : Nat)]? = some (.ref top_) := (ga_7 51 (by decide)).trans g_top
  have g_21 : fs_2[(52 : Nat)]? = some (.ref masks_) := (ga_7 52 (by decide)).trans g_masks
  have ga_22 : ∀ i : Nat, i ∉ [37, 38] → fs_2[i]? = fs[i]? := fun i hi => (ga_7 i (fun z => hi (by simp only [List.mem_cons, List.not_mem_nil, or_false] at z ⊢; omega))).trans (ga0 i hi)
  have rk_23 := rd_kp (l := lv) st o
  have rk_24 := cJ_len (redS lv st o).1
  refine s_Model_joins_5 ?_
  refine x_callV (As := [.int x]) (b := m) (rest := []) (F1 := 1) (L1 := 20) (mc := 0) (ms := 0) d_Model_joins_7 cV_Model_285 (f_pushesH (n := (redS lv st o).1.length) (mk := mk) l_3 e_4 g_6 g_18 g_20 e_15 g_21 e_16 n_top_masks (by omega) (by omega) (by omega)) e_4 ⟨by decide, rfl⟩ ⟨by omega, by show 8 + (2 + 11) + 20 ≤ _; omega⟩ ⟨by omega, by omega⟩ (Nat.le_of_ble_eq_true rfl) (fun v_34 h_33 p_35 => ?_)
  obtain ⟨rfl, fs_25, l_26, e_27, g_28, ga_29, e_30, e_31, r_32⟩ := p_35
  have e_36 := r_32 out_ _ (by simp only [List.mem_cons, List.not_mem_nil, or_false, not_or]; exact ⟨(xw_neC e_8 e_4 (by simp)), n_out_top, n_out_masks⟩) e_8
  have r_37 := r_17.trans (r_32.mono (by simp))
  have g_38 : fs_25[(39 : Nat)]? = some (.int (nI mk)) := (ga_29 39 (by decide)).trans g_18
  have g_39 : fs_25[(50 : Nat)]? = some (.ref out_) := (ga_29 50 (by decide)).trans g_19
  have g_40 : fs_25[(51 : Nat)]? = some (.ref top_) := (ga_29 51 (by decide)).trans g_20
  have g_41 : fs_25[(52 : Nat)]? = some (.ref masks_) := (ga_29 52 (by decide)).trans g_21
  have g_42 : fs_25[(37 : Nat)]? = some (.int (nI (redS lv st o).2.length)) := (ga_29 37 (by decide)).trans g_5
  have ga_43 : ∀ i : Nat, i ∉ [37, 38] → fs_25[i]? = fs[i]? := fun i hi => (ga_29 i (fun z => hi (by simp only [List.mem_cons, List.not_mem_nil, or_false] at z ⊢; omega))).trans (ga_22 i hi)
  refine x_le (xw_le_n (xw_le_n xw_le_e)) ?_
  refine s_Model_joins_10 ?_
  subst hx
  exact ⟨rfl, _, _, _, _, l_26, e_27, g_42, g_28, ga_43, e_36, e_30, e_31, ST_9.push hlv1 (by omega) hmk, OU_10, r_37⟩
set_option maxHeartbeats 8000000 in
theorem f_followsJH {G : xw_G} {F L bc bs : Nat} {pr : Option Value → xw_A → Prop} {px : String → xw_A → Prop} {h : xw_A} {m asked_ firstToken_ starred_ tokenAt_ tokenSize_ groupKind_ groupPhrase_ groupSize_ groupMask_ groupFar_ out_ top_ masks_ asz : Nat} {gs : List Value} {fa : Nat → Int32} {h0 : xw_A} (q_askedSize : gs[(11 : Nat)]? = some (.int (nI asz))) (q_asked : gs[(4 : Nat)]? = some (.ref asked_)) (q_firstToken : gs[(41 : Nat)]? = some (.ref firstToken_)) (q_starred : gs[(42 : Nat)]? = some (.ref starred_)) (q_tokenAt : gs[(43 : Nat)]? = some (.ref tokenAt_)) (q_tokenSize : gs[(44 : Nat)]? = some (.ref tokenSize_)) (q_groupKind : gs[(45 : Nat)]? = some (.ref groupKind_)) (q_groupPhrase : gs[(46 : Nat)]? = some (.ref groupPhrase_)) (q_groupSize : gs[(47 : Nat)]? = some (.ref groupSize_)) (q_groupMask : gs[(48 : Nat)]? = some (.ref groupMask_)) (q_groupFar : gs[(49 : Nat)]? = some (.ref groupFar_)) (q_out : gs[(50 : Nat)]? = some (.ref out_)) (q_top : gs[(51 : Nat)]? = some (.ref top_)) (q_masks : gs[(52 : Nat)]? = some (.ref masks_)) (q_a : h0 asked_ = some (.inl (0, 96, .inl fa))) (ND : NDl [m, asked_, firstToken_, starred_, tokenAt_, tokenSize_, groupKind_, groupPhrase_, groupSize_, groupMask_, groupFar_, out_, top_, masks_]) (hasz : asz ≤ 96) (h128 : ∀ j, j < asz → ∃ c, c < 128 ∧ fa j = nI c) {p mk : Nat} {ph : List PHt} {gr : List GRt} {st o : List EV} (Q : QzR m asked_ firstToken_ starred_ tokenAt_ tokenSize_ groupKind_ groupPhrase_ groupSize_ groupMask_ groupFar_ out_ top_ masks_ gs h0 fa asz (true, (p, ph, gr), st, mk, o) h) {jn : Nat} {bg : Bool} {j b : Int32} (hj : j = nI jn) (hb : b = b01 bg) (hjn : jnt (kdP fa asz p) = jn) (hbg : bga (kdP fa asz p) = bg) (h10 : ¬ kdP fa asz p = 10) (hF : 5 ≤ F) (hL : 107 ≤ L) (kk : ∀ h', ((stp (kdS fa asz) (skS fa asz) (gpP fa asz) (flP fa asz) (true, (p, ph, gr), st, mk, o) = none ∧ QzB m asked_ firstToken_ starred_ tokenAt_ tokenSize_ groupKind_ groupPhrase_ groupSize_ groupMask_ groupFar_ out_ top_ masks_ gs h0 h') ∨ ∃ z', stp (kdS fa asz) (skS fa asz) (gpP fa asz) (flP fa asz) (true, (p, ph, gr), st, mk, o) = some z' ∧ QzR m asked_ firstToken_ starred_ tokenAt_ tokenSize_ groupKind_ groupPhrase_ groupSize_ groupMask_ groupFar_ out_ top_ masks_ gs h0 fa asz z' h') → pr none h') : xw G m_Model_follows F L bc bs pr px 170 [some (.ref m), some (.int j), none] [.int b] h := by
  obtain ⟨y, t, bd, c1, c2, ca, cs, c5, c6, c7, c8, c9, co, ct, cm, fs, PT, HY, RQ, GR, OU, OG, ST, hbd, hp12, hgp, hmk, hd8, hcn, l, e, gz_28, gz_29, gz_30, gz_31, gz_33, gz_34, gz_35, gz_36, gz_37, gz_38, gz_39, gz_61, gq, e_firstToken, e_starred, e_tokenAt, e_tokenSize, e_groupKind, e_groupPhrase, e_groupSize, e_groupMask, e_groupFar, e_out, e_top, e_masks, rq⟩ := Q
  have g_askedSize := (gq 11 (by decide)).trans q_askedSize
  have g_asked := (gq 4 (by decide)).trans q_asked
  have g_firstToken := (gq 41 (by decide)).trans q_firstToken
  have g_starred := (gq 42 (by decide)).trans q_starred
  have g_tokenAt := (gq 43 (by decide)).trans q_tokenAt
  have g_tokenSize := (gq 44 (by decide)).trans q_tokenSize
  have g_groupKind := (gq 45 (by decide)).trans q_groupKind
  have g_groupPhrase := (gq 46 (by decide)).trans q_groupPhrase
  have g_groupSize := (gq 47 (by decide)).trans q_groupSize
  have g_groupMask := (gq 48 (by decide)).trans q_groupMask
  have g_groupFar := (gq 49 (by decide)).trans q_groupFar
  have g_out := (gq 50 (by decide)).trans q_out
  have g_top := (gq 51 (by decide)).trans q_top
  have g_masks := (gq 52 (by decide)).trans q_masks
  have e_asked := rq asked_ _ (by simp only [List.mem_cons, List.not_mem_nil, or_false, not_or]; exact ⟨(Ne.symm (nd_ne ND (i := 0) (j := 1) rfl rfl (by decide))), (nd_ne ND (i := 1) (j := 2) rfl rfl (by decide)), (nd_ne ND (i := 1) (j := 3) rfl rfl (by decide)), (nd_ne ND (i := 1) (j := 4) rfl rfl (by decide)), (nd_ne ND (i := 1) (j := 5) rfl rfl (by decide)), (nd_ne ND (i := 1) (j := 6) rfl rfl (by decide)), (nd_ne ND (i := 1) (j := 7) rfl rfl (by decide)), (nd_ne ND (i := 1) (j := 8) rfl rfl (by decide)), (nd_ne ND (i := 1) (j := 9) rfl rfl (by decide)), (nd_ne ND (i := 1) (j := 10) rfl rfl (by decide)), (nd_ne ND (i := 1) (j := 11) rfl rfl (by decide)), (nd_ne ND (i := 1) (j := 12) rfl rfl (by decide)), (nd_ne ND (i := 1) (j := 13) rfl rfl (by decide))⟩) q_a
  have hcl := cJ_len st
  dsimp only at PT HY RQ GR OU OG ST hp12 hgp hmk hd8 hcn gz_28 gz_29 gz_30 gz_31 gz_33 gz_34 gz_35 gz_36 gz_37 gz_38 gz_39 gz_61
  have hbd2 : ¬ 0 ≤ bd := Int32.not_le.mpr hbd
  have hxy0 := PT.1
  have hy97 := PT.2.1
  have hjr : 1 ≤ jn ∧ jn ≤ 4 := by rw [← hjn]; exact jn_r _
  simp only [if_true] at hcn
  have ga0 : ∀ i : Nat, i ∉ [28, 29, 30, 31, 33, 34, 35, 36, 37, 38, 39, 61] → fs[i]? = fs[i]? := fun _ _ => rfl
  have r0 : FrO [m, firstToken_, starred_, tokenAt_, tokenSize_, groupKind_, groupPhrase_, groupSize_, groupMask_, groupFar_, out_, top_, masks_] h h := FrO.rf
  refine s_Model_follows_170 (fun z_1 => ?_) (fun z_2 => ?_)
  · skip
    refine s_Model_follows_185 ?_
    refine s_Model_follows_186 l e gz_30 ?_
    refine x_callV (As := [.int 0, .int (nI (bl fa asz p))]) (b := m) (rest := []) (F1 := 1) (L1 := 20) (mc := 0) (ms := 0) d_Model_follows_190 cV_Model_250 (f_wrongsH (k := bl fa asz p) l e gz_33 (by omega) (by omega) (by omega)) e ⟨by decide, rfl⟩ ⟨by omega, by show 8 + (3 + 11) + 20 ≤ _; omega⟩ ⟨by omega, by omega⟩ (Nat.le_of_ble_eq_true rfl) (fun v_14 h_13 p_15 => ?_)
    obtain ⟨rfl, bd_3, fs_4, hw_5, hw_6, hw_7, l_8, e_9, g_10, ga_11, r_12⟩ := p_15
    have e_16 := r_12 asked_ _ (by simp only [List.mem_cons, List.not_mem_nil, or_false, not_or]; exact (Ne.symm (nd_ne ND (i := 0) (j := 1) rfl rfl (by decide)))) e_asked
    have e_17 := r_12 firstToken_ _ (by simp only [List.mem_cons, List.not_mem_nil, or_false, not_or]; exact (Ne.symm (nd_ne ND (i := 0) (j := 2) rfl rfl (by decide)))) e_firstToken
    have e_18 := r_12 starred_ _ (by simp only [List.mem_cons, List.not_mem_nil, or_false, not_or]; exact (Ne.symm (nd_ne ND (i := 0) (j := 3) rfl rfl (by decide)))) e_starred
    have e_19 := r_12 tokenAt_ _ (by simp only [List.mem_cons, List.not_mem_nil, or_false, not_or]; exact (Ne.symm (nd_ne ND (i := 0) (j := 4) rfl rfl (by decide)))) e_tokenAt
    have e_20 := r_12 tokenSize_ _ (by simp only [List.mem_cons, List.not_mem_nil, or_false, not_or]; exact (Ne.symm (nd_ne ND (i := 0) (j := 5) rfl rfl (by decide)))) e_tokenSize
    have e_21 := r_12 groupKind_ _ (by simp only [List.mem_cons, List.not_mem_nil, or_false, not_or]; exact (Ne.symm (nd_ne ND (i := 0) (j := 6) rfl rfl (by decide)))) e_groupKind
    have e_22 := r_12 groupPhrase_ _ (by simp only [List.mem_cons, List.not_mem_nil, or_false, not_or]; exact (Ne.symm (nd_ne ND (i := 0) (j := 7) rfl rfl (by decide)))) e_groupPhrase
    have e_23 := r_12 groupSize_ _ (by simp only [List.mem_cons, List.not_mem_nil, or_false, not_or]; exact (Ne.symm (nd_ne ND (i := 0) (j := 8) rfl rfl (by decide)))) e_groupSize
    have e_24 := r_12 groupMask_ _ (by simp only [List.mem_cons, List.not_mem_nil, or_false, not_or]; exact (Ne.symm (nd_ne ND (i := 0) (j := 9) rfl rfl (by decide)))) e_groupMask
    have e_25 := r_12 groupFar_ _ (by simp only [List.mem_cons, List.not_mem_nil, or_false, not_or]; exact (Ne.symm (nd_ne ND (i := 0) (j := 10) rfl rfl (by decide)))) e_groupFar
    have e_26 := r_12 out_ _ (by simp only [List.mem_cons, List.not_mem_nil, or_false, not_or]; exact (Ne.symm (nd_ne ND (i := 0) (j := 11) rfl rfl (by decide)))) e_out
    have e_27 := r_12 top_ _ (by simp only [List.mem_cons, List.not_mem_nil, or_false, not_or]; exact (Ne.symm (nd_ne ND (i := 0) (j := 12) rfl rfl (by decide)))) e_top
    have e_28 := r_12 masks_ _ (by simp only [List.mem_cons, List.not_mem_nil, or_false, not_or]; exact (Ne.symm (nd_ne ND (i := 0) (j := 13) rfl rfl (by decide)))) e_masks
    have r_29 := r0.trans (r_12.mono (by simp))
    have g_30 : fs_4[(28 : Nat)]? = some (.int (nI (bl fa asz p))) := (ga_11 28 (by decide)).trans gz_28
    have g_31 : fs_4[(29 : Nat)]? = some (.int (nI (rkd (kdP fa asz p)))) := (ga_11 29 (by decide)).trans gz_29
    have g_32 : fs_4[(30 : Nat)]? = some (.int (nI (bl fa asz p))) := (ga_11 30 (by decide)).trans gz_30
    have g_33 : fs_4[(31 : Nat)]? = some (.int (nI y)) := (ga_11 31 (by decide)).trans gz_31
    have g_34 : fs_4[(34 : Nat)]? = some (.int (nI ph.length)) := (ga_11 34 (by decide)).trans gz_34
    have g_35 : fs_4[(35 : Nat)]? = some (.int (nI t)) := (ga_11 35 (by decide)).trans gz_35
    have g_36 : fs_4[(36 : Nat)]? = some (.int (nI gr.length)) := (ga_11 36 (by decide)).trans gz_36
    have g_37 : fs_4[(37 : Nat)]? = some (.int (nI o.length)) := (ga_11 37 (by decide)).trans gz_37
    have g_38 : fs_4[(38 : Nat)]? = some (.int (nI st.length)) := (ga_11 38 (by decide)).trans gz_38
    have g_39 : fs_4[(39 : Nat)]? = some (.int (nI mk)) := (ga_11 39 (by decide)).trans gz_39
    have g_40 : fs_4[(61 : Nat)]? = some (.int (b01 true)) := (ga_11 61 (by decide)).trans gz_61
    have g_41 : fs_4[(4 : Nat)]? = some (.ref asked_) := (ga_11 4 (by decide)).trans g_asked
    have g_42 : fs_4[(41 : Nat)]? = some (.ref firstToken_) := (ga_11 41 (by decide)).trans g_firstToken
    have g_43 : fs_4[(42 : Nat)]? = some (.ref starred_) := (ga_11 42 (by decide)).trans g_starred
    have g_44 : fs_4[(43 : Nat)]? = some (.ref tokenAt_) := (ga_11 43 (by decide)).trans g_tokenAt
    have g_45 : fs_4[(44 : Nat)]? = some (.ref tokenSize_) := (ga_11 44 (by decide)).trans g_tokenSize
    have g_46 : fs_4[(45 : Nat)]? = some (.ref groupKind_) := (ga_11 45 (by decide)).trans g_groupKind
    have g_47 : fs_4[(46 : Nat)]? = some (.ref groupPhrase_) := (ga_11 46 (by decide)).trans g_groupPhrase
    have g_48 : fs_4[(47 : Nat)]? = some (.ref groupSize_) := (ga_11 47 (by decide)).trans g_groupSize
    have g_49 : fs_4[(48 : Nat)]? = some (.ref groupMask_) := (ga_11 48 (by decide)).trans g_groupMask
    have g_50 : fs_4[(49 : Nat)]? = some (.ref groupFar_) := (ga_11 49 (by decide)).trans g_groupFar
    have g_51 : fs_4[(50 : Nat)]? = some (.ref out_) := (ga_11 50 (by decide)).trans g_out
    have g_52 : fs_4[(51 : Nat)]? = some (.ref top_) := (ga_11 51 (by decide)).trans g_top
    have g_53 : fs_4[(52 : Nat)]? = some (.ref masks_) := (ga_11 52 (by decide)).trans g_masks
    have g_54 : fs_4[(11 : Nat)]? = some (.int (nI asz)) := (ga_11 11 (by decide)).trans g_askedSize
    have ga_55 : ∀ i : Nat, i ∉ [28, 29, 30, 31, 33, 34, 35, 36, 37, 38, 39, 61] → fs_4[i]? = fs[i]? := fun i hi => (ga_11 i (fun z => hi (by simp only [List.mem_cons, List.not_mem_nil, or_false] at z ⊢; omega))).trans (ga0 i hi)
    have hb_56 : bd_3 < 0 := by rw [hw_5 rfl]; exact hbd
    have hb_57 : ¬ 0 ≤ bd_3 := Int32.not_le.mpr hb_56
    refine s_Model_follows_193 l_8 e_9 g_10 (fun z_58 => ?_) (fun z => absurd hb_56 z)
    refine s_Model_follows_201 ?_
    refine x_callV (As := [.int j]) (b := m) (rest := []) (F1 := 2) (L1 := 41) (mc := 0) (ms := 0) d_Model_follows_203 cV_Model_300 (f_joinsH (lv := jn) (st := st) (o := o) l_8 e_9 g_37 g_38 g_39 g_51 e_26 g_52 e_27 g_53 e_28 (nd_ne ND (i := 11) (j := 12) rfl rfl (by decide)) (nd_ne ND (i := 11) (j := 13) rfl rfl (by decide)) (nd_ne ND (i := 12) (j := 13) rfl rfl (by decide)) (by omega) hj hjr.1 hjr.2 ST OU hmk (by omega) (by omega)) e_9 ⟨by decide, rfl⟩ ⟨by omega, by show 8 + (2 + 11) + 41 ≤ _; omega⟩ ⟨by omega, by omega⟩ (Nat.le_of_ble_eq_true rfl) (fun v_75 h_74 p_76 => ?_)
    obtain ⟨rfl, co_59, ct_60, cm_61, fs_62, l_63, e_64, g_65, g_66, ga_67, e_68, e_69, e_70, ST_71, OU_72, r_73⟩ := p_76
    have e_77 := r_73 asked_ _ (by simp only [List.mem_cons, List.not_mem_nil, or_false, not_or]; exact ⟨(Ne.symm (nd_ne ND (i := 0) (j := 1) rfl rfl (by decide))), (nd_ne ND (i := 1) (j := 11) rfl rfl (by decide)), (nd_ne ND (i := 1) (j := 12) rfl rfl (by decide)), (nd_ne ND (i := 1) (j := 13) rfl rfl (by decide))⟩) e_16
    have e_78 := r_73 firstToken_ _ (by simp only [List.mem_cons, List.not_mem_nil, or_false, not_or]; exact ⟨(Ne.symm (nd_ne ND (i := 0) (j := 2) rfl rfl (by decide))), (nd_ne ND (i := 2) (j := 11) rfl rfl (by decide)), (nd_ne ND (i := 2) (j := 12) rfl rfl (by decide)), (nd_ne ND (i := 2) (j := 13) rfl rfl (by decide))⟩) e_17
    have e_79 := r_73 starred_ _ (by simp only [List.mem_cons, List.not_mem_nil, or_false, not_or]; exact ⟨(Ne.symm (nd_ne ND (i := 0) (j := 3) rfl rfl (by decide))), (nd_ne ND (i := 3) (j := 11) rfl rfl (by decide)), (nd_ne ND (i := 3) (j := 12) rfl rfl (by decide)), (nd_ne ND (i := 3) (j := 13) rfl rfl (by decide))⟩) e_18
    have e_80 := r_73 tokenAt_ _ (by simp only [List.mem_cons, List.not_mem_nil, or_false, not_or]; exact ⟨(Ne.symm (nd_ne ND (i := 0) (j := 4) rfl rfl (by decide))), (nd_ne ND (i := 4) (j := 11) rfl rfl (by decide)), (nd_ne ND (i := 4) (j := 12) rfl rfl (by decide)), (nd_ne ND (i := 4) (j := 13) rfl rfl (by decide))⟩) e_19
    have e_81 := r_73 tokenSize_ _ (by simp only [List.mem_cons, List.not_mem_nil, or_false, not_or]; exact ⟨(Ne.symm (nd_ne ND (i := 0) (j := 5) rfl rfl (by decide))), (nd_ne ND (i := 5) (j := 11) rfl rfl (by decide)), (nd_ne ND (i := 5) (j := 12) rfl rfl (by decide)), (nd_ne ND (i := 5) (j := 13) rfl rfl (by decide))⟩) e_20
    have e_82 := r_73 groupKind_ _ (by simp only [List.mem_cons, List.not_mem_nil, or_false, not_or]; exact ⟨(Ne.symm (nd_ne ND (i := 0) (j := 6) rfl rfl (by decide))), (nd_ne ND (i := 6) (j := 11) rfl rfl (by decide)), (nd_ne ND (i := 6) (j := 12) rfl rfl (by decide)), (nd_ne ND (i := 6) (j := 13) rfl rfl (by decide))⟩) e_21
    have e_83 := r_73 groupPhrase_ _ (by simp only [List.mem_cons, List.not_mem_nil, or_false, not_or]; exact ⟨(Ne.symm (nd_ne ND (i := 0) (j := 7) rfl rfl (by decide))), (nd_ne ND (i := 7) (j := 11) rfl rfl (by decide)), (nd_ne ND (i := 7) (j := 12) rfl rfl (by decide)), (nd_ne ND (i := 7) (j := 13) rfl rfl (by decide))⟩) e_22
    have e_84 := r_73 groupSize_ _ (by simp only [List.mem_cons, List.not_mem_nil, or_false, not_or]; exact ⟨(Ne.symm (nd_ne ND (i := 0) (j := 8) rfl rfl (by decide))), (nd_ne ND (i := 8) (j := 11) rfl rfl (by decide)), (nd_ne ND (i := 8) (j := 12) rfl rfl (by decide)), (nd_ne ND (i := 8) (j := 13) rfl rfl (by decide))⟩) e_23
    have e_85 := r_73 groupMask_ _ (by simp only [List.mem_cons, List.not_mem_nil, or_false, not_or]; exact ⟨(Ne.symm (nd_ne ND (i := 0) (j := 9) rfl rfl (by decide))), (nd_ne ND (i := 9) (j := 11) rfl rfl (by decide)), (nd_ne ND (i := 9) (j := 12) rfl rfl (by decide)), (nd_ne ND (i := 9) (j := 13) rfl rfl (by decide))⟩) e_24
    have e_86 := r_73 groupFar_ _ (by simp only [List.mem_cons, List.not_mem_nil, or_false, not_or]; exact ⟨(Ne.symm (nd_ne ND (i := 0) (j := 10) rfl rfl (by decide))), (nd_ne ND (i := 10) (j := 11) rfl rfl (by decide)), (nd_ne ND (i := 10) (j := 12) rfl rfl (by decide)), (nd_ne ND (i := 10) (j := 13) rfl rfl (by decide))⟩) e_25
    have r_87 := r_29.trans (r_73.mono (by simp))
    have g_88 : fs_62[(28 : Nat)]? = some (.int (nI (bl fa asz p))) := (ga_67 28 (by decide)).trans g_30
    have g_89 : fs_62[(29 : Nat)]? = some (.int (nI (rkd (kdP fa asz p)))) := (ga_67 29 (by decide)).trans g_31
    have g_90 : fs_62[(30 : Nat)]? = some (.int (nI (bl fa asz p))) := (ga_67 30 (by decide)).trans g_32
    have g_91 : fs_62[(31 : Nat)]? = some (.int (nI y)) := (ga_67 31 (by decide)).trans g_33
    have g_92 : fs_62[(34 : Nat)]? = some (.int (nI ph.length)) := (ga_67 34 (by decide)).trans g_34
    have g_93 : fs_62[(35 : Nat)]? = some (.int (nI t)) := (ga_67 35 (by decide)).trans g_35
    have g_94 : fs_62[(36 : Nat)]? = some (.int (nI gr.length)) := (ga_67 36 (by decide)).trans g_36
    have g_95 : fs_62[(39 : Nat)]? = some (.int (nI mk)) := (ga_67 39 (by decide)).trans g_39
    have g_96 : fs_62[(61 : Nat)]? = some (.int (b01 true)) := (ga_67 61 (by decide)).trans g_40
    have g_97 : fs_62[(4 : Nat)]? = some (.ref asked_) := (ga_67 4 (by decide)).trans g_41
    have g_98 : fs_62[(41 : Nat)]? = some (.ref firstToken_) := (ga_67 41 (by decide)).trans g_42
    have g_99 : fs_62[(42 : Nat)]? = some (.ref starred_) := (ga_67 42 (by decide)).trans g_43
    have g_100 : fs_62[(43 : Nat)]? = some (.ref tokenAt_) := (ga_67 43 (by decide)).trans g_44
    have g_101 : fs_62[(44 : Nat)]? = some (.ref tokenSize_) := (ga_67 44 (by decide)).trans g_45
    have g_102 : fs_62[(45 : Nat)]? = some (.ref groupKind_) := (ga_67 45 (by decide)).trans g_46
    have g_103 : fs_62[(46 : Nat)]? = some (.ref groupPhrase_) := (ga_67 46 (by decide)).trans g_47
    have g_104 : fs_62[(47 : Nat)]? = some (.ref groupSize_) := (ga_67 47 (by decide)).trans g_48
    have g_105 : fs_62[(48 : Nat)]? = some (.ref groupMask_) := (ga_67 48 (by decide)).trans g_49
    have g_106 : fs_62[(49 : Nat)]? = some (.ref groupFar_) := (ga_67 49 (by decide)).trans g_50
    have g_107 : fs_62[(50 : Nat)]? = some (.ref out_) := (ga_67 50 (by decide)).trans g_51
    have g_108 : fs_62[(51 : Nat)]? = some (.ref top_) := (ga_67 51 (by decide)).trans g_52
    have g_109 : fs_62[(52 : Nat)]? = some (.ref masks_) := (ga_67 52 (by decide)).trans g_53
    have g_110 : fs_62[(11 : Nat)]? = some (.int (nI asz)) := (ga_67 11 (by decide)).trans g_54
    have g_111 : fs_62[(33 : Nat)]? = some (.int bd_3) := (ga_67 33 (by decide)).trans g_10
    have ga_112 : ∀ i : Nat, i ∉ [28, 29, 30, 31, 33, 34, 35, 36, 37, 38, 39, 61] → fs_62[i]? = fs[i]? := fun i hi => (ga_67 i (fun z => hi (by simp only [List.mem_cons, List.not_mem_nil, or_false] at z ⊢; omega))).trans (ga_55 i hi)
    have rk9 := rd_kp (l := jn) st o
    refine s_Model_follows_206 (fun z => absurd z z_1) (fun z_113 => ?_)
    refine s_Model_follows_211 ?_
    have h4_114 : ¬ jn = 4 := fun q => z_113 (by rw [hj, q]; rfl)
    have hk9 := jn_k (k := kdP fa asz p) (fun q => h4_114 (hjn.symm.trans q))
    have hE_127 := HY hk9.2
    rw [hE_127] at g_91
    refine x_callV (As := []) (b := m) (rest := []) (F1 := 4) (L1 := 87) (mc := 0) (ms := 0) d_Model_follows_212 cV_Model_257 (f_nextH (x0 := (skP fa asz p)) l_63 e_64 g_88 g_89 g_90 g_91 g_110 g_97 e_77 (by rw [← hE_127]; exact PT.2.1) hasz (by omega) (by omega)) e_64 ⟨by decide, rfl⟩ ⟨by omega, by show 8 + (1 + 11) + 87 ≤ _; omega⟩ ⟨by omega, by omega⟩ (Nat.le_of_ble_eq_true rfl) (fun v_129 h_128 p_130 => ?_)
    obtain ⟨rfl, y_115, fs_116, PT_117, HY_118, l_119, e_120, g_121, g_122, g_123, g_124, ga_125, r_126⟩ := p_130
    have e_131 := r_126 asked_ _ (by simp only [List.mem_cons, List.not_mem_nil, or_false, not_or]; exact (Ne.symm (nd_ne ND (i := 0) (j := 1) rfl rfl (by decide)))) e_77
    have e_132 := r_126 firstToken_ _ (by simp only [List.mem_cons, List.not_mem_nil, or_false, not_or]; exact (Ne.symm (nd_ne ND (i := 0) (j := 2) rfl rfl (by decide)))) e_78
    have e_133 := r_126 starred_ _ (by simp only [List.mem_cons, List.not_mem_nil, or_false, not_or]; exact (Ne.symm (nd_ne ND (i := 0) (j := 3) rfl rfl (by decide)))) e_79
    have e_134 := r_126 tokenAt_ _ (by simp only [List.mem_cons, List.not_mem_nil, or_false, not_or]; exact (Ne.symm (nd_ne ND (i := 0) (j := 4) rfl rfl (by decide)))) e_80
    have e_135 := r_126 tokenSize_ _ (by simp only [List.mem_cons, List.not_mem_nil, or_false, not_or]; exact (Ne.symm (nd_ne ND (i := 0) (j := 5) rfl rfl (by decide)))) e_81
    have e_136 := r_126 groupKind_ _ (by simp only [List.mem_cons, List.not_mem_nil, or_false, not_or]; exact (Ne.symm (nd_ne ND (i := 0) (j := 6) rfl rfl (by decide)))) e_82
    have e_137 := r_126 groupPhrase_ _ (by simp only [List.mem_cons, List.not_mem_nil, or_false, not_or]; exact (Ne.symm (nd_ne ND (i := 0) (j := 7) rfl rfl (by decide)))) e_83
    have e_138 := r_126 groupSize_ _ (by simp only [List.mem_cons, List.not_mem_nil, or_false, not_or]; exact (Ne.symm (nd_ne ND (i := 0) (j := 8) rfl rfl (by decide)))) e_84
    have e_139 := r_126 groupMask_ _ (by simp only [List.mem_cons, List.not_mem_nil, or_false, not_or]; exact (Ne.symm (nd_ne ND (i := 0) (j := 9) rfl rfl (by decide)))) e_85
    have e_140 := r_126 groupFar_ _ (by simp only [List.mem_cons, List.not_mem_nil, or_false, not_or]; exact (Ne.symm (nd_ne ND (i := 0) (j := 10) rfl rfl (by decide)))) e_86
    have e_141 := r_126 out_ _ (by simp only [List.mem_cons, List.not_mem_nil, or_false, not_or]; exact (Ne.symm (nd_ne ND (i := 0) (j := 11) rfl rfl (by decide)))) e_68
    have e_142 := r_126 top_ _ (by simp only [List.mem_cons, List.not_mem_nil, or_false, not_or]; exact (Ne.symm (nd_ne ND (i := 0) (j := 12) rfl rfl (by decide)))) e_69
    have e_143 := r_126 masks_ _ (by simp only [List.mem_cons, List.not_mem_nil, or_false, not_or]; exact (Ne.symm (nd_ne ND (i := 0) (j := 13) rfl rfl (by decide)))) e_70
    have r_144 := r_87.trans (r_126.mono (by simp))
    have g_145 : fs_116[(34 : Nat)]? = some (.int (nI ph.length)) := (ga_125 34 (by decide)).trans g_92
    have g_146 : fs_116[(35 : Nat)]? = some (.int (nI t)) := (ga_125 35 (by decide)).trans g_93
    have g_147 : fs_116[(36 : Nat)]? = some (.int (nI gr.length)) := (ga_125 36 (by decide)).trans g_94
    have g_148 : fs_116[(39 : Nat)]? = some (.int (nI mk)) := (ga_125 39 (by decide)).trans g_95
    have g_149 : fs_116[(61 : Nat)]? = some (.int (b01 true)) := (ga_125 61 (by decide)).trans g_96
    have g_150 : fs_116[(4 : Nat)]? = some (.ref asked_) := (ga_125 4 (by decide)).trans g_97
    have g_151 : fs_116[(41 : Nat)]? = some (.ref firstToken_) := (ga_125 41 (by decide)).trans g_98
    have g_152 : fs_116[(42 : Nat)]? = some (.ref starred_) := (ga_125 42 (by decide)).trans g_99
    have g_153 : fs_116[(43 : Nat)]? = some (.ref tokenAt_) := (ga_125 43 (by decide)).trans g_100
    have g_154 : fs_116[(44 : Nat)]? = some (.ref tokenSize_) := (ga_125 44 (by decide)).trans g_101
    have g_155 : fs_116[(45 : Nat)]? = some (.ref groupKind_) := (ga_125 45 (by decide)).trans g_102
    have g_156 : fs_116[(46 : Nat)]? = some (.ref groupPhrase_) := (ga_125 46 (by decide)).trans g_103
    have g_157 : fs_116[(47 : Nat)]? = some (.ref groupSize_) := (ga_125 47 (by decide)).trans g_104
    have g_158 : fs_116[(48 : Nat)]? = some (.ref groupMask_) := (ga_125 48 (by decide)).trans g_105
    have g_159 : fs_116[(49 : Nat)]? = some (.ref groupFar_) := (ga_125 49 (by decide)).trans g_106
    have g_160 : fs_116[(50 : Nat)]? = some (.ref out_) := (ga_125 50 (by decide)).trans g_107
    have g_161 : fs_116[(51 : Nat)]? = some (.ref top_) := (ga_125 51 (by decide)).trans g_108
    have g_162 : fs_116[(52 : Nat)]? = some (.ref masks_) := (ga_125 52 (by decide)).trans g_109
    have g_163 : fs_116[(11 : Nat)]? = some (.int (nI asz)) := (ga_125 11 (by decide)).trans g_110
    have g_164 : fs_116[(33 : Nat)]? = some (.int bd_3) := (ga_125 33 (by decide)).trans g_111
    have g_165 : fs_116[(37 : Nat)]? = some (.int (nI (redS jn st o).2.length)) := (ga_125 37 (by decide)).trans g_65
    have g_166 : fs_116[(38 : Nat)]? = some (.int (nI ((redS jn st o).1.length + 1))) := (ga_125 38 (by decide)).trans g_66
    have ga_167 : ∀ i : Nat, i ∉ [28, 29, 30, 31, 33, 34, 35, 36, 37, 38, 39, 61] → fs_116[i]? = fs[i]? := fun i hi => (ga_125 i (fun z => hi (by simp only [List.mem_cons, List.not_mem_nil, or_false] at z ⊢; omega))).trans (ga_112 i hi)
    have RQ_168 := RQ.next hk9.1 hk9.2
    have hb_169 := Nat.le_trans PT_117.1 PT_117.2.1
    refine s_Model_follows_215 l_119 e_120 ?_
    obtain ⟨h_170, z_173⟩ : ∃ z, z = xw_up h_128 m (.inr (11, (fs_116.set 61 (.int 0)))) := ⟨_, rfl⟩
    rw [← z_173]
    have e_171 : h_170 m = some (.inr (11, (fs_116.set 61 (.int 0)))) := by rw [z_173]; exact xw_up_s _ _ _
    have f_172 : ∀ q, q ≠ m → h_170 q = h_128 q := fun q hq => by rw [z_173]; exact xw_up_n _ _ hq
    clear z_173
    have e_174 := (f_172 asked_ (Ne.symm (nd_ne ND (i := 0) (j := 1) rfl rfl (by decide)))).trans e_131
    have e_175 := (f_172 firstToken_ (Ne.symm (nd_ne ND (i := 0) (j := 2) rfl rfl (by decide)))).trans e_132
    have e_176 := (f_172 starred_ (Ne.symm (nd_ne ND (i := 0) (j := 3) rfl rfl (by decide)))).trans e_133
    have e_177 := (f_172 tokenAt_ (Ne.symm (nd_ne ND (i := 0) (j := 4) rfl rfl (by decide)))).trans e_134
    have e_178 := (f_172 tokenSize_ (Ne.symm (nd_ne ND (i := 0) (j := 5) rfl rfl (by decide)))).trans e_135
    have e_179 := (f_172 groupKind_ (Ne.symm (nd_ne ND (i := 0) (j := 6) rfl rfl (by decide)))).trans e_136
    have e_180 := (f_172 groupPhrase_ (Ne.symm (nd_ne ND (i := 0) (j := 7) rfl rfl (by decide)))).trans e_137
    have e_181 := (f_172 groupSize_ (Ne.symm (nd_ne ND (i := 0) (j := 8) rfl rfl (by decide)))).trans e_138
    have e_182 := (f_172 groupMask_ (Ne.symm (nd_ne ND (i := 0) (j := 9) rfl rfl (by decide)))).trans e_139
    have e_183 := (f_172 groupFar_ (Ne.symm (nd_ne ND (i := 0) (j := 10) rfl rfl (by decide)))).trans e_140
    have e_184 := (f_172 out_ (Ne.symm (nd_ne ND (i := 0) (j := 11) rfl rfl (by decide)))).trans e_141
    have e_185 := (f_172 top_ (Ne.symm (nd_ne ND (i := 0) (j := 12) rfl rfl (by decide)))).trans e_142
    have e_186 := (f_172 masks_ (Ne.symm (nd_ne ND (i := 0) (j := 13) rfl rfl (by decide)))).trans e_143
    have r_187 := r_144.up (by simp) f_172
    obtain ⟨fs_188, z_189⟩ : ∃ z, z = fs_116.set 61 (.int 0) := ⟨_, rfl⟩
    rw [← z_189] at e_171
    have l_190 : fs_188.length = 62 := by rw [z_189]; simp only [List.length_set]; exact l_119
    have g_191 : fs_188[(4 : Nat)]? = some (.ref asked_) := by rw [z_189]; exact (xw_gn (by decide) g_150)
    have g_192 : fs_188[(11 : Nat)]? = some (.int (nI asz)) := by rw [z_189]; exact (xw_gn (by decide) g_163)
    have g_193 : fs_188[(28 : Nat)]? = some (.int (nI (bl fa asz (skP fa asz p)))) := by rw [z_189]; exact (xw_gn (by decide) g_121)
    have g_194 : fs_188[(29 : Nat)]? = some (.int (nI (rkd (kdP fa asz (skP fa asz p))))) := by rw [z_189]; exact (xw_gn (by decide) g_122)
    have g_195 : fs_188[(30 : Nat)]? = some (.int (nI (bl fa asz (skP fa asz p)))) := by rw [z_189]; exact (xw_gn (by decide) g_123)
    have g_196 : fs_188[(31 : Nat)]? = some (.int (nI y_115)) := by rw [z_189]; exact (xw_gn (by decide) g_124)
    have g_197 : fs_188[(33 : Nat)]? = some (.int bd_3) := by rw [z_189]; exact (xw_gn (by decide) g_164)
    have g_198 : fs_188[(34 : Nat)]? = some (.int (nI ph.length)) := by rw [z_189]; exact (xw_gn (by decide) g_145)
    have g_199 : fs_188[(35 : Nat)]? = some (.int (nI t)) := by rw [z_189]; exact (xw_gn (by decide) g_146)
    have g_200 : fs_188[(36 : Nat)]? = some (.int (nI gr.length)) := by rw [z_189]; exact (xw_gn (by decide) g_147)
    have g_201 : fs_188[(37 : Nat)]? = some (.int (nI (redS jn st o).2.length)) := by rw [z_189]; exact (xw_gn (by decide) g_165)
    have g_202 : fs_188[(38 : Nat)]? = some (.int (nI ((redS jn st o).1.length + 1))) := by rw [z_189]; exact (xw_gn (by decide) g_166)
    have g_203 : fs_188[(39 : Nat)]? = some (.int (nI mk)) := by rw [z_189]; exact (xw_gn (by decide) g_148)
    have g_204 : fs_188[(41 : Nat)]? = some (.ref firstToken_) := by rw [z_189]; exact (xw_gn (by decide) g_151)
    have g_205 : fs_188[(42 : Nat)]? = some (.ref starred_) := by rw [z_189]; exact (xw_gn (by decide) g_152)
    have g_206 : fs_188[(43 : Nat)]? = some (.ref tokenAt_) := by rw [z_189]; exact (xw_gn (by decide) g_153)
    have g_207 : fs_188[(44 : Nat)]? = some (.ref tokenSize_) := by rw [z_189]; exact (xw_gn (by decide) g_154)
    have g_208 : fs_188[(45 : Nat)]? = some (.ref groupKind_) := by rw [z_189]; exact (xw_gn (by decide) g_155)
    have g_209 : fs_188[(46 : Nat)]? = some (.ref groupPhrase_) := by rw [z_189]; exact (xw_gn (by decide) g_156)
    have g_210 : fs_188[(47 : Nat)]? = some (.ref groupSize_) := by rw [z_189]; exact (xw_gn (by decide) g_157)
    have g_211 : fs_188[(48 : Nat)]? = some (.ref groupMask_) := by rw [z_189]; exact (xw_gn (by decide) g_158)
    have g_212 : fs_188[(49 : Nat)]? = some (.ref groupFar_) := by rw [z_189]; exact (xw_gn (by decide) g_159)
    have g_213 : fs_188[(50 : Nat)]? = some (.ref out_) := by rw [z_189]; exact (xw_gn (by decide) g_160)
    have g_214 : fs_188[(51 : Nat)]? = some (.ref top_) := by rw [z_189]; exact (xw_gn (by decide) g_161)
    have g_215 : fs_188[(52 : Nat)]? = some (.ref masks_) := by rw [z_189]; exact (xw_gn (by decide) g_162)
    have g_216 : fs_188[(61 : Nat)]? = some (.int 0) := by rw [z_189]; exact (xw_gs (by simp [l_119]))
    have ga_217 : ∀ i : Nat, i ∉ [28, 29, 30, 31, 33, 34, 35, 36, 37, 38, 39, 61] → fs_188[i]? = fs[i]? := fun i hi => by rw [z_189]; exact xw_gn (fun z => hi (by rw [z]; simp)) (ga_167 i hi)
    clear z_189
    have h4_218 : ¬ jn = 4 := fun q => z_113 (by rw [hj, q]; rfl)
    have hd9 : depS ((jn, mk) :: (redS jn st o).1) = depS (redS jn st o).1 := by rw [depS, if_neg (by show ¬ 5 ≤ jn; omega)]; omega
    have hc9 : cJ ((jn, mk) :: (redS jn st o).1) = 1 + cJ (redS jn st o).1 := by rw [cJ, if_pos (by show jn < 5; omega)]
    exact kk _ (Or.inr ⟨_, sp_jo h10 hjn h4_218, ⟨_, _, _, _, _, _, _, _, _, _, _, _, _, _, _, _, PT_117, HY_118, RQ_168, GR, OU_72, (OG.red ST.one), ST_71, hb_56, hp12, hgp, hmk, (by show depS ((jn, mk) :: (redS jn st o).1) ≤ 8; omega), (by show (redS jn st o).2.length + cJ ((jn, mk) :: (redS jn st o).1) + 0 = 2 * gr.length; omega), l_190, e_171, g_193, g_194, g_195, g_196, g_197, g_198, g_199, g_200, g_201, g_202, g_203, g_216, fun i hi => (ga_217 i hi).trans (gq i hi), e_175, e_176, e_177, e_178, e_179, e_180, e_181, e_182, e_183, e_184, e_185, e_186, rq.trans r_187⟩⟩)
  · skip
    refine s_Model_follows_177 (fun z_219 => ?_) (fun z_220 => ?_)
    · skip
      refine s_Model_follows_185 ?_
      refine s_Model_follows_186 l e gz_30 ?_
      refine x_callV (As := [.int 0, .int (nI (bl fa asz p))]) (b := m) (rest := []) (F1 := 1) (L1 := 20) (mc := 0) (ms := 0) d_Model_follows_190 cV_Model_250 (f_wrongsH (k := bl fa asz p) l e gz_33 (by omega) (by omega) (by omega)) e ⟨by decide, rfl⟩ ⟨by omega, by show 8 + (3 + 11) + 20 ≤ _; omega⟩ ⟨by omega, by omega⟩ (Nat.le_of_ble_eq_true rfl) (fun v_232 h_231 p_233 => ?_)
      obtain ⟨rfl, bd_221, fs_222, hw_223, hw_224, hw_225, l_226, e_227, g_228, ga_229, r_230⟩ := p_233
      have e_234 := r_230 asked_ _ (by simp only [List.mem_cons, List.not_mem_nil, or_false, not_or]; exact (Ne.symm (nd_ne ND (i := 0) (j := 1) rfl rfl (by decide)))) e_asked
      have e_235 := r_230 firstToken_ _ (by simp only [List.mem_cons, List.not_mem_nil, or_false, not_or]; exact (Ne.symm (nd_ne ND (i := 0) (j := 2) rfl rfl (by decide)))) e_firstToken
      have e_236 := r_230 starred_ _ (by simp only [List.mem_cons, List.not_mem_nil, or_false, not_or]; exact (Ne.symm (nd_ne ND (i := 0) (j := 3) rfl rfl (by decide)))) e_starred
      have e_237 := r_230 tokenAt_ _ (by simp only [List.mem_cons, List.not_mem_nil, or_false, not_or]; exact (Ne.symm (nd_ne ND (i := 0) (j := 4) rfl rfl (by decide)))) e_tokenAt
      have e_238 := r_230 tokenSize_ _ (by simp only [List.mem_cons, List.not_mem_nil, or_false, not_or]; exact (Ne.symm (nd_ne ND (i := 0) (j := 5) rfl rfl (by decide)))) e_tokenSize
      have e_239 := r_230 groupKind_ _ (by simp only [List.mem_cons, List.not_mem_nil, or_false, not_or]; exact (Ne.symm (nd_ne ND (i := 0) (j := 6) rfl rfl (by decide)))) e_groupKind
      have e_240 := r_230 groupPhrase_ _ (by simp only [List.mem_cons, List.not_mem_nil, or_false, not_or]; exact (Ne.symm (nd_ne ND (i := 0) (j := 7) rfl rfl (by decide)))) e_groupPhrase
      have e_241 := r_230 groupSize_ _ (by simp only [List.mem_cons, List.not_mem_nil, or_false, not_or]; exact (Ne.symm (nd_ne ND (i := 0) (j := 8) rfl rfl (by decide)))) e_groupSize
      have e_242 := r_230 groupMask_ _ (by simp only [List.mem_cons, List.not_mem_nil, or_false, not_or]; exact (Ne.symm (nd_ne ND (i := 0) (j := 9) rfl rfl (by decide)))) e_groupMask
      have e_243 := r_230 groupFar_ _ (by simp only [List.mem_cons, List.not_mem_nil, or_false, not_or]; exact (Ne.symm (nd_ne ND (i := 0) (j := 10) rfl rfl (by decide)))) e_groupFar
      have e_244 := r_230 out_ _ (by simp only [List.mem_cons, List.not_mem_nil, or_false, not_or]; exact (Ne.symm (nd_ne ND (i := 0) (j := 11) rfl rfl (by decide)))) e_out
      have e_245 := r_230 top_ _ (by simp only [List.mem_cons, List.not_mem_nil, or_false, not_or]; exact (Ne.symm (nd_ne ND (i := 0) (j := 12) rfl rfl (by decide)))) e_top
      have e_246 := r_230 masks_ _ (by simp only [List.mem_cons, List.not_mem_nil, or_false, not_or]; exact (Ne.symm (nd_ne ND (i := 0) (j := 13) rfl rfl (by decide)))) e_masks
      have r_247 := r0.trans (r_230.mono (by simp))
      have g_248 : fs_222[(28 : Nat)]? = some (.int (nI (bl fa asz p))) := (ga_229 28 (by decide)).trans gz_28
      have g_249 : fs_222[(29 : Nat)]? = some (.int (nI (rkd (kdP fa asz p)))) := (ga_229 29 (by decide)).trans gz_29
      have g_250 : fs_222[(30 : Nat)]? = some (.int (nI (bl fa asz p))) := (ga_229 30 (by decide)).trans gz_30
      have g_251 : fs_222[(31 : Nat)]? = some (.int (nI y)) := (ga_229 31 (by decide)).trans gz_31
      have g_252 : fs_222[(34 : Nat)]? = some (.int (nI ph.length)) := (ga_229 34 (by decide)).trans gz_34
      have g_253 : fs_222[(35 : Nat)]? = some (.int (nI t)) := (ga_229 35 (by decide)).trans gz_35
      have g_254 : fs_222[(36 : Nat)]? = some (.int (nI gr.length)) := (ga_229 36 (by decide)).trans gz_36
      have g_255 : fs_222[(37 : Nat)]? = some (.int (nI o.length)) := (ga_229 37 (by decide)).trans gz_37
      have g_256 : fs_222[(38 : Nat)]? = some (.int (nI st.length)) := (ga_229 38 (by decide)).trans gz_38
      have g_257 : fs_222[(39 : Nat)]? = some (.int (nI mk)) := (ga_229 39 (by decide)).trans gz_39
      have g_258 : fs_222[(61 : Nat)]? = some (.int (b01 true)) := (ga_229 61 (by decide)).trans gz_61
      have g_259 : fs_222[(4 : Nat)]? = some (.ref asked_) := (ga_229 4 (by decide)).trans g_asked
      have g_260 : fs_222[(41 : Nat)]? = some (.ref firstToken_) := (ga_229 41 (by decide)).trans g_firstToken
      have g_261 : fs_222[(42 : Nat)]? = some (.ref starred_) := (ga_229 42 (by decide)).trans g_starred
      have g_262 : fs_222[(43 : Nat)]? = some (.ref tokenAt_) := (ga_229 43 (by decide)).trans g_tokenAt
      have g_263 : fs_222[(44 : Nat)]? = some (.ref tokenSize_) := (ga_229 44 (by decide)).trans g_tokenSize
      have g_264 : fs_222[(45 : Nat)]? = some (.ref groupKind_) := (ga_229 45 (by decide)).trans g_groupKind
      have g_265 : fs_222[(46 : Nat)]? = some (.ref groupPhrase_) := (ga_229 46 (by decide)).trans g_groupPhrase
      have g_266 : fs_222[(47 : Nat)]? = some (.ref groupSize_) := (ga_229 47 (by decide)).trans g_groupSize
      have g_267 : fs_222[(48 : Nat)]? = some (.ref groupMask_) := (ga_229 48 (by decide)).trans g_groupMask
      have g_268 : fs_222[(49 : Nat)]? = some (.ref groupFar_) := (ga_229 49 (by decide)).trans g_groupFar
      have g_269 : fs_222[(50 : Nat)]? = some (.ref out_) := (ga_229 50 (by decide)).trans g_out
      have g_270 : fs_222[(51 : Nat)]? = some (.ref top_) := (ga_229 51 (by decide)).trans g_top
      have g_271 : fs_222[(52 : Nat)]? = some (.ref masks_) := (ga_229 52 (by decide)).trans g_masks
      have g_272 : fs_222[(11 : Nat)]? = some (.int (nI asz)) := (ga_229 11 (by decide)).trans g_askedSize
      have ga_273 : ∀ i : Nat, i ∉ [28, 29, 30, 31, 33, 34, 35, 36, 37, 38, 39, 61] → fs_222[i]? = fs[i]? := fun i hi => (ga_229 i (fun z => hi (by simp only [List.mem_cons, List.not_mem_nil, or_false] at z ⊢; omega))).trans (ga0 i hi)
      have hb_274 : bd_221 < 0 := by rw [hw_223 rfl]; exact hbd
      have hb_275 : ¬ 0 ≤ bd_221 := Int32.not_le.mpr hb_274
      refine s_Model_follows_193 l_226 e_227 g_228 (fun z_276 => ?_) (fun z => absurd hb_274 z)
      refine s_Model_follows_201 ?_
      refine x_callV (As := [.int j]) (b := m) (rest := []) (F1 := 2) (L1 := 41) (mc := 0) (ms := 0) d_Model_follows_203 cV_Model_300 (f_joinsH (lv := jn) (st := st) (o := o) l_226 e_227 g_255 g_256 g_257 g_269 e_244 g_270 e_245 g_271 e_246 (nd_ne ND (i := 11) (j := 12) rfl rfl (by decide)) (nd_ne ND (i := 11) (j := 13) rfl rfl (by decide)) (nd_ne ND (i := 12) (j := 13) rfl rfl (by decide)) (by omega) hj hjr.1 hjr.2 ST OU hmk (by omega) (by omega)) e_227 ⟨by decide, rfl⟩ ⟨by omega, by show 8 + (2 + 11) + 41 ≤ _; omega⟩ ⟨by omega, by omega⟩ (Nat.le_of_ble_eq_true rfl) (fun v_293 h_292 p_294 => ?_)
      obtain ⟨rfl, co_277, ct_278, cm_279, fs_280, l_281, e_282, g_283, g_284, ga_285, e_286, e_287, e_288, ST_289, OU_290, r_291⟩ := p_294
      have e_295 := r_291 asked_ _ (by simp only [List.mem_cons, List.not_mem_nil, or_false, not_or]; exact ⟨(Ne.symm (nd_ne ND (i := 0) (j := 1) rfl rfl (by decide))), (nd_ne ND (i := 1) (j := 11) rfl rfl (by decide)), (nd_ne ND (i := 1) (j := 12) rfl rfl (by decide)), (nd_ne ND (i := 1) (j := 13) rfl rfl (by decide))⟩) e_234
      have e_296 := r_291 firstToken_ _ (by simp only [List.mem_cons, List.not_mem_nil, or_false, not_or]; exact ⟨(Ne.symm (nd_ne ND (i := 0) (j := 2) rfl rfl (by decide))), (nd_ne ND (i := 2) (j := 11) rfl rfl (by decide)), (nd_ne ND (i := 2) (j := 12) rfl rfl (by decide)), (nd_ne ND (i := 2) (j := 13) rfl rfl (by decide))⟩) e_235
      have e_297 := r_291 starred_ _ (by simp only [List.mem_cons, List.not_mem_nil, or_false, not_or]; exact ⟨(Ne.symm (nd_ne ND (i := 0) (j := 3) rfl rfl (by decide))), (nd_ne ND (i := 3) (j := 11) rfl rfl (by decide)), (nd_ne ND (i := 3) (j := 12) rfl rfl (by decide)), (nd_ne ND (i := 3) (j := 13) rfl rfl (by decide))⟩) e_236
      have e_298 := r_291 tokenAt_ _ (by simp only [List.mem_cons, List.not_mem_nil, or_false, not_or]; exact ⟨(Ne.symm (nd_ne ND (i := 0) (j := 4) rfl rfl (by decide))), (nd_ne ND (i := 4) (j := 11) rfl rfl (by decide)), (nd_ne ND (i := 4) (j := 12) rfl rfl (by decide)), (nd_ne ND (i := 4) (j := 13) rfl rfl (by decide))⟩) e_237
      have e_299 := r_291 tokenSize_ _ (by simp only [List.mem_cons, List.not_mem_nil, or_false, not_or]; exact ⟨(Ne.symm (nd_ne ND (i := 0) (j := 5) rfl rfl (by decide))), (nd_ne ND (i := 5) (j := 11) rfl rfl (by decide)), (nd_ne ND (i := 5) (j := 12) rfl rfl (by decide)), (nd_ne ND (i := 5) (j := 13) rfl rfl (by decide))⟩) e_238
      have e_300 := r_291 groupKind_ _ (by simp only [List.mem_cons, List.not_mem_nil, or_false, not_or]; exact ⟨(Ne.symm (nd_ne ND (i := 0) (j := 6) rfl rfl (by decide))), (nd_ne ND (i := 6) (j := 11) rfl rfl (by decide)), (nd_ne ND (i := 6) (j := 12) rfl rfl (by decide)), (nd_ne ND (i := 6) (j := 13) rfl rfl (by decide))⟩) e_239
      have e_301 := r_291 groupPhrase_ _ (by simp only [List.mem_cons, List.not_mem_nil, or_false, not_or]; exact ⟨(Ne.symm (nd_ne ND (i := 0) (j := 7) rfl rfl (by decide))), (nd_ne ND (i := 7) (j := 11) rfl rfl (by decide)), (nd_ne ND (i := 7) (j := 12) rfl rfl (by decide)), (nd_ne ND (i := 7) (j := 13) rfl rfl (by decide))⟩) e_240
      have e_302 := r_291 groupSize_ _ (by simp only [List.mem_cons, List.not_mem_nil, or_false, not_or]; exact ⟨(Ne.symm (nd_ne ND (i := 0) (j := 8) rfl rfl (by decide))), (nd_ne ND (i := 8) (j := 11) rfl rfl (by decide)), (nd_ne ND (i := 8) (j := 12) rfl rfl (by decide)), (nd_ne ND (i := 8) (j := 13) rfl rfl (by decide))⟩) e_241
      have e_303 := r_291 groupMask_ _ (by simp only [List.mem_cons, List.not_mem_nil, or_false, not_or]; exact ⟨(Ne.symm (nd_ne ND (i := 0) (j := 9) rfl rfl (by decide))), (nd_ne ND (i := 9) (j := 11) rfl rfl (by decide)), (nd_ne ND (i := 9) (j := 12) rfl rfl (by decide)), (nd_ne ND (i := 9) (j := 13) rfl rfl (by decide))⟩) e_242
      have e_304 := r_291 groupFar_ _ (by simp only [List.mem_cons, List.not_mem_nil, or_false, not_or]; exact ⟨(Ne.symm (nd_ne ND (i := 0) (j := 10) rfl rfl (by decide))), (nd_ne ND (i := 10) (j := 11) rfl rfl (by decide)), (nd_ne ND (i := 10) (j := 12) rfl rfl (by decide)), (nd_ne ND (i := 10) (j := 13) rfl rfl (by decide))⟩) e_243
      have r_305 := r_247.trans (r_291.mono (by simp))
      have g_306 : fs_280[(28 : Nat)]? = some (.int (nI (bl fa asz p))) := (ga_285 28 (by decide)).trans g_248
      have g_307 : fs_280[(29 : Nat)]? = some (.int (nI (rkd (kdP fa asz p)))) := (ga_285 29 (by decide)).trans g_249
      have g_308 : fs_280[(30 : Nat)]? = some (.int (nI (bl fa asz p))) := (ga_285 30 (by decide)).trans g_250
      have g_309 : fs_280[(31 : Nat)]? = some (.int (nI y)) := (ga_285 31 (by decide)).trans g_251
      have g_310 : fs_280[(34 : Nat)]? = some (.int (nI ph.length)) := (ga_285 34 (by decide)).trans g_252
      have g_311 : fs_280[(35 : Nat)]? = some (.int (nI t)) := (ga_285 35 (by decide)).trans g_253
      have g_312 : fs_280[(36 : Nat)]? = some (.int (nI gr.length)) := (ga_285 36 (by decide)).trans g_254
      have g_313 : fs_280[(39 : Nat)]? = some (.int (nI mk)) := (ga_285 39 (by decide)).trans g_257
      have g_314 : fs_280[(61 : Nat)]? = some (.int (b01 true)) := (ga_285 61 (by decide)).trans g_258
      have g_315 : fs_280[(4 : Nat)]? = some (.ref asked_) := (ga_285 4 (by decide)).trans g_259
      have g_316 : fs_280[(41 : Nat)]? = some (.ref firstToken_) := (ga_285 41 (by decide)).trans g_260
      have g_317 : fs_280[(42 : Nat)]? = some (.ref starred_) := (ga_285 42 (by decide)).trans g_261
      have g_318 : fs_280[(43 : Nat)]? = some (.ref tokenAt_) := (ga_285 43 (by decide)).trans g_262
      have g_319 : fs_280[(44 : Nat)]? = some (.ref tokenSize_) := (ga_285 44 (by decide)).trans g_263
      have g_320 : fs_280[(45 : Nat)]? = some (.ref groupKind_) := (ga_285 45 (by decide)).trans g_264
      have g_321 : fs_280[(46 : Nat)]? = some (.ref groupPhrase_) := (ga_285 46 (by decide)).trans g_265
      have g_322 : fs_280[(47 : Nat)]? = some (.ref groupSize_) := (ga_285 47 (by decide)).trans g_266
      have g_323 : fs_280[(48 : Nat)]? = some (.ref groupMask_) := (ga_285 48 (by decide)).trans g_267
      have g_324 : fs_280[(49 : Nat)]? = some (.ref groupFar_) := (ga_285 49 (by decide)).trans g_268
      have g_325 : fs_280[(50 : Nat)]? = some (.ref out_) := (ga_285 50 (by decide)).trans g_269
      have g_326 : fs_280[(51 : Nat)]? = some (.ref top_) := (ga_285 51 (by decide)).trans g_270
      have g_327 : fs_280[(52 : Nat)]? = some (.ref masks_) := (ga_285 52 (by decide)).trans g_271
      have g_328 : fs_280[(11 : Nat)]? = some (.int (nI asz)) := (ga_285 11 (by decide)).trans g_272
      have g_329 : fs_280[(33 : Nat)]? = some (.int bd_221) := (ga_285 33 (by decide)).trans g_228
      have ga_330 : ∀ i : Nat, i ∉ [28, 29, 30, 31, 33, 34, 35, 36, 37, 38, 39, 61] → fs_280[i]? = fs[i]? := fun i hi => (ga_285 i (fun z => hi (by simp only [List.mem_cons, List.not_mem_nil, or_false] at z ⊢; omega))).trans (ga_273 i hi)
      have rk9 := rd_kp (l := jn) st o
      refine s_Model_follows_206 (fun z_331 => ?_) (fun z => absurd z_2 z)
      refine s_Model_follows_215 l_281 e_282 ?_
      obtain ⟨h_332, z_335⟩ : ∃ z, z = xw_up h_292 m (.inr (11, (fs_280.set 61 (.int 0)))) := ⟨_, rfl⟩
      rw [← z_335]
      have e_333 : h_332 m = some (.inr (11, (fs_280.set 61 (.int 0)))) := by rw [z_335]; exact xw_up_s _ _ _
      have f_334 : ∀ q, q ≠ m → h_332 q = h_292 q := fun q hq => by rw [z_335]; exact xw_up_n _ _ hq
      clear z_335
      have e_336 := (f_334 asked_ (Ne.symm (nd_ne ND (i := 0) (j := 1) rfl rfl (by decide)))).trans e_295
      have e_337 := (f_334 firstToken_ (Ne.symm (nd_ne ND (i := 0) (j := 2) rfl rfl (by decide)))).trans e_296
      have e_338 := (f_334 starred_ (Ne.symm (nd_ne ND (i := 0) (j := 3) rfl rfl (by decide)))).trans e_297
      have e_339 := (f_334 tokenAt_ (Ne.symm (nd_ne ND (i := 0) (j := 4) rfl rfl (by decide)))).trans e_298
      have e_340 := (f_334 tokenSize_ (Ne.symm (nd_ne ND (i := 0) (j := 5) rfl rfl (by decide)))).trans e_299
      have e_341 := (f_334 groupKind_ (Ne.symm (nd_ne ND (i := 0) (j := 6) rfl rfl (by decide)))).trans e_300
      have e_342 := (f_334 groupPhrase_ (Ne.symm (nd_ne ND (i := 0) (j := 7) rfl rfl (by decide)))).trans e_301
      have e_343 := (f_334 groupSize_ (Ne.symm (nd_ne ND (i := 0) (j := 8) rfl rfl (by decide)))).trans e_302
      have e_344 := (f_334 groupMask_ (Ne.symm (nd_ne ND (i := 0) (j := 9) rfl rfl (by decide)))).trans e_303
      have e_345 := (f_334 groupFar_ (Ne.symm (nd_ne ND (i := 0) (j := 10) rfl rfl (by decide)))).trans e_304
      have e_346 := (f_334 out_ (Ne.symm (nd_ne ND (i := 0) (j := 11) rfl rfl (by decide)))).trans e_286
      have e_347 := (f_334 top_ (Ne.symm (nd_ne ND (i := 0) (j := 12) rfl rfl (by decide)))).trans e_287
      have e_348 := (f_334 masks_ (Ne.symm (nd_ne ND (i := 0) (j := 13) rfl rfl (by decide)))).trans e_288
      have r_349 := r_305.up (by simp) f_334
      obtain ⟨fs_350, z_351⟩ : ∃ z, z = fs_280.set 61 (.int 0) := ⟨_, rfl⟩
      rw [← z_351] at e_333
      have l_352 : fs_350.length = 62 := by rw [z_351]; simp only [List.length_set]; exact l_281
      have g_353 : fs_350[(4 : Nat)]? = some (.ref asked_) := by rw [z_351]; exact (xw_gn (by decide) g_315)
      have g_354 : fs_350[(11 : Nat)]? = some (.int (nI asz)) := by rw [z_351]; exact (xw_gn (by decide) g_328)
      have g_355 : fs_350[(28 : Nat)]? = some (.int (nI (bl fa asz p))) := by rw [z_351]; exact (xw_gn (by decide) g_306)
      have g_356 : fs_350[(29 : Nat)]? = some (.int (nI (rkd (kdP fa asz p)))) := by rw [z_351]; exact (xw_gn (by decide) g_307)
      have g_357 : fs_350[(30 : Nat)]? = some (.int (nI (bl fa asz p))) := by rw [z_351]; exact (xw_gn (by decide) g_308)
      have g_358 : fs_350[(31 : Nat)]? = some (.int (nI y)) := by rw [z_351]; exact (xw_gn (by decide) g_309)
      have g_359 : fs_350[(33 : Nat)]? = some (.int bd_221) := by rw [z_351]; exact (xw_gn (by decide) g_329)
      have g_360 : fs_350[(34 : Nat)]? = some (.int (nI ph.length)) := by rw [z_351]; exact (xw_gn (by decide) g_310)
      have g_361 : fs_350[(35 : Nat)]? = some (.int (nI t)) := by rw [z_351]; exact (xw_gn (by decide) g_311)
      have g_362 : fs_350[(36 : Nat)]? = some (.int (nI gr.length)) := by rw [z_351]; exact (xw_gn (by decide) g_312)
      have g_363 : fs_350[(37 : Nat)]? = some (.int (nI (redS jn st o).2.length)) := by rw [z_351]; exact (xw_gn (by decide) g_283)
      have g_364 : fs_350[(38 : Nat)]? = some (.int (nI ((redS jn st o).1.length + 1))) := by rw [z_351]; exact (xw_gn (by decide) g_284)
      have g_365 : fs_350[(39 : Nat)]? = some (.int (nI mk)) := by rw [z_351]; exact (xw_gn (by decide) g_313)
      have g_366 : fs_350[(41 : Nat)]? = some (.ref firstToken_) := by rw [z_351]; exact (xw_gn (by decide) g_316)
      have g_367 : fs_350[(42 : Nat)]? = some (.ref starred_) := by rw [z_351]; exact (xw_gn (by decide) g_317)
      have g_368 : fs_350[(43 : Nat)]? = some (.ref tokenAt_) := by rw [z_351]; exact (xw_gn (by decide) g_318)
      have g_369 : fs_350[(44 : Nat)]? = some (.ref tokenSize_) := by rw [z_351]; exact (xw_gn (by decide) g_319)
      have g_370 : fs_350[(45 : Nat)]? = some (.ref groupKind_) := by rw [z_351]; exact (xw_gn (by decide) g_320)
      have g_371 : fs_350[(46 : Nat)]? = some (.ref groupPhrase_) := by rw [z_351]; exact (xw_gn (by decide) g_321)
      have g_372 : fs_350[(47 : Nat)]? = some (.ref groupSize_) := by rw [z_351]; exact (xw_gn (by decide) g_322)
      have g_373 : fs_350[(48 : Nat)]? = some (.ref groupMask_) := by rw [z_351]; exact (xw_gn (by decide) g_323)
      have g_374 : fs_350[(49 : Nat)]? = some (.ref groupFar_) := by rw [z_351]; exact (xw_gn (by decide) g_324)
      have g_375 : fs_350[(50 : Nat)]? = some (.ref out_) := by rw [z_351]; exact (xw_gn (by decide) g_325)
      have g_376 : fs_350[(51 : Nat)]? = some (.ref top_) := by rw [z_351]; exact (xw_gn (by decide) g_326)
      have g_377 : fs_350[(52 : Nat)]? = some (.ref masks_) := by rw [z_351]; exact (xw_gn (by decide) g_327)
      have g_378 : fs_350[(61 : Nat)]? = some (.int 0) := by rw [z_351]; exact (xw_gs (by simp [l_281]))
      have ga_379 : ∀ i : Nat, i ∉ [28, 29, 30, 31, 33, 34, 35, 36, 37, 38, 39, 61] → fs_350[i]? = fs[i]? := fun i hi => by rw [z_351]; exact xw_gn (fun z => hi (by rw [z]; simp)) (ga_330 i hi)
      clear z_351
      have h4_380 : jn = 4 := (nI_eq (b := 4) (by omega) (by decide)).mp (hj.symm.trans z_331)
      have hd9 : depS ((jn, mk) :: (redS jn st o).1) = depS (redS jn st o).1 := by rw [depS, if_neg (by show ¬ 5 ≤ jn; omega)]; omega
      have hc9 : cJ ((jn, mk) :: (redS jn st o).1) = 1 + cJ (redS jn st o).1 := by rw [cJ, if_pos (by show jn < 5; omega)]
      have hg_381 : bga (kdP fa asz p) = true := hbg.trans (b01_t (fun q => z_219 (hb.trans q)))
      subst h4_380
      exact kk _ (Or.inr ⟨_, sp_j4 h10 hjn hg_381, ⟨_, _, _, _, _, _, _, _, _, _, _, _, _, _, _, _, PT, HY, RQ, GR, OU_290, (OG.red ST.one), ST_289, hb_274, hp12, hgp, hmk, (by show depS ((4, mk) :: (redS 4 st o).1) ≤ 8; omega), (by show (redS 4 st o).2.length + cJ ((4, mk) :: (redS 4 st o).1) + 0 = 2 * gr.length; omega), l_352, e_333, g_355, g_356, g_357, g_358, g_359, g_360, g_361, g_362, g_363, g_364, g_365, g_378, fun i hi => (ga_379 i hi).trans (gq i hi), e_337, e_338, e_339, e_340, e_341, e_342, e_343, e_344, e_345, e_346, e_347, e_348, rq.trans r_349⟩⟩)
    · skip
      refine s_Model_follows_181 ?_
      refine s_Model_follows_186 l e gz_30 ?_
      refine x_callV (As := [.int 1, .int (nI (bl fa asz p))]) (b := m) (rest := []) (F1 := 1) (L1 := 20) (mc := 0) (ms := 0) d_Model_follows_190 cV_Model_250 (f_wrongsH (k := bl fa asz p) l e gz_33 (by omega) (by omega) (by omega)) e ⟨by decide, rfl⟩ ⟨by omega, by show 8 + (3 + 11) + 20 ≤ _; omega⟩ ⟨by omega, by omega⟩ (Nat.le_of_ble_eq_true rfl) (fun v_393 h_392 p_394 => ?_)
      obtain ⟨rfl, bd_382, fs_383, hw_384, hw_385, hw_386, l_387, e_388, g_389, ga_390, r_391⟩ := p_394
      have e_395 := r_391 asked_ _ (by simp only [List.mem_cons, List.not_mem_nil, or_false, not_or]; exact (Ne.symm (nd_ne ND (i := 0) (j := 1) rfl rfl (by decide)))) e_asked
      have e_396 := r_391 firstToken_ _ (by simp only [List.mem_cons, List.not_mem_nil, or_false, not_or]; exact (Ne.symm (nd_ne ND (i := 0) (j := 2) rfl rfl (by decide)))) e_firstToken
      have e_397 := r_391 starred_ _ (by simp only [List.mem_cons, List.not_mem_nil, or_false, not_or]; exact (Ne.symm (nd_ne ND (i := 0) (j := 3) rfl rfl (by decide)))) e_starred
      have e_398 := r_391 tokenAt_ _ (by simp only [List.mem_cons, List.not_mem_nil, or_false, not_or]; exact (Ne.symm (nd_ne ND (i := 0) (j := 4) rfl rfl (by decide)))) e_tokenAt
      have e_399 := r_391 tokenSize_ _ (by simp only [List.mem_cons, List.not_mem_nil, or_false, not_or]; exact (Ne.symm (nd_ne ND (i := 0) (j := 5) rfl rfl (by decide)))) e_tokenSize
      have e_400 := r_391 groupKind_ _ (by simp only [List.mem_cons, List.not_mem_nil, or_false, not_or]; exact (Ne.symm (nd_ne ND (i := 0) (j := 6) rfl rfl (by decide)))) e_groupKind
      have e_401 := r_391 groupPhrase_ _ (by simp only [List.mem_cons, List.not_mem_nil, or_false, not_or]; exact (Ne.symm (nd_ne ND (i := 0) (j := 7) rfl rfl (by decide)))) e_groupPhrase
      have e_402 := r_391 groupSize_ _ (by simp only [List.mem_cons, List.not_mem_nil, or_false, not_or]; exact (Ne.symm (nd_ne ND (i := 0) (j := 8) rfl rfl (by decide)))) e_groupSize
      have e_403 := r_391 groupMask_ _ (by simp only [List.mem_cons, List.not_mem_nil, or_false, not_or]; exact (Ne.symm (nd_ne ND (i := 0) (j := 9) rfl rfl (by decide)))) e_groupMask
      have e_404 := r_391 groupFar_ _ (by simp only [List.mem_cons, List.not_mem_nil, or_false, not_or]; exact (Ne.symm (nd_ne ND (i := 0) (j := 10) rfl rfl (by decide)))) e_groupFar
      have e_405 := r_391 out_ _ (by simp only [List.mem_cons, List.not_mem_nil, or_false, not_or]; exact (Ne.symm (nd_ne ND (i := 0) (j := 11) rfl rfl (by decide)))) e_out
      have e_406 := r_391 top_ _ (by simp only [List.mem_cons, List.not_mem_nil, or_false, not_or]; exact (Ne.symm (nd_ne ND (i := 0) (j := 12) rfl rfl (by decide)))) e_top
      have e_407 := r_391 masks_ _ (by simp only [List.mem_cons, List.not_mem_nil, or_false, not_or]; exact (Ne.symm (nd_ne ND (i := 0) (j := 13) rfl rfl (by decide)))) e_masks
      have r_408 := r0.trans (r_391.mono (by simp))
      have g_409 : fs_383[(28 : Nat)]? = some (.int (nI (bl fa asz p))) := (ga_390 28 (by decide)).trans gz_28
      have g_410 : fs_383[(29 : Nat)]? = some (.int (nI (rkd (kdP fa asz p)))) := (ga_390 29 (by decide)).trans gz_29
      have g_411 : fs_383[(30 : Nat)]? = some (.int (nI (bl fa asz p))) := (ga_390 30 (by decide)).trans gz_30
      have g_412 : fs_383[(31 : Nat)]? = some (.int (nI y)) := (ga_390 31 (by decide)).trans gz_31
      have g_413 : fs_383[(34 : Nat)]? = some (.int (nI ph.length)) := (ga_390 34 (by decide)).trans gz_34
      have g_414 : fs_383[(35 : Nat)]? = some (.int (nI t)) := (ga_390 35 (by decide)).trans gz_35
      have g_415 : fs_383[(36 : Nat)]? = some (.int (nI gr.length)) := (ga_390 36 (by decide)).trans gz_36
      have g_416 : fs_383[(37 : Nat)]? = some (.int (nI o.length)) := (ga_390 37 (by decide)).trans gz_37
      have g_417 : fs_383[(38 : Nat)]? = some (.int (nI st.length)) := (ga_390 38 (by decide)).trans gz_38
      have g_418 : fs_383[(39 : Nat)]? = some (.int (nI mk)) := (ga_390 39 (by decide)).trans gz_39
      have g_419 : fs_383[(61 : Nat)]? = some (.int (b01 true)) := (ga_390 61 (by decide)).trans gz_61
      have g_420 : fs_383[(4 : Nat)]? = some (.ref asked_) := (ga_390 4 (by decide)).trans g_asked
      have g_421 : fs_383[(41 : Nat)]? = some (.ref firstToken_) := (ga_390 41 (by decide)).trans g_firstToken
      have g_422 : fs_383[(42 : Nat)]? = some (.ref starred_) := (ga_390 42 (by decide)).trans g_starred
      have g_423 : fs_383[(43 : Nat)]? = some (.ref tokenAt_) := (ga_390 43 (by decide)).trans g_tokenAt
      have g_424 : fs_383[(44 : Nat)]? = some (.ref tokenSize_) := (ga_390 44 (by decide)).trans g_tokenSize
      have g_425 : fs_383[(45 : Nat)]? = some (.ref groupKind_) := (ga_390 45 (by decide)).trans g_groupKind
      have g_426 : fs_383[(46 : Nat)]? = some (.ref groupPhrase_) := (ga_390 46 (by decide)).trans g_groupPhrase
      have g_427 : fs_383[(47 : Nat)]? = some (.ref groupSize_) := (ga_390 47 (by decide)).trans g_groupSize
      have g_428 : fs_383[(48 : Nat)]? = some (.ref groupMask_) := (ga_390 48 (by decide)).trans g_groupMask
      have g_429 : fs_383[(49 : Nat)]? = some (.ref groupFar_) := (ga_390 49 (by decide)).trans g_groupFar
      have g_430 : fs_383[(50 : Nat)]? = some (.ref out_) := (ga_390 50 (by decide)).trans g_out
      have g_431 : fs_383[(51 : Nat)]? = some (.ref top_) := (ga_390 51 (by decide)).trans g_top
      have g_432 : fs_383[(52 : Nat)]? = some (.ref masks_) := (ga_390 52 (by decide)).trans g_masks
      have g_433 : fs_383[(11 : Nat)]? = some (.int (nI asz)) := (ga_390 11 (by decide)).trans g_askedSize
      have ga_434 : ∀ i : Nat, i ∉ [28, 29, 30, 31, 33, 34, 35, 36, 37, 38, 39, 61] → fs_383[i]? = fs[i]? := fun i hi => (ga_390 i (fun z => hi (by simp only [List.mem_cons, List.not_mem_nil, or_false] at z ⊢; omega))).trans (ga0 i hi)
      have hb_435 : ¬ bd_382 < 0 := hw_385 (by decide)
      have hb_436 : 0 ≤ bd_382 := Int32.not_lt.mp hb_435
      refine s_Model_follows_193 l_387 e_388 g_389 (fun z => absurd z hb_435) (fun z_437 => ?_)
      refine s_Model_follows_200 ?_
      have h4_438 : jn = 4 := (nI_eq (b := 4) (by omega) (by decide)).mp (hj.symm.trans z_2)
      have hg_439 : bga (kdP fa asz p) = false := hbg.trans (b01_f (hb.symm.trans z_220))
      exact kk _ (Or.inl ⟨sp_jn h10 (hjn.trans h4_438) hg_439, ⟨o.length, st.length, _, _, _, _, _, _, _, _, _, _, _, _, _, _, hb_435, (by omega), l_387, e_388, g_389, g_416, g_417, (fun i9 hi9 => by simp only [List.mem_cons, List.not_mem_nil, or_false] at hi9; rcases hi9 with rfl | rfl | rfl | rfl | rfl | rfl | rfl | rfl | rfl <;> first | exact ⟨_, g_409⟩ | exact ⟨_, g_410⟩ | exact ⟨_, g_411⟩ | exact ⟨_, g_412⟩ | exact ⟨_, g_413⟩ | exact ⟨_, g_414⟩ | exact ⟨_, g_415⟩ | exact ⟨_, g_418⟩ | exact ⟨_, g_419⟩), fun i hi => (ga_434 i hi).trans (gq i hi), e_396, e_397, e_398, e_399, e_400, e_401, e_402, e_403, e_404, e_405, e_406, e_407, rq.trans r_408⟩⟩)
set_option maxHeartbeats 8000000 in
theorem f_followsCH {G : xw_G} {F L bc bs : Nat} {pr : Option Value → xw_A → Prop} {px : String → xw_A → Prop} {h : xw_A} {m asked_ firstToken_ starred_ tokenAt_ tokenSize_ groupKind_ groupPhrase_ groupSize_ groupMask_ groupFar_ out_ top_ masks_ asz : Nat} {gs : List Value} {fa : Nat → Int32} {h0 : xw_A} (q_askedSize : gs[(11 : Nat)]? = some (.int (nI asz))) (q_asked : gs[(4 : Nat)]? = some (.ref asked_)) (q_firstToken : gs[(41 : Nat)]? = some (.ref firstToken_)) (q_starred : gs[(42 : Nat)]? = some (.ref starred_)) (q_tokenAt : gs[(43 : Nat)]? = some (.ref tokenAt_)) (q_tokenSize : gs[(44 : Nat)]? = some (.ref tokenSize_)) (q_groupKind : gs[(45 : Nat)]? = some (.ref groupKind_)) (q_groupPhrase : gs[(46 : Nat)]? = some (.ref groupPhrase_)) (q_groupSize : gs[(47 : Nat)]? = some (.ref groupSize_)) (q_groupMask : gs[(48 : Nat)]? = some (.ref groupMask_)) (q_groupFar : gs[(49 : Nat)]? = some (.ref groupFar_)) (q_out : gs[(50 : Nat)]? = some (.ref out_)) (q_top : gs[(51 : Nat)]? = some (.ref top_)) (q_masks : gs[(52 : Nat)]? = some (.ref masks_)) (q_a : h0 asked_ = some (.inl (0, 96, .inl fa))) (ND : NDl [m, asked_, firstToken_, starred_, tokenAt_, tokenSize_, groupKind_, groupPhrase_, groupSize_, groupMask_, groupFar_, out_, top_, masks_]) (hasz : asz ≤ 96) (h128 : ∀ j, j < asz → ∃ c, c < 128 ∧ fa j = nI c) {p mk : Nat} {ph : List PHt} {gr : List GRt} {st o : List EV} (Q : QzR m asked_ firstToken_ starred_ tokenAt_ tokenSize_ groupKind_ groupPhrase_ groupSize_ groupMask_ groupFar_ out_ top_ masks_ gs h0 fa asz (true, (p, ph, gr), st, mk, o) h) (h10 : kdP fa asz p = 10) (hF : 5 ≤ F) (hL : 107 ≤ L) (kk : ∀ h', ((stp (kdS fa asz) (skS fa asz) (gpP fa asz) (flP fa asz) (true, (p, ph, gr), st, mk, o) = none ∧ QzB m asked_ firstToken_ starred_ tokenAt_ tokenSize_ groupKind_ groupPhrase_ groupSize_ groupMask_ groupFar_ out_ top_ masks_ gs h0 h') ∨ ∃ z', stp (kdS fa asz) (skS fa asz) (gpP fa asz) (flP fa asz) (true, (p, ph, gr), st, mk, o) = some z' ∧ QzR m asked_ firstToken_ starred_ tokenAt_ tokenSize_ groupKind_ groupPhrase_ groupSize_ groupMask_ groupFar_ out_ top_ masks_ gs h0 fa asz z' h') → pr none h') : xw G m_Model_follows F L bc bs pr px 8 [some (.ref m), none, none] [] h := by
  obtain ⟨y, t, bd, c1, c2, ca, cs, c5, c6, c7, c8, c9, co, ct, cm, fs, PT, HY, RQ, GR, OU, OG, ST, hbd, hp12, hgp, hmk, hd8, hcn, l, e, gz_28, gz_29, gz_30, gz_31, gz_33, gz_34, gz_35, gz_36, gz_37, gz_38, gz_39, gz_61, gq, e_firstToken, e_starred, e_tokenAt, e_tokenSize, e_groupKind, e_groupPhrase, e_groupSize, e_groupMask, e_groupFar, e_out, e_top, e_masks, rq⟩ := Q
  have g_askedSize := (gq 11 (by decide)).trans q_askedSize
  have g_asked := (gq 4 (by decide)).trans q_asked
  have g_firstToken := (gq 41 (by decide)).trans q_firstToken
  have g_starred := (gq 42 (by decide)).trans q_starred
  have g_tokenAt := (gq 43 (by decide)).trans q_tokenAt
  have g_tokenSize := (gq 44 (by decide)).trans q_tokenSize
  have g_groupKind := (gq 45 (by decide)).trans q_groupKind
  have g_groupPhrase := (gq 46 (by decide)).trans q_groupPhrase
  have g_groupSize := (gq 47 (by decide)).trans q_groupSize
  have g_groupMask := (gq 48 (by decide)).trans q_groupMask
  have g_groupFar := (gq 49 (by decide)).trans q_groupFar
  have g_out := (gq 50 (by decide)).trans q_out
  have g_top := (gq 51 (by decide)).trans q_top
  have g_masks := (gq 52 (by decide)).trans q_masks
  have e_asked := rq asked_ _ (by simp only [List.mem_cons, List.not_mem_nil, or_false, not_or]; exact ⟨(Ne.symm (nd_ne ND (i := 0) (j := 1) rfl rfl (by decide))), (nd_ne ND (i := 1) (j := 2) rfl rfl (by decide)), (nd_ne ND (i := 1) (j := 3) rfl rfl (by decide)), (nd_ne ND (i := 1) (j := 4) rfl rfl (by decide)), (nd_ne ND (i := 1) (j := 5) rfl rfl (by decide)), (nd_ne ND (i := 1) (j := 6) rfl rfl (by decide)), (nd_ne ND (i := 1) (j := 7) rfl rfl (by decide)), (nd_ne ND (i := 1) (j := 8) rfl rfl (by decide)), (nd_ne ND (i := 1) (j := 9) rfl rfl (by decide)), (nd_ne ND (i := 1) (j := 10) rfl rfl (by decide)), (nd_ne ND (i := 1) (j := 11) rfl rfl (by decide)), (nd_ne ND (i := 1) (j := 12) rfl rfl (by decide)), (nd_ne ND (i := 1) (j := 13) rfl rfl (by decide))⟩) q_a
  have hcl := cJ_len st
  dsimp only at PT HY RQ GR OU OG ST hp12 hgp hmk hd8 hcn gz_28 gz_29 gz_30 gz_31 gz_33 gz_34 gz_35 gz_36 gz_37 gz_38 gz_39 gz_61
  have hbd2 : ¬ 0 ≤ bd := Int32.not_le.mpr hbd
  have hxy0 := PT.1
  have hy97 := PT.2.1
  simp only [if_true] at hcn
  have ga0 : ∀ i : Nat, i ∉ [28, 29, 30, 31, 33, 34, 35, 36, 37, 38, 39, 61] → fs[i]? = fs[i]? := fun _ _ => rfl
  have r0 : FrO [m, firstToken_, starred_, tokenAt_, tokenSize_, groupKind_, groupPhrase_, groupSize_, groupMask_, groupFar_, out_, top_, masks_] h h := FrO.rf
  refine s_Model_follows_8 ?_
  refine x_callV (As := [.int 1]) (b := m) (rest := []) (F1 := 1) (L1 := 20) (mc := 0) (ms := 0) d_Model_follows_10 cV_Model_281 (f_reducesH (lv := 1) (st := st) (o := o) (cm := cm) l e gz_37 gz_38 g_out e_out g_top e_top (nd_ne ND (i := 11) (j := 12) rfl rfl (by decide)) (by omega) rfl (by decide) (by decide) ST OU (by omega) (by omega)) e ⟨by decide, rfl⟩ ⟨by omega, by show 8 + (2 + 11) + 20 ≤ _; omega⟩ ⟨by omega, by omega⟩ (Nat.le_of_ble_eq_true rfl) (fun v_13 h_12 p_14 => ?_)
  obtain ⟨rfl, co_1, fs_2, l_3, e_4, g_5, g_6, ga_7, e_8, ST_9, OU_10, r_11⟩ := p_14
  have e_15 := r_11 asked_ _ (by simp only [List.mem_cons, List.not_mem_nil, or_false, not_or]; exact ⟨(Ne.symm (nd_ne ND (i := 0) (j := 1) rfl rfl (by decide))), (nd_ne ND (i := 1) (j := 11) rfl rfl (by decide))⟩) e_asked
  have e_16 := r_11 firstToken_ _ (by simp only [List.mem_cons, List.not_mem_nil, or_false, not_or]; exact ⟨(Ne.symm (nd_ne ND (i := 0) (j := 2) rfl rfl (by decide))), (nd_ne ND (i := 2) (j := 11) rfl rfl (by decide))⟩) e_firstToken
  have e_17 := r_11 starred_ _ (by simp only [List.mem_cons, List.not_mem_nil, or_false, not_or]; exact ⟨(Ne.symm (nd_ne ND (i := 0) (j := 3) rfl rfl (by decide))), (nd_ne ND (i := 3) (j := 11) rfl rfl (by decide))⟩) e_starred
  have e_18 := r_11 tokenAt_ _ (by simp only [List.mem_cons, List.not_mem_nil, or_false, not_or]; exact ⟨(Ne.symm (nd_ne ND (i := 0) (j := 4) rfl rfl (by decide))), (nd_ne ND (i := 4) (j := 11) rfl rfl (by decide))⟩) e_tokenAt
  have e_19 := r_11 tokenSize_ _ (by simp only [List.mem_cons, List.not_mem_nil, or_false, not_or]; exact ⟨(Ne.symm (nd_ne ND (i := 0) (j := 5) rfl rfl (by decide))), (nd_ne ND (i := 5) (j := 11) rfl rfl (by decide))⟩) e_tokenSize
  have e_20 := r_11 groupKind_ _ (by simp only [List.mem_cons, List.not_mem_nil, or_false, not_or]; exact ⟨(Ne.symm (nd_ne ND (i := 0) (j := 6) rfl rfl (by decide))), (nd_ne ND (i := 6) (j := 11) rfl rfl (by decide))⟩) e_groupKind
  have e_21 := r_11 groupPhrase_ _ (by simp only [List.mem_cons, List.not_mem_nil, or_false, not_or]; exact ⟨(Ne.symm (nd_ne ND (i := 0) (j := 7) rfl rfl (by decide))), (nd_ne ND (i := 7) (j := 11) rfl rfl (by decide))⟩) e_groupPhrase
  have e_22 := r_11 groupSize_ _ (by simp only [List.mem_cons, List.not_mem_nil, or_false, not_or]; exact ⟨(Ne.symm (nd_ne ND (i := 0) (j := 8) rfl rfl (by decide))), (nd_ne ND (i := 8) (j := 11) rfl rfl (by decide))⟩) e_groupSize
  have e_23 := r_11 groupMask_ _ (by simp only [List.mem_cons, List.not_mem_nil, or_false, not_or]; exact ⟨(Ne.symm (nd_ne ND (i := 0) (j := 9) rfl rfl (by decide))), (nd_ne ND (i := 9) (j := 11) rfl rfl (by decide))⟩) e_groupMask
  have e_24 := r_11 groupFar_ _ (by simp only [List.mem_cons, List.not_mem_nil, or_false, not_or]; exact ⟨(Ne.symm (nd_ne ND (i := 0) (j := 10) rfl rfl (by decide))), (nd_ne ND (i := 10) (j := 11) rfl rfl (by decide))⟩) e_groupFar
  have e_25 := r_11 top_ _ (by simp only [List.mem_cons, List.not_mem_nil, or_false, not_or]; exact ⟨(Ne.symm (nd_ne ND (i := 0) (j := 12) rfl rfl (by decide))), (Ne.symm (nd_ne ND (i := 11) (j := 12) rfl rfl (by decide)))⟩) e_top
  have e_26 := r_11 masks_ _ (by simp only [List.mem_cons, List.not_mem_nil, or_false, not_or]; exact ⟨(Ne.symm (nd_ne ND (i := 0) (j := 13) rfl rfl (by decide))), (Ne.symm (nd_ne ND (i := 11) (j := 13) rfl rfl (by decide)))⟩) e_masks
  have r_27 := r0.trans (r_11.mono (by simp))
  have g_28 : fs_2[(28 : Nat)]? = some (.int (nI (bl fa asz p))) := (ga_7 28 (by decide)).trans gz_28
  have g_29 : fs_2[(29 : Nat)]? = some (.int (nI (rkd (kdP fa asz p)))) := (ga_7 29 (by decide)).trans gz_29
  have g_30 : fs_2[(30 : Nat)]? = some (.int (nI (bl fa asz p))) := (ga_7 30 (by decide)).trans gz_30
  have g_31 : fs_2[(31 : Nat)]? = some (.int (nI y)) := (ga_7 31 (by decide)).trans gz_31
  have g_32 : fs_2[(33 : Nat)]? = some (.int bd) := (ga_7 33 (by decide)).trans gz_33
  have g_33 : fs_2[(34 : Nat)]? = some (.int (nI ph.length)) := (ga_7 34 (by decide)).trans gz_34
  have g_34 : fs_2[(35 : Nat)]? = some (.int (nI t)) := (ga_7 35 (by decide)).trans gz_35
  have g_35 : fs_2[(36 : Nat)]? = some (.int (nI gr.length)) := (ga_7 36 (by decide)).trans gz_36
  have g_36 : fs_2[(39 : Nat)]? = some (.int (nI mk)) := (ga_7 39 (by decide)).trans gz_39
  have g_37 : fs_2[(61 : Nat)]? = some (.int (b01 true)) := (ga_7 61 (by decide)).trans gz_61
  have g_38 : fs_2[(4 : Nat)]? = some (.ref asked_) := (ga_7 4 (by decide)).trans g_asked
  have g_39 : fs_2[(41 : Nat)]? = some (.ref firstToken_) := (ga_7 41 (by decide)).trans g_firstToken
  have g_40 : fs_2[(42 : Nat)]? = some (.ref starred_) := (ga_7 42 (by decide)).trans g_starred
  have g_41 : fs_2[(43 : Nat)]? = some (.ref tokenAt_) := (ga_7 43 (by decide)).trans g_tokenAt
  have g_42 : fs_2[(44 : Nat)]? = some (.ref tokenSize_) := (ga_7 44 (by decide)).trans g_tokenSize
  have g_43 : fs_2[(45 : Nat)]? = some (.ref groupKind_) := (ga_7 45 (by decide)).trans g_groupKind
  have g_44 : fs_2[(46 : Nat)]? = some (.ref groupPhrase_) := (ga_7 46 (by decide)).trans g_groupPhrase
  have g_45 : fs_2[(47 : Nat)]? = some (.ref groupSize_) := (ga_7 47 (by decide)).trans g_groupSize
  have g_46 : fs_2[(48 : Nat)]? = some (.ref groupMask_) := (ga_7 48 (by decide)).trans g_groupMask
  have g_47 : fs_2[(49 : Nat)]? = some (.ref groupFar_) := (ga_7 49 (by decide)).trans g_groupFar
  have g_48 : fs_2[(50 : Nat)]? = some (.ref out_) := (ga_7 50 (by decide)).trans g_out
  have g_49 : fs_2[(51 : Nat)]? = some (.ref top_) := (ga_7 51 (by decide)).trans g_top
  have g_50 : fs_2[(52 : Nat)]? = some (.ref masks_) := (ga_7 52 (by decide)).trans g_masks
  have g_51 : fs_2[(11 : Nat)]? = some (.int (nI asz)) := (ga_7 11 (by decide)).trans g_askedSize
  have ga_52 : ∀ i : Nat, i ∉ [28, 29, 30, 31, 33, 34, 35, 36, 37, 38, 39, 61] → fs_2[i]? = fs[i]? := fun i hi => (ga_7 i (fun z => hi (by simp only [List.mem_cons, List.not_mem_nil, or_false] at z ⊢; omega))).trans (ga0 i hi)
  have rk_53 := rd_kp (l := 1) st o
  have rk_54 := cJ_len (redS 1 st o).1
  refine s_Model_follows_13 l_3 e_4 g_6 (fun z_55 => ?_) (fun z_56 => ?_)
  · skip
    refine s_Model_follows_25 ?_
    refine s_Model_follows_26 l_3 e_4 g_30 ?_
    refine x_callV (As := [.int 0, .int (nI (bl fa asz p))]) (b := m) (rest := []) (F1 := 1) (L1 := 20) (mc := 0) (ms := 0) d_Model_follows_30 cV_Model_250 (f_wrongsH (k := bl fa asz p) l_3 e_4 g_32 (by omega) (by omega) (by omega)) e_4 ⟨by decide, rfl⟩ ⟨by omega, by show 8 + (3 + 11) + 20 ≤ _; omega⟩ ⟨by omega, by omega⟩ (Nat.le_of_ble_eq_true rfl) (fun v_68 h_67 p_69 => ?_)
    obtain ⟨rfl, bd_57, fs_58, hw_59, hw_60, hw_61, l_62, e_63, g_64, ga_65, r_66⟩ := p_69
    have e_70 := r_66 asked_ _ (by simp only [List.mem_cons, List.not_mem_nil, or_false, not_or]; exact (Ne.symm (nd_ne ND (i := 0) (j := 1) rfl rfl (by decide)))) e_15
    have e_71 := r_66 firstToken_ _ (by simp only [List.mem_cons, List.not_mem_nil, or_false, not_or]; exact (Ne.symm (nd_ne ND (i := 0) (j := 2) rfl rfl (by decide)))) e_16
    have e_72 := r_66 starred_ _ (by simp only [List.mem_cons, List.not_mem_nil, or_false, not_or]; exact (Ne.symm (nd_ne ND (i := 0) (j := 3) rfl rfl (by decide)))) e_17
    have e_73 := r_66 tokenAt_ _ (by simp only [List.mem_cons, List.not_mem_nil, or_false, not_or]; exact (Ne.symm (nd_ne ND (i := 0) (j := 4) rfl rfl (by decide)))) e_18
    have e_74 := r_66 tokenSize_ _ (by simp only [List.mem_cons, List.not_mem_nil, or_false, not_or]; exact (Ne.symm (nd_ne ND (i := 0) (j := 5) rfl rfl (by decide)))) e_19
    have e_75 := r_66 groupKind_ _ (by simp only [List.mem_cons, List.not_mem_nil, or_false, not_or]; exact (Ne.symm (nd_ne ND (i := 0) (j := 6) rfl rfl (by decide)))) e_20
    have e_76 := r_66 groupPhrase_ _ (by simp only [List.mem_cons, List.not_mem_nil, or_false, not_or]; exact (Ne.symm (nd_ne ND (i := 0) (j := 7) rfl rfl (by decide)))) e_21
    have e_77 := r_66 groupSize_ _ (by simp only [List.mem_cons, List.not_mem_nil, or_false, not_or]; exact (Ne.symm (nd_ne ND (i := 0) (j := 8) rfl rfl (by decide)))) e_22
    have e_78 := r_66 groupMask_ _ (by simp only [List.mem_cons, List.not_mem_nil, or_false, not_or]; exact (Ne.symm (nd_ne ND (i := 0) (j := 9) rfl rfl (by decide)))) e_23
    have e_79 := r_66 groupFar_ _ (by simp only [List.mem_cons, List.not_mem_nil, or_false, not_or]; exact (Ne.symm (nd_ne ND (i := 0) (j := 10) rfl rfl (by decide)))) e_24
    have e_80 := r_66 out_ _ (by simp only [List.mem_cons, List.not_mem_nil, or_false, not_or]; exact (Ne.symm (nd_ne ND (i := 0) (j := 11) rfl rfl (by decide)))) e_8
    have e_81 := r_66 top_ _ (by simp only [List.mem_cons, List.not_mem_nil, or_false, not_or]; exact (Ne.symm (nd_ne ND (i := 0) (j := 12) rfl rfl (by decide)))) e_25
    have e_82 := r_66 masks_ _ (by simp only [List.mem_cons, List.not_mem_nil, or_false, not_or]; exact (Ne.symm (nd_ne ND (i := 0) (j := 13) rfl rfl (by decide)))) e_26
    have r_83 := r_27.trans (r_66.mono (by simp))
    have g_84 : fs_58[(28 : Nat)]? = some (.int (nI (bl fa asz p))) := (ga_65 28 (by decide)).trans g_28
    have g_85 : fs_58[(29 : Nat)]? = some (.int (nI (rkd (kdP fa asz p)))) := (ga_65 29 (by decide)).trans g_29
    have g_86 : fs_58[(30 : Nat)]? = some (.int (nI (bl fa asz p))) := (ga_65 30 (by decide)).trans g_30
    have g_87 : fs_58[(31 : Nat)]? = some (.int (nI y)) := (ga_65 31 (by decide)).trans g_31
    have g_88 : fs_58[(34 : Nat)]? = some (.int (nI ph.length)) := (ga_65 34 (by decide)).trans g_33
    have g_89 : fs_58[(35 : Nat)]? = some (.int (nI t)) := (ga_65 35 (by decide)).trans g_34
    have g_90 : fs_58[(36 : Nat)]? = some (.int (nI gr.length)) := (ga_65 36 (by decide)).trans g_35
    have g_91 : fs_58[(39 : Nat)]? = some (.int (nI mk)) := (ga_65 39 (by decide)).trans g_36
    have g_92 : fs_58[(61 : Nat)]? = some (.int (b01 true)) := (ga_65 61 (by decide)).trans g_37
    have g_93 : fs_58[(4 : Nat)]? = some (.ref asked_) := (ga_65 4 (by decide)).trans g_38
    have g_94 : fs_58[(41 : Nat)]? = some (.ref firstToken_) := (ga_65 41 (by decide)).trans g_39
    have g_95 : fs_58[(42 : Nat)]? = some (.ref starred_) := (ga_65 42 (by decide)).trans g_40
    have g_96 : fs_58[(43 : Nat)]? = some (.ref tokenAt_) := (ga_65 43 (by decide)).trans g_41
    have g_97 : fs_58[(44 : Nat)]? = some (.ref tokenSize_) := (ga_65 44 (by decide)).trans g_42
    have g_98 : fs_58[(45 : Nat)]? = some (.ref groupKind_) := (ga_65 45 (by decide)).trans g_43
    have g_99 : fs_58[(46 : Nat)]? = some (.ref groupPhrase_) := (ga_65 46 (by decide)).trans g_44
    have g_100 : fs_58[(47 : Nat)]? = some (.ref groupSize_) := (ga_65 47 (by decide)).trans g_45
    have g_101 : fs_58[(48 : Nat)]? = some (.ref groupMask_) := (ga_65 48 (by decide)).trans g_46
    have g_102 : fs_58[(49 : Nat)]? = some (.ref groupFar_) := (ga_65 49 (by decide)).trans g_47
    have g_103 : fs_58[(50 : Nat)]? = some (.ref out_) := (ga_65 50 (by decide)).trans g_48
    have g_104 : fs_58[(51 : Nat)]? = some (.ref top_) := (ga_65 51 (by decide)).trans g_49
    have g_105 : fs_58[(52 : Nat)]? = some (.ref masks_) := (ga_65 52 (by decide)).trans g_50
    have g_106 : fs_58[(11 : Nat)]? = some (.int (nI asz)) := (ga_65 11 (by decide)).trans g_51
    have g_107 : fs_58[(37 : Nat)]? = some (.int (nI (redS 1 st o).2.length)) := (ga_65 37 (by decide)).trans g_5
    have g_108 : fs_58[(38 : Nat)]? = some (.int (nI (redS 1 st o).1.length)) := (ga_65 38 (by decide)).trans g_6
    have ga_109 : ∀ i : Nat, i ∉ [28, 29, 30, 31, 33, 34, 35, 36, 37, 38, 39, 61] → fs_58[i]? = fs[i]? := fun i hi => (ga_65 i (fun z => hi (by simp only [List.mem_cons, List.not_mem_nil, or_false] at z ⊢; omega))).trans (ga_52 i hi)
    have hb_110 : bd_57 < 0 := by rw [hw_59 rfl]; exact hbd
    have hb_111 : ¬ 0 ≤ bd_57 := Int32.not_le.mpr hb_110
    refine s_Model_follows_33 l_62 e_63 g_64 (fun z_112 => ?_) (fun z => absurd hb_110 z)
    have hr_113 : ¬ (redS 1 st o).1.length = 0 := fun q => z_55 (by rw [q]; rfl)
    obtain ⟨p9, st9, hr9⟩ : ∃ p9 st9, (redS 1 st o).1 = p9 :: st9 := by cases hq : (redS 1 st o).1 with | nil => (exact absurd (by rw [hq]; rfl) hr_113) | cons a b => exact ⟨a, b, rfl⟩
    have ST9 := ST_9
    rw [hr9] at ST9
    obtain ⟨hp3, hcm9, STt⟩ := ST9.tl
    have hl9 : (redS 1 st o).1.length = st9.length + 1 := by rw [hr9]; rfl
    rw [hl9] at g_108
    have a4 := rd_top ST.one hr9
    have a3 := rk_53
    rw [hr9, depS, if_pos a4, cJ, if_neg (by omega)] at a3
    have ck9 := cf_kp st9 p9.2
    refine s_Model_follows_41 l_62 e_63 g_108 g_105 e_82 (by rw [nI_pred]; exact vp_in_nI (by omega) (by decide)) ?_
    rw [xw_up_up]
    refine x_u1 (fun h_114 e_115 f_116 => ?_)
    have e_117 := (f_116 asked_ (Ne.symm (nd_ne ND (i := 0) (j := 1) rfl rfl (by decide)))).trans e_70
    have e_118 := (f_116 firstToken_ (Ne.symm (nd_ne ND (i := 0) (j := 2) rfl rfl (by decide)))).trans e_71
    have e_119 := (f_116 starred_ (Ne.symm (nd_ne ND (i := 0) (j := 3) rfl rfl (by decide)))).trans e_72
    have e_120 := (f_116 tokenAt_ (Ne.symm (nd_ne ND (i := 0) (j := 4) rfl rfl (by decide)))).trans e_73
    have e_121 := (f_116 tokenSize_ (Ne.symm (nd_ne ND (i := 0) (j := 5) rfl rfl (by decide)))).trans e_74
    have e_122 := (f_116 groupKind_ (Ne.symm (nd_ne ND (i := 0) (j := 6) rfl rfl (by decide)))).trans e_75
    have e_123 := (f_116 groupPhrase_ (Ne.symm (nd_ne ND (i := 0) (j := 7) rfl rfl (by decide)))).trans e_76
    have e_124 := (f_116 groupSize_ (Ne.symm (nd_ne ND (i := 0) (j := 8) rfl rfl (by decide)))).trans e_77
    have e_125 := (f_116 groupMask_ (Ne.symm (nd_ne ND (i := 0) (j := 9) rfl rfl (by decide)))).trans e_78
    have e_126 := (f_116 groupFar_ (Ne.symm (nd_ne ND (i := 0) (j := 10) rfl rfl (by decide)))).trans e_79
    have e_127 := (f_116 out_ (Ne.symm (nd_ne ND (i := 0) (j := 11) rfl rfl (by decide)))).trans e_80
    have e_128 := (f_116 top_ (Ne.symm (nd_ne ND (i := 0) (j := 12) rfl rfl (by decide)))).trans e_81
    have e_129 := (f_116 masks_ (Ne.symm (nd_ne ND (i := 0) (j := 13) rfl rfl (by decide)))).trans e_82
    have r_130 := r_83.up (by simp) f_116
    obtain ⟨fs_131, z_132⟩ : ∃ z, z = (fs_58.set 38 (.int ((nI (st9.length + 1)) - 1))).set 39 (.int (cm ((nI (st9.length + 1)) - 1).toNatClampNeg)) := ⟨_, rfl⟩
    rw [← z_132] at e_115
    have l_133 : fs_131.length = 62 := by rw [z_132]; simp only [List.length_set]; exact l_62
    have g_134 : fs_131[(4 : Nat)]? = some (.ref asked_) := by rw [z_132]; exact (xw_gn (by decide) (xw_gn (by decide) g_93))
    have g_135 : fs_131[(11 : Nat)]? = some (.int (nI asz)) := by rw [z_132]; exact (xw_gn (by decide) (xw_gn (by decide) g_106))
    have g_136 : fs_131[(28 : Nat)]? = some (.int (nI (bl fa asz p))) := by rw [z_132]; exact (xw_gn (by decide) (xw_gn (by decide) g_84))
    have g_137 : fs_131[(29 : Nat)]? = some (.int (nI (rkd (kdP fa asz p)))) := by rw [z_132]; exact (xw_gn (by decide) (xw_gn (by decide) g_85))
    have g_138 : fs_131[(30 : Nat)]? = some (.int (nI (bl fa asz p))) := by rw [z_132]; exact (xw_gn (by decide) (xw_gn (by decide) g_86))
    have g_139 : fs_131[(31 : Nat)]? = some (.int (nI y)) := by rw [z_132]; exact (xw_gn (by decide) (xw_gn (by decide) g_87))
    have g_140 : fs_131[(33 : Nat)]? = some (.int bd_57) := by rw [z_132]; exact (xw_gn (by decide) (xw_gn (by decide) g_64))
    have g_141 : fs_131[(34 : Nat)]? = some (.int (nI ph.length)) := by rw [z_132]; exact (xw_gn (by decide) (xw_gn (by decide) g_88))
    have g_142 : fs_131[(35 : Nat)]? = some (.int (nI t)) := by rw [z_132]; exact (xw_gn (by decide) (xw_gn (by decide) g_89))
    have g_143 : fs_131[(36 : Nat)]? = some (.int (nI gr.length)) := by rw [z_132]; exact (xw_gn (by decide) (xw_gn (by decide) g_90))
    have g_144 : fs_131[(37 : Nat)]? = some (.int (nI (redS 1 st o).2.length)) := by rw [z_132]; exact (xw_gn (by decide) (xw_gn (by decide) g_107))
    have g_145 : fs_131[(38 : Nat)]? = some (.int ((nI (st9.length + 1)) - 1)) := by rw [z_132]; exact (xw_gn (by decide) (xw_gs (by simp [l_62])))
    have g_146 : fs_131[(39 : Nat)]? = some (.int (cm ((nI (st9.length + 1)) - 1).toNatClampNeg)) := by rw [z_132]; exact (xw_gs (by simp [l_62]))
    have g_147 : fs_131[(41 : Nat)]? = some (.ref firstToken_) := by rw [z_132]; exact (xw_gn (by decide) (xw_gn (by decide) g_94))
    have g_148 : fs_131[(42 : Nat)]? = some (.ref starred_) := by rw [z_132]; exact (xw_gn (by decide) (xw_gn (by decide) g_95))
    have g_149 : fs_131[(43 : Nat)]? = some (.ref tokenAt_) := by rw [z_132]; exact (xw_gn (by decide) (xw_gn (by decide) g_96))
    have g_150 : fs_131[(44 : Nat)]? = some (.ref tokenSize_) := by rw [z_132]; exact (xw_gn (by decide) (xw_gn (by decide) g_97))
    have g_151 : fs_131[(45 : Nat)]? = some (.ref groupKind_) := by rw [z_132]; exact (xw_gn (by decide) (xw_gn (by decide) g_98))
    have g_152 : fs_131[(46 : Nat)]? = some (.ref groupPhrase_) := by rw [z_132]; exact (xw_gn (by decide) (xw_gn (by decide) g_99))
    have g_153 : fs_131[(47 : Nat)]? = some (.ref groupSize_) := by rw [z_132]; exact (xw_gn (by decide) (xw_gn (by decide) g_100))
    have g_154 : fs_131[(48 : Nat)]? = some (.ref groupMask_) := by rw [z_132]; exact (xw_gn (by decide) (xw_gn (by decide) g_101))
    have g_155 : fs_131[(49 : Nat)]? = some (.ref groupFar_) := by rw [z_132]; exact (xw_gn (by decide) (xw_gn (by decide) g_102))
    have g_156 : fs_131[(50 : Nat)]? = some (.ref out_) := by rw [z_132]; exact (xw_gn (by decide) (xw_gn (by decide) g_103))
    have g_157 : fs_131[(51 : Nat)]? = some (.ref top_) := by rw [z_132]; exact (xw_gn (by decide) (xw_gn (by decide) g_104))
    have g_158 : fs_131[(52 : Nat)]? = some (.ref masks_) := by rw [z_132]; exact (xw_gn (by decide) (xw_gn (by decide) g_105))
    have g_159 : fs_131[(61 : Nat)]? = some (.int (b01 true)) := by rw [z_132]; exact (xw_gn (by decide) (xw_gn (by decide) g_92))
    have ga_160 : ∀ i : Nat, i ∉ [28, 29, 30, 31, 33, 34, 35, 36, 37, 38, 39, 61] → fs_131[i]? = fs[i]? := fun i hi => by rw [z_132]; exact xw_gn (fun z => hi (by rw [z]; simp)) (xw_gn (fun z => hi (by rw [z]; simp)) (ga_109 i hi))
    clear z_132
    rw [nI_pred, nI_clamp (show st9.length < 2 ^ 31 by omega), hcm9] at g_146
    rw [nI_pred] at g_145
    refine x_callV (As := []) (b := m) (rest := []) (F1 := 1) (L1 := 20) (mc := 0) (ms := 0) d_Model_follows_65 cV_Model_275 (f_closesFiltersH (st := st9) (mk := p9.2) l_133 e_115 g_145 g_146 g_157 e_128 g_158 e_129 (nd_ne ND (i := 12) (j := 13) rfl rfl (by decide)) (by omega) STt hp3 (by omega) (by omega)) e_115 ⟨by decide, rfl⟩ ⟨by omega, by show 8 + (1 + 11) + 20 ≤ _; omega⟩ ⟨by omega, by omega⟩ (Nat.le_of_ble_eq_true rfl) (fun v_171 h_170 p_172 => ?_)
    obtain ⟨rfl, fs_161, l_162, e_163, g_164, g_165, ga_166, ST_167, hm_168, r_169⟩ := p_172
    have e_173 := r_169 asked_ _ (by simp only [List.mem_cons, List.not_mem_nil, or_false, not_or]; exact (Ne.symm (nd_ne ND (i := 0) (j := 1) rfl rfl (by decide)))) e_117
    have e_174 := r_169 firstToken_ _ (by simp only [List.mem_cons, List.not_mem_nil, or_false, not_or]; exact (Ne.symm (nd_ne ND (i := 0) (j := 2) rfl rfl (by decide)))) e_118
    have e_175 := r_169 starred_ _ (by simp only [List.mem_cons, List.not_mem_nil, or_false, not_or]; exact (Ne.symm (nd_ne ND (i := 0) (j := 3) rfl rfl (by decide)))) e_119
    have e_176 := r_169 tokenAt_ _ (by simp only [List.mem_cons, List.not_mem_nil, or_false, not_or]; exact (Ne.symm (nd_ne ND (i := 0) (j := 4) rfl rfl (by decide)))) e_120
    have e_177 := r_169 tokenSize_ _ (by simp only [List.mem_cons, List.not_mem_nil, or_false, not_or]; exact (Ne.symm (nd_ne ND (i := 0) (j := 5) rfl rfl (by decide)))) e_121
    have e_178 := r_169 groupKind_ _ (by simp only [List.mem_cons, List.not_mem_nil, or_false, not_or]; exact (Ne.symm (nd_ne ND (i := 0) (j := 6) rfl rfl (by decide)))) e_122
    have e_179 := r_169 groupPhrase_ _ (by simp only [List.mem_cons, List.not_mem_nil, or_false, not_or]; exact (Ne.symm (nd_ne ND (i := 0) (j := 7) rfl rfl (by decide)))) e_123
    have e_180 := r_169 groupSize_ _ (by simp only [List.mem_cons, List.not_mem_nil, or_false, not_or]; exact (Ne.symm (nd_ne ND (i := 0) (j := 8) rfl rfl (by decide)))) e_124
    have e_181 := r_169 groupMask_ _ (by simp only [List.mem_cons, List.not_mem_nil, or_false, not_or]; exact (Ne.symm (nd_ne ND (i := 0) (j := 9) rfl rfl (by decide)))) e_125
    have e_182 := r_169 groupFar_ _ (by simp only [List.mem_cons, List.not_mem_nil, or_false, not_or]; exact (Ne.symm (nd_ne ND (i := 0) (j := 10) rfl rfl (by decide)))) e_126
    have e_183 := r_169 out_ _ (by simp only [List.mem_cons, List.not_mem_nil, or_false, not_or]; exact (Ne.symm (nd_ne ND (i := 0) (j := 11) rfl rfl (by decide)))) e_127
    have e_184 := r_169 top_ _ (by simp only [List.mem_cons, List.not_mem_nil, or_false, not_or]; exact (Ne.symm (nd_ne ND (i := 0) (j := 12) rfl rfl (by decide)))) e_128
    have e_185 := r_169 masks_ _ (by simp only [List.mem_cons, List.not_mem_nil, or_false, not_or]; exact (Ne.symm (nd_ne ND (i := 0) (j := 13) rfl rfl (by decide)))) e_129
    have r_186 := r_130.trans (r_169.mono (by simp))
    have g_187 : fs_161[(4 : Nat)]? = some (.ref asked_) := (ga_166 4 (by decide)).trans g_134
    have g_188 : fs_161[(11 : Nat)]? = some (.int (nI asz)) := (ga_166 11 (by decide)).trans g_135
    have g_189 : fs_161[(28 : Nat)]? = some (.int (nI (bl fa asz p))) := (ga_166 28 (by decide)).trans g_136
    have g_190 : fs_161[(29 : Nat)]? = some (.int (nI (rkd (kdP fa asz p)))) := (ga_166 29 (by decide)).trans g_137
    have g_191 : fs_161[(30 : Nat)]? = some (.int (nI (bl fa asz p))) := (ga_166 30 (by decide)).trans g_138
    have g_192 : fs_161[(31 : Nat)]? = some (.int (nI y)) := (ga_166 31 (by decide)).trans g_139
    have g_193 : fs_161[(33 : Nat)]? = some (.int bd_57) := (ga_166 33 (by decide)).trans g_140
    have g_194 : fs_161[(34 : Nat)]? = some (.int (nI ph.length)) := (ga_166 34 (by decide)).trans g_141
    have g_195 : fs_161[(35 : Nat)]? = some (.int (nI t)) := (ga_166 35 (by decide)).trans g_142
    have g_196 : fs_161[(36 : Nat)]? = some (.int (nI gr.length)) := (ga_166 36 (by decide)).trans g_143
    have g_197 : fs_161[(37 : Nat)]? = some (.int (nI (redS 1 st o).2.length)) := (ga_166 37 (by decide)).trans g_144
    have g_198 : fs_161[(41 : Nat)]? = some (.ref firstToken_) := (ga_166 41 (by decide)).trans g_147
    have g_199 : fs_161[(42 : Nat)]? = some (.ref starred_) := (ga_166 42 (by decide)).trans g_148
    have g_200 : fs_161[(43 : Nat)]? = some (.ref tokenAt_) := (ga_166 43 (by decide)).trans g_149
    have g_201 : fs_161[(44 : Nat)]? = some (.ref tokenSize_) := (ga_166 44 (by decide)).trans g_150
    have g_202 : fs_161[(45 : Nat)]? = some (.ref groupKind_) := (ga_166 45 (by decide)).trans g_151
    have g_203 : fs_161[(46 : Nat)]? = some (.ref groupPhrase_) := (ga_166 46 (by decide)).trans g_152
    have g_204 : fs_161[(47 : Nat)]? = some (.ref groupSize_) := (ga_166 47 (by decide)).trans g_153
    have g_205 : fs_161[(48 : Nat)]? = some (.ref groupMask_) := (ga_166 48 (by decide)).trans g_154
    have g_206 : fs_161[(49 : Nat)]? = some (.ref groupFar_) := (ga_166 49 (by decide)).trans g_155
    have g_207 : fs_161[(50 : Nat)]? = some (.ref out_) := (ga_166 50 (by decide)).trans g_156
    have g_208 : fs_161[(51 : Nat)]? = some (.ref top_) := (ga_166 51 (by decide)).trans g_157
    have g_209 : fs_161[(52 : Nat)]? = some (.ref masks_) := (ga_166 52 (by decide)).trans g_158
    have g_210 : fs_161[(61 : Nat)]? = some (.int (b01 true)) := (ga_166 61 (by decide)).trans g_159
    have ga_211 : ∀ i : Nat, i ∉ [28, 29, 30, 31, 33, 34, 35, 36, 37, 38, 39, 61] → fs_161[i]? = fs[i]? := fun i hi => (ga_166 i (fun z => hi (by simp only [List.mem_cons, List.not_mem_nil, or_false] at z ⊢; omega))).trans (ga_160 i hi)
    refine s_Model_follows_68 ?_
    have hE_224 := HY (by rw [h10]; decide)
    rw [hE_224] at g_192
    refine x_callV (As := []) (b := m) (rest := []) (F1 := 4) (L1 := 87) (mc := 0) (ms := 0) d_Model_follows_69 cV_Model_257 (f_nextH (x0 := (skP fa asz p)) l_162 e_163 g_189 g_190 g_191 g_192 g_188 g_187 e_173 (by rw [← hE_224]; exact PT.2.1) hasz (by omega) (by omega)) e_163 ⟨by decide, rfl⟩ ⟨by omega, by show 8 + (1 + 11) + 87 ≤ _; omega⟩ ⟨by omega, by omega⟩ (Nat.le_of_ble_eq_true rfl) (fun v_226 h_225 p_227 => ?_)
    obtain ⟨rfl, y_212, fs_213, PT_214, HY_215, l_216, e_217, g_218, g_219, g_220, g_221, ga_222, r_223⟩ := p_227
    have e_228 := r_223 asked_ _ (by simp only [List.mem_cons, List.not_mem_nil, or_false, not_or]; exact (Ne.symm (nd_ne ND (i := 0) (j := 1) rfl rfl (by decide)))) e_173
    have e_229 := r_223 firstToken_ _ (by simp only [List.mem_cons, List.not_mem_nil, or_false, not_or]; exact (Ne.symm (nd_ne ND (i := 0) (j := 2) rfl rfl (by decide)))) e_174
    have e_230 := r_223 starred_ _ (by simp only [List.mem_cons, List.not_mem_nil, or_false, not_or]; exact (Ne.symm (nd_ne ND (i := 0) (j := 3) rfl rfl (by decide)))) e_175
    have e_231 := r_223 tokenAt_ _ (by simp only [List.mem_cons, List.not_mem_nil, or_false, not_or]; exact (Ne.symm (nd_ne ND (i := 0) (j := 4) rfl rfl (by decide)))) e_176
    have e_232 := r_223 tokenSize_ _ (by simp only [List.mem_cons, List.not_mem_nil, or_false, not_or]; exact (Ne.symm (nd_ne ND (i := 0) (j := 5) rfl rfl (by decide)))) e_177
    have e_233 := r_223 groupKind_ _ (by simp only [List.mem_cons, List.not_mem_nil, or_false, not_or]; exact (Ne.symm (nd_ne ND (i := 0) (j := 6) rfl rfl (by decide)))) e_178
    have e_234 := r_223 groupPhrase_ _ (by simp only [List.mem_cons, List.not_mem_nil, or_false, not_or]; exact (Ne.symm (nd_ne ND (i := 0) (j := 7) rfl rfl (by decide)))) e_179
    have e_235 := r_223 groupSize_ _ (by simp only [List.mem_cons, List.not_mem_nil, or_false, not_or]; exact (Ne.symm (nd_ne ND (i := 0) (j := 8) rfl rfl (by decide)))) e_180
    have e_236 := r_223 groupMask_ _ (by simp only [List.mem_cons, List.not_mem_nil, or_false, not_or]; exact (Ne.symm (nd_ne ND (i := 0) (j := 9) rfl rfl (by decide)))) e_181
    have e_237 := r_223 groupFar_ _ (by simp only [List.mem_cons, List.not_mem_nil, or_false, not_or]; exact (Ne.symm (nd_ne ND (i := 0) (j := 10) rfl rfl (by decide)))) e_182
    have e_238 := r_223 out_ _ (by simp only [List.mem_cons, List.not_mem_nil, or_false, not_or]; exact (Ne.symm (nd_ne ND (i := 0) (j := 11) rfl rfl (by decide)))) e_183
    have e_239 := r_223 top_ _ (by simp only [List.mem_cons, List.not_mem_nil, or_false, not_or]; exact (Ne.symm (nd_ne ND (i := 0) (j := 12) rfl rfl (by decide)))) e_184
    have e_240 := r_223 masks_ _ (by simp only [List.mem_cons, List.not_mem_nil, or_false, not_or]; exact (Ne.symm (nd_ne ND (i := 0) (j := 13) rfl rfl (by decide)))) e_185
    have r_241 := r_186.trans (r_223.mono (by simp))
    have g_242 : fs_213[(4 : Nat)]? = some (.ref asked_) := (ga_222 4 (by decide)).trans g_187
    have g_243 : fs_213[(11 : Nat)]? = some (.int (nI asz)) := (ga_222 11 (by decide)).trans g_188
    have g_244 : fs_213[(33 : Nat)]? = some (.int bd_57) := (ga_222 33 (by decide)).trans g_193
    have g_245 : fs_213[(34 : Nat)]? = some (.int (nI ph.length)) := (ga_222 34 (by decide)).trans g_194
    have g_246 : fs_213[(35 : Nat)]? = some (.int (nI t)) := (ga_222 35 (by decide)).trans g_195
    have g_247 : fs_213[(36 : Nat)]? = some (.int (nI gr.length)) := (ga_222 36 (by decide)).trans g_196
    have g_248 : fs_213[(37 : Nat)]? = some (.int (nI (redS 1 st o).2.length)) := (ga_222 37 (by decide)).trans g_197
    have g_249 : fs_213[(41 : Nat)]? = some (.ref firstToken_) := (ga_222 41 (by decide)).trans g_198
    have g_250 : fs_213[(42 : Nat)]? = some (.ref starred_) := (ga_222 42 (by decide)).trans g_199
    have g_251 : fs_213[(43 : Nat)]? = some (.ref tokenAt_) := (ga_222 43 (by decide)).trans g_200
    have g_252 : fs_213[(44 : Nat)]? = some (.ref tokenSize_) := (ga_222 44 (by decide)).trans g_201
    have g_253 : fs_213[(45 : Nat)]? = some (.ref groupKind_) := (ga_222 45 (by decide)).trans g_202
    have g_254 : fs_213[(46 : Nat)]? = some (.ref groupPhrase_) := (ga_222 46 (by decide)).trans g_203
    have g_255 : fs_213[(47 : Nat)]? = some (.ref groupSize_) := (ga_222 47 (by decide)).trans g_204
    have g_256 : fs_213[(48 : Nat)]? = some (.ref groupMask_) := (ga_222 48 (by decide)).trans g_205
    have g_257 : fs_213[(49 : Nat)]? = some (.ref groupFar_) := (ga_222 49 (by decide)).trans g_206
    have g_258 : fs_213[(50 : Nat)]? = some (.ref out_) := (ga_222 50 (by decide)).trans g_207
    have g_259 : fs_213[(51 : Nat)]? = some (.ref top_) := (ga_222 51 (by decide)).trans g_208
    have g_260 : fs_213[(52 : Nat)]? = some (.ref masks_) := (ga_222 52 (by decide)).trans g_209
    have g_261 : fs_213[(61 : Nat)]? = some (.int (b01 true)) := (ga_222 61 (by decide)).trans g_210
    have g_262 : fs_213[(38 : Nat)]? = some (.int (nI (cfS st9 p9.2).1.length)) := (ga_222 38 (by decide)).trans g_164
    have g_263 : fs_213[(39 : Nat)]? = some (.int (nI (cfS st9 p9.2).2)) := (ga_222 39 (by decide)).trans g_165
    have ga_264 : ∀ i : Nat, i ∉ [28, 29, 30, 31, 33, 34, 35, 36, 37, 38, 39, 61] → fs_213[i]? = fs[i]? := fun i hi => (ga_222 i (fun z => hi (by simp only [List.mem_cons, List.not_mem_nil, or_false] at z ⊢; omega))).trans (ga_211 i hi)
    have RQ_265 := RQ.next (by rw [h10]; decide) (by rw [h10]; decide)
    have hb_266 := Nat.le_trans PT_214.1 PT_214.2.1
    refine x_le (xw_le_n (xw_le_n (xw_le_n xw_le_e))) ?_
    refine s_Model_follows_72 ?_
    exact kk _ (Or.inr ⟨_, sp_cy h10 hr9, ⟨_, _, _, _, _, _, _, _, _, _, _, _, _, _, _, _, PT_214, HY_215, RQ_265, GR, OU_10, (OG.red ST.one), ST_167, hb_110, hp12, hgp, hm_168, (by show depS (cfS st9 p9.2).1 ≤ 8; omega), (by show (redS 1 st o).2.length + cJ (cfS st9 p9.2).1 + 1 = 2 * gr.length; omega), l_216, e_217, g_218, g_219, g_220, g_221, g_244, g_245, g_246, g_247, g_248, g_262, g_263, g_261, fun i hi => (ga_264 i hi).trans (gq i hi), e_229, e_230, e_231, e_232, e_233, e_234, e_235, e_236, e_237, e_238, e_239, e_240, rq.trans r_241⟩⟩)
  · skip
    refine s_Model_follows_21 ?_
    refine s_Model_follows_26 l_3 e_4 g_30 ?_
    refine x_callV (As := [.int 1, .int (nI (bl fa asz p))]) (b := m) (rest := []) (F1 := 1) (L1 := 20) (mc := 0) (ms := 0) d_Model_follows_30 cV_Model_250 (f_wrongsH (k := bl fa asz p) l_3 e_4 g_32 (by omega) (by omega) (by omega)) e_4 ⟨by decide, rfl⟩ ⟨by omega, by show 8 + (3 + 11) + 20 ≤ _; omega⟩ ⟨by omega, by omega⟩ (Nat.le_of_ble_eq_true rfl) (fun v_278 h_277 p_279 => ?_)
    obtain ⟨rfl, bd_267, fs_268, hw_269, hw_270, hw_271, l_272, e_273, g_274, ga_275, r_276⟩ := p_279
    have e_280 := r_276 asked_ _ (by simp only [List.mem_cons, List.not_mem_nil, or_false, not_or]; exact (Ne.symm (nd_ne ND (i := 0) (j := 1) rfl rfl (by decide)))) e_15
    have e_281 := r_276 firstToken_ _ (by simp only [List.mem_cons, List.not_mem_nil, or_false, not_or]; exact (Ne.symm (nd_ne ND (i := 0) (j := 2) rfl rfl (by decide)))) e_16
    have e_282 := r_276 starred_ _ (by simp only [List.mem_cons, List.not_mem_nil, or_false, not_or]; exact (Ne.symm (nd_ne ND (i := 0) (j := 3) rfl rfl (by decide)))) e_17
    have e_283 := r_276 tokenAt_ _ (by simp only [List.mem_cons, List.not_mem_nil, or_false, not_or]; exact (Ne.symm (nd_ne ND (i := 0) (j := 4) rfl rfl (by decide)))) e_18
    have e_284 := r_276 tokenSize_ _ (by simp only [List.mem_cons, List.not_mem_nil, or_false, not_or]; exact (Ne.symm (nd_ne ND (i := 0) (j := 5) rfl rfl (by decide)))) e_19
    have e_285 := r_276 groupKind_ _ (by simp only [List.mem_cons, List.not_mem_nil, or_false, not_or]; exact (Ne.symm (nd_ne ND (i := 0) (j := 6) rfl rfl (by decide)))) e_20
    have e_286 := r_276 groupPhrase_ _ (by simp only [List.mem_cons, List.not_mem_nil, or_false, not_or]; exact (Ne.symm (nd_ne ND (i := 0) (j := 7) rfl rfl (by decide)))) e_21
    have e_287 := r_276 groupSize_ _ (by simp only [List.mem_cons, List.not_mem_nil, or_false, not_or]; exact (Ne.symm (nd_ne ND (i := 0) (j := 8) rfl rfl (by decide)))) e_22
    have e_288 := r_276 groupMask_ _ (by simp only [List.mem_cons, List.not_mem_nil, or_false, not_or]; exact (Ne.symm (nd_ne ND (i := 0) (j := 9) rfl rfl (by decide)))) e_23
    have e_289 := r_276 groupFar_ _ (by simp only [List.mem_cons, List.not_mem_nil, or_false, not_or]; exact (Ne.symm (nd_ne ND (i := 0) (j := 10) rfl rfl (by decide)))) e_24
    have e_290 := r_276 out_ _ (by simp only [List.mem_cons, List.not_mem_nil, or_false, not_or]; exact (Ne.symm (nd_ne ND (i := 0) (j := 11) rfl rfl (by decide)))) e_8
    have e_291 := r_276 top_ _ (by simp only [List.mem_cons, List.not_mem_nil, or_false, not_or]; exact (Ne.symm (nd_ne ND (i := 0) (j := 12) rfl rfl (by decide)))) e_25
    have e_292 := r_276 masks_ _ (by simp only [List.mem_cons, List.not_mem_nil, or_false, not_or]; exact (Ne.symm (nd_ne ND (i := 0) (j := 13) rfl rfl (by decide)))) e_26
    have r_293 := r_27.trans (r_276.mono (by simp))
    have g_294 : fs_268[(28 : Nat)]? = some (.int (nI (bl fa asz p))) := (ga_275 28 (by decide)).trans g_28
    have g_295 : fs_268[(29 : Nat)]? = some (.int (nI (rkd (kdP fa asz p)))) := (ga_275 29 (by decide)).trans g_29
    have g_296 : fs_268[(30 : Nat)]? = some (.int (nI (bl fa asz p))) := (ga_275 30 (by decide)).trans g_30
    have g_297 : fs_268[(31 : Nat)]? = some (.int (nI y)) := (ga_275 31 (by decide)).trans g_31
    have g_298 : fs_268[(34 : Nat)]? = some (.int (nI ph.length)) := (ga_275 34 (by decide)).trans g_33
    have g_299 : fs_268[(35 : Nat)]? = some (.int (nI t)) := (ga_275 35 (by decide)).trans g_34
    have g_300 : fs_268[(36 : Nat)]? = some (.int (nI gr.length)) := (ga_275 36 (by decide)).trans g_35
    have g_301 : fs_268[(39 : Nat)]? = some (.int (nI mk)) := (ga_275 39 (by decide)).trans g_36
    have g_302 : fs_268[(61 : Nat)]? = some (.int (b01 true)) := (ga_275 61 (by decide)).trans g_37
    have g_303 : fs_268[(4 : Nat)]? = some (.ref asked_) := (ga_275 4 (by decide)).trans g_38
    have g_304 : fs_268[(41 : Nat)]? = some (.ref firstToken_) := (ga_275 41 (by decide)).trans g_39
    have g_305 : fs_268[(42 : Nat)]? = some (.ref starred_) := (ga_275 42 (by decide)).trans g_40
    have g_306 : fs_268[(43 : Nat)]? = some (.ref tokenAt_) := (ga_275 43 (by decide)).trans g_41
    have g_307 : fs_268[(44 : Nat)]? = some (.ref tokenSize_) := (ga_275 44 (by decide)).trans g_42
    have g_308 : fs_268[(45 : Nat)]? = some (.ref groupKind_) := (ga_275 45 (by decide)).trans g_43
    have g_309 : fs_268[(46 : Nat)]? = some (.ref groupPhrase_) := (ga_275 46 (by decide)).trans g_44
    have g_310 : fs_268[(47 : Nat)]? = some (.ref groupSize_) := (ga_275 47 (by decide)).trans g_45
    have g_311 : fs_268[(48 : Nat)]? = some (.ref groupMask_) := (ga_275 48 (by decide)).trans g_46
    have g_312 : fs_268[(49 : Nat)]? = some (.ref groupFar_) := (ga_275 49 (by decide)).trans g_47
    have g_313 : fs_268[(50 : Nat)]? = some (.ref out_) := (ga_275 50 (by decide)).trans g_48
    have g_314 : fs_268[(51 : Nat)]? = some (.ref top_) := (ga_275 51 (by decide)).trans g_49
    have g_315 : fs_268[(52 : Nat)]? = some (.ref masks_) := (ga_275 52 (by decide)).trans g_50
    have g_316 : fs_268[(11 : Nat)]? = some (.int (nI asz)) := (ga_275 11 (by decide)).trans g_51
    have g_317 : fs_268[(37 : Nat)]? = some (.int (nI (redS 1 st o).2.length)) := (ga_275 37 (by decide)).trans g_5
    have g_318 : fs_268[(38 : Nat)]? = some (.int (nI (redS 1 st o).1.length)) := (ga_275 38 (by decide)).trans g_6
    have ga_319 : ∀ i : Nat, i ∉ [28, 29, 30, 31, 33, 34, 35, 36, 37, 38, 39, 61] → fs_268[i]? = fs[i]? := fun i hi => (ga_275 i (fun z => hi (by simp only [List.mem_cons, List.not_mem_nil, or_false] at z ⊢; omega))).trans (ga_52 i hi)
    have hb_320 : ¬ bd_267 < 0 := hw_270 (by decide)
    have hb_321 : 0 ≤ bd_267 := Int32.not_lt.mp hb_320
    refine s_Model_follows_33 l_272 e_273 g_274 (fun z => absurd z hb_320) (fun z_322 => ?_)
    refine s_Model_follows_40 ?_
    have hr_323 : (redS 1 st o).1 = [] := List.eq_nil_of_length_eq_zero ((nI_eq (b := 0) (by omega) (by decide)).mp z_56)
    exact kk _ (Or.inl ⟨sp_cn h10 hr_323, ⟨(redS 1 st o).2.length, (redS 1 st o).1.length, _, _, _, _, _, _, _, _, _, _, _, _, _, _, hb_320, (by omega), l_272, e_273, g_274, g_317, g_318, (fun i9 hi9 => by simp only [List.mem_cons, List.not_mem_nil, or_false] at hi9; rcases hi9 with rfl | rfl | rfl | rfl | rfl | rfl | rfl | rfl | rfl <;> first | exact ⟨_, g_294⟩ | exact ⟨_, g_295⟩ | exact ⟨_, g_296⟩ | exact ⟨_, g_297⟩ | exact ⟨_, g_298⟩ | exact ⟨_, g_299⟩ | exact ⟨_, g_300⟩ | exact ⟨_, g_301⟩ | exact ⟨_, g_302⟩), fun i hi => (ga_319 i hi).trans (gq i hi), e_281, e_282, e_283, e_284, e_285, e_286, e_287, e_288, e_289, e_290, e_291, e_292, rq.trans r_293⟩⟩)
set_option maxHeartbeats 8000000 in
theorem f_followsH {G : xw_G} {F L : Nat} {h : xw_A} {m asked_ firstToken_ starred_ tokenAt_ tokenSize_ groupKind_ groupPhrase_ groupSize_ groupMask_ groupFar_ out_ top_ masks_ asz : Nat} {gs : List Value} {fa : Nat → Int32} {h0 : xw_A} (q_askedSize : gs[(11 : Nat)]? = some (.int (nI asz))) (q_asked : gs[(4 : Nat)]? = some (.ref asked_)) (q_firstToken : gs[(41 : Nat)]? = some (.ref firstToken_)) (q_starred : gs[(42 : Nat)]? = some (.ref starred_)) (q_tokenAt : gs[(43 : Nat)]? = some (.ref tokenAt_)) (q_tokenSize : gs[(44 : Nat)]? = some (.ref tokenSize_)) (q_groupKind : gs[(45 : Nat)]? = some (.ref groupKind_)) (q_groupPhrase : gs[(46 : Nat)]? = some (.ref groupPhrase_)) (q_groupSize : gs[(47 : Nat)]? = some (.ref groupSize_)) (q_groupMask : gs[(48 : Nat)]? = some (.ref groupMask_)) (q_groupFar : gs[(49 : Nat)]? = some (.ref groupFar_)) (q_out : gs[(50 : Nat)]? = some (.ref out_)) (q_top : gs[(51 : Nat)]? = some (.ref top_)) (q_masks : gs[(52 : Nat)]? = some (.ref masks_)) (q_a : h0 asked_ = some (.inl (0, 96, .inl fa))) (ND : NDl [m, asked_, firstToken_, starred_, tokenAt_, tokenSize_, groupKind_, groupPhrase_, groupSize_, groupMask_, groupFar_, out_, top_, masks_]) (hasz : asz ≤ 96) (h128 : ∀ j, j < asz → ∃ c, c < 128 ∧ fa j = nI c) {p mk : Nat} {ph : List PHt} {gr : List GRt} {st o : List EV} (Q : QzR m asked_ firstToken_ starred_ tokenAt_ tokenSize_ groupKind_ groupPhrase_ groupSize_ groupMask_ groupFar_ out_ top_ masks_ gs h0 fa asz (true, (p, ph, gr), st, mk, o) h) (hF : 5 ≤ F) (hL : 107 ≤ L) :
    xw_Met G m_Model_follows F L 0 0 [.ref m] h (fun v h' => v = none ∧ ((stp (kdS fa asz) (skS fa asz) (gpP fa asz) (flP fa asz) (true, (p, ph, gr), st, mk, o) = none ∧ QzB m asked_ firstToken_ starred_ tokenAt_ tokenSize_ groupKind_ groupPhrase_ groupSize_ groupMask_ groupFar_ out_ top_ masks_ gs h0 h') ∨ ∃ z', stp (kdS fa asz) (skS fa asz) (gpP fa asz) (flP fa asz) (true, (p, ph, gr), st, mk, o) = some z' ∧ QzR m asked_ firstToken_ starred_ tokenAt_ tokenSize_ groupKind_ groupPhrase_ groupSize_ groupMask_ groupFar_ out_ top_ masks_ gs h0 fa asz z' h')) (fun _ _ => False) := by
  refine xw_Met.of rfl (by decide) (Nat.le_of_ble_eq_true rfl) ?_
  have Q0 := Q
  obtain ⟨y, t, bd, c1, c2, ca, cs, c5, c6, c7, c8, c9, co, ct, cm, fs, PT, HY, RQ, GR, OU, OG, ST, hbd, hp12, hgp, hmk, hd8, hcn, l, e, gz_28, gz_29, gz_30, gz_31, gz_33, gz_34, gz_35, gz_36, gz_37, gz_38, gz_39, gz_61, gq, e_firstToken, e_starred, e_tokenAt, e_tokenSize, e_groupKind, e_groupPhrase, e_groupSize, e_groupMask, e_groupFar, e_out, e_top, e_masks, rq⟩ := Q
  have g_askedSize := (gq 11 (by decide)).trans q_askedSize
  have g_asked := (gq 4 (by decide)).trans q_asked
  have g_firstToken := (gq 41 (by decide)).trans q_firstToken
  have g_starred := (gq 42 (by decide)).trans q_starred
  have g_tokenAt := (gq 43 (by decide)).trans q_tokenAt
  have g_tokenSize := (gq 44 (by decide)).trans q_tokenSize
  have g_groupKind := (gq 45 (by decide)).trans q_groupKind
  have g_groupPhrase := (gq 46 (by decide)).trans q_groupPhrase
  have g_groupSize := (gq 47 (by decide)).trans q_groupSize
  have g_groupMask := (gq 48 (by decide)).trans q_groupMask
  have g_groupFar := (gq 49 (by decide)).trans q_groupFar
  have g_out := (gq 50 (by decide)).trans q_out
  have g_top := (gq 51 (by decide)).trans q_top
  have g_masks := (gq 52 (by decide)).trans q_masks
  have e_asked := rq asked_ _ (by simp only [List.mem_cons, List.not_mem_nil, or_false, not_or]; exact ⟨(Ne.symm (nd_ne ND (i := 0) (j := 1) rfl rfl (by decide))), (nd_ne ND (i := 1) (j := 2) rfl rfl (by decide)), (nd_ne ND (i := 1) (j := 3) rfl rfl (by decide)), (nd_ne ND (i := 1) (j := 4) rfl rfl (by decide)), (nd_ne ND (i := 1) (j := 5) rfl rfl (by decide)), (nd_ne ND (i := 1) (j := 6) rfl rfl (by decide)), (nd_ne ND (i := 1) (j := 7) rfl rfl (by decide)), (nd_ne ND (i := 1) (j := 8) rfl rfl (by decide)), (nd_ne ND (i := 1) (j := 9) rfl rfl (by decide)), (nd_ne ND (i := 1) (j := 10) rfl rfl (by decide)), (nd_ne ND (i := 1) (j := 11) rfl rfl (by decide)), (nd_ne ND (i := 1) (j := 12) rfl rfl (by decide)), (nd_ne ND (i := 1) (j := 13) rfl rfl (by decide))⟩) q_a
  have hcl := cJ_len st
  dsimp only at PT HY RQ GR OU OG ST hp12 hgp hmk hd8 hcn gz_28 gz_29 gz_30 gz_31 gz_33 gz_34 gz_35 gz_36 gz_37 gz_38 gz_39 gz_61
  have hbd2 : ¬ 0 ≤ bd := Int32.not_le.mpr hbd
  have hxy0 := PT.1
  have hy97 := PT.2.1
  have ga0 : ∀ i : Nat, i ∉ [28, 29, 30, 31, 33, 34, 35, 36, 37, 38, 39, 61] → fs[i]? = fs[i]? := fun _ _ => rfl
  have r0 : FrO [m, firstToken_, starred_, tokenAt_, tokenSize_, groupKind_, groupPhrase_, groupSize_, groupMask_, groupFar_, out_, top_, masks_] h h := FrO.rf
  refine s_Model_follows_0 l e gz_29 (fun z_1 => ?_) (fun z_2 => ?_)
  · skip
    refine s_Model_follows_73 l e gz_29 (fun z_3 => ?_) (fun z_4 => ?_)
    · skip
      refine s_Model_follows_86 l e gz_29 (fun z_5 => ?_) (fun z_6 => ?_)
      · skip
        refine s_Model_follows_99 l e gz_29 (fun z_7 => ?_) (fun z_8 => ?_)
        · skip
          refine s_Model_follows_112 ?_
          refine s_Model_follows_113 l e gz_29 (fun z_9 => ?_) (fun z_10 => ?_)
          · skip
            refine s_Model_follows_165 ?_
            have hk_11 : ¬ kdP fa asz p = 10 := fun q => z_1 (by rw [q]; rfl)
            have hk_12 : ¬ kdP fa asz p = 5 := fun q => z_3 (by rw [q]; rfl)
            have hk_13 : ¬ kdP fa asz p = 6 := fun q => z_5 (by rw [q]; rfl)
            have hk_14 : ¬ kdP fa asz p = 7 := fun q => z_7 (by rw [q]; rfl)
            have hk_15 : kdP fa asz p = 9 := ((rk_iff _ (kdP_le fa asz p)).2.2.1).mp ((nI_eq (b := 3) (by have := rk_le _ (kdP_le fa asz p); omega) (by decide)).mp z_9)
            exact f_followsJH q_askedSize q_asked q_firstToken q_starred q_tokenAt q_tokenSize q_groupKind q_groupPhrase q_groupSize q_groupMask q_groupFar q_out q_top q_masks q_a ND hasz h128 Q0 (jn := 4) (bg := true) rfl rfl (by unfold jnt; rw [if_neg hk_12, if_neg hk_13, if_neg hk_14]) (by rw [hk_15]; rfl) hk_11 (by omega) (by omega) (fun h9 q9 => ⟨rfl, q9⟩)
          · skip
            refine s_Model_follows_122 l e gz_29 (fun z_16 => ?_) (fun z_17 => ?_)
            · skip
              refine s_Model_follows_165 ?_
              have hk_18 : ¬ kdP fa asz p = 10 := fun q => z_1 (by rw [q]; rfl)
              have hk_19 : ¬ kdP fa asz p = 5 := fun q => z_3 (by rw [q]; rfl)
              have hk_20 : ¬ kdP fa asz p = 6 := fun q => z_5 (by rw [q]; rfl)
              have hk_21 : ¬ kdP fa asz p = 7 := fun q => z_7 (by rw [q]; rfl)
              have hk_22 : ¬ kdP fa asz p = 9 := fun q => z_10 (by rw [q]; rfl)
              have hk_23 : kdP fa asz p = 11 := ((rk_iff _ (kdP_le fa asz p)).2.2.2.2.2.1).mp ((nI_eq (b := 6) (by have := rk_le _ (kdP_le fa asz p); omega) (by decide)).mp z_16)
              exact f_followsJH q_askedSize q_asked q_firstToken q_starred q_tokenAt q_tokenSize q_groupKind q_groupPhrase q_groupSize q_groupMask q_groupFar q_out q_top q_masks q_a ND hasz h128 Q0 (jn := 4) (bg := true) rfl rfl (by unfold jnt; rw [if_neg hk_19, if_neg hk_20, if_neg hk_21]) (by rw [hk_23]; rfl) hk_18 (by omega) (by omega) (fun h9 q9 => ⟨rfl, q9⟩)
            · skip
              refine s_Model_follows_131 l e gz_29 (fun z_24 => ?_) (fun z_25 => ?_)
              · skip
                refine s_Model_follows_165 ?_
                have hk_26 : ¬ kdP fa asz p = 10 := fun q => z_1 (by rw [q]; rfl)
                have hk_27 : ¬ kdP fa asz p = 5 := fun q => z_3 (by rw [q]; rfl)
                have hk_28 : ¬ kdP fa asz p = 6 := fun q => z_5 (by rw [q]; rfl)
                have hk_29 : ¬ kdP fa asz p = 7 := fun q => z_7 (by rw [q]; rfl)
                have hk_30 : ¬ kdP fa asz p = 9 := fun q => z_10 (by rw [q]; rfl)
                have hk_31 : ¬ kdP fa asz p = 11 := fun q => z_17 (by rw [q]; rfl)
                have hk_32 : kdP fa asz p = 12 := ((rk_iff _ (kdP_le fa asz p)).2.2.2.2.2.2.1).mp ((nI_eq (b := 7) (by have := rk_le _ (kdP_le fa asz p); omega) (by decide)).mp z_24)
                exact f_followsJH q_askedSize q_asked q_firstToken q_starred q_tokenAt q_tokenSize q_groupKind q_groupPhrase q_groupSize q_groupMask q_groupFar q_out q_top q_masks q_a ND hasz h128 Q0 (jn := 4) (bg := true) rfl rfl (by unfold jnt; rw [if_neg hk_27, if_neg hk_28, if_neg hk_29]) (by rw [hk_32]; rfl) hk_26 (by omega) (by omega) (fun h9 q9 => ⟨rfl, q9⟩)
              · skip
                refine s_Model_follows_140 l e gz_29 (fun z_33 => ?_) (fun z_34 => ?_)
                · skip
                  refine s_Model_follows_165 ?_
                  have hk_35 : ¬ kdP fa asz p = 10 := fun q => z_1 (by rw [q]; rfl)
                  have hk_36 : ¬ kdP fa asz p = 5 := fun q => z_3 (by rw [q]; rfl)
                  have hk_37 : ¬ kdP fa asz p = 6 := fun q => z_5 (by rw [q]; rfl)
                  have hk_38 : ¬ kdP fa asz p = 7 := fun q => z_7 (by rw [q]; rfl)
                  have hk_39 : ¬ kdP fa asz p = 9 := fun q => z_10 (by rw [q]; rfl)
                  have hk_40 : ¬ kdP fa asz p = 11 := fun q => z_17 (by rw [q]; rfl)
                  have hk_41 : ¬ kdP fa asz p = 12 := fun q => z_25 (by rw [q]; rfl)
                  have hk_42 : kdP fa asz p = 8 := ((rk_iff _ (kdP_le fa asz p)).2.2.2.2.2.2.2.2.2.2.2.2.2.1).mp ((nI_eq (b := 14) (by have := rk_le _ (kdP_le fa asz p); omega) (by decide)).mp z_33)
                  exact f_followsJH q_askedSize q_asked q_firstToken q_starred q_tokenAt q_tokenSize q_groupKind q_groupPhrase q_groupSize q_groupMask q_groupFar q_out q_top q_masks q_a ND hasz h128 Q0 (jn := 4) (bg := true) rfl rfl (by unfold jnt; rw [if_neg hk_36, if_neg hk_37, if_neg hk_38]) (by rw [hk_42]; rfl) hk_35 (by omega) (by omega) (fun h9 q9 => ⟨rfl, q9⟩)
                · skip
                  refine s_Model_follows_149 l e gz_29 (fun z_43 => ?_) (fun z_44 => ?_)
                  · skip
                    refine s_Model_follows_165 ?_
                    have hk_45 : ¬ kdP fa asz p = 10 := fun q => z_1 (by rw [q]; rfl)
                    have hk_46 : ¬ kdP fa asz p = 5 := fun q => z_3 (by rw [q]; rfl)
                    have hk_47 : ¬ kdP fa asz p = 6 := fun q => z_5 (by rw [q]; rfl)
                    have hk_48 : ¬ kdP fa asz p = 7 := fun q => z_7 (by rw [q]; rfl)
                    have hk_49 : ¬ kdP fa asz p = 9 := fun q => z_10 (by rw [q]; rfl)
                    have hk_50 : ¬ kdP fa asz p = 11 := fun q => z_17 (by rw [q]; rfl)
                    have hk_51 : ¬ kdP fa asz p = 12 := fun q => z_25 (by rw [q]; rfl)
                    have hk_52 : ¬ kdP fa asz p = 8 := fun q => z_34 (by rw [q]; rfl)
                    have hk_53 : kdP fa asz p = 2 ∨ kdP fa asz p = 3 := (rk_1 _ (kdP_le fa asz p)).mp ((nI_eq (b := 1) (by have := rk_le _ (kdP_le fa asz p); omega) (by decide)).mp z_43)
                    exact f_followsJH q_askedSize q_asked q_firstToken q_starred q_tokenAt q_tokenSize q_groupKind q_groupPhrase q_groupSize q_groupMask q_groupFar q_out q_top q_masks q_a ND hasz h128 Q0 (jn := 4) (bg := true) rfl rfl (by unfold jnt; rw [if_neg hk_46, if_neg hk_47, if_neg hk_48]) (by rcases hk_53 with q | q <;> (rw [q]; rfl)) hk_45 (by omega) (by omega) (fun h9 q9 => ⟨rfl, q9⟩)
                  · skip
                    refine s_Model_follows_157 l e gz_29 (fun z_54 => ?_) (fun z_55 => ?_)
                    · skip
                      refine s_Model_follows_169 ?_
                      have hk_56 : ¬ kdP fa asz p = 10 := fun q => z_1 (by rw [q]; rfl)
                      have hk_57 : ¬ kdP fa asz p = 5 := fun q => z_3 (by rw [q]; rfl)
                      have hk_58 : ¬ kdP fa asz p = 6 := fun q => z_5 (by rw [q]; rfl)
                      have hk_59 : ¬ kdP fa asz p = 7 := fun q => z_7 (by rw [q]; rfl)
                      have hk_60 : ¬ kdP fa asz p = 9 := fun q => z_10 (by rw [q]; rfl)
                      have hk_61 : ¬ kdP fa asz p = 11 := fun q => z_17 (by rw [q]; rfl)
                      have hk_62 : ¬ kdP fa asz p = 12 := fun q => z_25 (by rw [q]; rfl)
                      have hk_63 : ¬ kdP fa asz p = 8 := fun q => z_34 (by rw [q]; rfl)
                      have hk_64 : ¬ (kdP fa asz p = 2 ∨ kdP fa asz p = 3) := fun q => z_44 (by rcases q with q | q <;> (rw [q]; rfl))
                      have hk_65 : ¬ kdP fa asz p = 4 := fun q => z_54 (by rw [q]; rfl)
                      have hbf : bga (kdP fa asz p) = false := bF (fun q => by have q2 : (((((kdP fa asz p = 9 ∨ kdP fa asz p = 11) ∨ kdP fa asz p = 3) ∨ kdP fa asz p = 2) ∨ kdP fa asz p = 4) ∨ kdP fa asz p = 12) ∨ kdP fa asz p = 8 := (by simpa only [bga, dpr, Bool.or_eq_true, beq_iff_eq] using q); have f1 := hk_64; have f2 := hk_65; have f3 := hk_60; have f6 := hk_61; have f7 := hk_62; have f14 := hk_63; omega)
                      exact f_followsJH q_askedSize q_asked q_firstToken q_starred q_tokenAt q_tokenSize q_groupKind q_groupPhrase q_groupSize q_groupMask q_groupFar q_out q_top q_masks q_a ND hasz h128 Q0 (jn := 4) (bg := false) rfl rfl (by unfold jnt; rw [if_neg hk_57, if_neg hk_58, if_neg hk_59]) hbf hk_56 (by omega) (by omega) (fun h9 q9 => ⟨rfl, q9⟩)
                    · skip
                      refine s_Model_follows_165 ?_
                      have hk_66 : ¬ kdP fa asz p = 10 := fun q => z_1 (by rw [q]; rfl)
                      have hk_67 : ¬ kdP fa asz p = 5 := fun q => z_3 (by rw [q]; rfl)
                      have hk_68 : ¬ kdP fa asz p = 6 := fun q => z_5 (by rw [q]; rfl)
                      have hk_69 : ¬ kdP fa asz p = 7 := fun q => z_7 (by rw [q]; rfl)
                      have hk_70 : ¬ kdP fa asz p = 9 := fun q => z_10 (by rw [q]; rfl)
                      have hk_71 : ¬ kdP fa asz p = 11 := fun q => z_17 (by rw [q]; rfl)
                      have hk_72 : ¬ kdP fa asz p = 12 := fun q => z_25 (by rw [q]; rfl)
                      have hk_73 : ¬ kdP fa asz p = 8 := fun q => z_34 (by rw [q]; rfl)
                      have hk_74 : ¬ (kdP fa asz p = 2 ∨ kdP fa asz p = 3) := fun q => z_44 (by rcases q with q | q <;> (rw [q]; rfl))
                      have hk_75 : kdP fa asz p = 4 := ((rk_iff _ (kdP_le fa asz p)).2.1).mp ((nI_eq (b := 2) (by have := rk_le _ (kdP_le fa asz p); omega) (by decide)).mp z_55)
                      exact f_followsJH q_askedSize q_asked q_firstToken q_starred q_tokenAt q_tokenSize q_groupKind q_groupPhrase q_groupSize q_groupMask q_groupFar q_out q_top q_masks q_a ND hasz h128 Q0 (jn := 4) (bg := true) rfl rfl (by unfold jnt; rw [if_neg hk_67, if_neg hk_68, if_neg hk_69]) (by rw [hk_75]; rfl) hk_66 (by omega) (by omega) (fun h9 q9 => ⟨rfl, q9⟩)
        · skip
          refine s_Model_follows_108 ?_
          refine s_Model_follows_113 l e gz_29 (fun z_76 => ?_) (fun z_77 => ?_)
          · skip
            refine s_Model_follows_165 ?_
            have hk_78 : ¬ kdP fa asz p = 10 := fun q => z_1 (by rw [q]; rfl)
            have hk_79 : kdP fa asz p = 7 := ((rk_iff _ (kdP_le fa asz p)).2.2.2.2.2.2.2.2.2.2.2.2.1).mp ((nI_eq (b := 13) (by have := rk_le _ (kdP_le fa asz p); omega) (by decide)).mp z_8)
            have hk_80 : kdP fa asz p = 9 := ((rk_iff _ (kdP_le fa asz p)).2.2.1).mp ((nI_eq (b := 3) (by have := rk_le _ (kdP_le fa asz p); omega) (by decide)).mp z_76)
            exact absurd hk_80 (by rw [hk_79]; decide)
          · skip
            refine s_Model_follows_122 l e gz_29 (fun z => absurd (z_8.symm.trans z) (by decide)) (fun z_81 => ?_)
            refine s_Model_follows_131 l e gz_29 (fun z => absurd (z_8.symm.trans z) (by decide)) (fun z_82 => ?_)
            refine s_Model_follows_140 l e gz_29 (fun z => absurd (z_8.symm.trans z) (by decide)) (fun z_83 => ?_)
            refine s_Model_follows_149 l e gz_29 (fun z => absurd (z_8.symm.trans z) (by decide)) (fun z_84 => ?_)
            refine s_Model_follows_157 l e gz_29 (fun z_85 => ?_) (fun z => absurd (z_8.symm.trans z) (by decide))
            refine s_Model_follows_169 ?_
            have hk_86 : ¬ kdP fa asz p = 10 := fun q => z_1 (by rw [q]; rfl)
            have hk_87 : kdP fa asz p = 7 := ((rk_iff _ (kdP_le fa asz p)).2.2.2.2.2.2.2.2.2.2.2.2.1).mp ((nI_eq (b := 13) (by have := rk_le _ (kdP_le fa asz p); omega) (by decide)).mp z_8)
            exact f_followsJH q_askedSize q_asked q_firstToken q_starred q_tokenAt q_tokenSize q_groupKind q_groupPhrase q_groupSize q_groupMask q_groupFar q_out q_top q_masks q_a ND hasz h128 Q0 (jn := 3) (bg := false) rfl rfl (by rw [hk_87]; rfl) (by rw [hk_87]; rfl) hk_86 (by omega) (by omega) (fun h9 q9 => ⟨rfl, q9⟩)
      · skip
        refine s_Model_follows_95 ?_
        refine s_Model_follows_113 l e gz_29 (fun z_88 => ?_) (fun z_89 => ?_)
        · skip
          refine s_Model_follows_165 ?_
          have hk_90 : ¬ kdP fa asz p = 10 := fun q => z_1 (by rw [q]; rfl)
          have hk_91 : kdP fa asz p = 6 := ((rk_iff _ (kdP_le fa asz p)).2.2.2.2.2.2.2.2.2.2.1).mp ((nI_eq (b := 11) (by have := rk_le _ (kdP_le fa asz p); omega) (by decide)).mp z_6)
          have hk_92 : kdP fa asz p = 9 := ((rk_iff _ (kdP_le fa asz p)).2.2.1).mp ((nI_eq (b := 3) (by have := rk_le _ (kdP_le fa asz p); omega) (by decide)).mp z_88)
          exact absurd hk_92 (by rw [hk_91]; decide)
        · skip
          refine s_Model_follows_122 l e gz_29 (fun z => absurd (z_6.symm.trans z) (by decide)) (fun z_93 => ?_)
          refine s_Model_follows_131 l e gz_29 (fun z => absurd (z_6.symm.trans z) (by decide)) (fun z_94 => ?_)
          refine s_Model_follows_140 l e gz_29 (fun z => absurd (z_6.symm.trans z) (by decide)) (fun z_95 => ?_)
          refine s_Model_follows_149 l e gz_29 (fun z => absurd (z_6.symm.trans z) (by decide)) (fun z_96 => ?_)
          refine s_Model_follows_157 l e gz_29 (fun z_97 => ?_) (fun z => absurd (z_6.symm.trans z) (by decide))
          refine s_Model_follows_169 ?_
          have hk_98 : ¬ kdP fa asz p = 10 := fun q => z_1 (by rw [q]; rfl)
          have hk_99 : kdP fa asz p = 6 := ((rk_iff _ (kdP_le fa asz p)).2.2.2.2.2.2.2.2.2.2.1).mp ((nI_eq (b := 11) (by have := rk_le _ (kdP_le fa asz p); omega) (by decide)).mp z_6)
          exact f_followsJH q_askedSize q_asked q_firstToken q_starred q_tokenAt q_tokenSize q_groupKind q_groupPhrase q_groupSize q_groupMask q_groupFar q_out q_top q_masks q_a ND hasz h128 Q0 (jn := 2) (bg := false) rfl rfl (by rw [hk_99]; rfl) (by rw [hk_99]; rfl) hk_98 (by omega) (by omega) (fun h9 q9 => ⟨rfl, q9⟩)
    · skip
      refine s_Model_follows_82 ?_
      refine s_Model_follows_113 l e gz_29 (fun z_100 => ?_) (fun z_101 => ?_)
      · skip
        refine s_Model_follows_165 ?_
        have hk_102 : ¬ kdP fa asz p = 10 := fun q => z_1 (by rw [q]; rfl)
        have hk_103 : kdP fa asz p = 5 := ((rk_iff _ (kdP_le fa asz p)).2.2.2.2.2.2.2.2.2.2.2.1).mp ((nI_eq (b := 12) (by have := rk_le _ (kdP_le fa asz p); omega) (by decide)).mp z_4)
        have hk_104 : kdP fa asz p = 9 := ((rk_iff _ (kdP_le fa asz p)).2.2.1).mp ((nI_eq (b := 3) (by have := rk_le _ (kdP_le fa asz p); omega) (by decide)).mp z_100)
        exact absurd hk_104 (by rw [hk_103]; decide)
      · skip
        refine s_Model_follows_122 l e gz_29 (fun z => absurd (z_4.symm.trans z) (by decide)) (fun z_105 => ?_)
        refine s_Model_follows_131 l e gz_29 (fun z => absurd (z_4.symm.trans z) (by decide)) (fun z_106 => ?_)
        refine s_Model_follows_140 l e gz_29 (fun z => absurd (z_4.symm.trans z) (by decide)) (fun z_107 => ?_)
        refine s_Model_follows_149 l e gz_29 (fun z => absurd (z_4.symm.trans z) (by decide)) (fun z_108 => ?_)
        refine s_Model_follows_157 l e gz_29 (fun z_109 => ?_) (fun z => absurd (z_4.symm.trans z) (by decide))
        refine s_Model_follows_169 ?_
        have hk_110 : ¬ kdP fa asz p = 10 := fun q => z_1 (by rw [q]; rfl)
        have hk_111 : kdP fa asz p = 5 := ((rk_iff _ (kdP_le fa asz p)).2.2.2.2.2.2.2.2.2.2.2.1).mp ((nI_eq (b := 12) (by have := rk_le _ (kdP_le fa asz p); omega) (by decide)).mp z_4)
        exact f_followsJH q_askedSize q_asked q_firstToken q_starred q_tokenAt q_tokenSize q_groupKind q_groupPhrase q_groupSize q_groupMask q_groupFar q_out q_top q_masks q_a ND hasz h128 Q0 (jn := 1) (bg := false) rfl rfl (by rw [hk_111]; rfl) (by rw [hk_111]; rfl) hk_110 (by omega) (by omega) (fun h9 q9 => ⟨rfl, q9⟩)
  · skip
    have hk_112 : kdP fa asz p = 10 := ((rk_iff _ (kdP_le fa asz p)).2.2.2.1).mp ((nI_eq (b := 4) (by have := rk_le _ (kdP_le fa asz p); omega) (by decide)).mp z_2)
    exact f_followsCH q_askedSize q_asked q_firstToken q_starred q_tokenAt q_tokenSize q_groupKind q_groupPhrase q_groupSize q_groupMask q_groupFar q_out q_top q_masks q_a ND hasz h128 Q0 hk_112 (by omega) (by omega) (fun h9 q9 => ⟨rfl, q9⟩)
