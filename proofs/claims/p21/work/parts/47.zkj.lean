/-- the reference has read the question: as r says -/
def RdQ (m asked_ firstToken_ starred_ tokenAt_ tokenSize_ groupKind_ groupPhrase_ groupSize_ groupMask_ groupFar_ out_ top_ masks_ : Nat) (gs : List Value) (h0 : xw_A) (fa : Nat → Int32) (asz : Nat) (r : Option (PSt × List EV)) (h : xw_A) : Prop :=
  ∃ (bd : Int32) (c1 c2 ca cs c5 c6 c7 c8 c9 co ct cm : Nat → Int32) (fs : List Value), fs.length = 62 ∧ h m = some (.inr (11, fs)) ∧ fs[(33 : Nat)]? = some (.int bd) ∧ INT fs [28, 29, 30, 31, 34, 35, 36, 37, 38, 39, 61] ∧ (∀ i : Nat, i ∉ [28, 29, 30, 31, 33, 34, 35, 36, 37, 38, 39, 61] → fs[i]? = gs[i]?) ∧ h firstToken_ = some (.inl (0, 13, .inl c1)) ∧ h starred_ = some (.inl (0, 13, .inl c2)) ∧ h tokenAt_ = some (.inl (0, 60, .inl ca)) ∧ h tokenSize_ = some (.inl (0, 60, .inl cs)) ∧ h groupKind_ = some (.inl (0, 13, .inl c5)) ∧ h groupPhrase_ = some (.inl (0, 13, .inl c6)) ∧ h groupSize_ = some (.inl (0, 13, .inl c7)) ∧ h groupMask_ = some (.inl (0, 13, .inl c8)) ∧ h groupFar_ = some (.inl (0, 13, .inl c9)) ∧ h out_ = some (.inl (0, 60, .inl co)) ∧ h top_ = some (.inl (0, 60, .inl ct)) ∧ h masks_ = some (.inl (0, 60, .inl cm)) ∧ FrO [m, firstToken_, starred_, tokenAt_, tokenSize_, groupKind_, groupPhrase_, groupSize_, groupMask_, groupFar_, out_, top_, masks_] h0 h ∧ ((r = none ∧ ¬ bd < 0) ∨ ∃ (p t : Nat) (ph : List PHt) (gr : List GRt) (e : List EV), r = some ((p, ph, gr), e) ∧ bd < 0 ∧ RqT fa asz c1 c2 ca cs t p ph [] ∧ GrR gr c5 c6 c7 c8 c9 ∧ OuR e co ∧ OgR e gr.length ∧ ph.length ≤ 12 ∧ gr.length ≤ ph.length ∧ e.length + 1 = 2 * gr.length ∧ fs[(34 : Nat)]? = some (.int (nI ph.length)) ∧ fs[(35 : Nat)]? = some (.int (nI t)) ∧ fs[(36 : Nat)]? = some (.int (nI gr.length)) ∧ fs[(37 : Nat)]? = some (.int (nI e.length)))
set_option maxHeartbeats 8000000 in
theorem lp_rdsH {G : xw_G} {F L bc bs : Nat} {pr : Option Value → xw_A → Prop} {px : String → xw_A → Prop} {m asked_ firstToken_ starred_ tokenAt_ tokenSize_ groupKind_ groupPhrase_ groupSize_ groupMask_ groupFar_ out_ top_ masks_ asz : Nat} {gs : List Value} {fa : Nat → Int32} {h0 : xw_A} (q_askedSize : gs[(11 : Nat)]? = some (.int (nI asz))) (q_asked : gs[(4 : Nat)]? = some (.ref asked_)) (q_firstToken : gs[(41 : Nat)]? = some (.ref firstToken_)) (q_starred : gs[(42 : Nat)]? = some (.ref starred_)) (q_tokenAt : gs[(43 : Nat)]? = some (.ref tokenAt_)) (q_tokenSize : gs[(44 : Nat)]? = some (.ref tokenSize_)) (q_groupKind : gs[(45 : Nat)]? = some (.ref groupKind_)) (q_groupPhrase : gs[(46 : Nat)]? = some (.ref groupPhrase_)) (q_groupSize : gs[(47 : Nat)]? = some (.ref groupSize_)) (q_groupMask : gs[(48 : Nat)]? = some (.ref groupMask_)) (q_groupFar : gs[(49 : Nat)]? = some (.ref groupFar_)) (q_out : gs[(50 : Nat)]? = some (.ref out_)) (q_top : gs[(51 : Nat)]? = some (.ref top_)) (q_masks : gs[(52 : Nat)]? = some (.ref masks_)) (q_a : h0 asked_ = some (.inl (0, 96, .inl fa))) (ND : NDl [m, asked_, firstToken_, starred_, tokenAt_, tokenSize_, groupKind_, groupPhrase_, groupSize_, groupMask_, groupFar_, out_, top_, masks_]) (hasz : asz ≤ 96) (h128 : ∀ j, j < asz → ∃ c, c < 128 ∧ fa j = nI c) {r : Option (PSt × List EV)} (hF : 9 ≤ F) (hL : 190 ≤ L) (kk : ∀ (h : xw_A), ((∃ (p mk : Nat) (ph : List PHt) (gr : List GRt) (st o : List EV), QzR m asked_ firstToken_ starred_ tokenAt_ tokenSize_ groupKind_ groupPhrase_ groupSize_ groupMask_ groupFar_ out_ top_ masks_ gs h0 fa asz (true, (p, ph, gr), st, mk, o) h ∧ r = fnZ (p, ph, gr) (redS 1 st o)) ∨ (QzB m asked_ firstToken_ starred_ tokenAt_ tokenSize_ groupKind_ groupPhrase_ groupSize_ groupMask_ groupFar_ out_ top_ masks_ gs h0 h ∧ r = none)) → xw G m_Model_reads F L bc bs pr px 91 [some (.ref m)] [] h) :
    ∀ (dd i : Nat) (h : xw_A) (b : Bool) (p : Nat) (mk : Nat) (ph : List PHt) (gr : List GRt) (st : List EV) (o : List EV), 3900 ≤ i + dd → i < 3900 → QzR m asked_ firstToken_ starred_ tokenAt_ tokenSize_ groupKind_ groupPhrase_ groupSize_ groupMask_ groupFar_ out_ top_ masks_ gs h0 fa asz (b, (p, ph, gr), st, mk, o) h → Rto (kdS fa asz) (skS fa asz) (gpP fa asz) (flP fa asz) (b, (p, ph, gr), st, mk, o) r → meaZ asz (b, (p, ph, gr), st, mk, o) + i = 3899 → xw G m_Model_reads F L bc bs pr px 49 [some (.ref m)] [] h := by
  intro dd
  induction dd with
  | zero =>
    intro i h b p mk ph gr st o hi hb Q hR hi2
    exact absurd hi (by omega)
  | succ dd ih =>
    intro i h b p mk ph gr st o hi hb Q hR hi2
    have Q0 := Q
    obtain ⟨y, t, bd, c1, c2, ca, cs, c5, c6, c7, c8, c9, co, ct, cm, fs, PT, HY, RQ, GR, OU, OG, ST, hbd, hp12, hgp, hmk, hd8, hcn, l, e, gz_28, gz_29, gz_30, gz_31, gz_33, gz_34, gz_35, gz_36, gz_37, gz_38, gz_39, gz_61, gq, e_firstToken, e_starred, e_tokenAt, e_tokenSize, e_groupKind, e_groupPhrase, e_groupSize, e_groupMask, e_groupFar, e_out, e_top, e_masks, rq⟩ := Q
    have g_askedSize := (gq 11 (by decide)).trans q_askedSize
    have g_asked := (gq 4 (by decide)).trans q_asked
    have g_firstToken := (gq 41 (by decide)).trans q_firstToken
    have g_starred := (gq 42 (by decide)).trans q_starred
    have g_tokenAt := (gq 43 (by decide)).trans q_tokenAt
    have g_tokenSize := (gq 44 (by decide)).trans q_tokenSize
    have g_groupKind := (gq 45 (by decide)).trans q_groupKind
    have g_groupPhrase := (gq 46 (by decide)).trans q_groupPhrase
    have g_groupSize := (gq 47 (by decide)).trans q_groupSize
    have g_groupMask := (gq 48 (by decide)).trans q_groupMask
    have g_groupFar := (gq 49 (by decide)).trans q_groupFar
    have g_out := (gq 50 (by decide)).trans q_out
    have g_top := (gq 51 (by decide)).trans q_top
    have g_masks := (gq 52 (by decide)).trans q_masks
    have e_asked := rq asked_ _ (by simp only [List.mem_cons, List.not_mem_nil, or_false, not_or]; exact ⟨(Ne.symm (nd_ne ND (i := 0) (j := 1) rfl rfl (by decide))), (nd_ne ND (i := 1) (j := 2) rfl rfl (by decide)), (nd_ne ND (i := 1) (j := 3) rfl rfl (by decide)), (nd_ne ND (i := 1) (j := 4) rfl rfl (by decide)), (nd_ne ND (i := 1) (j := 5) rfl rfl (by decide)), (nd_ne ND (i := 1) (j := 6) rfl rfl (by decide)), (nd_ne ND (i := 1) (j := 7) rfl rfl (by decide)), (nd_ne ND (i := 1) (j := 8) rfl rfl (by decide)), (nd_ne ND (i := 1) (j := 9) rfl rfl (by decide)), (nd_ne ND (i := 1) (j := 10) rfl rfl (by decide)), (nd_ne ND (i := 1) (j := 11) rfl rfl (by decide)), (nd_ne ND (i := 1) (j := 12) rfl rfl (by decide)), (nd_ne ND (i := 1) (j := 13) rfl rfl (by decide))⟩) q_a
    have hcl := cJ_len st
    dsimp only at PT HY RQ GR OU OG ST hp12 hgp hmk hd8 hcn gz_28 gz_29 gz_30 gz_31 gz_33 gz_34 gz_35 gz_36 gz_37 gz_38 gz_39 gz_61
    have hbd2 : ¬ 0 ≤ bd := Int32.not_le.mpr hbd
    have hxy0 := PT.1
    have hy97 := PT.2.1
    refine s_Model_reads_49 l e gz_33 (fun z => absurd z hbd2) (fun z_1 => ?_)
    refine s_Model_reads_56 l e gz_29 (fun z_2 => ?_) (fun z_3 => ?_)
    · skip
      refine s_Model_reads_70 l e gz_61 (fun z_4 => ?_) (fun z_5 => ?_)
      · skip
        refine s_Model_reads_84 ?_
        obtain rfl : b = false := b01_f z_4
        refine x_callV (As := []) (b := m) (rest := []) (F1 := 8) (L1 := 170) (mc := 0) (ms := 0) d_Model_reads_85 cV_Model_306 (f_atomH q_askedSize q_asked q_firstToken q_starred q_tokenAt q_tokenSize q_groupKind q_groupPhrase q_groupSize q_groupMask q_groupFar q_out q_top q_masks q_a ND hasz h128 Q0 (by omega) (by omega)) e ⟨by decide, rfl⟩ ⟨by omega, by show 8 + (1 + 11) + 170 ≤ _; omega⟩ ⟨by omega, by omega⟩ (Nat.le_of_ble_eq_true rfl) (fun v_7 h_6 p_8 => ?_)
        rcases p_8 with ⟨rfl, ⟨hs9, QB9⟩ | ⟨⟨b9, ⟨p9, ph9, gr9⟩, st9, mk9, o9⟩, hs9, QR9⟩⟩
        · skip
          refine s_Model_reads_88 ?_
          have QB8 := QB9
          obtain ⟨_, _, bd8, _, _, _, _, _, _, _, _, _, _, _, _, fs8, hb8, -, l8, e8, g8, -⟩ := QB8
          refine s_Model_reads_49 l8 e8 g8 (fun _ => ?_) (fun z => absurd (Int32.not_lt.mp hb8) z)
          exact kk _ (Or.inr ⟨QB9, hR.uniq (Rto.bad (kdS fa asz) (skS fa asz) (gpP fa asz) (flP fa asz) hs9 (fun q => by cases q.1))⟩)
        · skip
          refine s_Model_reads_88 ?_
          have hm9 := mea_lt hasz hs9 hd8 ST.one
          exact ih (3899 - meaZ asz (b9, (p9, ph9, gr9), st9, mk9, o9)) _ b9 p9 mk9 ph9 gr9 st9 o9 (by omega) (by omega) QR9 (hR.back hs9 (fun q => by cases q.1)) (by omega)
      · skip
        refine s_Model_reads_77 ?_
        obtain rfl : b = true := b01_t z_5
        have hk_9 : ¬ kdP fa asz p = 0 := fun q => z_2 (by rw [q]; rfl)
        refine x_callV (As := []) (b := m) (rest := []) (F1 := 5) (L1 := 107) (mc := 0) (ms := 0) d_Model_reads_78 cV_Model_303 (f_followsH q_askedSize q_asked q_firstToken q_starred q_tokenAt q_tokenSize q_groupKind q_groupPhrase q_groupSize q_groupMask q_groupFar q_out q_top q_masks q_a ND hasz h128 Q0 (by omega) (by omega)) e ⟨by decide, rfl⟩ ⟨by omega, by show 8 + (3 + 11) + 107 ≤ _; omega⟩ ⟨by omega, by omega⟩ (Nat.le_of_ble_eq_true rfl) (fun v_11 h_10 p_12 => ?_)
        rcases p_12 with ⟨rfl, ⟨hs9, QB9⟩ | ⟨⟨b9, ⟨p9, ph9, gr9⟩, st9, mk9, o9⟩, hs9, QR9⟩⟩
        · skip
          refine s_Model_reads_81 ?_
          have QB8 := QB9
          obtain ⟨_, _, bd8, _, _, _, _, _, _, _, _, _, _, _, _, fs8, hb8, -, l8, e8, g8, -⟩ := QB8
          refine s_Model_reads_49 l8 e8 g8 (fun _ => ?_) (fun z => absurd (Int32.not_lt.mp hb8) z)
          exact kk _ (Or.inr ⟨QB9, hR.uniq (Rto.bad (kdS fa asz) (skS fa asz) (gpP fa asz) (flP fa asz) hs9 (fun q => hk_9 q.2))⟩)
        · skip
          refine s_Model_reads_81 ?_
          have hm9 := mea_lt hasz hs9 hd8 ST.one
          exact ih (3899 - meaZ asz (b9, (p9, ph9, gr9), st9, mk9, o9)) _ b9 p9 mk9 ph9 gr9 st9 o9 (by omega) (by omega) QR9 (hR.back hs9 (fun q => hk_9 q.2)) (by omega)
    · skip
      refine s_Model_reads_63 l e gz_61 (fun z_13 => ?_) (fun z_14 => ?_)
      · skip
        obtain rfl : b = true := b01_t z_13
        have hk_15 : kdP fa asz p = 0 := ((rk_iff _ (kdP_le fa asz p)).1).mp ((nI_eq (b := 0) (by have := rk_le _ (kdP_le fa asz p); omega) (by decide)).mp z_3)
        exact kk _ (Or.inl ⟨p, mk, ph, gr, st, o, Q0, Rto.endZ hk_15 hR⟩)
      · skip
        refine s_Model_reads_70 l e gz_61 (fun z_16 => ?_) (fun z => absurd z_14 z)
        refine s_Model_reads_84 ?_
        obtain rfl : b = false := b01_f z_16
        refine x_callV (As := []) (b := m) (rest := []) (F1 := 8) (L1 := 170) (mc := 0) (ms := 0) d_Model_reads_85 cV_Model_306 (f_atomH q_askedSize q_asked q_firstToken q_starred q_tokenAt q_tokenSize q_groupKind q_groupPhrase q_groupSize q_groupMask q_groupFar q_out q_top q_masks q_a ND hasz h128 Q0 (by omega) (by omega)) e ⟨by decide, rfl⟩ ⟨by omega, by show 8 + (1 + 11) + 170 ≤ _; omega⟩ ⟨by omega, by omega⟩ (Nat.le_of_ble_eq_true rfl) (fun v_18 h_17 p_19 => ?_)
        rcases p_19 with ⟨rfl, ⟨hs9, QB9⟩ | ⟨⟨b9, ⟨p9, ph9, gr9⟩, st9, mk9, o9⟩, hs9, QR9⟩⟩
        · skip
          refine s_Model_reads_88 ?_
          have QB8 := QB9
          obtain ⟨_, _, bd8, _, _, _, _, _, _, _, _, _, _, _, _, fs8, hb8, -, l8, e8, g8, -⟩ := QB8
          refine s_Model_reads_49 l8 e8 g8 (fun _ => ?_) (fun z => absurd (Int32.not_lt.mp hb8) z)
          exact kk _ (Or.inr ⟨QB9, hR.uniq (Rto.bad (kdS fa asz) (skS fa asz) (gpP fa asz) (flP fa asz) hs9 (fun q => by cases q.1))⟩)
        · skip
          refine s_Model_reads_88 ?_
          have hm9 := mea_lt hasz hs9 hd8 ST.one
          exact ih (3899 - meaZ asz (b9, (p9, ph9, gr9), st9, mk9, o9)) _ b9 p9 mk9 ph9 gr9 st9 o9 (by omega) (by omega) QR9 (hR.back hs9 (fun q => by cases q.1)) (by omega)
set_option maxHeartbeats 8000000 in
theorem f_readsH {G : xw_G} {F L : Nat} {h : xw_A} {asz : Nat} {y0 y1 y2 y3 y4 y5 y6 y7 y8 y9 y10 y11 : Int32} {fa c1 c2 ca cs c5 c6 c7 c8 c9 co ct cm : Nat → Int32} {m asked_ firstToken_ starred_ tokenAt_ tokenSize_ groupKind_ groupPhrase_ groupSize_ groupMask_ groupFar_ out_ top_ masks_ : Nat} {fs : List Value} (l : fs.length = 62) (e : h m = some (.inr (11, fs))) (g_at : fs[(28 : Nat)]? = some (.int y0)) (g_kind : fs[(29 : Nat)]? = some (.int y1)) (g_from : fs[(30 : Nat)]? = some (.int y2)) (g_to : fs[(31 : Nat)]? = some (.int y3)) (g_bad : fs[(33 : Nat)]? = some (.int y4)) (g_phrases : fs[(34 : Nat)]? = some (.int y5)) (g_tokens : fs[(35 : Nat)]? = some (.int y6)) (g_groups : fs[(36 : Nat)]? = some (.int y7)) (g_outs : fs[(37 : Nat)]? = some (.int y8)) (g_tops : fs[(38 : Nat)]? = some (.int y9)) (g_mask : fs[(39 : Nat)]? = some (.int y10)) (g_askedSize : fs[(11 : Nat)]? = some (.int (nI asz))) (g_behind : fs[(61 : Nat)]? = some (.int y11)) (g_asked : fs[(4 : Nat)]? = some (.ref asked_)) (e_asked : h asked_ = some (.inl (0, 96, .inl fa))) (g_firstToken : fs[(41 : Nat)]? = some (.ref firstToken_)) (e_firstToken : h firstToken_ = some (.inl (0, 13, .inl c1))) (g_starred : fs[(42 : Nat)]? = some (.ref starred_)) (e_starred : h starred_ = some (.inl (0, 13, .inl c2))) (g_tokenAt : fs[(43 : Nat)]? = some (.ref tokenAt_)) (e_tokenAt : h tokenAt_ = some (.inl (0, 60, .inl ca))) (g_tokenSize : fs[(44 : Nat)]? = some (.ref tokenSize_)) (e_tokenSize : h tokenSize_ = some (.inl (0, 60, .inl cs))) (g_groupKind : fs[(45 : Nat)]? = some (.ref groupKind_)) (e_groupKind : h groupKind_ = some (.inl (0, 13, .inl c5))) (g_groupPhrase : fs[(46 : Nat)]? = some (.ref groupPhrase_)) (e_groupPhrase : h groupPhrase_ = some (.inl (0, 13, .inl c6))) (g_groupSize : fs[(47 : Nat)]? = some (.ref groupSize_)) (e_groupSize : h groupSize_ = some (.inl (0, 13, .inl c7))) (g_groupMask : fs[(48 : Nat)]? = some (.ref groupMask_)) (e_groupMask : h groupMask_ = some (.inl (0, 13, .inl c8))) (g_groupFar : fs[(49 : Nat)]? = some (.ref groupFar_)) (e_groupFar : h groupFar_ = some (.inl (0, 13, .inl c9))) (g_out : fs[(50 : Nat)]? = some (.ref out_)) (e_out : h out_ = some (.inl (0, 60, .inl co))) (g_top : fs[(51 : Nat)]? = some (.ref top_)) (e_top : h top_ = some (.inl (0, 60, .inl ct))) (g_masks : fs[(52 : Nat)]? = some (.ref masks_)) (e_masks : h masks_ = some (.inl (0, 60, .inl cm))) (ND : NDl [m, asked_, firstToken_, starred_, tokenAt_, tokenSize_, groupKind_, groupPhrase_, groupSize_, groupMask_, groupFar_, out_, top_, masks_]) (hasz : asz ≤ 96) (h128 : ∀ j, j < asz → ∃ c, c < 128 ∧ fa j = nI c) (hF : 9 ≤ F) (hL : 190 ≤ L) :
    xw_Met G m_Model_reads F L 0 0 [.ref m] h (fun v h' => v = none ∧ RdQ m asked_ firstToken_ starred_ tokenAt_ tokenSize_ groupKind_ groupPhrase_ groupSize_ groupMask_ groupFar_ out_ top_ masks_ fs h fa asz (redQ fa asz) h') (fun _ _ => False) := by
  refine xw_Met.of rfl (by decide) (Nat.le_of_ble_eq_true rfl) ?_
  have ga0 : ∀ i : Nat, i ∉ [28, 29, 30, 31, 33, 34, 35, 36, 37, 38, 39, 61] → fs[i]? = fs[i]? := fun _ _ => rfl
  have r0 : FrO [m, firstToken_, starred_, tokenAt_, tokenSize_, groupKind_, groupPhrase_, groupSize_, groupMask_, groupFar_, out_, top_, masks_] h h := FrO.rf
  refine s_Model_reads_0 l e ?_
  rw [xw_up_up, xw_up_up, xw_up_up]
  refine x_u1 (fun h_1 e_2 f_3 => ?_)
  have e_4 := (f_3 asked_ (Ne.symm (nd_ne ND (i := 0) (j := 1) rfl rfl (by decide)))).trans e_asked
  have e_5 := (f_3 firstToken_ (Ne.symm (nd_ne ND (i := 0) (j := 2) rfl rfl (by decide)))).trans e_firstToken
  have e_6 := (f_3 starred_ (Ne.symm (nd_ne ND (i := 0) (j := 3) rfl rfl (by decide)))).trans e_starred
  have e_7 := (f_3 tokenAt_ (Ne.symm (nd_ne ND (i := 0) (j := 4) rfl rfl (by decide)))).trans e_tokenAt
  have e_8 := (f_3 tokenSize_ (Ne.symm (nd_ne ND (i := 0) (j := 5) rfl rfl (by decide)))).trans e_tokenSize
  have e_9 := (f_3 groupKind_ (Ne.symm (nd_ne ND (i := 0) (j := 6) rfl rfl (by decide)))).trans e_groupKind
  have e_10 := (f_3 groupPhrase_ (Ne.symm (nd_ne ND (i := 0) (j := 7) rfl rfl (by decide)))).trans e_groupPhrase
  have e_11 := (f_3 groupSize_ (Ne.symm (nd_ne ND (i := 0) (j := 8) rfl rfl (by decide)))).trans e_groupSize
  have e_12 := (f_3 groupMask_ (Ne.symm (nd_ne ND (i := 0) (j := 9) rfl rfl (by decide)))).trans e_groupMask
  have e_13 := (f_3 groupFar_ (Ne.symm (nd_ne ND (i := 0) (j := 10) rfl rfl (by decide)))).trans e_groupFar
  have e_14 := (f_3 out_ (Ne.symm (nd_ne ND (i := 0) (j := 11) rfl rfl (by decide)))).trans e_out
  have e_15 := (f_3 top_ (Ne.symm (nd_ne ND (i := 0) (j := 12) rfl rfl (by decide)))).trans e_top
  have e_16 := (f_3 masks_ (Ne.symm (nd_ne ND (i := 0) (j := 13) rfl rfl (by decide)))).trans e_masks
  have r_17 := r0.up (by simp) f_3
  obtain ⟨fs_18, z_19⟩ : ∃ z, z = (((fs.set 28 (.int 0)).set 33 (.int ((-1)))).set 34 (.int 0)).set 35 (.int 0) := ⟨_, rfl⟩
  rw [← z_19] at e_2
  have l_20 : fs_18.length = 62 := by rw [z_19]; simp only [List.length_set]; exact l
  have g_21 : fs_18[(4 : Nat)]? = some (.ref asked_) := by rw [z_19]; exact (xw_gn (by decide) (xw_gn (by decide) (xw_gn (by decide) (xw_gn (by decide) g_asked))))
  have g_22 : fs_18[(11 : Nat)]? = some (.int (nI asz)) := by rw [z_19]; exact (xw_gn (by decide) (xw_gn (by decide) (xw_gn (by decide) (xw_gn (by decide) g_askedSize))))
  have g_23 : fs_18[(28 : Nat)]? = some (.int 0) := by rw [z_19]; exact (xw_gn (by decide) (xw_gn (by decide) (xw_gn (by decide) (xw_gs (by simp [l])))))
  have g_24 : fs_18[(29 : Nat)]? = some (.int y1) := by rw [z_19]; exact (xw_gn (by decide) (xw_gn (by decide) (xw_gn (by decide) (xw_gn (by decide) g_kind))))
  have g_25 : fs_18[(30 : Nat)]? = some (.int y2) := by rw [z_19]; exact (xw_gn (by decide) (xw_gn (by decide) (xw_gn (by decide) (xw_gn (by decide) g_from))))
  have g_26 : fs_18[(31 : Nat)]? = some (.int y3) := by rw [z_19]; exact (xw_gn (by decide) (xw_gn (by decide) (xw_gn (by decide) (xw_gn (by decide) g_to))))
  have g_27 : fs_18[(33 : Nat)]? = some (.int ((-1))) := by rw [z_19]; exact (xw_gn (by decide) (xw_gn (by decide) (xw_gs (by simp [l]))))
  have g_28 : fs_18[(34 : Nat)]? = some (.int 0) := by rw [z_19]; exact (xw_gn (by decide) (xw_gs (by simp [l])))
  have g_29 : fs_18[(35 : Nat)]? = some (.int 0) := by rw [z_19]; exact (xw_gs (by simp [l]))
  have g_30 : fs_18[(36 : Nat)]? = some (.int y7) := by rw [z_19]; exact (xw_gn (by decide) (xw_gn (by decide) (xw_gn (by decide) (xw_gn (by decide) g_groups))))
  have g_31 : fs_18[(37 : Nat)]? = some (.int y8) := by rw [z_19]; exact (xw_gn (by decide) (xw_gn (by decide) (xw_gn (by decide) (xw_gn (by decide) g_outs))))
  have g_32 : fs_18[(38 : Nat)]? = some (.int y9) := by rw [z_19]; exact (xw_gn (by decide) (xw_gn (by decide) (xw_gn (by decide) (xw_gn (by decide) g_tops))))
  have g_33 : fs_18[(39 : Nat)]? = some (.int y10) := by rw [z_19]; exact (xw_gn (by decide) (xw_gn (by decide) (xw_gn (by decide) (xw_gn (by decide) g_mask))))
  have g_34 : fs_18[(41 : Nat)]? = some (.ref firstToken_) := by rw [z_19]; exact (xw_gn (by decide) (xw_gn (by decide) (xw_gn (by decide) (xw_gn (by decide) g_firstToken))))
  have g_35 : fs_18[(42 : Nat)]? = some (.ref starred_) := by rw [z_19]; exact (xw_gn (by decide) (xw_gn (by decide) (xw_gn (by decide) (xw_gn (by decide) g_starred))))
  have g_36 : fs_18[(43 : Nat)]? = some (.ref tokenAt_) := by rw [z_19]; exact (xw_gn (by decide) (xw_gn (by decide) (xw_gn (by decide) (xw_gn (by decide) g_tokenAt))))
  have g_37 : fs_18[(44 : Nat)]? = some (.ref tokenSize_) := by rw [z_19]; exact (xw_gn (by decide) (xw_gn (by decide) (xw_gn (by decide) (xw_gn (by decide) g_tokenSize))))
  have g_38 : fs_18[(45 : Nat)]? = some (.ref groupKind_) := by rw [z_19]; exact (xw_gn (by decide) (xw_gn (by decide) (xw_gn (by decide) (xw_gn (by decide) g_groupKind))))
  have g_39 : fs_18[(46 : Nat)]? = some (.ref groupPhrase_) := by rw [z_19]; exact (xw_gn (by decide) (xw_gn (by decide) (xw_gn (by decide) (xw_gn (by decide) g_groupPhrase))))
  have g_40 : fs_18[(47 : Nat)]? = some (.ref groupSize_) := by rw [z_19]; exact (xw_gn (by decide) (xw_gn (by decide) (xw_gn (by decide) (xw_gn (by decide) g_groupSize))))
  have g_41 : fs_18[(48 : Nat)]? = some (.ref groupMask_) := by rw [z_19]; exact (xw_gn (by decide) (xw_gn (by decide) (xw_gn (by decide) (xw_gn (by decide) g_groupMask))))
  have g_42 : fs_18[(49 : Nat)]? = some (.ref groupFar_) := by rw [z_19]; exact (xw_gn (by decide) (xw_gn (by decide) (xw_gn (by decide) (xw_gn (by decide) g_groupFar))))
  have g_43 : fs_18[(50 : Nat)]? = some (.ref out_) := by rw [z_19]; exact (xw_gn (by decide) (xw_gn (by decide) (xw_gn (by decide) (xw_gn (by decide) g_out))))
  have g_44 : fs_18[(51 : Nat)]? = some (.ref top_) := by rw [z_19]; exact (xw_gn (by decide) (xw_gn (by decide) (xw_gn (by decide) (xw_gn (by decide) g_top))))
  have g_45 : fs_18[(52 : Nat)]? = some (.ref masks_) := by rw [z_19]; exact (xw_gn (by decide) (xw_gn (by decide) (xw_gn (by decide) (xw_gn (by decide) g_masks))))
  have g_46 : fs_18[(61 : Nat)]? = some (.int y11) := by rw [z_19]; exact (xw_gn (by decide) (xw_gn (by decide) (xw_gn (by decide) (xw_gn (by decide) g_behind))))
  have ga_47 : ∀ i : Nat, i ∉ [28, 29, 30, 31, 33, 34, 35, 36, 37, 38, 39, 61] → fs_18[i]? = fs[i]? := fun i hi => by rw [z_19]; exact xw_gn (fun z => hi (by rw [z]; simp)) (xw_gn (fun z => hi (by rw [z]; simp)) (xw_gn (fun z => hi (by rw [z]; simp)) (xw_gn (fun z => hi (by rw [z]; simp)) (ga0 i hi))))
  clear z_19
  refine s_Model_reads_20 l_20 e_2 ?_
  rw [xw_up_up, xw_up_up, xw_up_up]
  refine x_u1 (fun h_48 e_49 f_50 => ?_)
  have e_51 := (f_50 asked_ (Ne.symm (nd_ne ND (i := 0) (j := 1) rfl rfl (by decide)))).trans e_4
  have e_52 := (f_50 firstToken_ (Ne.symm (nd_ne ND (i := 0) (j := 2) rfl rfl (by decide)))).trans e_5
  have e_53 := (f_50 starred_ (Ne.symm (nd_ne ND (i := 0) (j := 3) rfl rfl (by decide)))).trans e_6
  have e_54 := (f_50 tokenAt_ (Ne.symm (nd_ne ND (i := 0) (j := 4) rfl rfl (by decide)))).trans e_7
  have e_55 := (f_50 tokenSize_ (Ne.symm (nd_ne ND (i := 0) (j := 5) rfl rfl (by decide)))).trans e_8
  have e_56 := (f_50 groupKind_ (Ne.symm (nd_ne ND (i := 0) (j := 6) rfl rfl (by decide)))).trans e_9
  have e_57 := (f_50 groupPhrase_ (Ne.symm (nd_ne ND (i := 0) (j := 7) rfl rfl (by decide)))).trans e_10
  have e_58 := (f_50 groupSize_ (Ne.symm (nd_ne ND (i := 0) (j := 8) rfl rfl (by decide)))).trans e_11
  have e_59 := (f_50 groupMask_ (Ne.symm (nd_ne ND (i := 0) (j := 9) rfl rfl (by decide)))).trans e_12
  have e_60 := (f_50 groupFar_ (Ne.symm (nd_ne ND (i := 0) (j := 10) rfl rfl (by decide)))).trans e_13
  have e_61 := (f_50 out_ (Ne.symm (nd_ne ND (i := 0) (j := 11) rfl rfl (by decide)))).trans e_14
  have e_62 := (f_50 top_ (Ne.symm (nd_ne ND (i := 0) (j := 12) rfl rfl (by decide)))).trans e_15
  have e_63 := (f_50 masks_ (Ne.symm (nd_ne ND (i := 0) (j := 13) rfl rfl (by decide)))).trans e_16
  have r_64 := r_17.up (by simp) f_50
  obtain ⟨fs_65, z_66⟩ : ∃ z, z = (((fs_18.set 36 (.int 0)).set 37 (.int 0)).set 38 (.int 0)).set 39 (.int 3) := ⟨_, rfl⟩
  rw [← z_66] at e_49
  have l_67 : fs_65.length = 62 := by rw [z_66]; simp only [List.length_set]; exact l_20
  have g_68 : fs_65[(4 : Nat)]? = some (.ref asked_) := by rw [z_66]; exact (xw_gn (by decide) (xw_gn (by decide) (xw_gn (by decide) (xw_gn (by decide) g_21))))
  have g_69 : fs_65[(11 : Nat)]? = some (.int (nI asz)) := by rw [z_66]; exact (xw_gn (by decide) (xw_gn (by decide) (xw_gn (by decide) (xw_gn (by decide) g_22))))
  have g_70 : fs_65[(28 : Nat)]? = some (.int 0) := by rw [z_66]; exact (xw_gn (by decide) (xw_gn (by decide) (xw_gn (by decide) (xw_gn (by decide) g_23))))
  have g_71 : fs_65[(29 : Nat)]? = some (.int y1) := by rw [z_66]; exact (xw_gn (by decide) (xw_gn (by decide) (xw_gn (by decide) (xw_gn (by decide) g_24))))
  have g_72 : fs_65[(30 : Nat)]? = some (.int y2) := by rw [z_66]; exact (xw_gn (by decide) (xw_gn (by decide) (xw_gn (by decide) (xw_gn (by decide) g_25))))
  have g_73 : fs_65[(31 : Nat)]? = some (.int y3) := by rw [z_66]; exact (xw_gn (by decide) (xw_gn (by decide) (xw_gn (by decide) (xw_gn (by decide) g_26))))
  have g_74 : fs_65[(33 : Nat)]? = some (.int ((-1))) := by rw [z_66]; exact (xw_gn (by decide) (xw_gn (by decide) (xw_gn (by decide) (xw_gn (by decide) g_27))))
  have g_75 : fs_65[(34 : Nat)]? = some (.int 0) := by rw [z_66]; exact (xw_gn (by decide) (xw_gn (by decide) (xw_gn (by decide) (xw_gn (by decide) g_28))))
  have g_76 : fs_65[(35 : Nat)]? = some (.int 0) := by rw [z_66]; exact (xw_gn (by decide) (xw_gn (by decide) (xw_gn (by decide) (xw_gn (by decide) g_29))))
  have g_77 : fs_65[(36 : Nat)]? = some (.int 0) := by rw [z_66]; exact (xw_gn (by decide) (xw_gn (by decide) (xw_gn (by decide) (xw_gs (by simp [l_20])))))
  have g_78 : fs_65[(37 : Nat)]? = some (.int 0) := by rw [z_66]; exact (xw_gn (by decide) (xw_gn (by decide) (xw_gs (by simp [l_20]))))
  have g_79 : fs_65[(38 : Nat)]? = some (.int 0) := by rw [z_66]; exact (xw_gn (by decide) (xw_gs (by simp [l_20])))
  have g_80 : fs_65[(39 : Nat)]? = some (.int 3) := by rw [z_66]; exact (xw_gs (by simp [l_20]))
  have g_81 : fs_65[(41 : Nat)]? = some (.ref firstToken_) := by rw [z_66]; exact (xw_gn (by decide) (xw_gn (by decide) (xw_gn (by decide) (xw_gn (by decide) g_34))))
  have g_82 : fs_65[(42 : Nat)]? = some (.ref starred_) := by rw [z_66]; exact (xw_gn (by decide) (xw_gn (by decide) (xw_gn (by decide) (xw_gn (by decide) g_35))))
  have g_83 : fs_65[(43 : Nat)]? = some (.ref tokenAt_) := by rw [z_66]; exact (xw_gn (by decide) (xw_gn (by decide) (xw_gn (by decide) (xw_gn (by decide) g_36))))
  have g_84 : fs_65[(44 : Nat)]? = some (.ref tokenSize_) := by rw [z_66]; exact (xw_gn (by decide) (xw_gn (by decide) (xw_gn (by decide) (xw_gn (by decide) g_37))))
  have g_85 : fs_65[(45 : Nat)]? = some (.ref groupKind_) := by rw [z_66]; exact (xw_gn (by decide) (xw_gn (by decide) (xw_gn (by decide) (xw_gn (by decide) g_38))))
  have g_86 : fs_65[(46 : Nat)]? = some (.ref groupPhrase_) := by rw [z_66]; exact (xw_gn (by decide) (xw_gn (by decide) (xw_gn (by decide) (xw_gn (by decide) g_39))))
  have g_87 : fs_65[(47 : Nat)]? = some (.ref groupSize_) := by rw [z_66]; exact (xw_gn (by decide) (xw_gn (by decide) (xw_gn (by decide) (xw_gn (by decide) g_40))))
  have g_88 : fs_65[(48 : Nat)]? = some (.ref groupMask_) := by rw [z_66]; exact (xw_gn (by decide) (xw_gn (by decide) (xw_gn (by decide) (xw_gn (by decide) g_41))))
  have g_89 : fs_65[(49 : Nat)]? = some (.ref groupFar_) := by rw [z_66]; exact (xw_gn (by decide) (xw_gn (by decide) (xw_gn (by decide) (xw_gn (by decide) g_42))))
  have g_90 : fs_65[(50 : Nat)]? = some (.ref out_) := by rw [z_66]; exact (xw_gn (by decide) (xw_gn (by decide) (xw_gn (by decide) (xw_gn (by decide) g_43))))
  have g_91 : fs_65[(51 : Nat)]? = some (.ref top_) := by rw [z_66]; exact (xw_gn (by decide) (xw_gn (by decide) (xw_gn (by decide) (xw_gn (by decide) g_44))))
  have g_92 : fs_65[(52 : Nat)]? = some (.ref masks_) := by rw [z_66]; exact (xw_gn (by decide) (xw_gn (by decide) (xw_gn (by decide) (xw_gn (by decide) g_45))))
  have g_93 : fs_65[(61 : Nat)]? = some (.int y11) := by rw [z_66]; exact (xw_gn (by decide) (xw_gn (by decide) (xw_gn (by decide) (xw_gn (by decide) g_46))))
  have ga_94 : ∀ i : Nat, i ∉ [28, 29, 30, 31, 33, 34, 35, 36, 37, 38, 39, 61] → fs_65[i]? = fs[i]? := fun i hi => by rw [z_66]; exact xw_gn (fun z => hi (by rw [z]; simp)) (xw_gn (fun z => hi (by rw [z]; simp)) (xw_gn (fun z => hi (by rw [z]; simp)) (xw_gn (fun z => hi (by rw [z]; simp)) (ga_47 i hi))))
  clear z_66
  refine s_Model_reads_40 l_67 e_49 ?_
  refine x_u1 (fun h_95 e_96 f_97 => ?_)
  have e_98 := (f_97 asked_ (Ne.symm (nd_ne ND (i := 0) (j := 1) rfl rfl (by decide)))).trans e_51
  have e_99 := (f_97 firstToken_ (Ne.symm (nd_ne ND (i := 0) (j := 2) rfl rfl (by decide)))).trans e_52
  have e_100 := (f_97 starred_ (Ne.symm (nd_ne ND (i := 0) (j := 3) rfl rfl (by decide)))).trans e_53
  have e_101 := (f_97 tokenAt_ (Ne.symm (nd_ne ND (i := 0) (j := 4) rfl rfl (by decide)))).trans e_54
  have e_102 := (f_97 tokenSize_ (Ne.symm (nd_ne ND (i := 0) (j := 5) rfl rfl (by decide)))).trans e_55
  have e_103 := (f_97 groupKind_ (Ne.symm (nd_ne ND (i := 0) (j := 6) rfl rfl (by decide)))).trans e_56
  have e_104 := (f_97 groupPhrase_ (Ne.symm (nd_ne ND (i := 0) (j := 7) rfl rfl (by decide)))).trans e_57
  have e_105 := (f_97 groupSize_ (Ne.symm (nd_ne ND (i := 0) (j := 8) rfl rfl (by decide)))).trans e_58
  have e_106 := (f_97 groupMask_ (Ne.symm (nd_ne ND (i := 0) (j := 9) rfl rfl (by decide)))).trans e_59
  have e_107 := (f_97 groupFar_ (Ne.symm (nd_ne ND (i := 0) (j := 10) rfl rfl (by decide)))).trans e_60
  have e_108 := (f_97 out_ (Ne.symm (nd_ne ND (i := 0) (j := 11) rfl rfl (by decide)))).trans e_61
  have e_109 := (f_97 top_ (Ne.symm (nd_ne ND (i := 0) (j := 12) rfl rfl (by decide)))).trans e_62
  have e_110 := (f_97 masks_ (Ne.symm (nd_ne ND (i := 0) (j := 13) rfl rfl (by decide)))).trans e_63
  have r_111 := r_64.up (by simp) f_97
  obtain ⟨fs_112, z_113⟩ : ∃ z, z = fs_65.set 61 (.int 0) := ⟨_, rfl⟩
  rw [← z_113] at e_96
  have l_114 : fs_112.length = 62 := by rw [z_113]; simp only [List.length_set]; exact l_67
  have g_115 : fs_112[(4 : Nat)]? = some (.ref asked_) := by rw [z_113]; exact (xw_gn (by decide) g_68)
  have g_116 : fs_112[(11 : Nat)]? = some (.int (nI asz)) := by rw [z_113]; exact (xw_gn (by decide) g_69)
  have g_117 : fs_112[(28 : Nat)]? = some (.int 0) := by rw [z_113]; exact (xw_gn (by decide) g_70)
  have g_118 : fs_112[(29 : Nat)]? = some (.int y1) := by rw [z_113]; exact (xw_gn (by decide) g_71)
  have g_119 : fs_112[(30 : Nat)]? = some (.int y2) := by rw [z_113]; exact (xw_gn (by decide) g_72)
  have g_120 : fs_112[(31 : Nat)]? = some (.int y3) := by rw [z_113]; exact (xw_gn (by decide) g_73)
  have g_121 : fs_112[(33 : Nat)]? = some (.int ((-1))) := by rw [z_113]; exact (xw_gn (by decide) g_74)
  have g_122 : fs_112[(34 : Nat)]? = some (.int 0) := by rw [z_113]; exact (xw_gn (by decide) g_75)
  have g_123 : fs_112[(35 : Nat)]? = some (.int 0) := by rw [z_113]; exact (xw_gn (by decide) g_76)
  have g_124 : fs_112[(36 : Nat)]? = some (.int 0) := by rw [z_113]; exact (xw_gn (by decide) g_77)
  have g_125 : fs_112[(37 : Nat)]? = some (.int 0) := by rw [z_113]; exact (xw_gn (by decide) g_78)
  have g_126 : fs_112[(38 : Nat)]? = some (.int 0) := by rw [z_113]; exact (xw_gn (by decide) g_79)
  have g_127 : fs_112[(39 : Nat)]? = some (.int 3) := by rw [z_113]; exact (xw_gn (by decide) g_80)
  have g_128 : fs_112[(41 : Nat)]? = some (.ref firstToken_) := by rw [z_113]; exact (xw_gn (by decide) g_81)
  have g_129 : fs_112[(42 : Nat)]? = some (.ref starred_) := by rw [z_113]; exact (xw_gn (by decide) g_82)
  have g_130 : fs_112[(43 : Nat)]? = some (.ref tokenAt_) := by rw [z_113]; exact (xw_gn (by decide) g_83)
  have g_131 : fs_112[(44 : Nat)]? = some (.ref tokenSize_) := by rw [z_113]; exact (xw_gn (by decide) g_84)
  have g_132 : fs_112[(45 : Nat)]? = some (.ref groupKind_) := by rw [z_113]; exact (xw_gn (by decide) g_85)
  have g_133 : fs_112[(46 : Nat)]? = some (.ref groupPhrase_) := by rw [z_113]; exact (xw_gn (by decide) g_86)
  have g_134 : fs_112[(47 : Nat)]? = some (.ref groupSize_) := by rw [z_113]; exact (xw_gn (by decide) g_87)
  have g_135 : fs_112[(48 : Nat)]? = some (.ref groupMask_) := by rw [z_113]; exact (xw_gn (by decide) g_88)
  have g_136 : fs_112[(49 : Nat)]? = some (.ref groupFar_) := by rw [z_113]; exact (xw_gn (by decide) g_89)
  have g_137 : fs_112[(50 : Nat)]? = some (.ref out_) := by rw [z_113]; exact (xw_gn (by decide) g_90)
  have g_138 : fs_112[(51 : Nat)]? = some (.ref top_) := by rw [z_113]; exact (xw_gn (by decide) g_91)
  have g_139 : fs_112[(52 : Nat)]? = some (.ref masks_) := by rw [z_113]; exact (xw_gn (by decide) g_92)
  have g_140 : fs_112[(61 : Nat)]? = some (.int 0) := by rw [z_113]; exact (xw_gs (by simp [l_67]))
  have ga_141 : ∀ i : Nat, i ∉ [28, 29, 30, 31, 33, 34, 35, 36, 37, 38, 39, 61] → fs_112[i]? = fs[i]? := fun i hi => by rw [z_113]; exact xw_gn (fun z => hi (by rw [z]; simp)) (ga_94 i hi)
  clear z_113
  refine x_callV (As := []) (b := m) (rest := []) (F1 := 3) (L1 := 66) (mc := 0) (ms := 0) d_Model_reads_46 cV_Model_234 (f_partH (x0 := 0) l_114 e_96 g_117 g_118 g_119 g_120 g_116 g_115 e_98 (by omega) hasz (by omega) (by omega)) e_96 ⟨by decide, rfl⟩ ⟨by omega, by show 8 + (2 + 11) + 66 ≤ _; omega⟩ ⟨by omega, by omega⟩ (Nat.le_of_ble_eq_true rfl) (fun v_143 h_142 p_144 => ?_)
  obtain ⟨rfl, y8_, fs8, PT8, hy8, l8, e8, g8a, g8b, g8c, g8d, ga8, r8⟩ := p_144
  have e_145 := r8 asked_ _ (by simp only [List.mem_cons, List.not_mem_nil, or_false, not_or]; exact (Ne.symm (nd_ne ND (i := 0) (j := 1) rfl rfl (by decide)))) e_98
  have e_146 := r8 firstToken_ _ (by simp only [List.mem_cons, List.not_mem_nil, or_false, not_or]; exact (Ne.symm (nd_ne ND (i := 0) (j := 2) rfl rfl (by decide)))) e_99
  have e_147 := r8 starred_ _ (by simp only [List.mem_cons, List.not_mem_nil, or_false, not_or]; exact (Ne.symm (nd_ne ND (i := 0) (j := 3) rfl rfl (by decide)))) e_100
  have e_148 := r8 tokenAt_ _ (by simp only [List.mem_cons, List.not_mem_nil, or_false, not_or]; exact (Ne.symm (nd_ne ND (i := 0) (j := 4) rfl rfl (by decide)))) e_101
  have e_149 := r8 tokenSize_ _ (by simp only [List.mem_cons, List.not_mem_nil, or_false, not_or]; exact (Ne.symm (nd_ne ND (i := 0) (j := 5) rfl rfl (by decide)))) e_102
  have e_150 := r8 groupKind_ _ (by simp only [List.mem_cons, List.not_mem_nil, or_false, not_or]; exact (Ne.symm (nd_ne ND (i := 0) (j := 6) rfl rfl (by decide)))) e_103
  have e_151 := r8 groupPhrase_ _ (by simp only [List.mem_cons, List.not_mem_nil, or_false, not_or]; exact (Ne.symm (nd_ne ND (i := 0) (j := 7) rfl rfl (by decide)))) e_104
  have e_152 := r8 groupSize_ _ (by simp only [List.mem_cons, List.not_mem_nil, or_false, not_or]; exact (Ne.symm (nd_ne ND (i := 0) (j := 8) rfl rfl (by decide)))) e_105
  have e_153 := r8 groupMask_ _ (by simp only [List.mem_cons, List.not_mem_nil, or_false, not_or]; exact (Ne.symm (nd_ne ND (i := 0) (j := 9) rfl rfl (by decide)))) e_106
  have e_154 := r8 groupFar_ _ (by simp only [List.mem_cons, List.not_mem_nil, or_false, not_or]; exact (Ne.symm (nd_ne ND (i := 0) (j := 10) rfl rfl (by decide)))) e_107
  have e_155 := r8 out_ _ (by simp only [List.mem_cons, List.not_mem_nil, or_false, not_or]; exact (Ne.symm (nd_ne ND (i := 0) (j := 11) rfl rfl (by decide)))) e_108
  have e_156 := r8 top_ _ (by simp only [List.mem_cons, List.not_mem_nil, or_false, not_or]; exact (Ne.symm (nd_ne ND (i := 0) (j := 12) rfl rfl (by decide)))) e_109
  have e_157 := r8 masks_ _ (by simp only [List.mem_cons, List.not_mem_nil, or_false, not_or]; exact (Ne.symm (nd_ne ND (i := 0) (j := 13) rfl rfl (by decide)))) e_110
  have r_158 := r_111.trans (r8.mono (by simp))
  have g_159 : fs8[(4 : Nat)]? = some (.ref asked_) := (ga8 4 (by decide)).trans g_115
  have g_160 : fs8[(11 : Nat)]? = some (.int (nI asz)) := (ga8 11 (by decide)).trans g_116
  have g_161 : fs8[(33 : Nat)]? = some (.int ((-1))) := (ga8 33 (by decide)).trans g_121
  have g_162 : fs8[(34 : Nat)]? = some (.int 0) := (ga8 34 (by decide)).trans g_122
  have g_163 : fs8[(35 : Nat)]? = some (.int 0) := (ga8 35 (by decide)).trans g_123
  have g_164 : fs8[(36 : Nat)]? = some (.int 0) := (ga8 36 (by decide)).trans g_124
  have g_165 : fs8[(37 : Nat)]? = some (.int 0) := (ga8 37 (by decide)).trans g_125
  have g_166 : fs8[(38 : Nat)]? = some (.int 0) := (ga8 38 (by decide)).trans g_126
  have g_167 : fs8[(39 : Nat)]? = some (.int 3) := (ga8 39 (by decide)).trans g_127
  have g_168 : fs8[(41 : Nat)]? = some (.ref firstToken_) := (ga8 41 (by decide)).trans g_128
  have g_169 : fs8[(42 : Nat)]? = some (.ref starred_) := (ga8 42 (by decide)).trans g_129
  have g_170 : fs8[(43 : Nat)]? = some (.ref tokenAt_) := (ga8 43 (by decide)).trans g_130
  have g_171 : fs8[(44 : Nat)]? = some (.ref tokenSize_) := (ga8 44 (by decide)).trans g_131
  have g_172 : fs8[(45 : Nat)]? = some (.ref groupKind_) := (ga8 45 (by decide)).trans g_132
  have g_173 : fs8[(46 : Nat)]? = some (.ref groupPhrase_) := (ga8 46 (by decide)).trans g_133
  have g_174 : fs8[(47 : Nat)]? = some (.ref groupSize_) := (ga8 47 (by decide)).trans g_134
  have g_175 : fs8[(48 : Nat)]? = some (.ref groupMask_) := (ga8 48 (by decide)).trans g_135
  have g_176 : fs8[(49 : Nat)]? = some (.ref groupFar_) := (ga8 49 (by decide)).trans g_136
  have g_177 : fs8[(50 : Nat)]? = some (.ref out_) := (ga8 50 (by decide)).trans g_137
  have g_178 : fs8[(51 : Nat)]? = some (.ref top_) := (ga8 51 (by decide)).trans g_138
  have g_179 : fs8[(52 : Nat)]? = some (.ref masks_) := (ga8 52 (by decide)).trans g_139
  have g_180 : fs8[(61 : Nat)]? = some (.int 0) := (ga8 61 (by decide)).trans g_140
  have ga_181 : ∀ i : Nat, i ∉ [28, 29, 30, 31, 33, 34, 35, 36, 37, 38, 39, 61] → fs8[i]? = fs[i]? := fun i hi => (ga8 i (fun z => hi (by simp only [List.mem_cons, List.not_mem_nil, or_false] at z ⊢; omega))).trans (ga_141 i hi)
  refine lp_rdsH (gs := fs8) (h0 := h_142) (r := redQ fa asz) g_160 g_159 g_168 g_169 g_170 g_171 g_172 g_173 g_174 g_175 g_176 g_177 g_178 g_179 e_145 ND hasz h128 (by omega) (by omega) (fun h9 q9 => ?_) 3900 (3899 - meaZ asz (false, (0, [], []), [], 3, [])) _ false 0 3 [] [] [] [] (by omega) (by omega) ⟨y8_, 0, _, _, _, _, _, _, _, _, _, _, _, _, _, _, PT8, hy8, RqT.nil, GrR.nil, OuR.nil, OgR.nil, trivial, by decide, Nat.zero_le _, Nat.le_refl _, Nat.le_refl _, Nat.zero_le _, rfl, l8, e8, g8a, g8b, g8c, g8d, g_161, g_162, g_163, g_164, g_165, g_166, g_167, g_180, fun _ _ => rfl, e_146, e_147, e_148, e_149, e_150, e_151, e_152, e_153, e_154, e_155, e_156, e_157, FrO.rf⟩ (read_q fa hasz (0, [], [])) (by have := mea_le (n := asz) (z := (false, (0, [], []), [], 3, [])) (Nat.zero_le _); omega)
  rcases q9 with ⟨p9, mk9, ph9, gr9, st9, o9, Q9, hr9⟩ | ⟨QB9, hr9⟩
  · skip
    obtain ⟨y_, t_, bd_, c1_, c2_, ca_, cs_, c5_, c6_, c7_, c8_, c9_, co_, ct_, cm_, fs_, PT_, HY_, RQ_, GR_, OU_, OG_, ST_, hbd_, hp12_, hgp_, hmk_, hd8_, hcn_, l_, e_, gz_28_, gz_29_, gz_30_, gz_31_, gz_33_, gz_34_, gz_35_, gz_36_, gz_37_, gz_38_, gz_39_, gz_61_, gq_, e_firstToken_, e_starred_, e_tokenAt_, e_tokenSize_, e_groupKind_, e_groupPhrase_, e_groupSize_, e_groupMask_, e_groupFar_, e_out_, e_top_, e_masks_, rq_⟩ := Q9
    dsimp only at PT_ HY_ RQ_ GR_ OU_ OG_ ST_ hp12_ hgp_ hmk_ hd8_ hcn_ gz_28_ gz_29_ gz_30_ gz_31_ gz_33_ gz_34_ gz_35_ gz_36_ gz_37_ gz_38_ gz_39_ gz_61_
    simp only [if_true] at hcn_
    have e_182 := rq_ asked_ _ (by simp only [List.mem_cons, List.not_mem_nil, or_false, not_or]; exact ⟨(Ne.symm (nd_ne ND (i := 0) (j := 1) rfl rfl (by decide))), (nd_ne ND (i := 1) (j := 2) rfl rfl (by decide)), (nd_ne ND (i := 1) (j := 3) rfl rfl (by decide)), (nd_ne ND (i := 1) (j := 4) rfl rfl (by decide)), (nd_ne ND (i := 1) (j := 5) rfl rfl (by decide)), (nd_ne ND (i := 1) (j := 6) rfl rfl (by decide)), (nd_ne ND (i := 1) (j := 7) rfl rfl (by decide)), (nd_ne ND (i := 1) (j := 8) rfl rfl (by decide)), (nd_ne ND (i := 1) (j := 9) rfl rfl (by decide)), (nd_ne ND (i := 1) (j := 10) rfl rfl (by decide)), (nd_ne ND (i := 1) (j := 11) rfl rfl (by decide)), (nd_ne ND (i := 1) (j := 12) rfl rfl (by decide)), (nd_ne ND (i := 1) (j := 13) rfl rfl (by decide))⟩) e_145
    have r_183 := r_158.trans (rq_.mono (by simp))
    have g_184 : fs_[(4 : Nat)]? = some (.ref asked_) := (gq_ 4 (by decide)).trans g_159
    have g_185 : fs_[(11 : Nat)]? = some (.int (nI asz)) := (gq_ 11 (by decide)).trans g_160
    have g_186 : fs_[(41 : Nat)]? = some (.ref firstToken_) := (gq_ 41 (by decide)).trans g_168
    have g_187 : fs_[(42 : Nat)]? = some (.ref starred_) := (gq_ 42 (by decide)).trans g_169
    have g_188 : fs_[(43 : Nat)]? = some (.ref tokenAt_) := (gq_ 43 (by decide)).trans g_170
    have g_189 : fs_[(44 : Nat)]? = some (.ref tokenSize_) := (gq_ 44 (by decide)).trans g_171
    have g_190 : fs_[(45 : Nat)]? = some (.ref groupKind_) := (gq_ 45 (by decide)).trans g_172
    have g_191 : fs_[(46 : Nat)]? = some (.ref groupPhrase_) := (gq_ 46 (by decide)).trans g_173
    have g_192 : fs_[(47 : Nat)]? = some (.ref groupSize_) := (gq_ 47 (by decide)).trans g_174
    have g_193 : fs_[(48 : Nat)]? = some (.ref groupMask_) := (gq_ 48 (by decide)).trans g_175
    have g_194 : fs_[(49 : Nat)]? = some (.ref groupFar_) := (gq_ 49 (by decide)).trans g_176
    have g_195 : fs_[(50 : Nat)]? = some (.ref out_) := (gq_ 50 (by decide)).trans g_177
    have g_196 : fs_[(51 : Nat)]? = some (.ref top_) := (gq_ 51 (by decide)).trans g_178
    have g_197 : fs_[(52 : Nat)]? = some (.ref masks_) := (gq_ 52 (by decide)).trans g_179
    have ga_198 : ∀ i : Nat, i ∉ [28, 29, 30, 31, 33, 34, 35, 36, 37, 38, 39, 61] → fs_[i]? = fs[i]? := fun i hi => (gq_ i (fun z => hi (by simp only [List.mem_cons, List.not_mem_nil, or_false] at z ⊢; omega))).trans (ga_181 i hi)
    have hcl := cJ_len st9
    have hb_199 : ¬ 0 ≤ bd_ := Int32.not_le.mpr hbd_
    refine s_Model_reads_91 ?_
    refine x_callV (As := [.int 1]) (b := m) (rest := []) (F1 := 1) (L1 := 20) (mc := 0) (ms := 0) d_Model_reads_93 cV_Model_281 (f_reducesH (lv := 1) (st := st9) (o := o9) (cm := cm_) l_ e_ gz_37_ gz_38_ g_195 e_out_ g_196 e_top_ (nd_ne ND (i := 11) (j := 12) rfl rfl (by decide)) (by omega) rfl (by decide) (by decide) ST_ OU_ (by omega) (by omega)) e_ ⟨by decide, rfl⟩ ⟨by omega, by show 8 + (2 + 11) + 20 ≤ _; omega⟩ ⟨by omega, by omega⟩ (Nat.le_of_ble_eq_true rfl) (fun v_212 h_211 p_213 => ?_)
    obtain ⟨rfl, co_200, fs_201, l_202, e_203, g_204, g_205, ga_206, e_207, ST_208, OU_209, r_210⟩ := p_213
    have e_214 := r_210 asked_ _ (by simp only [List.mem_cons, List.not_mem_nil, or_false, not_or]; exact ⟨(Ne.symm (nd_ne ND (i := 0) (j := 1) rfl rfl (by decide))), (nd_ne ND (i := 1) (j := 11) rfl rfl (by decide))⟩) e_182
    have e_215 := r_210 firstToken_ _ (by simp only [List.mem_cons, List.not_mem_nil, or_false, not_or]; exact ⟨(Ne.symm (nd_ne ND (i := 0) (j := 2) rfl rfl (by decide))), (nd_ne ND (i := 2) (j := 11) rfl rfl (by decide))⟩) e_firstToken_
    have e_216 := r_210 starred_ _ (by simp only [List.mem_cons, List.not_mem_nil, or_false, not_or]; exact ⟨(Ne.symm (nd_ne ND (i := 0) (j := 3) rfl rfl (by decide))), (nd_ne ND (i := 3) (j := 11) rfl rfl (by decide))⟩) e_starred_
    have e_217 := r_210 tokenAt_ _ (by simp only [List.mem_cons, List.not_mem_nil, or_false, not_or]; exact ⟨(Ne.symm (nd_ne ND (i := 0) (j := 4) rfl rfl (by decide))), (nd_ne ND (i := 4) (j := 11) rfl rfl (by decide))⟩) e_tokenAt_
    have e_218 := r_210 tokenSize_ _ (by simp only [List.mem_cons, List.not_mem_nil, or_false, not_or]; exact ⟨(Ne.symm (nd_ne ND (i := 0) (j := 5) rfl rfl (by decide))), (nd_ne ND (i := 5) (j := 11) rfl rfl (by decide))⟩) e_tokenSize_
    have e_219 := r_210 groupKind_ _ (by simp only [List.mem_cons, List.not_mem_nil, or_false, not_or]; exact ⟨(Ne.symm (nd_ne ND (i := 0) (j := 6) rfl rfl (by decide))), (nd_ne ND (i := 6) (j := 11) rfl rfl (by decide))⟩) e_groupKind_
    have e_220 := r_210 groupPhrase_ _ (by simp only [List.mem_cons, List.not_mem_nil, or_false, not_or]; exact ⟨(Ne.symm (nd_ne ND (i := 0) (j := 7) rfl rfl (by decide))), (nd_ne ND (i := 7) (j := 11) rfl rfl (by decide))⟩) e_groupPhrase_
    have e_221 := r_210 groupSize_ _ (by simp only [List.mem_cons, List.not_mem_nil, or_false, not_or]; exact ⟨(Ne.symm (nd_ne ND (i := 0) (j := 8) rfl rfl (by decide))), (nd_ne ND (i := 8) (j := 11) rfl rfl (by decide))⟩) e_groupSize_
    have e_222 := r_210 groupMask_ _ (by simp only [List.mem_cons, List.not_mem_nil, or_false, not_or]; exact ⟨(Ne.symm (nd_ne ND (i := 0) (j := 9) rfl rfl (by decide))), (nd_ne ND (i := 9) (j := 11) rfl rfl (by decide))⟩) e_groupMask_
    have e_223 := r_210 groupFar_ _ (by simp only [List.mem_cons, List.not_mem_nil, or_false, not_or]; exact ⟨(Ne.symm (nd_ne ND (i := 0) (j := 10) rfl rfl (by decide))), (nd_ne ND (i := 10) (j := 11) rfl rfl (by decide))⟩) e_groupFar_
    have e_224 := r_210 top_ _ (by simp only [List.mem_cons, List.not_mem_nil, or_false, not_or]; exact ⟨(Ne.symm (nd_ne ND (i := 0) (j := 12) rfl rfl (by decide))), (Ne.symm (nd_ne ND (i := 11) (j := 12) rfl rfl (by decide)))⟩) e_top_
    have e_225 := r_210 masks_ _ (by simp only [List.mem_cons, List.not_mem_nil, or_false, not_or]; exact ⟨(Ne.symm (nd_ne ND (i := 0) (j := 13) rfl rfl (by decide))), (Ne.symm (nd_ne ND (i := 11) (j := 13) rfl rfl (by decide)))⟩) e_masks_
    have r_226 := r_183.trans (r_210.mono (by simp))
    have g_227 : fs_201[(4 : Nat)]? = some (.ref asked_) := (ga_206 4 (by decide)).trans g_184
    have g_228 : fs_201[(11 : Nat)]? = some (.int (nI asz)) := (ga_206 11 (by decide)).trans g_185
    have g_229 : fs_201[(41 : Nat)]? = some (.ref firstToken_) := (ga_206 41 (by decide)).trans g_186
    have g_230 : fs_201[(42 : Nat)]? = some (.ref starred_) := (ga_206 42 (by decide)).trans g_187
    have g_231 : fs_201[(43 : Nat)]? = some (.ref tokenAt_) := (ga_206 43 (by decide)).trans g_188
    have g_232 : fs_201[(44 : Nat)]? = some (.ref tokenSize_) := (ga_206 44 (by decide)).trans g_189
    have g_233 : fs_201[(45 : Nat)]? = some (.ref groupKind_) := (ga_206 45 (by decide)).trans g_190
    have g_234 : fs_201[(46 : Nat)]? = some (.ref groupPhrase_) := (ga_206 46 (by decide)).trans g_191
    have g_235 : fs_201[(47 : Nat)]? = some (.ref groupSize_) := (ga_206 47 (by decide)).trans g_192
    have g_236 : fs_201[(48 : Nat)]? = some (.ref groupMask_) := (ga_206 48 (by decide)).trans g_193
    have g_237 : fs_201[(49 : Nat)]? = some (.ref groupFar_) := (ga_206 49 (by decide)).trans g_194
    have g_238 : fs_201[(50 : Nat)]? = some (.ref out_) := (ga_206 50 (by decide)).trans g_195
    have g_239 : fs_201[(51 : Nat)]? = some (.ref top_) := (ga_206 51 (by decide)).trans g_196
    have g_240 : fs_201[(52 : Nat)]? = some (.ref masks_) := (ga_206 52 (by decide)).trans g_197
    have g_241 : fs_201[(28 : Nat)]? = some (.int (nI (bl fa asz p9))) := (ga_206 28 (by decide)).trans gz_28_
    have g_242 : fs_201[(29 : Nat)]? = some (.int (nI (rkd (kdP fa asz p9)))) := (ga_206 29 (by decide)).trans gz_29_
    have g_243 : fs_201[(30 : Nat)]? = some (.int (nI (bl fa asz p9))) := (ga_206 30 (by decide)).trans gz_30_
    have g_244 : fs_201[(31 : Nat)]? = some (.int (nI y_)) := (ga_206 31 (by decide)).trans gz_31_
    have g_245 : fs_201[(33 : Nat)]? = some (.int bd_) := (ga_206 33 (by decide)).trans gz_33_
    have g_246 : fs_201[(34 : Nat)]? = some (.int (nI ph9.length)) := (ga_206 34 (by decide)).trans gz_34_
    have g_247 : fs_201[(35 : Nat)]? = some (.int (nI t_)) := (ga_206 35 (by decide)).trans gz_35_
    have g_248 : fs_201[(36 : Nat)]? = some (.int (nI gr9.length)) := (ga_206 36 (by decide)).trans gz_36_
    have g_249 : fs_201[(39 : Nat)]? = some (.int (nI mk9)) := (ga_206 39 (by decide)).trans gz_39_
    have g_250 : fs_201[(61 : Nat)]? = some (.int (b01 true)) := (ga_206 61 (by decide)).trans gz_61_
    have ga_251 : ∀ i : Nat, i ∉ [28, 29, 30, 31, 33, 34, 35, 36, 37, 38, 39, 61] → fs_201[i]? = fs[i]? := fun i hi => (ga_206 i (fun z => hi (by simp only [List.mem_cons, List.not_mem_nil, or_false] at z ⊢; omega))).trans (ga_198 i hi)
    have rk_252 := rd_kp (l := 1) st9 o9
    have rk_253 := cJ_len (redS 1 st9 o9).1
    refine s_Model_reads_96 l_202 e_203 g_205 (fun z_254 => ?_) (fun z_255 => ?_)
    · skip
      refine s_Model_reads_108 ?_
      refine s_Model_reads_109 l_202 e_203 g_228 ?_
      refine x_callV (As := [.int 0, .int (nI asz)]) (b := m) (rest := []) (F1 := 1) (L1 := 20) (mc := 0) (ms := 0) d_Model_reads_113 cV_Model_250 (f_wrongsH (k := asz) l_202 e_203 g_245 (by omega) (by omega) (by omega)) e_203 ⟨by decide, rfl⟩ ⟨by omega, by show 8 + (3 + 11) + 20 ≤ _; omega⟩ ⟨by omega, by omega⟩ (Nat.le_of_ble_eq_true rfl) (fun v_267 h_266 p_268 => ?_)
      obtain ⟨rfl, bd_256, fs_257, hw_258, hw_259, hw_260, l_261, e_262, g_263, ga_264, r_265⟩ := p_268
      have e_269 := r_265 asked_ _ (by simp only [List.mem_cons, List.not_mem_nil, or_false, not_or]; exact (Ne.symm (nd_ne ND (i := 0) (j := 1) rfl rfl (by decide)))) e_214
      have e_270 := r_265 firstToken_ _ (by simp only [List.mem_cons, List.not_mem_nil, or_false, not_or]; exact (Ne.symm (nd_ne ND (i := 0) (j := 2) rfl rfl (by decide)))) e_215
      have e_271 := r_265 starred_ _ (by simp only [List.mem_cons, List.not_mem_nil, or_false, not_or]; exact (Ne.symm (nd_ne ND (i := 0) (j := 3) rfl rfl (by decide)))) e_216
      have e_272 := r_265 tokenAt_ _ (by simp only [List.mem_cons, List.not_mem_nil, or_false, not_or]; exact (Ne.symm (nd_ne ND (i := 0) (j := 4) rfl rfl (by decide)))) e_217
      have e_273 := r_265 tokenSize_ _ (by simp only [List.mem_cons, List.not_mem_nil, or_false, not_or]; exact (Ne.symm (nd_ne ND (i := 0) (j := 5) rfl rfl (by decide)))) e_218
      have e_274 := r_265 groupKind_ _ (by simp only [List.mem_cons, List.not_mem_nil, or_false, not_or]; exact (Ne.symm (nd_ne ND (i := 0) (j := 6) rfl rfl (by decide)))) e_219
      have e_275 := r_265 groupPhrase_ _ (by simp only [List.mem_cons, List.not_mem_nil, or_false, not_or]; exact (Ne.symm (nd_ne ND (i := 0) (j := 7) rfl rfl (by decide)))) e_220
      have e_276 := r_265 groupSize_ _ (by simp only [List.mem_cons, List.not_mem_nil, or_false, not_or]; exact (Ne.symm (nd_ne ND (i := 0) (j := 8) rfl rfl (by decide)))) e_221
      have e_277 := r_265 groupMask_ _ (by simp only [List.mem_cons, List.not_mem_nil, or_false, not_or]; exact (Ne.symm (nd_ne ND (i := 0) (j := 9) rfl rfl (by decide)))) e_222
      have e_278 := r_265 groupFar_ _ (by simp only [List.mem_cons, List.not_mem_nil, or_false, not_or]; exact (Ne.symm (nd_ne ND (i := 0) (j := 10) rfl rfl (by decide)))) e_223
      have e_279 := r_265 out_ _ (by simp only [List.mem_cons, List.not_mem_nil, or_false, not_or]; exact (Ne.symm (nd_ne ND (i := 0) (j := 11) rfl rfl (by decide)))) e_207
      have e_280 := r_265 top_ _ (by simp only [List.mem_cons, List.not_mem_nil, or_false, not_or]; exact (Ne.symm (nd_ne ND (i := 0) (j := 12) rfl rfl (by decide)))) e_224
      have e_281 := r_265 masks_ _ (by simp only [List.mem_cons, List.not_mem_nil, or_false, not_or]; exact (Ne.symm (nd_ne ND (i := 0) (j := 13) rfl rfl (by decide)))) e_225
      have r_282 := r_226.trans (r_265.mono (by simp))
      have g_283 : fs_257[(4 : Nat)]? = some (.ref asked_) := (ga_264 4 (by decide)).trans g_227
      have g_284 : fs_257[(11 : Nat)]? = some (.int (nI asz)) := (ga_264 11 (by decide)).trans g_228
      have g_285 : fs_257[(41 : Nat)]? = some (.ref firstToken_) := (ga_264 41 (by decide)).trans g_229
      have g_286 : fs_257[(42 : Nat)]? = some (.ref starred_) := (ga_264 42 (by decide)).trans g_230
      have g_287 : fs_257[(43 : Nat)]? = some (.ref tokenAt_) := (ga_264 43 (by decide)).trans g_231
      have g_288 : fs_257[(44 : Nat)]? = some (.ref tokenSize_) := (ga_264 44 (by decide)).trans g_232
      have g_289 : fs_257[(45 : Nat)]? = some (.ref groupKind_) := (ga_264 45 (by decide)).trans g_233
      have g_290 : fs_257[(46 : Nat)]? = some (.ref groupPhrase_) := (ga_264 46 (by decide)).trans g_234
      have g_291 : fs_257[(47 : Nat)]? = some (.ref groupSize_) := (ga_264 47 (by decide)).trans g_235
      have g_292 : fs_257[(48 : Nat)]? = some (.ref groupMask_) := (ga_264 48 (by decide)).trans g_236
      have g_293 : fs_257[(49 : Nat)]? = some (.ref groupFar_) := (ga_264 49 (by decide)).trans g_237
      have g_294 : fs_257[(50 : Nat)]? = some (.ref out_) := (ga_264 50 (by decide)).trans g_238
      have g_295 : fs_257[(51 : Nat)]? = some (.ref top_) := (ga_264 51 (by decide)).trans g_239
      have g_296 : fs_257[(52 : Nat)]? = some (.ref masks_) := (ga_264 52 (by decide)).trans g_240
      have g_297 : fs_257[(28 : Nat)]? = some (.int (nI (bl fa asz p9))) := (ga_264 28 (by decide)).trans g_241
      have g_298 : fs_257[(29 : Nat)]? = some (.int (nI (rkd (kdP fa asz p9)))) := (ga_264 29 (by decide)).trans g_242
      have g_299 : fs_257[(30 : Nat)]? = some (.int (nI (bl fa asz p9))) := (ga_264 30 (by decide)).trans g_243
      have g_300 : fs_257[(31 : Nat)]? = some (.int (nI y_)) := (ga_264 31 (by decide)).trans g_244
      have g_301 : fs_257[(34 : Nat)]? = some (.int (nI ph9.length)) := (ga_264 34 (by decide)).trans g_246
      have g_302 : fs_257[(35 : Nat)]? = some (.int (nI t_)) := (ga_264 35 (by decide)).trans g_247
      have g_303 : fs_257[(36 : Nat)]? = some (.int (nI gr9.length)) := (ga_264 36 (by decide)).trans g_248
      have g_304 : fs_257[(39 : Nat)]? = some (.int (nI mk9)) := (ga_264 39 (by decide)).trans g_249
      have g_305 : fs_257[(61 : Nat)]? = some (.int (b01 true)) := (ga_264 61 (by decide)).trans g_250
      have g_306 : fs_257[(37 : Nat)]? = some (.int (nI (redS 1 st9 o9).2.length)) := (ga_264 37 (by decide)).trans g_204
      have g_307 : fs_257[(38 : Nat)]? = some (.int (nI (redS 1 st9 o9).1.length)) := (ga_264 38 (by decide)).trans g_205
      have ga_308 : ∀ i : Nat, i ∉ [28, 29, 30, 31, 33, 34, 35, 36, 37, 38, 39, 61] → fs_257[i]? = fs[i]? := fun i hi => (ga_264 i (fun z => hi (by simp only [List.mem_cons, List.not_mem_nil, or_false] at z ⊢; omega))).trans (ga_251 i hi)
      have hb_309 : bd_256 < 0 := by rw [hw_258 rfl]; exact hbd_
      have hb_310 : ¬ 0 ≤ bd_256 := Int32.not_le.mpr hb_309
      refine x_le (xw_le_n xw_le_e) ?_
      refine s_Model_reads_116 ?_
      have hn9 : (redS 1 st9 o9).1.length = 0 := by rcases Nat.eq_zero_or_pos (redS 1 st9 o9).1.length with q | q; (exact q); (exact absurd z_254 (nI_ge (b := (redS 1 st9 o9).1.length) q (by omega)))
      have hc0 : cJ (redS 1 st9 o9).1 = 0 := by rw [List.eq_nil_of_length_eq_zero hn9]; rfl
      exact ⟨rfl, _, _, _, _, _, _, _, _, _, _, _, _, _, _, l_261, e_262, g_263, (fun i9 hi9 => by simp only [List.mem_cons, List.not_mem_nil, or_false] at hi9; rcases hi9 with rfl | rfl | rfl | rfl | rfl | rfl | rfl | rfl | rfl | rfl | rfl <;> first | exact ⟨_, g_297⟩ | exact ⟨_, g_298⟩ | exact ⟨_, g_299⟩ | exact ⟨_, g_300⟩ | exact ⟨_, g_301⟩ | exact ⟨_, g_302⟩ | exact ⟨_, g_303⟩ | exact ⟨_, g_306⟩ | exact ⟨_, g_307⟩ | exact ⟨_, g_304⟩ | exact ⟨_, g_305⟩), ga_308, e_270, e_271, e_272, e_273, e_274, e_275, e_276, e_277, e_278, e_279, e_280, e_281, r_282, Or.inr ⟨p9, t_, ph9, gr9, (redS 1 st9 o9).2, hr9.trans (fnZ_y hn9), hb_309, RQ_, GR_, OU_209, OG_.red ST_.one, hp12_, hgp_, by have := rk_252; omega, g_301, g_302, g_303, g_306⟩⟩
    · skip
      refine s_Model_reads_104 ?_
      refine s_Model_reads_109 l_202 e_203 g_228 ?_
      refine x_callV (As := [.int 1, .int (nI asz)]) (b := m) (rest := []) (F1 := 1) (L1 := 20) (mc := 0) (ms := 0) d_Model_reads_113 cV_Model_250 (f_wrongsH (k := asz) l_202 e_203 g_245 (by omega) (by omega) (by omega)) e_203 ⟨by decide, rfl⟩ ⟨by omega, by show 8 + (3 + 11) + 20 ≤ _; omega⟩ ⟨by omega, by omega⟩ (Nat.le_of_ble_eq_true rfl) (fun v_322 h_321 p_323 => ?_)
      obtain ⟨rfl, bd_311, fs_312, hw_313, hw_314, hw_315, l_316, e_317, g_318, ga_319, r_320⟩ := p_323
      have e_324 := r_320 asked_ _ (by simp only [List.mem_cons, List.not_mem_nil, or_false, not_or]; exact (Ne.symm (nd_ne ND (i := 0) (j := 1) rfl rfl (by decide)))) e_214
      have e_325 := r_320 firstToken_ _ (by simp only [List.mem_cons, List.not_mem_nil, or_false, not_or]; exact (Ne.symm (nd_ne ND (i := 0) (j := 2) rfl rfl (by decide)))) e_215
      have e_326 := r_320 starred_ _ (by simp only [List.mem_cons, List.not_mem_nil, or_false, not_or]; exact (Ne.symm (nd_ne ND (i := 0) (j := 3) rfl rfl (by decide)))) e_216
      have e_327 := r_320 tokenAt_ _ (by simp only [List.mem_cons, List.not_mem_nil, or_false, not_or]; exact (Ne.symm (nd_ne ND (i := 0) (j := 4) rfl rfl (by decide)))) e_217
      have e_328 := r_320 tokenSize_ _ (by simp only [List.mem_cons, List.not_mem_nil, or_false, not_or]; exact (Ne.symm (nd_ne ND (i := 0) (j := 5) rfl rfl (by decide)))) e_218
      have e_329 := r_320 groupKind_ _ (by simp only [List.mem_cons, List.not_mem_nil, or_false, not_or]; exact (Ne.symm (nd_ne ND (i := 0) (j := 6) rfl rfl (by decide)))) e_219
      have e_330 := r_320 groupPhrase_ _ (by simp only [List.mem_cons, List.not_mem_nil, or_false, not_or]; exact (Ne.symm (nd_ne ND (i := 0) (j := 7) rfl rfl (by decide)))) e_220
      have e_331 := r_320 groupSize_ _ (by simp only [List.mem_cons, List.not_mem_nil, or_false, not_or]; exact (Ne.symm (nd_ne ND (i := 0) (j := 8) rfl rfl (by decide)))) e_221
      have e_332 := r_320 groupMask_ _ (by simp only [List.mem_cons, List.not_mem_nil, or_false, not_or]; exact (Ne.symm (nd_ne ND (i := 0) (j := 9) rfl rfl (by decide)))) e_222
      have e_333 := r_320 groupFar_ _ (by simp only [List.mem_cons, List.not_mem_nil, or_false, not_or]; exact (Ne.symm (nd_ne ND (i := 0) (j := 10) rfl rfl (by decide)))) e_223
      have e_334 := r_320 out_ _ (by simp only [List.mem_cons, List.not_mem_nil, or_false, not_or]; exact (Ne.symm (nd_ne ND (i := 0) (j := 11) rfl rfl (by decide)))) e_207
      have e_335 := r_320 top_ _ (by simp only [List.mem_cons, List.not_mem_nil, or_false, not_or]; exact (Ne.symm (nd_ne ND (i := 0) (j := 12) rfl rfl (by decide)))) e_224
      have e_336 := r_320 masks_ _ (by simp only [List.mem_cons, List.not_mem_nil, or_false, not_or]; exact (Ne.symm (nd_ne ND (i := 0) (j := 13) rfl rfl (by decide)))) e_225
      have r_337 := r_226.trans (r_320.mono (by simp))
      have g_338 : fs_312[(4 : Nat)]? = some (.ref asked_) := (ga_319 4 (by decide)).trans g_227
      have g_339 : fs_312[(11 : Nat)]? = some (.int (nI asz)) := (ga_319 11 (by decide)).trans g_228
      have g_340 : fs_312[(41 : Nat)]? = some (.ref firstToken_) := (ga_319 41 (by decide)).trans g_229
      have g_341 : fs_312[(42 : Nat)]? = some (.ref starred_) := (ga_319 42 (by decide)).trans g_230
      have g_342 : fs_312[(43 : Nat)]? = some (.ref tokenAt_) := (ga_319 43 (by decide)).trans g_231
      have g_343 : fs_312[(44 : Nat)]? = some (.ref tokenSize_) := (ga_319 44 (by decide)).trans g_232
      have g_344 : fs_312[(45 : Nat)]? = some (.ref groupKind_) := (ga_319 45 (by decide)).trans g_233
      have g_345 : fs_312[(46 : Nat)]? = some (.ref groupPhrase_) := (ga_319 46 (by decide)).trans g_234
      have g_346 : fs_312[(47 : Nat)]? = some (.ref groupSize_) := (ga_319 47 (by decide)).trans g_235
      have g_347 : fs_312[(48 : Nat)]? = some (.ref groupMask_) := (ga_319 48 (by decide)).trans g_236
      have g_348 : fs_312[(49 : Nat)]? = some (.ref groupFar_) := (ga_319 49 (by decide)).trans g_237
      have g_349 : fs_312[(50 : Nat)]? = some (.ref out_) := (ga_319 50 (by decide)).trans g_238
      have g_350 : fs_312[(51 : Nat)]? = some (.ref top_) := (ga_319 51 (by decide)).trans g_239
      have g_351 : fs_312[(52 : Nat)]? = some (.ref masks_) := (ga_319 52 (by decide)).trans g_240
      have g_352 : fs_312[(28 : Nat)]? = some (.int (nI (bl fa asz p9))) := (ga_319 28 (by decide)).trans g_241
      have g_353 : fs_312[(29 : Nat)]? = some (.int (nI (rkd (kdP fa asz p9)))) := (ga_319 29 (by decide)).trans g_242
      have g_354 : fs_312[(30 : Nat)]? = some (.int (nI (bl fa asz p9))) := (ga_319 30 (by decide)).trans g_243
      have g_355 : fs_312[(31 : Nat)]? = some (.int (nI y_)) := (ga_319 31 (by decide)).trans g_244
      have g_356 : fs_312[(34 : Nat)]? = some (.int (nI ph9.length)) := (ga_319 34 (by decide)).trans g_246
      have g_357 : fs_312[(35 : Nat)]? = some (.int (nI t_)) := (ga_319 35 (by decide)).trans g_247
      have g_358 : fs_312[(36 : Nat)]? = some (.int (nI gr9.length)) := (ga_319 36 (by decide)).trans g_248
      have g_359 : fs_312[(39 : Nat)]? = some (.int (nI mk9)) := (ga_319 39 (by decide)).trans g_249
      have g_360 : fs_312[(61 : Nat)]? = some (.int (b01 true)) := (ga_319 61 (by decide)).trans g_250
      have g_361 : fs_312[(37 : Nat)]? = some (.int (nI (redS 1 st9 o9).2.length)) := (ga_319 37 (by decide)).trans g_204
      have g_362 : fs_312[(38 : Nat)]? = some (.int (nI (redS 1 st9 o9).1.length)) := (ga_319 38 (by decide)).trans g_205
      have ga_363 : ∀ i : Nat, i ∉ [28, 29, 30, 31, 33, 34, 35, 36, 37, 38, 39, 61] → fs_312[i]? = fs[i]? := fun i hi => (ga_319 i (fun z => hi (by simp only [List.mem_cons, List.not_mem_nil, or_false] at z ⊢; omega))).trans (ga_251 i hi)
      have hb_364 : ¬ bd_311 < 0 := hw_314 (by decide)
      have hb_365 : 0 ≤ bd_311 := Int32.not_lt.mp hb_364
      refine x_le (xw_le_n xw_le_e) ?_
      refine s_Model_reads_116 ?_
      have hn9 : ¬ (redS 1 st9 o9).1.length = 0 := fun q => z_255 (by rw [q]; decide)
      exact ⟨rfl, _, _, _, _, _, _, _, _, _, _, _, _, _, _, l_316, e_317, g_318, (fun i9 hi9 => by simp only [List.mem_cons, List.not_mem_nil, or_false] at hi9; rcases hi9 with rfl | rfl | rfl | rfl | rfl | rfl | rfl | rfl | rfl | rfl | rfl <;> first | exact ⟨_, g_352⟩ | exact ⟨_, g_353⟩ | exact ⟨_, g_354⟩ | exact ⟨_, g_355⟩ | exact ⟨_, g_356⟩ | exact ⟨_, g_357⟩ | exact ⟨_, g_358⟩ | exact ⟨_, g_361⟩ | exact ⟨_, g_362⟩ | exact ⟨_, g_359⟩ | exact ⟨_, g_360⟩), ga_363, e_325, e_326, e_327, e_328, e_329, e_330, e_331, e_332, e_333, e_334, e_335, e_336, r_337, Or.inl ⟨hr9.trans (fnZ_n hn9), hb_364⟩⟩
  · skip
    obtain ⟨o9, n9, bd_, c1_, c2_, ca_, cs_, c5_, c6_, c7_, c8_, c9_, co_, ct_, cm_, fs_, nb_, hon_, l_, e_, g_33_, g_37_, g_38_, IN_, gq_, e_firstToken_, e_starred_, e_tokenAt_, e_tokenSize_, e_groupKind_, e_groupPhrase_, e_groupSize_, e_groupMask_, e_groupFar_, e_out_, e_top_, e_masks_, rq_⟩ := QB9
    have e_366 := rq_ asked_ _ (by simp only [List.mem_cons, List.not_mem_nil, or_false, not_or]; exact ⟨(Ne.symm (nd_ne ND (i := 0) (j := 1) rfl rfl (by decide))), (nd_ne ND (i := 1) (j := 2) rfl rfl (by decide)), (nd_ne ND (i := 1) (j := 3) rfl rfl (by decide)), (nd_ne ND (i := 1) (j := 4) rfl rfl (by decide)), (nd_ne ND (i := 1) (j := 5) rfl rfl (by decide)), (nd_ne ND (i := 1) (j := 6) rfl rfl (by decide)), (nd_ne ND (i := 1) (j := 7) rfl rfl (by decide)), (nd_ne ND (i := 1) (j := 8) rfl rfl (by decide)), (nd_ne ND (i := 1) (j := 9) rfl rfl (by decide)), (nd_ne ND (i := 1) (j := 10) rfl rfl (by decide)), (nd_ne ND (i := 1) (j := 11) rfl rfl (by decide)), (nd_ne ND (i := 1) (j := 12) rfl rfl (by decide)), (nd_ne ND (i := 1) (j := 13) rfl rfl (by decide))⟩) e_145
    have r_367 := r_158.trans (rq_.mono (by simp))
    obtain ⟨v_368, g_369⟩ := IN_ 28 (by decide)
    obtain ⟨v_370, g_371⟩ := IN_ 29 (by decide)
    obtain ⟨v_372, g_373⟩ := IN_ 30 (by decide)
    obtain ⟨v_374, g_375⟩ := IN_ 31 (by decide)
    obtain ⟨v_376, g_377⟩ := IN_ 34 (by decide)
    obtain ⟨v_378, g_379⟩ := IN_ 35 (by decide)
    obtain ⟨v_380, g_381⟩ := IN_ 36 (by decide)
    obtain ⟨v_382, g_383⟩ := IN_ 39 (by decide)
    obtain ⟨v_384, g_385⟩ := IN_ 61 (by decide)
    have g_386 : fs_[(4 : Nat)]? = some (.ref asked_) := (gq_ 4 (by decide)).trans g_159
    have g_387 : fs_[(11 : Nat)]? = some (.int (nI asz)) := (gq_ 11 (by decide)).trans g_160
    have g_388 : fs_[(41 : Nat)]? = some (.ref firstToken_) := (gq_ 41 (by decide)).trans g_168
    have g_389 : fs_[(42 : Nat)]? = some (.ref starred_) := (gq_ 42 (by decide)).trans g_169
    have g_390 : fs_[(43 : Nat)]? = some (.ref tokenAt_) := (gq_ 43 (by decide)).trans g_170
    have g_391 : fs_[(44 : Nat)]? = some (.ref tokenSize_) := (gq_ 44 (by decide)).trans g_171
    have g_392 : fs_[(45 : Nat)]? = some (.ref groupKind_) := (gq_ 45 (by decide)).trans g_172
    have g_393 : fs_[(46 : Nat)]? = some (.ref groupPhrase_) := (gq_ 46 (by decide)).trans g_173
    have g_394 : fs_[(47 : Nat)]? = some (.ref groupSize_) := (gq_ 47 (by decide)).trans g_174
    have g_395 : fs_[(48 : Nat)]? = some (.ref groupMask_) := (gq_ 48 (by decide)).trans g_175
    have g_396 : fs_[(49 : Nat)]? = some (.ref groupFar_) := (gq_ 49 (by decide)).trans g_176
    have g_397 : fs_[(50 : Nat)]? = some (.ref out_) := (gq_ 50 (by decide)).trans g_177
    have g_398 : fs_[(51 : Nat)]? = some (.ref top_) := (gq_ 51 (by decide)).trans g_178
    have g_399 : fs_[(52 : Nat)]? = some (.ref masks_) := (gq_ 52 (by decide)).trans g_179
    have ga_400 : ∀ i : Nat, i ∉ [28, 29, 30, 31, 33, 34, 35, 36, 37, 38, 39, 61] → fs_[i]? = fs[i]? := fun i hi => (gq_ i (fun z => hi (by simp only [List.mem_cons, List.not_mem_nil, or_false] at z ⊢; omega))).trans (ga_181 i hi)
    have hb_401 : 0 ≤ bd_ := Int32.not_lt.mp nb_
    refine s_Model_reads_91 ?_
    refine x_callV (As := [.int 1]) (b := m) (rest := []) (F1 := 1) (L1 := 20) (mc := 0) (ms := 0) d_Model_reads_93 cV_Model_281 (f_reduces l_ e_ g_37_ g_38_ g_397 e_out_ g_398 e_top_ (nd_ne ND (i := 11) (j := 12) rfl rfl (by decide)) (by omega) (by decide) (by omega) (by omega)) e_ ⟨by decide, rfl⟩ ⟨by omega, by show 8 + (2 + 11) + 20 ≤ _; omega⟩ ⟨by omega, by omega⟩ (Nat.le_of_ble_eq_true rfl) (fun v_403 h_402 p_404 => ?_)
    obtain ⟨rfl, n1, o1, co1, fs1, hS1, hO1, hK1, hD1, hV1, hE1, hX1, l1, e1, go1, gt1, ga1, eo1, r1⟩ := p_404
    have e_405 := r1 asked_ _ (by simp only [List.mem_cons, List.not_mem_nil, or_false, not_or]; exact ⟨(Ne.symm (nd_ne ND (i := 0) (j := 1) rfl rfl (by decide))), (nd_ne ND (i := 1) (j := 11) rfl rfl (by decide))⟩) e_366
    have e_406 := r1 firstToken_ _ (by simp only [List.mem_cons, List.not_mem_nil, or_false, not_or]; exact ⟨(Ne.symm (nd_ne ND (i := 0) (j := 2) rfl rfl (by decide))), (nd_ne ND (i := 2) (j := 11) rfl rfl (by decide))⟩) e_firstToken_
    have e_407 := r1 starred_ _ (by simp only [List.mem_cons, List.not_mem_nil, or_false, not_or]; exact ⟨(Ne.symm (nd_ne ND (i := 0) (j := 3) rfl rfl (by decide))), (nd_ne ND (i := 3) (j := 11) rfl rfl (by decide))⟩) e_starred_
    have e_408 := r1 tokenAt_ _ (by simp only [List.mem_cons, List.not_mem_nil, or_false, not_or]; exact ⟨(Ne.symm (nd_ne ND (i := 0) (j := 4) rfl rfl (by decide))), (nd_ne ND (i := 4) (j := 11) rfl rfl (by decide))⟩) e_tokenAt_
    have e_409 := r1 tokenSize_ _ (by simp only [List.mem_cons, List.not_mem_nil, or_false, not_or]; exact ⟨(Ne.symm (nd_ne ND (i := 0) (j := 5) rfl rfl (by decide))), (nd_ne ND (i := 5) (j := 11) rfl rfl (by decide))⟩) e_tokenSize_
    have e_410 := r1 groupKind_ _ (by simp only [List.mem_cons, List.not_mem_nil, or_false, not_or]; exact ⟨(Ne.symm (nd_ne ND (i := 0) (j := 6) rfl rfl (by decide))), (nd_ne ND (i := 6) (j := 11) rfl rfl (by decide))⟩) e_groupKind_
    have e_411 := r1 groupPhrase_ _ (by simp only [List.mem_cons, List.not_mem_nil, or_false, not_or]; exact ⟨(Ne.symm (nd_ne ND (i := 0) (j := 7) rfl rfl (by decide))), (nd_ne ND (i := 7) (j := 11) rfl rfl (by decide))⟩) e_groupPhrase_
    have e_412 := r1 groupSize_ _ (by simp only [List.mem_cons, List.not_mem_nil, or_false, not_or]; exact ⟨(Ne.symm (nd_ne ND (i := 0) (j := 8) rfl rfl (by decide))), (nd_ne ND (i := 8) (j := 11) rfl rfl (by decide))⟩) e_groupSize_
    have e_413 := r1 groupMask_ _ (by simp only [List.mem_cons, List.not_mem_nil, or_false, not_or]; exact ⟨(Ne.symm (nd_ne ND (i := 0) (j := 9) rfl rfl (by decide))), (nd_ne ND (i := 9) (j := 11) rfl rfl (by decide))⟩) e_groupMask_
    have e_414 := r1 groupFar_ _ (by simp only [List.mem_cons, List.not_mem_nil, or_false, not_or]; exact ⟨(Ne.symm (nd_ne ND (i := 0) (j := 10) rfl rfl (by decide))), (nd_ne ND (i := 10) (j := 11) rfl rfl (by decide))⟩) e_groupFar_
    have e_415 := r1 top_ _ (by simp only [List.mem_cons, List.not_mem_nil, or_false, not_or]; exact ⟨(Ne.symm (nd_ne ND (i := 0) (j := 12) rfl rfl (by decide))), (Ne.symm (nd_ne ND (i := 11) (j := 12) rfl rfl (by decide)))⟩) e_top_
    have e_416 := r1 masks_ _ (by simp only [List.mem_cons, List.not_mem_nil, or_false, not_or]; exact ⟨(Ne.symm (nd_ne ND (i := 0) (j := 13) rfl rfl (by decide))), (Ne.symm (nd_ne ND (i := 11) (j := 13) rfl rfl (by decide)))⟩) e_masks_
    have r_417 := r_367.trans (r1.mono (by simp))
    have g_418 : fs1[(4 : Nat)]? = some (.ref asked_) := (ga1 4 (by decide)).trans g_386
    have g_419 : fs1[(11 : Nat)]? = some (.int (nI asz)) := (ga1 11 (by decide)).trans g_387
    have g_420 : fs1[(41 : Nat)]? = some (.ref firstToken_) := (ga1 41 (by decide)).trans g_388
    have g_421 : fs1[(42 : Nat)]? = some (.ref starred_) := (ga1 42 (by decide)).trans g_389
    have g_422 : fs1[(43 : Nat)]? = some (.ref tokenAt_) := (ga1 43 (by decide)).trans g_390
    have g_423 : fs1[(44 : Nat)]? = some (.ref tokenSize_) := (ga1 44 (by decide)).trans g_391
    have g_424 : fs1[(45 : Nat)]? = some (.ref groupKind_) := (ga1 45 (by decide)).trans g_392
    have g_425 : fs1[(46 : Nat)]? = some (.ref groupPhrase_) := (ga1 46 (by decide)).trans g_393
    have g_426 : fs1[(47 : Nat)]? = some (.ref groupSize_) := (ga1 47 (by decide)).trans g_394
    have g_427 : fs1[(48 : Nat)]? = some (.ref groupMask_) := (ga1 48 (by decide)).trans g_395
    have g_428 : fs1[(49 : Nat)]? = some (.ref groupFar_) := (ga1 49 (by decide)).trans g_396
    have g_429 : fs1[(50 : Nat)]? = some (.ref out_) := (ga1 50 (by decide)).trans g_397
    have g_430 : fs1[(51 : Nat)]? = some (.ref top_) := (ga1 51 (by decide)).trans g_398
    have g_431 : fs1[(52 : Nat)]? = some (.ref masks_) := (ga1 52 (by decide)).trans g_399
    have g_432 : fs1[(28 : Nat)]? = some (.int v_368) := (ga1 28 (by decide)).trans g_369
    have g_433 : fs1[(29 : Nat)]? = some (.int v_370) := (ga1 29 (by decide)).trans g_371
    have g_434 : fs1[(30 : Nat)]? = some (.int v_372) := (ga1 30 (by decide)).trans g_373
    have g_435 : fs1[(31 : Nat)]? = some (.int v_374) := (ga1 31 (by decide)).trans g_375
    have g_436 : fs1[(34 : Nat)]? = some (.int v_376) := (ga1 34 (by decide)).trans g_377
    have g_437 : fs1[(35 : Nat)]? = some (.int v_378) := (ga1 35 (by decide)).trans g_379
    have g_438 : fs1[(36 : Nat)]? = some (.int v_380) := (ga1 36 (by decide)).trans g_381
    have g_439 : fs1[(39 : Nat)]? = some (.int v_382) := (ga1 39 (by decide)).trans g_383
    have g_440 : fs1[(61 : Nat)]? = some (.int v_384) := (ga1 61 (by decide)).trans g_385
    have g_441 : fs1[(33 : Nat)]? = some (.int bd_) := (ga1 33 (by decide)).trans g_33_
    have ga_442 : ∀ i : Nat, i ∉ [28, 29, 30, 31, 33, 34, 35, 36, 37, 38, 39, 61] → fs1[i]? = fs[i]? := fun i hi => (ga1 i (fun z => hi (by simp only [List.mem_cons, List.not_mem_nil, or_false] at z ⊢; omega))).trans (ga_400 i hi)
    refine s_Model_reads_96 l1 e1 gt1 (fun z_443 => ?_) (fun z_444 => ?_)
    · skip
      refine s_Model_reads_108 ?_
      refine s_Model_reads_109 l1 e1 g_419 ?_
      refine x_callV (As := [.int 0, .int (nI asz)]) (b := m) (rest := []) (F1 := 1) (L1 := 20) (mc := 0) (ms := 0) d_Model_reads_113 cV_Model_250 (f_wrongsH (k := asz) l1 e1 g_441 (by omega) (by omega) (by omega)) e1 ⟨by decide, rfl⟩ ⟨by omega, by show 8 + (3 + 11) + 20 ≤ _; omega⟩ ⟨by omega, by omega⟩ (Nat.le_of_ble_eq_true rfl) (fun v_456 h_455 p_457 => ?_)
      obtain ⟨rfl, bd_445, fs_446, hw_447, hw_448, hw_449, l_450, e_451, g_452, ga_453, r_454⟩ := p_457
      have e_458 := r_454 asked_ _ (by simp only [List.mem_cons, List.not_mem_nil, or_false, not_or]; exact (Ne.symm (nd_ne ND (i := 0) (j := 1) rfl rfl (by decide)))) e_405
      have e_459 := r_454 firstToken_ _ (by simp only [List.mem_cons, List.not_mem_nil, or_false, not_or]; exact (Ne.symm (nd_ne ND (i := 0) (j := 2) rfl rfl (by decide)))) e_406
      have e_460 := r_454 starred_ _ (by simp only [List.mem_cons, List.not_mem_nil, or_false, not_or]; exact (Ne.symm (nd_ne ND (i := 0) (j := 3) rfl rfl (by decide)))) e_407
      have e_461 := r_454 tokenAt_ _ (by simp only [List.mem_cons, List.not_mem_nil, or_false, not_or]; exact (Ne.symm (nd_ne ND (i := 0) (j := 4) rfl rfl (by decide)))) e_408
      have e_462 := r_454 tokenSize_ _ (by simp only [List.mem_cons, List.not_mem_nil, or_false, not_or]; exact (Ne.symm (nd_ne ND (i := 0) (j := 5) rfl rfl (by decide)))) e_409
      have e_463 := r_454 groupKind_ _ (by simp only [List.mem_cons, List.not_mem_nil, or_false, not_or]; exact (Ne.symm (nd_ne ND (i := 0) (j := 6) rfl rfl (by decide)))) e_410
      have e_464 := r_454 groupPhrase_ _ (by simp only [List.mem_cons, List.not_mem_nil, or_false, not_or]; exact (Ne.symm (nd_ne ND (i := 0) (j := 7) rfl rfl (by decide)))) e_411
      have e_465 := r_454 groupSize_ _ (by simp only [List.mem_cons, List.not_mem_nil, or_false, not_or]; exact (Ne.symm (nd_ne ND (i := 0) (j := 8) rfl rfl (by decide)))) e_412
      have e_466 := r_454 groupMask_ _ (by simp only [List.mem_cons, List.not_mem_nil, or_false, not_or]; exact (Ne.symm (nd_ne ND (i := 0) (j := 9) rfl rfl (by decide)))) e_413
      have e_467 := r_454 groupFar_ _ (by simp only [List.mem_cons, List.not_mem_nil, or_false, not_or]; exact (Ne.symm (nd_ne ND (i := 0) (j := 10) rfl rfl (by decide)))) e_414
      have e_468 := r_454 out_ _ (by simp only [List.mem_cons, List.not_mem_nil, or_false, not_or]; exact (Ne.symm (nd_ne ND (i := 0) (j := 11) rfl rfl (by decide)))) eo1
      have e_469 := r_454 top_ _ (by simp only [List.mem_cons, List.not_mem_nil, or_false, not_or]; exact (Ne.symm (nd_ne ND (i := 0) (j := 12) rfl rfl (by decide)))) e_415
      have e_470 := r_454 masks_ _ (by simp only [List.mem_cons, List.not_mem_nil, or_false, not_or]; exact (Ne.symm (nd_ne ND (i := 0) (j := 13) rfl rfl (by decide)))) e_416
      have r_471 := r_417.trans (r_454.mono (by simp))
      have g_472 : fs_446[(4 : Nat)]? = some (.ref asked_) := (ga_453 4 (by decide)).trans g_418
      have g_473 : fs_446[(11 : Nat)]? = some (.int (nI asz)) := (ga_453 11 (by decide)).trans g_419
      have g_474 : fs_446[(41 : Nat)]? = some (.ref firstToken_) := (ga_453 41 (by decide)).trans g_420
      have g_475 : fs_446[(42 : Nat)]? = some (.ref starred_) := (ga_453 42 (by decide)).trans g_421
      have g_476 : fs_446[(43 : Nat)]? = some (.ref tokenAt_) := (ga_453 43 (by decide)).trans g_422
      have g_477 : fs_446[(44 : Nat)]? = some (.ref tokenSize_) := (ga_453 44 (by decide)).trans g_423
      have g_478 : fs_446[(45 : Nat)]? = some (.ref groupKind_) := (ga_453 45 (by decide)).trans g_424
      have g_479 : fs_446[(46 : Nat)]? = some (.ref groupPhrase_) := (ga_453 46 (by decide)).trans g_425
      have g_480 : fs_446[(47 : Nat)]? = some (.ref groupSize_) := (ga_453 47 (by decide)).trans g_426
      have g_481 : fs_446[(48 : Nat)]? = some (.ref groupMask_) := (ga_453 48 (by decide)).trans g_427
      have g_482 : fs_446[(49 : Nat)]? = some (.ref groupFar_) := (ga_453 49 (by decide)).trans g_428
      have g_483 : fs_446[(50 : Nat)]? = some (.ref out_) := (ga_453 50 (by decide)).trans g_429
      have g_484 : fs_446[(51 : Nat)]? = some (.ref top_) := (ga_453 51 (by decide)).trans g_430
      have g_485 : fs_446[(52 : Nat)]? = some (.ref masks_) := (ga_453 52 (by decide)).trans g_431
      have g_486 : fs_446[(28 : Nat)]? = some (.int v_368) := (ga_453 28 (by decide)).trans g_432
      have g_487 : fs_446[(29 : Nat)]? = some (.int v_370) := (ga_453 29 (by decide)).trans g_433
      have g_488 : fs_446[(30 : Nat)]? = some (.int v_372) := (ga_453 30 (by decide)).trans g_434
      have g_489 : fs_446[(31 : Nat)]? = some (.int v_374) := (ga_453 31 (by decide)).trans g_435
      have g_490 : fs_446[(34 : Nat)]? = some (.int v_376) := (ga_453 34 (by decide)).trans g_436
      have g_491 : fs_446[(35 : Nat)]? = some (.int v_378) := (ga_453 35 (by decide)).trans g_437
      have g_492 : fs_446[(36 : Nat)]? = some (.int v_380) := (ga_453 36 (by decide)).trans g_438
      have g_493 : fs_446[(39 : Nat)]? = some (.int v_382) := (ga_453 39 (by decide)).trans g_439
      have g_494 : fs_446[(61 : Nat)]? = some (.int v_384) := (ga_453 61 (by decide)).trans g_440
      have g_495 : fs_446[(37 : Nat)]? = some (.int (nI o1)) := (ga_453 37 (by decide)).trans go1
      have g_496 : fs_446[(38 : Nat)]? = some (.int (nI n1)) := (ga_453 38 (by decide)).trans gt1
      have ga_497 : ∀ i : Nat, i ∉ [28, 29, 30, 31, 33, 34, 35, 36, 37, 38, 39, 61] → fs_446[i]? = fs[i]? := fun i hi => (ga_453 i (fun z => hi (by simp only [List.mem_cons, List.not_mem_nil, or_false] at z ⊢; omega))).trans (ga_442 i hi)
      have hb_498 : ¬ bd_445 < 0 := by rw [hw_449 nb_]; exact nb_
      have hb_499 : 0 ≤ bd_445 := Int32.not_lt.mp hb_498
      refine x_le (xw_le_n xw_le_e) ?_
      refine s_Model_reads_116 ?_
      exact ⟨rfl, _, _, _, _, _, _, _, _, _, _, _, _, _, _, l_450, e_451, g_452, (fun i9 hi9 => by simp only [List.mem_cons, List.not_mem_nil, or_false] at hi9; rcases hi9 with rfl | rfl | rfl | rfl | rfl | rfl | rfl | rfl | rfl | rfl | rfl <;> first | exact ⟨_, g_486⟩ | exact ⟨_, g_487⟩ | exact ⟨_, g_488⟩ | exact ⟨_, g_489⟩ | exact ⟨_, g_490⟩ | exact ⟨_, g_491⟩ | exact ⟨_, g_492⟩ | exact ⟨_, g_495⟩ | exact ⟨_, g_496⟩ | exact ⟨_, g_493⟩ | exact ⟨_, g_494⟩), ga_497, e_459, e_460, e_461, e_462, e_463, e_464, e_465, e_466, e_467, e_468, e_469, e_470, r_471, Or.inl ⟨hr9, hb_498⟩⟩
    · skip
      refine s_Model_reads_104 ?_
      refine s_Model_reads_109 l1 e1 g_419 ?_
      refine x_callV (As := [.int 1, .int (nI asz)]) (b := m) (rest := []) (F1 := 1) (L1 := 20) (mc := 0) (ms := 0) d_Model_reads_113 cV_Model_250 (f_wrongsH (k := asz) l1 e1 g_441 (by omega) (by omega) (by omega)) e1 ⟨by decide, rfl⟩ ⟨by omega, by show 8 + (3 + 11) + 20 ≤ _; omega⟩ ⟨by omega, by omega⟩ (Nat.le_of_ble_eq_true rfl) (fun v_511 h_510 p_512 => ?_)
      obtain ⟨rfl, bd_500, fs_501, hw_502, hw_503, hw_504, l_505, e_506, g_507, ga_508, r_509⟩ := p_512
      have e_513 := r_509 asked_ _ (by simp only [List.mem_cons, List.not_mem_nil, or_false, not_or]; exact (Ne.symm (nd_ne ND (i := 0) (j := 1) rfl rfl (by decide)))) e_405
      have e_514 := r_509 firstToken_ _ (by simp only [List.mem_cons, List.not_mem_nil, or_false, not_or]; exact (Ne.symm (nd_ne ND (i := 0) (j := 2) rfl rfl (by decide)))) e_406
      have e_515 := r_509 starred_ _ (by simp only [List.mem_cons, List.not_mem_nil, or_false, not_or]; exact (Ne.symm (nd_ne ND (i := 0) (j := 3) rfl rfl (by decide)))) e_407
      have e_516 := r_509 tokenAt_ _ (by simp only [List.mem_cons, List.not_mem_nil, or_false, not_or]; exact (Ne.symm (nd_ne ND (i := 0) (j := 4) rfl rfl (by decide)))) e_408
      have e_517 := r_509 tokenSize_ _ (by simp only [List.mem_cons, List.not_mem_nil, or_false, not_or]; exact (Ne.symm (nd_ne ND (i := 0) (j := 5) rfl rfl (by decide)))) e_409
      have e_518 := r_509 groupKind_ _ (by simp only [List.mem_cons, List.not_mem_nil, or_false, not_or]; exact (Ne.symm (nd_ne ND (i := 0) (j := 6) rfl rfl (by decide)))) e_410
      have e_519 := r_509 groupPhrase_ _ (by simp only [List.mem_cons, List.not_mem_nil, or_false, not_or]; exact (Ne.symm (nd_ne ND (i := 0) (j := 7) rfl rfl (by decide)))) e_411
      have e_520 := r_509 groupSize_ _ (by simp only [List.mem_cons, List.not_mem_nil, or_false, not_or]; exact (Ne.symm (nd_ne ND (i := 0) (j := 8) rfl rfl (by decide)))) e_412
      have e_521 := r_509 groupMask_ _ (by simp only [List.mem_cons, List.not_mem_nil, or_false, not_or]; exact (Ne.symm (nd_ne ND (i := 0) (j := 9) rfl rfl (by decide)))) e_413
      have e_522 := r_509 groupFar_ _ (by simp only [List.mem_cons, List.not_mem_nil, or_false, not_or]; exact (Ne.symm (nd_ne ND (i := 0) (j := 10) rfl rfl (by decide)))) e_414
      have e_523 := r_509 out_ _ (by simp only [List.mem_cons, List.not_mem_nil, or_false, not_or]; exact (Ne.symm (nd_ne ND (i := 0) (j := 11) rfl rfl (by decide)))) eo1
      have e_524 := r_509 top_ _ (by simp only [List.mem_cons, List.not_mem_nil, or_false, not_or]; exact (Ne.symm (nd_ne ND (i := 0) (j := 12) rfl rfl (by decide)))) e_415
      have e_525 := r_509 masks_ _ (by simp only [List.mem_cons, List.not_mem_nil, or_false, not_or]; exact (Ne.symm (nd_ne ND (i := 0) (j := 13) rfl rfl (by decide)))) e_416
      have r_526 := r_417.trans (r_509.mono (by simp))
      have g_527 : fs_501[(4 : Nat)]? = some (.ref asked_) := (ga_508 4 (by decide)).trans g_418
      have g_528 : fs_501[(11 : Nat)]? = some (.int (nI asz)) := (ga_508 11 (by decide)).trans g_419
      have g_529 : fs_501[(41 : Nat)]? = some (.ref firstToken_) := (ga_508 41 (by decide)).trans g_420
      have g_530 : fs_501[(42 : Nat)]? = some (.ref starred_) := (ga_508 42 (by decide)).trans g_421
      have g_531 : fs_501[(43 : Nat)]? = some (.ref tokenAt_) := (ga_508 43 (by decide)).trans g_422
      have g_532 : fs_501[(44 : Nat)]? = some (.ref tokenSize_) := (ga_508 44 (by decide)).trans g_423
      have g_533 : fs_501[(45 : Nat)]? = some (.ref groupKind_) := (ga_508 45 (by decide)).trans g_424
      have g_534 : fs_501[(46 : Nat)]? = some (.ref groupPhrase_) := (ga_508 46 (by decide)).trans g_425
      have g_535 : fs_501[(47 : Nat)]? = some (.ref groupSize_) := (ga_508 47 (by decide)).trans g_426
      have g_536 : fs_501[(48 : Nat)]? = some (.ref groupMask_) := (ga_508 48 (by decide)).trans g_427
      have g_537 : fs_501[(49 : Nat)]? = some (.ref groupFar_) := (ga_508 49 (by decide)).trans g_428
      have g_538 : fs_501[(50 : Nat)]? = some (.ref out_) := (ga_508 50 (by decide)).trans g_429
      have g_539 : fs_501[(51 : Nat)]? = some (.ref top_) := (ga_508 51 (by decide)).trans g_430
      have g_540 : fs_501[(52 : Nat)]? = some (.ref masks_) := (ga_508 52 (by decide)).trans g_431
      have g_541 : fs_501[(28 : Nat)]? = some (.int v_368) := (ga_508 28 (by decide)).trans g_432
      have g_542 : fs_501[(29 : Nat)]? = some (.int v_370) := (ga_508 29 (by decide)).trans g_433
      have g_543 : fs_501[(30 : Nat)]? = some (.int v_372) := (ga_508 30 (by decide)).trans g_434
      have g_544 : fs_501[(31 : Nat)]? = some (.int v_374) := (ga_508 31 (by decide)).trans g_435
      have g_545 : fs_501[(34 : Nat)]? = some (.int v_376) := (ga_508 34 (by decide)).trans g_436
      have g_546 : fs_501[(35 : Nat)]? = some (.int v_378) := (ga_508 35 (by decide)).trans g_437
      have g_547 : fs_501[(36 : Nat)]? = some (.int v_380) := (ga_508 36 (by decide)).trans g_438
      have g_548 : fs_501[(39 : Nat)]? = some (.int v_382) := (ga_508 39 (by decide)).trans g_439
      have g_549 : fs_501[(61 : Nat)]? = some (.int v_384) := (ga_508 61 (by decide)).trans g_440
      have g_550 : fs_501[(37 : Nat)]? = some (.int (nI o1)) := (ga_508 37 (by decide)).trans go1
      have g_551 : fs_501[(38 : Nat)]? = some (.int (nI n1)) := (ga_508 38 (by decide)).trans gt1
      have ga_552 : ∀ i : Nat, i ∉ [28, 29, 30, 31, 33, 34, 35, 36, 37, 38, 39, 61] → fs_501[i]? = fs[i]? := fun i hi => (ga_508 i (fun z => hi (by simp only [List.mem_cons, List.not_mem_nil, or_false] at z ⊢; omega))).trans (ga_442 i hi)
      have hb_553 : ¬ bd_500 < 0 := by rw [hw_504 nb_]; exact nb_
      have hb_554 : 0 ≤ bd_500 := Int32.not_lt.mp hb_553
      refine x_le (xw_le_n xw_le_e) ?_
      refine s_Model_reads_116 ?_
      exact ⟨rfl, _, _, _, _, _, _, _, _, _, _, _, _, _, _, l_505, e_506, g_507, (fun i9 hi9 => by simp only [List.mem_cons, List.not_mem_nil, or_false] at hi9; rcases hi9 with rfl | rfl | rfl | rfl | rfl | rfl | rfl | rfl | rfl | rfl | rfl <;> first | exact ⟨_, g_541⟩ | exact ⟨_, g_542⟩ | exact ⟨_, g_543⟩ | exact ⟨_, g_544⟩ | exact ⟨_, g_545⟩ | exact ⟨_, g_546⟩ | exact ⟨_, g_547⟩ | exact ⟨_, g_550⟩ | exact ⟨_, g_551⟩ | exact ⟨_, g_548⟩ | exact ⟨_, g_549⟩), ga_552, e_514, e_515, e_516, e_517, e_518, e_519, e_520, e_521, e_522, e_523, e_524, e_525, r_526, Or.inl ⟨hr9, hb_553⟩⟩
