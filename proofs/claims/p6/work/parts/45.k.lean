/-! the reference in general states: by program (wip/tools/gen3.py, gen4.py, gen5.py) -/
theorem lv_ne {x : Int32} {vs : Nat} (h : x < 0 ∨ ∃ v, v < vs ∧ x = nI v) (hv : vs < 600) : ¬ x = nI vs := by
  rintro rfl
  rcases h with q | ⟨v, q, e⟩
  · exact absurd q (nI_pos (by omega))
  · have := (nI_eq (by omega) (by omega)).mp e
    omega
set_option maxHeartbeats 1000000 in
theorem lp_insert {G : xw_G} {F L bc bs : Nat} {pr : Option Value → xw_A → Prop} {px : String → xw_A → Prop} {h : xw_A} {fv : Nat → Int32} {live_ : Nat} {m : Nat} {fs : List Value} (l : fs.length = 62) (e : h m = some (.inr (11, fs))) (g_live : fs[14]? = some (.ref live_)) (e_live : h live_ = some (.inl (0, 24, .inl (fv)))) (kk : ∀ r : Nat, r ≤ 24 → (∀ j, j < r → ¬ fv j < 0) → (r = 24 ∨ fv r < 0) → xw G m_Model_insert F L bc bs pr px 28 [some (.ref m), some (.int (nI r))] [] h) :
    ∀ (dd i : Nat) , i + dd = 24 → (∀ j, j < i → ¬ fv j < 0) → xw G m_Model_insert F L bc bs pr px 7 [some (.ref m), some (.int (nI i))] [] h := by
  intro dd
  induction dd with
  | zero =>
    intro i  hi hp
    obtain rfl : i = 24 := by omega
    refine s_Model_insert_7 (fun z_1 => ?_) (fun z => absurd z (by decide))
    exact kk _ (by omega) hp (Or.inl rfl)
  | succ dd ih =>
    intro i  hi hp
    refine s_Model_insert_7 (fun z => absurd z (nI_ge (b := 24) (show i < 24 by omega) (by decide))) (fun z_1 => ?_)
    refine s_Model_insert_13 l e g_live e_live (vp_in_nI (by omega) (by omega)) (fun z_2 => ?_) (fun z_3 => ?_)
    · skip
      exact kk _ (by omega) hp (Or.inr (by rw [nI_clamp (by omega)] at z_2; exact z_2))
    · skip
      refine s_Model_insert_22 ?_
      simp only [nI_1]
      exact ih (i + 1) (by omega) (fun j hj q0 => by by_cases q : j = i; (rw [q] at q0; rw [nI_clamp (by omega)] at z_3; exact z_3 q0); (exact hp j (by omega) q0))
set_option maxHeartbeats 2000000 in
theorem r_insert {G : xw_G} {F L : Nat} {h : xw_A}  {m draft_ asked_ prepared_ preparedSize_ texts_ sizes_ weights_ entries_ lies_ live_ row_ level_ oldTexts_ oldSizes_ oldLies_ oldLive_ oldRow_ firstToken_ starred_ tokenAt_ tokenSize_ groupKind_ groupPhrase_ groupSize_ groupMask_ groupFar_ out_ top_ masks_ begins_ lasts_ truth_ answers_ order_ scores_ T : Nat} (R : RI m draft_ asked_ prepared_ preparedSize_ texts_ sizes_ weights_ entries_ lies_ live_ row_ level_ oldTexts_ oldSizes_ oldLies_ oldLive_ oldRow_ firstToken_ starred_ tokenAt_ tokenSize_ groupKind_ groupPhrase_ groupSize_ groupMask_ groupFar_ out_ top_ masks_ begins_ lasts_ truth_ answers_ order_ scores_ T h) (ND : NDl [m, draft_, asked_, prepared_, preparedSize_, texts_, sizes_, weights_, entries_, lies_, live_, row_, level_, oldTexts_, oldSizes_, oldLies_, oldLive_, oldRow_, firstToken_, starred_, tokenAt_, tokenSize_, groupKind_, groupPhrase_, groupSize_, groupMask_, groupFar_, out_, top_, masks_, begins_, lasts_, truth_, answers_, order_, scores_]) (hT : T < 512) (hF : 6 ≤ F) (hL : 136 ≤ L) :
    xw_Met G m_Model_insert F L 0 0 [.ref m] h (fun v h' => (∃ y : Int32, v = some (.int y)) ∧ RI m draft_ asked_ prepared_ preparedSize_ texts_ sizes_ weights_ entries_ lies_ live_ row_ level_ oldTexts_ oldSizes_ oldLies_ oldLive_ oldRow_ firstToken_ starred_ tokenAt_ tokenSize_ groupKind_ groupPhrase_ groupSize_ groupMask_ groupFar_ out_ top_ masks_ begins_ lasts_ truth_ answers_ order_ scores_ (T + 1) h' ∧ FrO [m, draft_, asked_, prepared_, preparedSize_, texts_, sizes_, weights_, entries_, lies_, live_, row_, level_, oldTexts_, oldSizes_, oldLies_, oldLive_, oldRow_, firstToken_, starred_, tokenAt_, tokenSize_, groupKind_, groupPhrase_, groupSize_, groupMask_, groupFar_, out_, top_, masks_, begins_, lasts_, truth_, answers_, order_, scores_] h h' ∧ FrO [m, texts_, sizes_, begins_, lasts_, entries_, lies_, live_, row_, level_] h h' ∧ FF m [0, 15, 16, 19, 55] h h' ∧ (∀ fv : Nat → Int32, h live_ = some (.inl (0, 24, .inl fv)) → ((∃ r vs : Nat, r < 24 ∧ vs < 600 ∧ fv r < 0 ∧ (∀ j, j < r → ¬ fv j < 0) ∧ Rf m 0 (.int 0) h' ∧ v = some (.int (nI (r + 1))) ∧ h' live_ = some (.inl (0, 24, .inl (upd fv r (nI vs))))) ∨ ((∀ j, j < 24 → ¬ fv j < 0) ∧ Rf m 0 (.int 1) h' ∧ h' live_ = some (.inl (0, 24, .inl fv))))) ∧ (∀ fe fv ft' fz' : Nat → Int32, h entries_ = some (.inl (0, 600, .inl fe)) → h live_ = some (.inl (0, 24, .inl fv)) → h' texts_ = some (.inl (0, 2304, .inl ft')) → h' sizes_ = some (.inl (0, 48, .inl fz')) → (Rf m 0 (.int 1) h' ∧ h' entries_ = some (.inl (0, 600, .inl fe)) ∧ h' live_ = some (.inl (0, 24, .inl fv))) ∨ (Rf m 0 (.int 0) h' ∧ ∃ r vs y : Nat, r < 24 ∧ (v = some (.int (nI (r + 1)))) ∧ vs < 600 ∧ h' live_ = some (.inl (0, 24, .inl (upd fv r (nI vs)))) ∧ h' entries_ = some (.inl (0, 600, .inl (upd fe vs (nI y)))) ∧ y = tkS2 ft' fz' r 2 ∧ (∀ j, j < 24 → ¬ fv j = nI vs) ∧ (∀ fov : Nat → Int32, h oldLive_ = some (.inl (0, 24, .inl fov)) → Rf m 20 (.int (nI 1)) h → ∀ j, j < 24 → ¬ fov j = nI vs) ∧ ∀ fp fq ft fz : Nat → Int32, h prepared_ = some (.inl (0, 96, .inl fp)) → h preparedSize_ = some (.inl (0, 2, .inl fq)) → h texts_ = some (.inl (0, 2304, .inl ft)) → h sizes_ = some (.inl (0, 48, .inl fz)) → TxG fp fq ft fz r ft' fz')) ∧ (∀ fp fq ft fz : Nat → Int32, h prepared_ = some (.inl (0, 96, .inl fp)) → h preparedSize_ = some (.inl (0, 2, .inl fq)) → h texts_ = some (.inl (0, 2304, .inl ft)) → h sizes_ = some (.inl (0, 48, .inl fz)) → ∃ ft' fz' : Nat → Int32, h' texts_ = some (.inl (0, 2304, .inl ft')) ∧ h' sizes_ = some (.inl (0, 48, .inl fz')) ∧ ((Rf m 0 (.int 1) h' ∧ ft' = ft ∧ fz' = fz) ∨ (Rf m 0 (.int 0) h' ∧ ∃ r, r < 24 ∧ v = some (.int (nI (r + 1))) ∧ TxG fp fq ft fz r ft' fz')))) (fun _ _ => False) := by
  refine xw_Met.of rfl (by decide) (Nat.le_of_ble_eq_true rfl) ?_
  obtain ⟨fs, l, e, ⟨er, g_err⟩, KDr, KPr, KTx, KOt, KSt, KMo, KWe, KBe, KAn, KQu⟩ := R
  obtain ⟨fp, fq, g_prepared, e_prepared, g_preparedSize, e_preparedSize, hps⟩ := id KPr
  obtain ⟨ft, fz, g_texts, e_texts, g_sizes, e_sizes, hSZ⟩ := id KTx
  obtain ⟨vs, md, sg, op, ov, os, fe, fi, fv, fr, fL, foi, fov, fow, g_versions, g_made, g_segments, g_open, g_oldVersions, g_oldSegments, g_entries, e_entries, g_lies, e_lies, g_live, e_live, g_row, e_row, g_level, e_level, g_oldLies, e_oldLies, g_oldLive, e_oldLive, g_oldRow, e_oldRow, hvs, hsg, hop, hov, hos, hLI, hRO, hLV, hOI, hOR, hOV, hpot⟩ := id KSt
  obtain ⟨mo, li, g_most, g_limit, hmo⟩ := id KMo
  obtain ⟨cl, fb, fl, g_column, g_begins, e_begins, g_lasts, e_lasts⟩ := id KBe
  have ga0 : ∀ i, i ∉ [0, 15, 16, 19, 55] → fs[i]? = fs[i]? := fun _ _ => rfl
  have r0 : FrO [m, texts_, sizes_, begins_, lasts_, entries_, lies_, live_, row_, level_] h h := FrO.rf
  refine s_Model_insert_0 l e ?_
  refine x_u1 (fun h_1 e_2 f_3 => ?_)
  have e_4 := (f_3 prepared_ (nd_ne ND (i := 3) (j := 0) rfl rfl (by decide))).trans e_prepared
  have e_5 := (f_3 preparedSize_ (nd_ne ND (i := 4) (j := 0) rfl rfl (by decide))).trans e_preparedSize
  have e_6 := (f_3 texts_ (nd_ne ND (i := 5) (j := 0) rfl rfl (by decide))).trans e_texts
  have e_7 := (f_3 sizes_ (nd_ne ND (i := 6) (j := 0) rfl rfl (by decide))).trans e_sizes
  have e_8 := (f_3 entries_ (nd_ne ND (i := 8) (j := 0) rfl rfl (by decide))).trans e_entries
  have e_9 := (f_3 lies_ (nd_ne ND (i := 9) (j := 0) rfl rfl (by decide))).trans e_lies
  have e_10 := (f_3 live_ (nd_ne ND (i := 10) (j := 0) rfl rfl (by decide))).trans e_live
  have e_11 := (f_3 row_ (nd_ne ND (i := 11) (j := 0) rfl rfl (by decide))).trans e_row
  have e_12 := (f_3 level_ (nd_ne ND (i := 12) (j := 0) rfl rfl (by decide))).trans e_level
  have e_13 := (f_3 oldLies_ (nd_ne ND (i := 15) (j := 0) rfl rfl (by decide))).trans e_oldLies
  have e_14 := (f_3 oldLive_ (nd_ne ND (i := 16) (j := 0) rfl rfl (by decide))).trans e_oldLive
  have e_15 := (f_3 oldRow_ (nd_ne ND (i := 17) (j := 0) rfl rfl (by decide))).trans e_oldRow
  have e_16 := (f_3 begins_ (nd_ne ND (i := 30) (j := 0) rfl rfl (by decide))).trans e_begins
  have e_17 := (f_3 lasts_ (nd_ne ND (i := 31) (j := 0) rfl rfl (by decide))).trans e_lasts
  have r_18 := r0.up (by simp) f_3
  obtain ⟨fs_19, z_20⟩ : ∃ z, z = fs.set 0 (.int 0) := ⟨_, rfl⟩
  rw [← z_20] at e_2
  have l_21 : fs_19.length = 62 := by rw [z_20]; simp only [List.length_set]; exact l
  have g_22 : fs_19[0]? = some (.int 0) := by rw [z_20]; exact (xw_gs (by simp [l]))
  have g_23 : fs_19[1]? = some (.int (nI mo)) := by rw [z_20]; exact (xw_gn (by decide) g_most)
  have g_24 : fs_19[2]? = some (.int li) := by rw [z_20]; exact (xw_gn (by decide) g_limit)
  have g_25 : fs_19[5]? = some (.ref prepared_) := by rw [z_20]; exact (xw_gn (by decide) g_prepared)
  have g_26 : fs_19[6]? = some (.ref preparedSize_) := by rw [z_20]; exact (xw_gn (by decide) g_preparedSize)
  have g_27 : fs_19[7]? = some (.ref texts_) := by rw [z_20]; exact (xw_gn (by decide) g_texts)
  have g_28 : fs_19[8]? = some (.ref sizes_) := by rw [z_20]; exact (xw_gn (by decide) g_sizes)
  have g_29 : fs_19[12]? = some (.ref entries_) := by rw [z_20]; exact (xw_gn (by decide) g_entries)
  have g_30 : fs_19[13]? = some (.ref lies_) := by rw [z_20]; exact (xw_gn (by decide) g_lies)
  have g_31 : fs_19[14]? = some (.ref live_) := by rw [z_20]; exact (xw_gn (by decide) g_live)
  have g_32 : fs_19[15]? = some (.int (nI vs)) := by rw [z_20]; exact (xw_gn (by decide) g_versions)
  have g_33 : fs_19[16]? = some (.int (nI md)) := by rw [z_20]; exact (xw_gn (by decide) g_made)
  have g_34 : fs_19[17]? = some (.ref row_) := by rw [z_20]; exact (xw_gn (by decide) g_row)
  have g_35 : fs_19[18]? = some (.ref level_) := by rw [z_20]; exact (xw_gn (by decide) g_level)
  have g_36 : fs_19[19]? = some (.int (nI sg)) := by rw [z_20]; exact (xw_gn (by decide) g_segments)
  have g_37 : fs_19[20]? = some (.int (nI op)) := by rw [z_20]; exact (xw_gn (by decide) g_open)
  have g_38 : fs_19[23]? = some (.ref oldLies_) := by rw [z_20]; exact (xw_gn (by decide) g_oldLies)
  have g_39 : fs_19[24]? = some (.ref oldLive_) := by rw [z_20]; exact (xw_gn (by decide) g_oldLive)
  have g_40 : fs_19[25]? = some (.ref oldRow_) := by rw [z_20]; exact (xw_gn (by decide) g_oldRow)
  have g_41 : fs_19[26]? = some (.int (nI ov)) := by rw [z_20]; exact (xw_gn (by decide) g_oldVersions)
  have g_42 : fs_19[27]? = some (.int (nI os)) := by rw [z_20]; exact (xw_gn (by decide) g_oldSegments)
  have g_43 : fs_19[53]? = some (.ref begins_) := by rw [z_20]; exact (xw_gn (by decide) g_begins)
  have g_44 : fs_19[54]? = some (.ref lasts_) := by rw [z_20]; exact (xw_gn (by decide) g_lasts)
  have g_45 : fs_19[55]? = some (.int cl) := by rw [z_20]; exact (xw_gn (by decide) g_column)
  have ga_46 : ∀ i, i ∉ [0, 15, 16, 19, 55] → fs_19[i]? = fs[i]? := fun i hi => by rw [z_20]; exact xw_gn (fun z => hi (by rw [z]; simp)) (ga0 i hi)
  clear z_20
  refine lp_insert l_21 e_2 g_31 e_10 (fun rN hrN hlo hat => ?_) 24 0 rfl (fun j hj => absurd hj (Nat.not_lt_zero _))
  refine s_Model_insert_28 (fun z_47 => ?_) (fun z_48 => ?_)
  · skip
    refine s_Model_insert_39 ?_
    refine s_Model_insert_40 ?_
    refine x_callV (As := [.int 0, .int 1]) (b := m) (rest := []) (F1 := 1) (L1 := 20) (mc := 0) (ms := 0) d_Model_insert_41 cV_Model_139 (f_fails0 l_21 e_2 g_22 (by omega) (by omega)) e_2 ⟨by decide, rfl⟩ ⟨by omega, by show 8 + (3 + 11) + 20 ≤ _; omega⟩ ⟨by omega, by omega⟩ (Nat.le_of_ble_eq_true rfl) (fun v_50 h_49 p_51 => ?_)
    obtain ⟨rfl, rfl⟩ := p_51
    refine s_Model_insert_44 (fun z_52 => ?_) (fun z => absurd z (by decide))
    have hr24 : rN < 24 := Nat.lt_of_le_of_ne hrN (fun q => z_47 (by rw [q]; rfl))
    refine s_Model_insert_49 ?_
    refine x_callV (As := [.int (nI rN)]) (b := m) (rest := []) (F1 := 5) (L1 := 113) (mc := 0) (ms := 0) d_Model_insert_51 cV_Model_178 (f_gets (vs := vs) (r := rN) l_21 e_2 g_33 g_32 g_36 g_23 g_24 g_45 g_25 e_4 g_26 e_5 g_27 e_6 g_28 e_7 g_29 e_8 g_30 e_9 g_31 e_10 g_34 e_11 g_35 e_12 g_43 e_16 g_44 e_17 (nd_ne ND (i := 8) (j := 9) rfl rfl (by decide)) (nd_ne ND (i := 8) (j := 11) rfl rfl (by decide)) (nd_ne ND (i := 9) (j := 11) rfl rfl (by decide)) (nd_ne ND (i := 10) (j := 30) rfl rfl (by decide)) (nd_ne ND (i := 10) (j := 31) rfl rfl (by decide)) (nd_ne ND (i := 30) (j := 31) rfl rfl (by decide)) (by omega) (by omega) (by omega) (by omega) hmo hps hSZ hLI hRO (by omega) (by omega)) e_2 ⟨by decide, rfl⟩ ⟨by omega, by show 8 + (4 + 11) + 113 ≤ _; omega⟩ ⟨by omega, by omega⟩ (Nat.le_of_ble_eq_true rfl) (fun v_55 h_54 p_56 => ?_)
    obtain ⟨⟨y_53, rfl⟩, md9, sg9, cl9, fs9, ft9, fz9, fb9, fl9, fe9, fi9, fr9, fL9, hm1, hm2, hs1, hpot9, l9, e9, gv9, gm9, gs9, gc9, ga9, et9, ez9, eb9, el9, ee9, ei9, ev9, er9, eL9, SZ9, TX9, LI9, RO9, FL9, HE9, r9⟩ := p_56
    have e_57 := r9 prepared_ _ (by simp only [List.mem_cons, List.not_mem_nil, or_false, not_or]; exact ⟨(nd_ne ND (i := 3) (j := 0) rfl rfl (by decide)), (nd_ne ND (i := 3) (j := 5) rfl rfl (by decide)), (nd_ne ND (i := 3) (j := 6) rfl rfl (by decide)), (nd_ne ND (i := 3) (j := 30) rfl rfl (by decide)), (nd_ne ND (i := 3) (j := 31) rfl rfl (by decide)), (nd_ne ND (i := 3) (j := 8) rfl rfl (by decide)), (nd_ne ND (i := 3) (j := 9) rfl rfl (by decide)), (nd_ne ND (i := 3) (j := 10) rfl rfl (by decide)), (nd_ne ND (i := 3) (j := 11) rfl rfl (by decide)), (nd_ne ND (i := 3) (j := 12) rfl rfl (by decide))⟩) e_4
    have e_58 := r9 preparedSize_ _ (by simp only [List.mem_cons, List.not_mem_nil, or_false, not_or]; exact ⟨(nd_ne ND (i := 4) (j := 0) rfl rfl (by decide)), (nd_ne ND (i := 4) (j := 5) rfl rfl (by decide)), (nd_ne ND (i := 4) (j := 6) rfl rfl (by decide)), (nd_ne ND (i := 4) (j := 30) rfl rfl (by decide)), (nd_ne ND (i := 4) (j := 31) rfl rfl (by decide)), (nd_ne ND (i := 4) (j := 8) rfl rfl (by decide)), (nd_ne ND (i := 4) (j := 9) rfl rfl (by decide)), (nd_ne ND (i := 4) (j := 10) rfl rfl (by decide)), (nd_ne ND (i := 4) (j := 11) rfl rfl (by decide)), (nd_ne ND (i := 4) (j := 12) rfl rfl (by decide))⟩) e_5
    have e_59 := r9 oldLies_ _ (by simp only [List.mem_cons, List.not_mem_nil, or_false, not_or]; exact ⟨(nd_ne ND (i := 15) (j := 0) rfl rfl (by decide)), (Ne.symm (nd_ne ND (i := 5) (j := 15) rfl rfl (by decide))), (Ne.symm (nd_ne ND (i := 6) (j := 15) rfl rfl (by decide))), (nd_ne ND (i := 15) (j := 30) rfl rfl (by decide)), (nd_ne ND (i := 15) (j := 31) rfl rfl (by decide)), (Ne.symm (nd_ne ND (i := 8) (j := 15) rfl rfl (by decide))), (Ne.symm (nd_ne ND (i := 9) (j := 15) rfl rfl (by decide))), (Ne.symm (nd_ne ND (i := 10) (j := 15) rfl rfl (by decide))), (Ne.symm (nd_ne ND (i := 11) (j := 15) rfl rfl (by decide))), (Ne.symm (nd_ne ND (i := 12) (j := 15) rfl rfl (by decide)))⟩) e_13
    have e_60 := r9 oldLive_ _ (by simp only [List.mem_cons, List.not_mem_nil, or_false, not_or]; exact ⟨(nd_ne ND (i := 16) (j := 0) rfl rfl (by decide)), (Ne.symm (nd_ne ND (i := 5) (j := 16) rfl rfl (by decide))), (Ne.symm (nd_ne ND (i := 6) (j := 16) rfl rfl (by decide))), (nd_ne ND (i := 16) (j := 30) rfl rfl (by decide)), (nd_ne ND (i := 16) (j := 31) rfl rfl (by decide)), (Ne.symm (nd_ne ND (i := 8) (j := 16) rfl rfl (by decide))), (Ne.symm (nd_ne ND (i := 9) (j := 16) rfl rfl (by decide))), (Ne.symm (nd_ne ND (i := 10) (j := 16) rfl rfl (by decide))), (Ne.symm (nd_ne ND (i := 11) (j := 16) rfl rfl (by decide))), (Ne.symm (nd_ne ND (i := 12) (j := 16) rfl rfl (by decide)))⟩) e_14
    have e_61 := r9 oldRow_ _ (by simp only [List.mem_cons, List.not_mem_nil, or_false, not_or]; exact ⟨(nd_ne ND (i := 17) (j := 0) rfl rfl (by decide)), (Ne.symm (nd_ne ND (i := 5) (j := 17) rfl rfl (by decide))), (Ne.symm (nd_ne ND (i := 6) (j := 17) rfl rfl (by decide))), (nd_ne ND (i := 17) (j := 30) rfl rfl (by decide)), (nd_ne ND (i := 17) (j := 31) rfl rfl (by decide)), (Ne.symm (nd_ne ND (i := 8) (j := 17) rfl rfl (by decide))), (Ne.symm (nd_ne ND (i := 9) (j := 17) rfl rfl (by decide))), (Ne.symm (nd_ne ND (i := 10) (j := 17) rfl rfl (by decide))), (Ne.symm (nd_ne ND (i := 11) (j := 17) rfl rfl (by decide))), (Ne.symm (nd_ne ND (i := 12) (j := 17) rfl rfl (by decide)))⟩) e_15
    have r_62 := r_18.trans (r9.mono (by simp))
    have g_63 : fs9[0]? = some (.int 0) := (ga9 0 (by decide)).trans g_22
    have g_64 : fs9[1]? = some (.int (nI mo)) := (ga9 1 (by decide)).trans g_23
    have g_65 : fs9[2]? = some (.int li) := (ga9 2 (by decide)).trans g_24
    have g_66 : fs9[5]? = some (.ref prepared_) := (ga9 5 (by decide)).trans g_25
    have g_67 : fs9[6]? = some (.ref preparedSize_) := (ga9 6 (by decide)).trans g_26
    have g_68 : fs9[7]? = some (.ref texts_) := (ga9 7 (by decide)).trans g_27
    have g_69 : fs9[8]? = some (.ref sizes_) := (ga9 8 (by decide)).trans g_28
    have g_70 : fs9[12]? = some (.ref entries_) := (ga9 12 (by decide)).trans g_29
    have g_71 : fs9[13]? = some (.ref lies_) := (ga9 13 (by decide)).trans g_30
    have g_72 : fs9[14]? = some (.ref live_) := (ga9 14 (by decide)).trans g_31
    have g_73 : fs9[17]? = some (.ref row_) := (ga9 17 (by decide)).trans g_34
    have g_74 : fs9[18]? = some (.ref level_) := (ga9 18 (by decide)).trans g_35
    have g_75 : fs9[20]? = some (.int (nI op)) := (ga9 20 (by decide)).trans g_37
    have g_76 : fs9[23]? = some (.ref oldLies_) := (ga9 23 (by decide)).trans g_38
    have g_77 : fs9[24]? = some (.ref oldLive_) := (ga9 24 (by decide)).trans g_39
    have g_78 : fs9[25]? = some (.ref oldRow_) := (ga9 25 (by decide)).trans g_40
    have g_79 : fs9[26]? = some (.int (nI ov)) := (ga9 26 (by decide)).trans g_41
    have g_80 : fs9[27]? = some (.int (nI os)) := (ga9 27 (by decide)).trans g_42
    have g_81 : fs9[53]? = some (.ref begins_) := (ga9 53 (by decide)).trans g_43
    have g_82 : fs9[54]? = some (.ref lasts_) := (ga9 54 (by decide)).trans g_44
    have ga_83 : ∀ i, i ∉ [0, 15, 16, 19, 55] → fs9[i]? = fs[i]? := fun i hi => (ga9 i (fun z => hi (by simp only [List.mem_cons, List.not_mem_nil, or_false] at z ⊢; omega))).trans (ga_46 i hi)
    refine x_le (xw_le_n (xw_le_s xw_le_e)) ?_
    refine s_Model_insert_54 ?_
    exact ⟨⟨_, rfl⟩, ⟨_, l9, e9, ⟨_, g_63⟩, (KDr.fr ga_83 r_62 (by decide) (pick_dis ND (l := [m, draft_, asked_, prepared_, preparedSize_, texts_, sizes_, weights_, entries_, lies_, live_, row_, level_, oldTexts_, oldSizes_, oldLies_, oldLive_, oldRow_, firstToken_, starred_, tokenAt_, tokenSize_, groupKind_, groupPhrase_, groupSize_, groupMask_, groupFar_, out_, top_, masks_, begins_, lasts_, truth_, answers_, order_, scores_]) (is := [1]) (js := [0, 5, 6, 30, 31, 8, 9, 10, 11, 12]) (by decide))), (KPr.fr ga_83 r_62 (by decide) (pick_dis ND (l := [m, draft_, asked_, prepared_, preparedSize_, texts_, sizes_, weights_, entries_, lies_, live_, row_, level_, oldTexts_, oldSizes_, oldLies_, oldLive_, oldRow_, firstToken_, starred_, tokenAt_, tokenSize_, groupKind_, groupPhrase_, groupSize_, groupMask_, groupFar_, out_, top_, masks_, begins_, lasts_, truth_, answers_, order_, scores_]) (is := [3, 4]) (js := [0, 5, 6, 30, 31, 8, 9, 10, 11, 12]) (by decide))), ⟨_, _, g_68, et9, g_69, ez9, SZ9⟩, (KOt.fr ga_83 r_62 (by decide) (pick_dis ND (l := [m, draft_, asked_, prepared_, preparedSize_, texts_, sizes_, weights_, entries_, lies_, live_, row_, level_, oldTexts_, oldSizes_, oldLies_, oldLive_, oldRow_, firstToken_, starred_, tokenAt_, tokenSize_, groupKind_, groupPhrase_, groupSize_, groupMask_, groupFar_, out_, top_, masks_, begins_, lasts_, truth_, answers_, order_, scores_]) (is := [13, 14]) (js := [0, 5, 6, 30, 31, 8, 9, 10, 11, 12]) (by decide))), ⟨(vs + 1), md9, sg9, op, ov, os, _, _, _, _, _, _, _, _, gv9, gm9, gs9, g_75, g_79, g_80, g_70, ee9, g_71, ei9, g_72, ev9, g_73, er9, g_74, eL9, g_76, e_59, g_77, e_60, g_78, e_61, by omega, by omega, by omega, by omega, by omega, LI9, RO9, fun r9_ hr9_ => by by_cases q : r9_ = rN; (subst q; rw [pk_us]; exact Or.inr ⟨vs, Nat.lt_succ_self _, rfl⟩); (rw [pk_un q]; exact (hLV r9_ hr9_).imp id (fun ⟨v, a, b⟩ => ⟨v, by omega, b⟩)), fun v hv => (hOI v hv).imp id (fun ⟨s, a, b⟩ => ⟨s, Nat.lt_of_lt_of_le a hm1, b⟩), fun k hk => (hOR k hk).imp (fun s q => ⟨Nat.lt_of_lt_of_le q.1 hm1, q.2⟩), fun q r hr => (hOV q r hr).imp id (fun ⟨v, a, b⟩ => ⟨v, Nat.lt_of_lt_of_le a (Nat.le_succ vs), b⟩), by omega⟩, (KMo.fr ga_83 r_62 (by decide) (fun _ z => nomatch z)), (KWe.fr ga_83 r_62 (by decide) (pick_dis ND (l := [m, draft_, asked_, prepared_, preparedSize_, texts_, sizes_, weights_, entries_, lies_, live_, row_, level_, oldTexts_, oldSizes_, oldLies_, oldLive_, oldRow_, firstToken_, starred_, tokenAt_, tokenSize_, groupKind_, groupPhrase_, groupSize_, groupMask_, groupFar_, out_, top_, masks_, begins_, lasts_, truth_, answers_, order_, scores_]) (is := [7]) (js := [0, 5, 6, 30, 31, 8, 9, 10, 11, 12]) (by decide))), ⟨_, _, _, gc9, g_81, eb9, g_82, el9⟩, (KAn.fr ga_83 r_62 (by decide) (pick_dis ND (l := [m, draft_, asked_, prepared_, preparedSize_, texts_, sizes_, weights_, entries_, lies_, live_, row_, level_, oldTexts_, oldSizes_, oldLies_, oldLive_, oldRow_, firstToken_, starred_, tokenAt_, tokenSize_, groupKind_, groupPhrase_, groupSize_, groupMask_, groupFar_, out_, top_, masks_, begins_, lasts_, truth_, answers_, order_, scores_]) (is := [33, 34, 35]) (js := [0, 5, 6, 30, 31, 8, 9, 10, 11, 12]) (by decide))), (KQu.fr ga_83 r_62 (by decide) (pick_dis ND (l := [m, draft_, asked_, prepared_, preparedSize_, texts_, sizes_, weights_, entries_, lies_, live_, row_, level_, oldTexts_, oldSizes_, oldLies_, oldLive_, oldRow_, firstToken_, starred_, tokenAt_, tokenSize_, groupKind_, groupPhrase_, groupSize_, groupMask_, groupFar_, out_, top_, masks_, begins_, lasts_, truth_, answers_, order_, scores_]) (is := [2, 18, 19, 20, 21, 22, 23, 24, 25, 26, 27, 28, 29, 32]) (js := [0, 5, 6, 30, 31, 8, 9, 10, 11, 12]) (by decide)))⟩, r_62.mono (by simp), r_62, FF.of e e9 ga_83, (fun fvw ew => by obtain rfl := cinj ew e_live; exact Or.inl ⟨rN, vs, hr24, by omega, hat.resolve_left (by omega), hlo, ⟨_, e9, g_63⟩, by rw [nI_1], ev9⟩), (fun few fvw ftw fzw w1 w2 w3 w4 => by obtain rfl := cinj w1 e_entries; obtain rfl := cinj w2 e_live; obtain rfl := cinj w3 et9; obtain rfl := cinj w4 ez9; obtain ⟨yE, hE1, hE2, hE3⟩ := HE9; exact Or.inr ⟨⟨_, e9, g_63⟩, rN, vs, yE, hr24, by rw [nI_1], by omega, ev9, by rw [← hE1]; exact ee9, hE2, fun j8 hj8 => lv_ne (hLV j8 hj8) (by omega), fun fow w5 K5 j8 hj8 => by obtain rfl := cinj w5 e_oldLive; exact lv_ne (hOV ((nI_eq (by omega) (by decide)).mp (Value.int.inj (Rf.inj ⟨_, e, g_open⟩ K5))) j8 hj8) (by omega), fun fp5 fq5 ft5 fz5 u1 u2 u3 u4 => by obtain rfl := cinj u1 e_prepared; obtain rfl := cinj u2 e_preparedSize; obtain rfl := cinj u3 e_texts; obtain rfl := cinj u4 e_sizes; exact TX9⟩), fun fpw fqw ftw fzw w1 w2 w3 w4 => by obtain rfl := cinj w1 e_prepared; obtain rfl := cinj w2 e_preparedSize; obtain rfl := cinj w3 e_texts; obtain rfl := cinj w4 e_sizes; exact ⟨_, _, et9, ez9, Or.inr ⟨⟨_, e9, g_63⟩, rN, hr24, by rw [nI_1], TX9⟩⟩⟩
  · skip
    refine s_Model_insert_35 ?_
    refine s_Model_insert_40 ?_
    refine x_callV (As := [.int 1, .int 1]) (b := m) (rest := []) (F1 := 1) (L1 := 20) (mc := 0) (ms := 0) d_Model_insert_41 cV_Model_139 (f_fails1 (c := 1) l_21 e_2 g_22 (by decide) (by omega) (by omega)) e_2 ⟨by decide, rfl⟩ ⟨by omega, by show 8 + (3 + 11) + 20 ≤ _; omega⟩ ⟨by omega, by omega⟩ (Nat.le_of_ble_eq_true rfl) (fun v_91 h_90 p_92 => ?_)
    obtain ⟨rfl, fs_84, l_85, e_86, g_88, ga_87, fr_89⟩ := p_92
    have g_93 : fs_84[1]? = some (.int (nI mo)) := (ga_87 1 (by decide)).trans g_23
    have g_94 : fs_84[2]? = some (.int li) := (ga_87 2 (by decide)).trans g_24
    have g_95 : fs_84[5]? = some (.ref prepared_) := (ga_87 5 (by decide)).trans g_25
    have g_96 : fs_84[6]? = some (.ref preparedSize_) := (ga_87 6 (by decide)).trans g_26
    have g_97 : fs_84[7]? = some (.ref texts_) := (ga_87 7 (by decide)).trans g_27
    have g_98 : fs_84[8]? = some (.ref sizes_) := (ga_87 8 (by decide)).trans g_28
    have g_99 : fs_84[12]? = some (.ref entries_) := (ga_87 12 (by decide)).trans g_29
    have g_100 : fs_84[13]? = some (.ref lies_) := (ga_87 13 (by decide)).trans g_30
    have g_101 : fs_84[14]? = some (.ref live_) := (ga_87 14 (by decide)).trans g_31
    have g_102 : fs_84[15]? = some (.int (nI vs)) := (ga_87 15 (by decide)).trans g_32
    have g_103 : fs_84[16]? = some (.int (nI md)) := (ga_87 16 (by decide)).trans g_33
    have g_104 : fs_84[17]? = some (.ref row_) := (ga_87 17 (by decide)).trans g_34
    have g_105 : fs_84[18]? = some (.ref level_) := (ga_87 18 (by decide)).trans g_35
    have g_106 : fs_84[19]? = some (.int (nI sg)) := (ga_87 19 (by decide)).trans g_36
    have g_107 : fs_84[20]? = some (.int (nI op)) := (ga_87 20 (by decide)).trans g_37
    have g_108 : fs_84[23]? = some (.ref oldLies_) := (ga_87 23 (by decide)).trans g_38
    have g_109 : fs_84[24]? = some (.ref oldLive_) := (ga_87 24 (by decide)).trans g_39
    have g_110 : fs_84[25]? = some (.ref oldRow_) := (ga_87 25 (by decide)).trans g_40
    have g_111 : fs_84[26]? = some (.int (nI ov)) := (ga_87 26 (by decide)).trans g_41
    have g_112 : fs_84[27]? = some (.int (nI os)) := (ga_87 27 (by decide)).trans g_42
    have g_113 : fs_84[53]? = some (.ref begins_) := (ga_87 53 (by decide)).trans g_43
    have g_114 : fs_84[54]? = some (.ref lasts_) := (ga_87 54 (by decide)).trans g_44
    have g_115 : fs_84[55]? = some (.int cl) := (ga_87 55 (by decide)).trans g_45
    have e_116 := fr_89 prepared_ _ (by simp only [List.mem_cons, List.not_mem_nil, or_false, not_or]; exact (nd_ne ND (i := 3) (j := 0) rfl rfl (by decide))) e_4
    have e_117 := fr_89 preparedSize_ _ (by simp only [List.mem_cons, List.not_mem_nil, or_false, not_or]; exact (nd_ne ND (i := 4) (j := 0) rfl rfl (by decide))) e_5
    have e_118 := fr_89 texts_ _ (by simp only [List.mem_cons, List.not_mem_nil, or_false, not_or]; exact (nd_ne ND (i := 5) (j := 0) rfl rfl (by decide))) e_6
    have e_119 := fr_89 sizes_ _ (by simp only [List.mem_cons, List.not_mem_nil, or_false, not_or]; exact (nd_ne ND (i := 6) (j := 0) rfl rfl (by decide))) e_7
    have e_120 := fr_89 entries_ _ (by simp only [List.mem_cons, List.not_mem_nil, or_false, not_or]; exact (nd_ne ND (i := 8) (j := 0) rfl rfl (by decide))) e_8
    have e_121 := fr_89 lies_ _ (by simp only [List.mem_cons, List.not_mem_nil, or_false, not_or]; exact (nd_ne ND (i := 9) (j := 0) rfl rfl (by decide))) e_9
    have e_122 := fr_89 live_ _ (by simp only [List.mem_cons, List.not_mem_nil, or_false, not_or]; exact (nd_ne ND (i := 10) (j := 0) rfl rfl (by decide))) e_10
    have e_123 := fr_89 row_ _ (by simp only [List.mem_cons, List.not_mem_nil, or_false, not_or]; exact (nd_ne ND (i := 11) (j := 0) rfl rfl (by decide))) e_11
    have e_124 := fr_89 level_ _ (by simp only [List.mem_cons, List.not_mem_nil, or_false, not_or]; exact (nd_ne ND (i := 12) (j := 0) rfl rfl (by decide))) e_12
    have e_125 := fr_89 oldLies_ _ (by simp only [List.mem_cons, List.not_mem_nil, or_false, not_or]; exact (nd_ne ND (i := 15) (j := 0) rfl rfl (by decide))) e_13
    have e_126 := fr_89 oldLive_ _ (by simp only [List.mem_cons, List.not_mem_nil, or_false, not_or]; exact (nd_ne ND (i := 16) (j := 0) rfl rfl (by decide))) e_14
    have e_127 := fr_89 oldRow_ _ (by simp only [List.mem_cons, List.not_mem_nil, or_false, not_or]; exact (nd_ne ND (i := 17) (j := 0) rfl rfl (by decide))) e_15
    have e_128 := fr_89 begins_ _ (by simp only [List.mem_cons, List.not_mem_nil, or_false, not_or]; exact (nd_ne ND (i := 30) (j := 0) rfl rfl (by decide))) e_16
    have e_129 := fr_89 lasts_ _ (by simp only [List.mem_cons, List.not_mem_nil, or_false, not_or]; exact (nd_ne ND (i := 31) (j := 0) rfl rfl (by decide))) e_17
    have ga_130 : ∀ i, i ∉ [0, 15, 16, 19, 55] → fs_84[i]? = fs[i]? := fun i hi => (ga_87 i (fun z => hi (by simp only [List.mem_cons, List.not_mem_nil, or_false] at z ⊢; omega))).trans (ga_46 i hi)
    have r_131 := r_18.trans (fr_89.mono (by simp))
    refine s_Model_insert_44 (fun z => absurd z (by decide)) (fun z_132 => ?_)
    refine s_Model_insert_47 ?_
    exact ⟨⟨_, rfl⟩, ⟨_, l_85, e_86, ⟨_, g_88⟩, (KDr.fr ga_130 r_131 (by decide) (pick_dis ND (l := [m, draft_, asked_, prepared_, preparedSize_, texts_, sizes_, weights_, entries_, lies_, live_, row_, level_, oldTexts_, oldSizes_, oldLies_, oldLive_, oldRow_, firstToken_, starred_, tokenAt_, tokenSize_, groupKind_, groupPhrase_, groupSize_, groupMask_, groupFar_, out_, top_, masks_, begins_, lasts_, truth_, answers_, order_, scores_]) (is := [1]) (js := [0, 5, 6, 30, 31, 8, 9, 10, 11, 12]) (by decide))), (KPr.fr ga_130 r_131 (by decide) (pick_dis ND (l := [m, draft_, asked_, prepared_, preparedSize_, texts_, sizes_, weights_, entries_, lies_, live_, row_, level_, oldTexts_, oldSizes_, oldLies_, oldLive_, oldRow_, firstToken_, starred_, tokenAt_, tokenSize_, groupKind_, groupPhrase_, groupSize_, groupMask_, groupFar_, out_, top_, masks_, begins_, lasts_, truth_, answers_, order_, scores_]) (is := [3, 4]) (js := [0, 5, 6, 30, 31, 8, 9, 10, 11, 12]) (by decide))), ⟨_, _, g_97, e_118, g_98, e_119, hSZ⟩, (KOt.fr ga_130 r_131 (by decide) (pick_dis ND (l := [m, draft_, asked_, prepared_, preparedSize_, texts_, sizes_, weights_, entries_, lies_, live_, row_, level_, oldTexts_, oldSizes_, oldLies_, oldLive_, oldRow_, firstToken_, starred_, tokenAt_, tokenSize_, groupKind_, groupPhrase_, groupSize_, groupMask_, groupFar_, out_, top_, masks_, begins_, lasts_, truth_, answers_, order_, scores_]) (is := [13, 14]) (js := [0, 5, 6, 30, 31, 8, 9, 10, 11, 12]) (by decide))), ⟨vs, md, sg, op, ov, os, _, _, _, _, _, _, _, _, g_102, g_103, g_106, g_107, g_111, g_112, g_99, e_120, g_100, e_121, g_101, e_122, g_104, e_123, g_105, e_124, g_108, e_125, g_109, e_126, g_110, e_127, by omega, by omega, by omega, by omega, by omega, hLI, hRO, hLV, hOI, hOR, hOV, by omega⟩, (KMo.fr ga_130 r_131 (by decide) (fun _ z => nomatch z)), (KWe.fr ga_130 r_131 (by decide) (pick_dis ND (l := [m, draft_, asked_, prepared_, preparedSize_, texts_, sizes_, weights_, entries_, lies_, live_, row_, level_, oldTexts_, oldSizes_, oldLies_, oldLive_, oldRow_, firstToken_, starred_, tokenAt_, tokenSize_, groupKind_, groupPhrase_, groupSize_, groupMask_, groupFar_, out_, top_, masks_, begins_, lasts_, truth_, answers_, order_, scores_]) (is := [7]) (js := [0, 5, 6, 30, 31, 8, 9, 10, 11, 12]) (by decide))), ⟨_, _, _, g_115, g_113, e_128, g_114, e_129⟩, (KAn.fr ga_130 r_131 (by decide) (pick_dis ND (l := [m, draft_, asked_, prepared_, preparedSize_, texts_, sizes_, weights_, entries_, lies_, live_, row_, level_, oldTexts_, oldSizes_, oldLies_, oldLive_, oldRow_, firstToken_, starred_, tokenAt_, tokenSize_, groupKind_, groupPhrase_, groupSize_, groupMask_, groupFar_, out_, top_, masks_, begins_, lasts_, truth_, answers_, order_, scores_]) (is := [33, 34, 35]) (js := [0, 5, 6, 30, 31, 8, 9, 10, 11, 12]) (by decide))), (KQu.fr ga_130 r_131 (by decide) (pick_dis ND (l := [m, draft_, asked_, prepared_, preparedSize_, texts_, sizes_, weights_, entries_, lies_, live_, row_, level_, oldTexts_, oldSizes_, oldLies_, oldLive_, oldRow_, firstToken_, starred_, tokenAt_, tokenSize_, groupKind_, groupPhrase_, groupSize_, groupMask_, groupFar_, out_, top_, masks_, begins_, lasts_, truth_, answers_, order_, scores_]) (is := [2, 18, 19, 20, 21, 22, 23, 24, 25, 26, 27, 28, 29, 32]) (js := [0, 5, 6, 30, 31, 8, 9, 10, 11, 12]) (by decide)))⟩, r_131.mono (by simp), r_131, FF.of e e_86 ga_130, (fun fvw ew => by obtain rfl := cinj ew e_live; exact Or.inr ⟨fun j hj => hlo j (by have q := (nI_eq (a := rN) (b := 24) (by omega) (by decide)).mp z_48; omega), ⟨_, e_86, g_88⟩, e_122⟩), (fun few fvw ftw fzw w1 w2 w3 w4 => by obtain rfl := cinj w1 e_entries; obtain rfl := cinj w2 e_live; obtain rfl := cinj w3 e_118; obtain rfl := cinj w4 e_119; exact Or.inl ⟨⟨_, e_86, g_88⟩, e_120, e_122⟩), fun fpw fqw ftw fzw w1 w2 w3 w4 => by obtain rfl := cinj w1 e_prepared; obtain rfl := cinj w2 e_preparedSize; obtain rfl := cinj w3 e_texts; obtain rfl := cinj w4 e_sizes; exact ⟨_, _, e_118, e_119, Or.inl ⟨⟨_, e_86, g_88⟩, rfl, rfl⟩⟩⟩
set_option maxHeartbeats 2000000 in
theorem r_replace {G : xw_G} {F L : Nat} {h : xw_A} {x : Int32} {m draft_ asked_ prepared_ preparedSize_ texts_ sizes_ weights_ entries_ lies_ live_ row_ level_ oldTexts_ oldSizes_ oldLies_ oldLive_ oldRow_ firstToken_ starred_ tokenAt_ tokenSize_ groupKind_ groupPhrase_ groupSize_ groupMask_ groupFar_ out_ top_ masks_ begins_ lasts_ truth_ answers_ order_ scores_ T : Nat} (R : RI m draft_ asked_ prepared_ preparedSize_ texts_ sizes_ weights_ entries_ lies_ live_ row_ level_ oldTexts_ oldSizes_ oldLies_ oldLive_ oldRow_ firstToken_ starred_ tokenAt_ tokenSize_ groupKind_ groupPhrase_ groupSize_ groupMask_ groupFar_ out_ top_ masks_ begins_ lasts_ truth_ answers_ order_ scores_ T h) (ND : NDl [m, draft_, asked_, prepared_, preparedSize_, texts_, sizes_, weights_, entries_, lies_, live_, row_, level_, oldTexts_, oldSizes_, oldLies_, oldLive_, oldRow_, firstToken_, starred_, tokenAt_, tokenSize_, groupKind_, groupPhrase_, groupSize_, groupMask_, groupFar_, out_, top_, masks_, begins_, lasts_, truth_, answers_, order_, scores_]) (hT : T < 512) (hF : 6 ≤ F) (hL : 136 ≤ L) :
    xw_Met G m_Model_replace F L 0 0 [.ref m, .int x] h (fun v h' => (∃ y : Int32, v = some (.int y)) ∧ RI m draft_ asked_ prepared_ preparedSize_ texts_ sizes_ weights_ entries_ lies_ live_ row_ level_ oldTexts_ oldSizes_ oldLies_ oldLive_ oldRow_ firstToken_ starred_ tokenAt_ tokenSize_ groupKind_ groupPhrase_ groupSize_ groupMask_ groupFar_ out_ top_ masks_ begins_ lasts_ truth_ answers_ order_ scores_ (T + 1) h' ∧ FrO [m, draft_, asked_, prepared_, preparedSize_, texts_, sizes_, weights_, entries_, lies_, live_, row_, level_, oldTexts_, oldSizes_, oldLies_, oldLive_, oldRow_, firstToken_, starred_, tokenAt_, tokenSize_, groupKind_, groupPhrase_, groupSize_, groupMask_, groupFar_, out_, top_, masks_, begins_, lasts_, truth_, answers_, order_, scores_] h h' ∧ FrO [m, texts_, sizes_, begins_, lasts_, entries_, lies_, live_, row_, level_] h h' ∧ FF m [0, 15, 16, 19, 55] h h' ∧ (∀ fv : Nat → Int32, h live_ = some (.inl (0, 24, .inl fv)) → ((∃ j vs : Nat, j < 24 ∧ vs < 600 ∧ x = nI (j + 1) ∧ ¬ fv j < 0 ∧ Rf m 0 (.int 0) h' ∧ h' live_ = some (.inl (0, 24, .inl (upd fv j (nI vs))))) ∨ ((∀ j, j < 24 → x = nI (j + 1) → fv j < 0) ∧ Rf m 0 (.int 1) h' ∧ h' live_ = some (.inl (0, 24, .inl fv))))) ∧ (∀ fe fv ft' fz' : Nat → Int32, h entries_ = some (.inl (0, 600, .inl fe)) → h live_ = some (.inl (0, 24, .inl fv)) → h' texts_ = some (.inl (0, 2304, .inl ft')) → h' sizes_ = some (.inl (0, 48, .inl fz')) → (Rf m 0 (.int 1) h' ∧ h' entries_ = some (.inl (0, 600, .inl fe)) ∧ h' live_ = some (.inl (0, 24, .inl fv))) ∨ (Rf m 0 (.int 0) h' ∧ ∃ r vs y : Nat, r < 24 ∧ (x = nI (r + 1) ∧ v = some (.int (nI y))) ∧ vs < 600 ∧ h' live_ = some (.inl (0, 24, .inl (upd fv r (nI vs)))) ∧ h' entries_ = some (.inl (0, 600, .inl (upd fe vs (nI y)))) ∧ y = tkS2 ft' fz' r 2 ∧ (∀ j, j < 24 → ¬ fv j = nI vs) ∧ (∀ fov : Nat → Int32, h oldLive_ = some (.inl (0, 24, .inl fov)) → Rf m 20 (.int (nI 1)) h → ∀ j, j < 24 → ¬ fov j = nI vs) ∧ ∀ fp fq ft fz : Nat → Int32, h prepared_ = some (.inl (0, 96, .inl fp)) → h preparedSize_ = some (.inl (0, 2, .inl fq)) → h texts_ = some (.inl (0, 2304, .inl ft)) → h sizes_ = some (.inl (0, 48, .inl fz)) → TxG fp fq ft fz r ft' fz')) ∧ (∀ fp fq ft fz : Nat → Int32, h prepared_ = some (.inl (0, 96, .inl fp)) → h preparedSize_ = some (.inl (0, 2, .inl fq)) → h texts_ = some (.inl (0, 2304, .inl ft)) → h sizes_ = some (.inl (0, 48, .inl fz)) → ∃ ft' fz' : Nat → Int32, h' texts_ = some (.inl (0, 2304, .inl ft')) ∧ h' sizes_ = some (.inl (0, 48, .inl fz')) ∧ ((Rf m 0 (.int 1) h' ∧ ft' = ft ∧ fz' = fz) ∨ (Rf m 0 (.int 0) h' ∧ ∃ r, r < 24 ∧ x = nI (r + 1) ∧ TxG fp fq ft fz r ft' fz')))) (fun _ _ => False) := by
  refine xw_Met.of rfl (by decide) (Nat.le_of_ble_eq_true rfl) ?_
  obtain ⟨fs, l, e, ⟨er, g_err⟩, KDr, KPr, KTx, KOt, KSt, KMo, KWe, KBe, KAn, KQu⟩ := R
  obtain ⟨fp, fq, g_prepared, e_prepared, g_preparedSize, e_preparedSize, hps⟩ := id KPr
  obtain ⟨ft, fz, g_texts, e_texts, g_sizes, e_sizes, hSZ⟩ := id KTx
  obtain ⟨vs, md, sg, op, ov, os, fe, fi, fv, fr, fL, foi, fov, fow, g_versions, g_made, g_segments, g_open, g_oldVersions, g_oldSegments, g_entries, e_entries, g_lies, e_lies, g_live, e_live, g_row, e_row, g_level, e_level, g_oldLies, e_oldLies, g_oldLive, e_oldLive, g_oldRow, e_oldRow, hvs, hsg, hop, hov, hos, hLI, hRO, hLV, hOI, hOR, hOV, hpot⟩ := id KSt
  obtain ⟨mo, li, g_most, g_limit, hmo⟩ := id KMo
  obtain ⟨cl, fb, fl, g_column, g_begins, e_begins, g_lasts, e_lasts⟩ := id KBe
  have ga0 : ∀ i, i ∉ [0, 15, 16, 19, 55] → fs[i]? = fs[i]? := fun _ _ => rfl
  have r0 : FrO [m, texts_, sizes_, begins_, lasts_, entries_, lies_, live_, row_, level_] h h := FrO.rf
  refine s_Model_replace_0 l e ?_
  refine x_u1 (fun h_1 e_2 f_3 => ?_)
  have e_4 := (f_3 prepared_ (nd_ne ND (i := 3) (j := 0) rfl rfl (by decide))).trans e_prepared
  have e_5 := (f_3 preparedSize_ (nd_ne ND (i := 4) (j := 0) rfl rfl (by decide))).trans e_preparedSize
  have e_6 := (f_3 texts_ (nd_ne ND (i := 5) (j := 0) rfl rfl (by decide))).trans e_texts
  have e_7 := (f_3 sizes_ (nd_ne ND (i := 6) (j := 0) rfl rfl (by decide))).trans e_sizes
  have e_8 := (f_3 entries_ (nd_ne ND (i := 8) (j := 0) rfl rfl (by decide))).trans e_entries
  have e_9 := (f_3 lies_ (nd_ne ND (i := 9) (j := 0) rfl rfl (by decide))).trans e_lies
  have e_10 := (f_3 live_ (nd_ne ND (i := 10) (j := 0) rfl rfl (by decide))).trans e_live
  have e_11 := (f_3 row_ (nd_ne ND (i := 11) (j := 0) rfl rfl (by decide))).trans e_row
  have e_12 := (f_3 level_ (nd_ne ND (i := 12) (j := 0) rfl rfl (by decide))).trans e_level
  have e_13 := (f_3 oldLies_ (nd_ne ND (i := 15) (j := 0) rfl rfl (by decide))).trans e_oldLies
  have e_14 := (f_3 oldLive_ (nd_ne ND (i := 16) (j := 0) rfl rfl (by decide))).trans e_oldLive
  have e_15 := (f_3 oldRow_ (nd_ne ND (i := 17) (j := 0) rfl rfl (by decide))).trans e_oldRow
  have e_16 := (f_3 begins_ (nd_ne ND (i := 30) (j := 0) rfl rfl (by decide))).trans e_begins
  have e_17 := (f_3 lasts_ (nd_ne ND (i := 31) (j := 0) rfl rfl (by decide))).trans e_lasts
  have r_18 := r0.up (by simp) f_3
  obtain ⟨fs_19, z_20⟩ : ∃ z, z = fs.set 0 (.int 0) := ⟨_, rfl⟩
  rw [← z_20] at e_2
  have l_21 : fs_19.length = 62 := by rw [z_20]; simp only [List.length_set]; exact l
  have g_22 : fs_19[0]? = some (.int 0) := by rw [z_20]; exact (xw_gs (by simp [l]))
  have g_23 : fs_19[1]? = some (.int (nI mo)) := by rw [z_20]; exact (xw_gn (by decide) g_most)
  have g_24 : fs_19[2]? = some (.int li) := by rw [z_20]; exact (xw_gn (by decide) g_limit)
  have g_25 : fs_19[5]? = some (.ref prepared_) := by rw [z_20]; exact (xw_gn (by decide) g_prepared)
  have g_26 : fs_19[6]? = some (.ref preparedSize_) := by rw [z_20]; exact (xw_gn (by decide) g_preparedSize)
  have g_27 : fs_19[7]? = some (.ref texts_) := by rw [z_20]; exact (xw_gn (by decide) g_texts)
  have g_28 : fs_19[8]? = some (.ref sizes_) := by rw [z_20]; exact (xw_gn (by decide) g_sizes)
  have g_29 : fs_19[12]? = some (.ref entries_) := by rw [z_20]; exact (xw_gn (by decide) g_entries)
  have g_30 : fs_19[13]? = some (.ref lies_) := by rw [z_20]; exact (xw_gn (by decide) g_lies)
  have g_31 : fs_19[14]? = some (.ref live_) := by rw [z_20]; exact (xw_gn (by decide) g_live)
  have g_32 : fs_19[15]? = some (.int (nI vs)) := by rw [z_20]; exact (xw_gn (by decide) g_versions)
  have g_33 : fs_19[16]? = some (.int (nI md)) := by rw [z_20]; exact (xw_gn (by decide) g_made)
  have g_34 : fs_19[17]? = some (.ref row_) := by rw [z_20]; exact (xw_gn (by decide) g_row)
  have g_35 : fs_19[18]? = some (.ref level_) := by rw [z_20]; exact (xw_gn (by decide) g_level)
  have g_36 : fs_19[19]? = some (.int (nI sg)) := by rw [z_20]; exact (xw_gn (by decide) g_segments)
  have g_37 : fs_19[20]? = some (.int (nI op)) := by rw [z_20]; exact (xw_gn (by decide) g_open)
  have g_38 : fs_19[23]? = some (.ref oldLies_) := by rw [z_20]; exact (xw_gn (by decide) g_oldLies)
  have g_39 : fs_19[24]? = some (.ref oldLive_) := by rw [z_20]; exact (xw_gn (by decide) g_oldLive)
  have g_40 : fs_19[25]? = some (.ref oldRow_) := by rw [z_20]; exact (xw_gn (by decide) g_oldRow)
  have g_41 : fs_19[26]? = some (.int (nI ov)) := by rw [z_20]; exact (xw_gn (by decide) g_oldVersions)
  have g_42 : fs_19[27]? = some (.int (nI os)) := by rw [z_20]; exact (xw_gn (by decide) g_oldSegments)
  have g_43 : fs_19[53]? = some (.ref begins_) := by rw [z_20]; exact (xw_gn (by decide) g_begins)
  have g_44 : fs_19[54]? = some (.ref lasts_) := by rw [z_20]; exact (xw_gn (by decide) g_lasts)
  have g_45 : fs_19[55]? = some (.int cl) := by rw [z_20]; exact (xw_gn (by decide) g_column)
  have ga_46 : ∀ i, i ∉ [0, 15, 16, 19, 55] → fs_19[i]? = fs[i]? := fun i hi => by rw [z_20]; exact xw_gn (fun z => hi (by rw [z]; simp)) (ga0 i hi)
  clear z_20
  refine x_callV (As := [.int x]) (b := m) (rest := [.ref m]) (F1 := 2) (L1 := 42) (mc := 0) (ms := 0) d_Model_replace_8 cV_Model_181 (f_has l_21 e_2 g_31 e_10 (by omega) (by omega)) e_2 ⟨by decide, rfl⟩ ⟨by omega, by show 8 + (2 + 11) + 42 ≤ _; omega⟩ ⟨by omega, by omega⟩ (Nat.le_of_ble_eq_true rfl) (fun v_50 h_49 p_51 => ?_)
  obtain ⟨⟨y_47, rfl, hy_48⟩, rfl⟩ := p_51
  refine s_Model_replace_11 (fun z_52 => ?_) (fun z_53 => ?_)
  · skip
    refine s_Model_replace_18 ?_
    refine s_Model_replace_19 ?_
    refine x_callV (As := [.int 0, .int 1]) (b := m) (rest := []) (F1 := 1) (L1 := 20) (mc := 0) (ms := 0) d_Model_replace_20 cV_Model_139 (f_fails0 l_21 e_2 g_22 (by omega) (by omega)) e_2 ⟨by decide, rfl⟩ ⟨by omega, by show 8 + (3 + 11) + 20 ≤ _; omega⟩ ⟨by omega, by omega⟩ (Nat.le_of_ble_eq_true rfl) (fun v_55 h_54 p_56 => ?_)
    obtain ⟨rfl, rfl⟩ := p_56
    refine s_Model_replace_23 (fun z_57 => ?_) (fun z => absurd z (by decide))
    obtain ⟨jN, hjN, rfl, hlv⟩ : ∃ j, j < 24 ∧ x = nI (j + 1) ∧ ¬ fv j < 0 := (hy_48.resolve_left (fun q => z_52 q.1)).2
    refine s_Model_replace_30 ?_
    rw [nI_pred]
    refine x_callV (As := [.int (nI jN)]) (b := m) (rest := []) (F1 := 5) (L1 := 113) (mc := 0) (ms := 0) d_Model_replace_34 cV_Model_178 (f_gets (vs := vs) (r := jN) l_21 e_2 g_33 g_32 g_36 g_23 g_24 g_45 g_25 e_4 g_26 e_5 g_27 e_6 g_28 e_7 g_29 e_8 g_30 e_9 g_31 e_10 g_34 e_11 g_35 e_12 g_43 e_16 g_44 e_17 (nd_ne ND (i := 8) (j := 9) rfl rfl (by decide)) (nd_ne ND (i := 8) (j := 11) rfl rfl (by decide)) (nd_ne ND (i := 9) (j := 11) rfl rfl (by decide)) (nd_ne ND (i := 10) (j := 30) rfl rfl (by decide)) (nd_ne ND (i := 10) (j := 31) rfl rfl (by decide)) (nd_ne ND (i := 30) (j := 31) rfl rfl (by decide)) (by omega) (by omega) (by omega) (by omega) hmo hps hSZ hLI hRO (by omega) (by omega)) e_2 ⟨by decide, rfl⟩ ⟨by omega, by show 8 + (4 + 11) + 113 ≤ _; omega⟩ ⟨by omega, by omega⟩ (Nat.le_of_ble_eq_true rfl) (fun v_60 h_59 p_61 => ?_)
    obtain ⟨⟨y_58, rfl⟩, md9, sg9, cl9, fs9, ft9, fz9, fb9, fl9, fe9, fi9, fr9, fL9, hm1, hm2, hs1, hpot9, l9, e9, gv9, gm9, gs9, gc9, ga9, et9, ez9, eb9, el9, ee9, ei9, ev9, er9, eL9, SZ9, TX9, LI9, RO9, FL9, HE9, r9⟩ := p_61
    have e_62 := r9 prepared_ _ (by simp only [List.mem_cons, List.not_mem_nil, or_false, not_or]; exact ⟨(nd_ne ND (i := 3) (j := 0) rfl rfl (by decide)), (nd_ne ND (i := 3) (j := 5) rfl rfl (by decide)), (nd_ne ND (i := 3) (j := 6) rfl rfl (by decide)), (nd_ne ND (i := 3) (j := 30) rfl rfl (by decide)), (nd_ne ND (i := 3) (j := 31) rfl rfl (by decide)), (nd_ne ND (i := 3) (j := 8) rfl rfl (by decide)), (nd_ne ND (i := 3) (j := 9) rfl rfl (by decide)), (nd_ne ND (i := 3) (j := 10) rfl rfl (by decide)), (nd_ne ND (i := 3) (j := 11) rfl rfl (by decide)), (nd_ne ND (i := 3) (j := 12) rfl rfl (by decide))⟩) e_4
    have e_63 := r9 preparedSize_ _ (by simp only [List.mem_cons, List.not_mem_nil, or_false, not_or]; exact ⟨(nd_ne ND (i := 4) (j := 0) rfl rfl (by decide)), (nd_ne ND (i := 4) (j := 5) rfl rfl (by decide)), (nd_ne ND (i := 4) (j := 6) rfl rfl (by decide)), (nd_ne ND (i := 4) (j := 30) rfl rfl (by decide)), (nd_ne ND (i := 4) (j := 31) rfl rfl (by decide)), (nd_ne ND (i := 4) (j := 8) rfl rfl (by decide)), (nd_ne ND (i := 4) (j := 9) rfl rfl (by decide)), (nd_ne ND (i := 4) (j := 10) rfl rfl (by decide)), (nd_ne ND (i := 4) (j := 11) rfl rfl (by decide)), (nd_ne ND (i := 4) (j := 12) rfl rfl (by decide))⟩) e_5
    have e_64 := r9 oldLies_ _ (by simp only [List.mem_cons, List.not_mem_nil, or_false, not_or]; exact ⟨(nd_ne ND (i := 15) (j := 0) rfl rfl (by decide)), (Ne.symm (nd_ne ND (i := 5) (j := 15) rfl rfl (by decide))), (Ne.symm (nd_ne ND (i := 6) (j := 15) rfl rfl (by decide))), (nd_ne ND (i := 15) (j := 30) rfl rfl (by decide)), (nd_ne ND (i := 15) (j := 31) rfl rfl (by decide)), (Ne.symm (nd_ne ND (i := 8) (j := 15) rfl rfl (by decide))), (Ne.symm (nd_ne ND (i := 9) (j := 15) rfl rfl (by decide))), (Ne.symm (nd_ne ND (i := 10) (j := 15) rfl rfl (by decide))), (Ne.symm (nd_ne ND (i := 11) (j := 15) rfl rfl (by decide))), (Ne.symm (nd_ne ND (i := 12) (j := 15) rfl rfl (by decide)))⟩) e_13
    have e_65 := r9 oldLive_ _ (by simp only [List.mem_cons, List.not_mem_nil, or_false, not_or]; exact ⟨(nd_ne ND (i := 16) (j := 0) rfl rfl (by decide)), (Ne.symm (nd_ne ND (i := 5) (j := 16) rfl rfl (by decide))), (Ne.symm (nd_ne ND (i := 6) (j := 16) rfl rfl (by decide))), (nd_ne ND (i := 16) (j := 30) rfl rfl (by decide)), (nd_ne ND (i := 16) (j := 31) rfl rfl (by decide)), (Ne.symm (nd_ne ND (i := 8) (j := 16) rfl rfl (by decide))), (Ne.symm (nd_ne ND (i := 9) (j := 16) rfl rfl (by decide))), (Ne.symm (nd_ne ND (i := 10) (j := 16) rfl rfl (by decide))), (Ne.symm (nd_ne ND (i := 11) (j := 16) rfl rfl (by decide))), (Ne.symm (nd_ne ND (i := 12) (j := 16) rfl rfl (by decide)))⟩) e_14
    have e_66 := r9 oldRow_ _ (by simp only [List.mem_cons, List.not_mem_nil, or_false, not_or]; exact ⟨(nd_ne ND (i := 17) (j := 0) rfl rfl (by decide)), (Ne.symm (nd_ne ND (i := 5) (j := 17) rfl rfl (by decide))), (Ne.symm (nd_ne ND (i := 6) (j := 17) rfl rfl (by decide))), (nd_ne ND (i := 17) (j := 30) rfl rfl (by decide)), (nd_ne ND (i := 17) (j := 31) rfl rfl (by decide)), (Ne.symm (nd_ne ND (i := 8) (j := 17) rfl rfl (by decide))), (Ne.symm (nd_ne ND (i := 9) (j := 17) rfl rfl (by decide))), (Ne.symm (nd_ne ND (i := 10) (j := 17) rfl rfl (by decide))), (Ne.symm (nd_ne ND (i := 11) (j := 17) rfl rfl (by decide))), (Ne.symm (nd_ne ND (i := 12) (j := 17) rfl rfl (by decide)))⟩) e_15
    have r_67 := r_18.trans (r9.mono (by simp))
    have g_68 : fs9[0]? = some (.int 0) := (ga9 0 (by decide)).trans g_22
    have g_69 : fs9[1]? = some (.int (nI mo)) := (ga9 1 (by decide)).trans g_23
    have g_70 : fs9[2]? = some (.int li) := (ga9 2 (by decide)).trans g_24
    have g_71 : fs9[5]? = some (.ref prepared_) := (ga9 5 (by decide)).trans g_25
    have g_72 : fs9[6]? = some (.ref preparedSize_) := (ga9 6 (by decide)).trans g_26
    have g_73 : fs9[7]? = some (.ref texts_) := (ga9 7 (by decide)).trans g_27
    have g_74 : fs9[8]? = some (.ref sizes_) := (ga9 8 (by decide)).trans g_28
    have g_75 : fs9[12]? = some (.ref entries_) := (ga9 12 (by decide)).trans g_29
    have g_76 : fs9[13]? = some (.ref lies_) := (ga9 13 (by decide)).trans g_30
    have g_77 : fs9[14]? = some (.ref live_) := (ga9 14 (by decide)).trans g_31
    have g_78 : fs9[17]? = some (.ref row_) := (ga9 17 (by decide)).trans g_34
    have g_79 : fs9[18]? = some (.ref level_) := (ga9 18 (by decide)).trans g_35
    have g_80 : fs9[20]? = some (.int (nI op)) := (ga9 20 (by decide)).trans g_37
    have g_81 : fs9[23]? = some (.ref oldLies_) := (ga9 23 (by decide)).trans g_38
    have g_82 : fs9[24]? = some (.ref oldLive_) := (ga9 24 (by decide)).trans g_39
    have g_83 : fs9[25]? = some (.ref oldRow_) := (ga9 25 (by decide)).trans g_40
    have g_84 : fs9[26]? = some (.int (nI ov)) := (ga9 26 (by decide)).trans g_41
    have g_85 : fs9[27]? = some (.int (nI os)) := (ga9 27 (by decide)).trans g_42
    have g_86 : fs9[53]? = some (.ref begins_) := (ga9 53 (by decide)).trans g_43
    have g_87 : fs9[54]? = some (.ref lasts_) := (ga9 54 (by decide)).trans g_44
    have ga_88 : ∀ i, i ∉ [0, 15, 16, 19, 55] → fs9[i]? = fs[i]? := fun i hi => (ga9 i (fun z => hi (by simp only [List.mem_cons, List.not_mem_nil, or_false] at z ⊢; omega))).trans (ga_46 i hi)
    refine x_le (xw_le_n (xw_le_n xw_le_e)) ?_
    refine s_Model_replace_37 ?_
    exact ⟨⟨_, rfl⟩, ⟨_, l9, e9, ⟨_, g_68⟩, (KDr.fr ga_88 r_67 (by decide) (pick_dis ND (l := [m, draft_, asked_, prepared_, preparedSize_, texts_, sizes_, weights_, entries_, lies_, live_, row_, level_, oldTexts_, oldSizes_, oldLies_, oldLive_, oldRow_, firstToken_, starred_, tokenAt_, tokenSize_, groupKind_, groupPhrase_, groupSize_, groupMask_, groupFar_, out_, top_, masks_, begins_, lasts_, truth_, answers_, order_, scores_]) (is := [1]) (js := [0, 5, 6, 30, 31, 8, 9, 10, 11, 12]) (by decide))), (KPr.fr ga_88 r_67 (by decide) (pick_dis ND (l := [m, draft_, asked_, prepared_, preparedSize_, texts_, sizes_, weights_, entries_, lies_, live_, row_, level_, oldTexts_, oldSizes_, oldLies_, oldLive_, oldRow_, firstToken_, starred_, tokenAt_, tokenSize_, groupKind_, groupPhrase_, groupSize_, groupMask_, groupFar_, out_, top_, masks_, begins_, lasts_, truth_, answers_, order_, scores_]) (is := [3, 4]) (js := [0, 5, 6, 30, 31, 8, 9, 10, 11, 12]) (by decide))), ⟨_, _, g_73, et9, g_74, ez9, SZ9⟩, (KOt.fr ga_88 r_67 (by decide) (pick_dis ND (l := [m, draft_, asked_, prepared_, preparedSize_, texts_, sizes_, weights_, entries_, lies_, live_, row_, level_, oldTexts_, oldSizes_, oldLies_, oldLive_, oldRow_, firstToken_, starred_, tokenAt_, tokenSize_, groupKind_, groupPhrase_, groupSize_, groupMask_, groupFar_, out_, top_, masks_, begins_, lasts_, truth_, answers_, order_, scores_]) (is := [13, 14]) (js := [0, 5, 6, 30, 31, 8, 9, 10, 11, 12]) (by decide))), ⟨(vs + 1), md9, sg9, op, ov, os, _, _, _, _, _, _, _, _, gv9, gm9, gs9, g_80, g_84, g_85, g_75, ee9, g_76, ei9, g_77, ev9, g_78, er9, g_79, eL9, g_81, e_64, g_82, e_65, g_83, e_66, by omega, by omega, by omega, by omega, by omega, LI9, RO9, fun r9_ hr9_ => by by_cases q : r9_ = jN; (subst q; rw [pk_us]; exact Or.inr ⟨vs, Nat.lt_succ_self _, rfl⟩); (rw [pk_un q]; exact (hLV r9_ hr9_).imp id (fun ⟨v, a, b⟩ => ⟨v, by omega, b⟩)), fun v hv => (hOI v hv).imp id (fun ⟨s, a, b⟩ => ⟨s, Nat.lt_of_lt_of_le a hm1, b⟩), fun k hk => (hOR k hk).imp (fun s q => ⟨Nat.lt_of_lt_of_le q.1 hm1, q.2⟩), fun q r hr => (hOV q r hr).imp id (fun ⟨v, a, b⟩ => ⟨v, Nat.lt_of_lt_of_le a (Nat.le_succ vs), b⟩), by omega⟩, (KMo.fr ga_88 r_67 (by decide) (fun _ z => nomatch z)), (KWe.fr ga_88 r_67 (by decide) (pick_dis ND (l := [m, draft_, asked_, prepared_, preparedSize_, texts_, sizes_, weights_, entries_, lies_, live_, row_, level_, oldTexts_, oldSizes_, oldLies_, oldLive_, oldRow_, firstToken_, starred_, tokenAt_, tokenSize_, groupKind_, groupPhrase_, groupSize_, groupMask_, groupFar_, out_, top_, masks_, begins_, lasts_, truth_, answers_, order_, scores_]) (is := [7]) (js := [0, 5, 6, 30, 31, 8, 9, 10, 11, 12]) (by decide))), ⟨_, _, _, gc9, g_86, eb9, g_87, el9⟩, (KAn.fr ga_88 r_67 (by decide) (pick_dis ND (l := [m, draft_, asked_, prepared_, preparedSize_, texts_, sizes_, weights_, entries_, lies_, live_, row_, level_, oldTexts_, oldSizes_, oldLies_, oldLive_, oldRow_, firstToken_, starred_, tokenAt_, tokenSize_, groupKind_, groupPhrase_, groupSize_, groupMask_, groupFar_, out_, top_, masks_, begins_, lasts_, truth_, answers_, order_, scores_]) (is := [33, 34, 35]) (js := [0, 5, 6, 30, 31, 8, 9, 10, 11, 12]) (by decide))), (KQu.fr ga_88 r_67 (by decide) (pick_dis ND (l := [m, draft_, asked_, prepared_, preparedSize_, texts_, sizes_, weights_, entries_, lies_, live_, row_, level_, oldTexts_, oldSizes_, oldLies_, oldLive_, oldRow_, firstToken_, starred_, tokenAt_, tokenSize_, groupKind_, groupPhrase_, groupSize_, groupMask_, groupFar_, out_, top_, masks_, begins_, lasts_, truth_, answers_, order_, scores_]) (is := [2, 18, 19, 20, 21, 22, 23, 24, 25, 26, 27, 28, 29, 32]) (js := [0, 5, 6, 30, 31, 8, 9, 10, 11, 12]) (by decide)))⟩, r_67.mono (by simp), r_67, FF.of e e9 ga_88, (fun fvw ew => by obtain rfl := cinj ew e_live; exact Or.inl ⟨jN, vs, hjN, by omega, rfl, hlv, ⟨_, e9, g_68⟩, ev9⟩), (fun few fvw ftw fzw w1 w2 w3 w4 => by obtain rfl := cinj w1 e_entries; obtain rfl := cinj w2 e_live; obtain rfl := cinj w3 et9; obtain rfl := cinj w4 ez9; obtain ⟨yE, hE1, hE2, hE3⟩ := HE9; exact Or.inr ⟨⟨_, e9, g_68⟩, jN, vs, yE, hjN, ⟨rfl, hE3⟩, by omega, ev9, by rw [← hE1]; exact ee9, hE2, fun j8 hj8 => lv_ne (hLV j8 hj8) (by omega), fun fow w5 K5 j8 hj8 => by obtain rfl := cinj w5 e_oldLive; exact lv_ne (hOV ((nI_eq (by omega) (by decide)).mp (Value.int.inj (Rf.inj ⟨_, e, g_open⟩ K5))) j8 hj8) (by omega), fun fp5 fq5 ft5 fz5 u1 u2 u3 u4 => by obtain rfl := cinj u1 e_prepared; obtain rfl := cinj u2 e_preparedSize; obtain rfl := cinj u3 e_texts; obtain rfl := cinj u4 e_sizes; exact TX9⟩), fun fpw fqw ftw fzw w1 w2 w3 w4 => by obtain rfl := cinj w1 e_prepared; obtain rfl := cinj w2 e_preparedSize; obtain rfl := cinj w3 e_texts; obtain rfl := cinj w4 e_sizes; exact ⟨_, _, et9, ez9, Or.inr ⟨⟨_, e9, g_68⟩, jN, hjN, rfl, TX9⟩⟩⟩
  · skip
    refine s_Model_replace_14 ?_
    refine s_Model_replace_19 ?_
    refine x_callV (As := [.int 1, .int 1]) (b := m) (rest := []) (F1 := 1) (L1 := 20) (mc := 0) (ms := 0) d_Model_replace_20 cV_Model_139 (f_fails1 (c := 1) l_21 e_2 g_22 (by decide) (by omega) (by omega)) e_2 ⟨by decide, rfl⟩ ⟨by omega, by show 8 + (3 + 11) + 20 ≤ _; omega⟩ ⟨by omega, by omega⟩ (Nat.le_of_ble_eq_true rfl) (fun v_96 h_95 p_97 => ?_)
    obtain ⟨rfl, fs_89, l_90, e_91, g_93, ga_92, fr_94⟩ := p_97
    have g_98 : fs_89[1]? = some (.int (nI mo)) := (ga_92 1 (by decide)).trans g_23
    have g_99 : fs_89[2]? = some (.int li) := (ga_92 2 (by decide)).trans g_24
    have g_100 : fs_89[5]? = some (.ref prepared_) := (ga_92 5 (by decide)).trans g_25
    have g_101 : fs_89[6]? = some (.ref preparedSize_) := (ga_92 6 (by decide)).trans g_26
    have g_102 : fs_89[7]? = some (.ref texts_) := (ga_92 7 (by decide)).trans g_27
    have g_103 : fs_89[8]? = some (.ref sizes_) := (ga_92 8 (by decide)).trans g_28
    have g_104 : fs_89[12]? = some (.ref entries_) := (ga_92 12 (by decide)).trans g_29
    have g_105 : fs_89[13]? = some (.ref lies_) := (ga_92 13 (by decide)).trans g_30
    have g_106 : fs_89[14]? = some (.ref live_) := (ga_92 14 (by decide)).trans g_31
    have g_107 : fs_89[15]? = some (.int (nI vs)) := (ga_92 15 (by decide)).trans g_32
    have g_108 : fs_89[16]? = some (.int (nI md)) := (ga_92 16 (by decide)).trans g_33
    have g_109 : fs_89[17]? = some (.ref row_) := (ga_92 17 (by decide)).trans g_34
    have g_110 : fs_89[18]? = some (.ref level_) := (ga_92 18 (by decide)).trans g_35
    have g_111 : fs_89[19]? = some (.int (nI sg)) := (ga_92 19 (by decide)).trans g_36
    have g_112 : fs_89[20]? = some (.int (nI op)) := (ga_92 20 (by decide)).trans g_37
    have g_113 : fs_89[23]? = some (.ref oldLies_) := (ga_92 23 (by decide)).trans g_38
    have g_114 : fs_89[24]? = some (.ref oldLive_) := (ga_92 24 (by decide)).trans g_39
    have g_115 : fs_89[25]? = some (.ref oldRow_) := (ga_92 25 (by decide)).trans g_40
    have g_116 : fs_89[26]? = some (.int (nI ov)) := (ga_92 26 (by decide)).trans g_41
    have g_117 : fs_89[27]? = some (.int (nI os)) := (ga_92 27 (by decide)).trans g_42
    have g_118 : fs_89[53]? = some (.ref begins_) := (ga_92 53 (by decide)).trans g_43
    have g_119 : fs_89[54]? = some (.ref lasts_) := (ga_92 54 (by decide)).trans g_44
    have g_120 : fs_89[55]? = some (.int cl) := (ga_92 55 (by decide)).trans g_45
    have e_121 := fr_94 prepared_ _ (by simp only [List.mem_cons, List.not_mem_nil, or_false, not_or]; exact (nd_ne ND (i := 3) (j := 0) rfl rfl (by decide))) e_4
    have e_122 := fr_94 preparedSize_ _ (by simp only [List.mem_cons, List.not_mem_nil, or_false, not_or]; exact (nd_ne ND (i := 4) (j := 0) rfl rfl (by decide))) e_5
    have e_123 := fr_94 texts_ _ (by simp only [List.mem_cons, List.not_mem_nil, or_false, not_or]; exact (nd_ne ND (i := 5) (j := 0) rfl rfl (by decide))) e_6
    have e_124 := fr_94 sizes_ _ (by simp only [List.mem_cons, List.not_mem_nil, or_false, not_or]; exact (nd_ne ND (i := 6) (j := 0) rfl rfl (by decide))) e_7
    have e_125 := fr_94 entries_ _ (by simp only [List.mem_cons, List.not_mem_nil, or_false, not_or]; exact (nd_ne ND (i := 8) (j := 0) rfl rfl (by decide))) e_8
    have e_126 := fr_94 lies_ _ (by simp only [List.mem_cons, List.not_mem_nil, or_false, not_or]; exact (nd_ne ND (i := 9) (j := 0) rfl rfl (by decide))) e_9
    have e_127 := fr_94 live_ _ (by simp only [List.mem_cons, List.not_mem_nil, or_false, not_or]; exact (nd_ne ND (i := 10) (j := 0) rfl rfl (by decide))) e_10
    have e_128 := fr_94 row_ _ (by simp only [List.mem_cons, List.not_mem_nil, or_false, not_or]; exact (nd_ne ND (i := 11) (j := 0) rfl rfl (by decide))) e_11
    have e_129 := fr_94 level_ _ (by simp only [List.mem_cons, List.not_mem_nil, or_false, not_or]; exact (nd_ne ND (i := 12) (j := 0) rfl rfl (by decide))) e_12
    have e_130 := fr_94 oldLies_ _ (by simp only [List.mem_cons, List.not_mem_nil, or_false, not_or]; exact (nd_ne ND (i := 15) (j := 0) rfl rfl (by decide))) e_13
    have e_131 := fr_94 oldLive_ _ (by simp only [List.mem_cons, List.not_mem_nil, or_false, not_or]; exact (nd_ne ND (i := 16) (j := 0) rfl rfl (by decide))) e_14
    have e_132 := fr_94 oldRow_ _ (by simp only [List.mem_cons, List.not_mem_nil, or_false, not_or]; exact (nd_ne ND (i := 17) (j := 0) rfl rfl (by decide))) e_15
    have e_133 := fr_94 begins_ _ (by simp only [List.mem_cons, List.not_mem_nil, or_false, not_or]; exact (nd_ne ND (i := 30) (j := 0) rfl rfl (by decide))) e_16
    have e_134 := fr_94 lasts_ _ (by simp only [List.mem_cons, List.not_mem_nil, or_false, not_or]; exact (nd_ne ND (i := 31) (j := 0) rfl rfl (by decide))) e_17
    have ga_135 : ∀ i, i ∉ [0, 15, 16, 19, 55] → fs_89[i]? = fs[i]? := fun i hi => (ga_92 i (fun z => hi (by simp only [List.mem_cons, List.not_mem_nil, or_false] at z ⊢; omega))).trans (ga_46 i hi)
    have r_136 := r_18.trans (fr_94.mono (by simp))
    refine s_Model_replace_23 (fun z => absurd z (by decide)) (fun z_137 => ?_)
    refine s_Model_replace_26 ?_
    refine s_Model_replace_37 ?_
    exact ⟨⟨_, rfl⟩, ⟨_, l_90, e_91, ⟨_, g_93⟩, (KDr.fr ga_135 r_136 (by decide) (pick_dis ND (l := [m, draft_, asked_, prepared_, preparedSize_, texts_, sizes_, weights_, entries_, lies_, live_, row_, level_, oldTexts_, oldSizes_, oldLies_, oldLive_, oldRow_, firstToken_, starred_, tokenAt_, tokenSize_, groupKind_, groupPhrase_, groupSize_, groupMask_, groupFar_, out_, top_, masks_, begins_, lasts_, truth_, answers_, order_, scores_]) (is := [1]) (js := [0, 5, 6, 30, 31, 8, 9, 10, 11, 12]) (by decide))), (KPr.fr ga_135 r_136 (by decide) (pick_dis ND (l := [m, draft_, asked_, prepared_, preparedSize_, texts_, sizes_, weights_, entries_, lies_, live_, row_, level_, oldTexts_, oldSizes_, oldLies_, oldLive_, oldRow_, firstToken_, starred_, tokenAt_, tokenSize_, groupKind_, groupPhrase_, groupSize_, groupMask_, groupFar_, out_, top_, masks_, begins_, lasts_, truth_, answers_, order_, scores_]) (is := [3, 4]) (js := [0, 5, 6, 30, 31, 8, 9, 10, 11, 12]) (by decide))), ⟨_, _, g_102, e_123, g_103, e_124, hSZ⟩, (KOt.fr ga_135 r_136 (by decide) (pick_dis ND (l := [m, draft_, asked_, prepared_, preparedSize_, texts_, sizes_, weights_, entries_, lies_, live_, row_, level_, oldTexts_, oldSizes_, oldLies_, oldLive_, oldRow_, firstToken_, starred_, tokenAt_, tokenSize_, groupKind_, groupPhrase_, groupSize_, groupMask_, groupFar_, out_, top_, masks_, begins_, lasts_, truth_, answers_, order_, scores_]) (is := [13, 14]) (js := [0, 5, 6, 30, 31, 8, 9, 10, 11, 12]) (by decide))), ⟨vs, md, sg, op, ov, os, _, _, _, _, _, _, _, _, g_107, g_108, g_111, g_112, g_116, g_117, g_104, e_125, g_105, e_126, g_106, e_127, g_109, e_128, g_110, e_129, g_113, e_130, g_114, e_131, g_115, e_132, by omega, by omega, by omega, by omega, by omega, hLI, hRO, hLV, hOI, hOR, hOV, by omega⟩, (KMo.fr ga_135 r_136 (by decide) (fun _ z => nomatch z)), (KWe.fr ga_135 r_136 (by decide) (pick_dis ND (l := [m, draft_, asked_, prepared_, preparedSize_, texts_, sizes_, weights_, entries_, lies_, live_, row_, level_, oldTexts_, oldSizes_, oldLies_, oldLive_, oldRow_, firstToken_, starred_, tokenAt_, tokenSize_, groupKind_, groupPhrase_, groupSize_, groupMask_, groupFar_, out_, top_, masks_, begins_, lasts_, truth_, answers_, order_, scores_]) (is := [7]) (js := [0, 5, 6, 30, 31, 8, 9, 10, 11, 12]) (by decide))), ⟨_, _, _, g_120, g_118, e_133, g_119, e_134⟩, (KAn.fr ga_135 r_136 (by decide) (pick_dis ND (l := [m, draft_, asked_, prepared_, preparedSize_, texts_, sizes_, weights_, entries_, lies_, live_, row_, level_, oldTexts_, oldSizes_, oldLies_, oldLive_, oldRow_, firstToken_, starred_, tokenAt_, tokenSize_, groupKind_, groupPhrase_, groupSize_, groupMask_, groupFar_, out_, top_, masks_, begins_, lasts_, truth_, answers_, order_, scores_]) (is := [33, 34, 35]) (js := [0, 5, 6, 30, 31, 8, 9, 10, 11, 12]) (by decide))), (KQu.fr ga_135 r_136 (by decide) (pick_dis ND (l := [m, draft_, asked_, prepared_, preparedSize_, texts_, sizes_, weights_, entries_, lies_, live_, row_, level_, oldTexts_, oldSizes_, oldLies_, oldLive_, oldRow_, firstToken_, starred_, tokenAt_, tokenSize_, groupKind_, groupPhrase_, groupSize_, groupMask_, groupFar_, out_, top_, masks_, begins_, lasts_, truth_, answers_, order_, scores_]) (is := [2, 18, 19, 20, 21, 22, 23, 24, 25, 26, 27, 28, 29, 32]) (js := [0, 5, 6, 30, 31, 8, 9, 10, 11, 12]) (by decide)))⟩, r_136.mono (by simp), r_136, FF.of e e_91 ga_135, (fun fvw ew => by obtain rfl := cinj ew e_live; exact Or.inr ⟨hy_48.elim (fun q => q.2) (fun q => absurd (q.1.symm.trans z_53) (by decide)), ⟨_, e_91, g_93⟩, e_127⟩), (fun few fvw ftw fzw w1 w2 w3 w4 => by obtain rfl := cinj w1 e_entries; obtain rfl := cinj w2 e_live; obtain rfl := cinj w3 e_123; obtain rfl := cinj w4 e_124; exact Or.inl ⟨⟨_, e_91, g_93⟩, e_125, e_127⟩), fun fpw fqw ftw fzw w1 w2 w3 w4 => by obtain rfl := cinj w1 e_prepared; obtain rfl := cinj w2 e_preparedSize; obtain rfl := cinj w3 e_texts; obtain rfl := cinj w4 e_sizes; exact ⟨_, _, e_123, e_124, Or.inl ⟨⟨_, e_91, g_93⟩, rfl, rfl⟩⟩⟩
set_option maxHeartbeats 2000000 in
theorem r_flush {G : xw_G} {F L : Nat} {h : xw_A}  {m draft_ asked_ prepared_ preparedSize_ texts_ sizes_ weights_ entries_ lies_ live_ row_ level_ oldTexts_ oldSizes_ oldLies_ oldLive_ oldRow_ firstToken_ starred_ tokenAt_ tokenSize_ groupKind_ groupPhrase_ groupSize_ groupMask_ groupFar_ out_ top_ masks_ begins_ lasts_ truth_ answers_ order_ scores_ T : Nat} (R : RI m draft_ asked_ prepared_ preparedSize_ texts_ sizes_ weights_ entries_ lies_ live_ row_ level_ oldTexts_ oldSizes_ oldLies_ oldLive_ oldRow_ firstToken_ starred_ tokenAt_ tokenSize_ groupKind_ groupPhrase_ groupSize_ groupMask_ groupFar_ out_ top_ masks_ begins_ lasts_ truth_ answers_ order_ scores_ T h) (ND : NDl [m, draft_, asked_, prepared_, preparedSize_, texts_, sizes_, weights_, entries_, lies_, live_, row_, level_, oldTexts_, oldSizes_, oldLies_, oldLive_, oldRow_, firstToken_, starred_, tokenAt_, tokenSize_, groupKind_, groupPhrase_, groupSize_, groupMask_, groupFar_, out_, top_, masks_, begins_, lasts_, truth_, answers_, order_, scores_]) (hT : T < 512) (hF : 4 ≤ F) (hL : 92 ≤ L) :
    xw_Met G m_Model_flush F L 0 0 [.ref m] h (fun v h' => (∃ y : Int32, v = some (.int y)) ∧ RI m draft_ asked_ prepared_ preparedSize_ texts_ sizes_ weights_ entries_ lies_ live_ row_ level_ oldTexts_ oldSizes_ oldLies_ oldLive_ oldRow_ firstToken_ starred_ tokenAt_ tokenSize_ groupKind_ groupPhrase_ groupSize_ groupMask_ groupFar_ out_ top_ masks_ begins_ lasts_ truth_ answers_ order_ scores_ (T + 1) h' ∧ FrO [m, draft_, asked_, prepared_, preparedSize_, texts_, sizes_, weights_, entries_, lies_, live_, row_, level_, oldTexts_, oldSizes_, oldLies_, oldLive_, oldRow_, firstToken_, starred_, tokenAt_, tokenSize_, groupKind_, groupPhrase_, groupSize_, groupMask_, groupFar_, out_, top_, masks_, begins_, lasts_, truth_, answers_, order_, scores_] h h' ∧ FrO [m, lies_, row_, level_] h h' ∧ FF m [0, 16, 19] h h') (fun _ _ => False) := by
  refine xw_Met.of rfl (by decide) (Nat.le_of_ble_eq_true rfl) ?_
  obtain ⟨fs, l, e, ⟨er, g_err⟩, KDr, KPr, KTx, KOt, KSt, KMo, KWe, KBe, KAn, KQu⟩ := R
  obtain ⟨vs, md, sg, op, ov, os, fe, fi, fv, fr, fL, foi, fov, fow, g_versions, g_made, g_segments, g_open, g_oldVersions, g_oldSegments, g_entries, e_entries, g_lies, e_lies, g_live, e_live, g_row, e_row, g_level, e_level, g_oldLies, e_oldLies, g_oldLive, e_oldLive, g_oldRow, e_oldRow, hvs, hsg, hop, hov, hos, hLI, hRO, hLV, hOI, hOR, hOV, hpot⟩ := id KSt
  obtain ⟨mo, li, g_most, g_limit, hmo⟩ := id KMo
  have ga0 : ∀ i, i ∉ [0, 16, 19] → fs[i]? = fs[i]? := fun _ _ => rfl
  have r0 : FrO [m, lies_, row_, level_] h h := FrO.rf
  refine s_Model_flush_0 l e ?_
  refine x_u1 (fun h_1 e_2 f_3 => ?_)
  have e_4 := (f_3 entries_ (nd_ne ND (i := 8) (j := 0) rfl rfl (by decide))).trans e_entries
  have e_5 := (f_3 lies_ (nd_ne ND (i := 9) (j := 0) rfl rfl (by decide))).trans e_lies
  have e_6 := (f_3 live_ (nd_ne ND (i := 10) (j := 0) rfl rfl (by decide))).trans e_live
  have e_7 := (f_3 row_ (nd_ne ND (i := 11) (j := 0) rfl rfl (by decide))).trans e_row
  have e_8 := (f_3 level_ (nd_ne ND (i := 12) (j := 0) rfl rfl (by decide))).trans e_level
  have e_9 := (f_3 oldLies_ (nd_ne ND (i := 15) (j := 0) rfl rfl (by decide))).trans e_oldLies
  have e_10 := (f_3 oldLive_ (nd_ne ND (i := 16) (j := 0) rfl rfl (by decide))).trans e_oldLive
  have e_11 := (f_3 oldRow_ (nd_ne ND (i := 17) (j := 0) rfl rfl (by decide))).trans e_oldRow
  have r_12 := r0.up (by simp) f_3
  obtain ⟨fs_13, z_14⟩ : ∃ z, z = fs.set 0 (.int 0) := ⟨_, rfl⟩
  rw [← z_14] at e_2
  have l_15 : fs_13.length = 62 := by rw [z_14]; simp only [List.length_set]; exact l
  have g_16 : fs_13[0]? = some (.int 0) := by rw [z_14]; exact (xw_gs (by simp [l]))
  have g_17 : fs_13[1]? = some (.int (nI mo)) := by rw [z_14]; exact (xw_gn (by decide) g_most)
  have g_18 : fs_13[2]? = some (.int li) := by rw [z_14]; exact (xw_gn (by decide) g_limit)
  have g_19 : fs_13[12]? = some (.ref entries_) := by rw [z_14]; exact (xw_gn (by decide) g_entries)
  have g_20 : fs_13[13]? = some (.ref lies_) := by rw [z_14]; exact (xw_gn (by decide) g_lies)
  have g_21 : fs_13[14]? = some (.ref live_) := by rw [z_14]; exact (xw_gn (by decide) g_live)
  have g_22 : fs_13[15]? = some (.int (nI vs)) := by rw [z_14]; exact (xw_gn (by decide) g_versions)
  have g_23 : fs_13[16]? = some (.int (nI md)) := by rw [z_14]; exact (xw_gn (by decide) g_made)
  have g_24 : fs_13[17]? = some (.ref row_) := by rw [z_14]; exact (xw_gn (by decide) g_row)
  have g_25 : fs_13[18]? = some (.ref level_) := by rw [z_14]; exact (xw_gn (by decide) g_level)
  have g_26 : fs_13[19]? = some (.int (nI sg)) := by rw [z_14]; exact (xw_gn (by decide) g_segments)
  have g_27 : fs_13[20]? = some (.int (nI op)) := by rw [z_14]; exact (xw_gn (by decide) g_open)
  have g_28 : fs_13[23]? = some (.ref oldLies_) := by rw [z_14]; exact (xw_gn (by decide) g_oldLies)
  have g_29 : fs_13[24]? = some (.ref oldLive_) := by rw [z_14]; exact (xw_gn (by decide) g_oldLive)
  have g_30 : fs_13[25]? = some (.ref oldRow_) := by rw [z_14]; exact (xw_gn (by decide) g_oldRow)
  have g_31 : fs_13[26]? = some (.int (nI ov)) := by rw [z_14]; exact (xw_gn (by decide) g_oldVersions)
  have g_32 : fs_13[27]? = some (.int (nI os)) := by rw [z_14]; exact (xw_gn (by decide) g_oldSegments)
  have ga_33 : ∀ i, i ∉ [0, 16, 19] → fs_13[i]? = fs[i]? := fun i hi => by rw [z_14]; exact xw_gn (fun z => hi (by rw [z]; simp)) (ga0 i hi)
  clear z_14
  refine x_callV (As := []) (b := m) (rest := []) (F1 := 3) (L1 := 69) (mc := 0) (ms := 0) d_Model_flush_6 cV_Model_175 (f_flushes (vs := vs) l_15 e_2 g_23 g_22 g_26 g_17 g_19 e_4 g_20 e_5 g_21 e_6 g_24 e_7 g_25 e_8 (nd_ne ND (i := 8) (j := 9) rfl rfl (by decide)) (nd_ne ND (i := 8) (j := 11) rfl rfl (by decide)) (nd_ne ND (i := 9) (j := 11) rfl rfl (by decide)) (by omega) (by omega) (by omega) hmo hLI hRO (by omega) (by omega)) e_2 ⟨by decide, rfl⟩ ⟨by omega, by show 8 + (4 + 11) + 69 ≤ _; omega⟩ ⟨by omega, by omega⟩ (Nat.le_of_ble_eq_true rfl) (fun v_35 h_34 p_36 => ?_)
  obtain ⟨rfl, md9, sg9, fs9, fi9, fr9, fL9, hm1, hm2, hs1, hpot9, l9, e9, gm9, gs9, ga9, ei9, er9, el9, LI9, RO9, FL9, r9⟩ := p_36
  have e_37 := r9 entries_ _ (by simp only [List.mem_cons, List.not_mem_nil, or_false, not_or]; exact ⟨(nd_ne ND (i := 8) (j := 0) rfl rfl (by decide)), (nd_ne ND (i := 8) (j := 9) rfl rfl (by decide)), (nd_ne ND (i := 8) (j := 11) rfl rfl (by decide)), (nd_ne ND (i := 8) (j := 12) rfl rfl (by decide))⟩) e_4
  have e_38 := r9 live_ _ (by simp only [List.mem_cons, List.not_mem_nil, or_false, not_or]; exact ⟨(nd_ne ND (i := 10) (j := 0) rfl rfl (by decide)), (Ne.symm (nd_ne ND (i := 9) (j := 10) rfl rfl (by decide))), (nd_ne ND (i := 10) (j := 11) rfl rfl (by decide)), (nd_ne ND (i := 10) (j := 12) rfl rfl (by decide))⟩) e_6
  have e_39 := r9 oldLies_ _ (by simp only [List.mem_cons, List.not_mem_nil, or_false, not_or]; exact ⟨(nd_ne ND (i := 15) (j := 0) rfl rfl (by decide)), (Ne.symm (nd_ne ND (i := 9) (j := 15) rfl rfl (by decide))), (Ne.symm (nd_ne ND (i := 11) (j := 15) rfl rfl (by decide))), (Ne.symm (nd_ne ND (i := 12) (j := 15) rfl rfl (by decide)))⟩) e_9
  have e_40 := r9 oldLive_ _ (by simp only [List.mem_cons, List.not_mem_nil, or_false, not_or]; exact ⟨(nd_ne ND (i := 16) (j := 0) rfl rfl (by decide)), (Ne.symm (nd_ne ND (i := 9) (j := 16) rfl rfl (by decide))), (Ne.symm (nd_ne ND (i := 11) (j := 16) rfl rfl (by decide))), (Ne.symm (nd_ne ND (i := 12) (j := 16) rfl rfl (by decide)))⟩) e_10
  have e_41 := r9 oldRow_ _ (by simp only [List.mem_cons, List.not_mem_nil, or_false, not_or]; exact ⟨(nd_ne ND (i := 17) (j := 0) rfl rfl (by decide)), (Ne.symm (nd_ne ND (i := 9) (j := 17) rfl rfl (by decide))), (Ne.symm (nd_ne ND (i := 11) (j := 17) rfl rfl (by decide))), (Ne.symm (nd_ne ND (i := 12) (j := 17) rfl rfl (by decide)))⟩) e_11
  have r_42 := r_12.trans (r9.mono (by simp))
  have g_43 : fs9[0]? = some (.int 0) := (ga9 0 (by decide)).trans g_16
  have g_44 : fs9[1]? = some (.int (nI mo)) := (ga9 1 (by decide)).trans g_17
  have g_45 : fs9[2]? = some (.int li) := (ga9 2 (by decide)).trans g_18
  have g_46 : fs9[12]? = some (.ref entries_) := (ga9 12 (by decide)).trans g_19
  have g_47 : fs9[13]? = some (.ref lies_) := (ga9 13 (by decide)).trans g_20
  have g_48 : fs9[14]? = some (.ref live_) := (ga9 14 (by decide)).trans g_21
  have g_49 : fs9[15]? = some (.int (nI vs)) := (ga9 15 (by decide)).trans g_22
  have g_50 : fs9[17]? = some (.ref row_) := (ga9 17 (by decide)).trans g_24
  have g_51 : fs9[18]? = some (.ref level_) := (ga9 18 (by decide)).trans g_25
  have g_52 : fs9[20]? = some (.int (nI op)) := (ga9 20 (by decide)).trans g_27
  have g_53 : fs9[23]? = some (.ref oldLies_) := (ga9 23 (by decide)).trans g_28
  have g_54 : fs9[24]? = some (.ref oldLive_) := (ga9 24 (by decide)).trans g_29
  have g_55 : fs9[25]? = some (.ref oldRow_) := (ga9 25 (by decide)).trans g_30
  have g_56 : fs9[26]? = some (.int (nI ov)) := (ga9 26 (by decide)).trans g_31
  have g_57 : fs9[27]? = some (.int (nI os)) := (ga9 27 (by decide)).trans g_32
  have ga_58 : ∀ i, i ∉ [0, 16, 19] → fs9[i]? = fs[i]? := fun i hi => (ga9 i (fun z => hi (by simp only [List.mem_cons, List.not_mem_nil, or_false] at z ⊢; omega))).trans (ga_33 i hi)
  refine s_Model_flush_9 l9 e9 gs9 ?_
  exact ⟨⟨_, rfl⟩, ⟨_, l9, e9, ⟨_, g_43⟩, (KDr.fr ga_58 r_42 (by decide) (pick_dis ND (l := [m, draft_, asked_, prepared_, preparedSize_, texts_, sizes_, weights_, entries_, lies_, live_, row_, level_, oldTexts_, oldSizes_, oldLies_, oldLive_, oldRow_, firstToken_, starred_, tokenAt_, tokenSize_, groupKind_, groupPhrase_, groupSize_, groupMask_, groupFar_, out_, top_, masks_, begins_, lasts_, truth_, answers_, order_, scores_]) (is := [1]) (js := [0, 9, 11, 12]) (by decide))), (KPr.fr ga_58 r_42 (by decide) (pick_dis ND (l := [m, draft_, asked_, prepared_, preparedSize_, texts_, sizes_, weights_, entries_, lies_, live_, row_, level_, oldTexts_, oldSizes_, oldLies_, oldLive_, oldRow_, firstToken_, starred_, tokenAt_, tokenSize_, groupKind_, groupPhrase_, groupSize_, groupMask_, groupFar_, out_, top_, masks_, begins_, lasts_, truth_, answers_, order_, scores_]) (is := [3, 4]) (js := [0, 9, 11, 12]) (by decide))), (KTx.fr ga_58 r_42 (by decide) (pick_dis ND (l := [m, draft_, asked_, prepared_, preparedSize_, texts_, sizes_, weights_, entries_, lies_, live_, row_, level_, oldTexts_, oldSizes_, oldLies_, oldLive_, oldRow_, firstToken_, starred_, tokenAt_, tokenSize_, groupKind_, groupPhrase_, groupSize_, groupMask_, groupFar_, out_, top_, masks_, begins_, lasts_, truth_, answers_, order_, scores_]) (is := [5, 6]) (js := [0, 9, 11, 12]) (by decide))), (KOt.fr ga_58 r_42 (by decide) (pick_dis ND (l := [m, draft_, asked_, prepared_, preparedSize_, texts_, sizes_, weights_, entries_, lies_, live_, row_, level_, oldTexts_, oldSizes_, oldLies_, oldLive_, oldRow_, firstToken_, starred_, tokenAt_, tokenSize_, groupKind_, groupPhrase_, groupSize_, groupMask_, groupFar_, out_, top_, masks_, begins_, lasts_, truth_, answers_, order_, scores_]) (is := [13, 14]) (js := [0, 9, 11, 12]) (by decide))), ⟨vs, md9, sg9, op, ov, os, _, _, _, _, _, _, _, _, g_49, gm9, gs9, g_52, g_56, g_57, g_46, e_37, g_47, ei9, g_48, e_38, g_50, er9, g_51, el9, g_53, e_39, g_54, e_40, g_55, e_41, by omega, by omega, by omega, by omega, by omega, LI9, RO9, hLV, fun v hv => (hOI v hv).imp id (fun ⟨s, a, b⟩ => ⟨s, Nat.lt_of_lt_of_le a hm1, b⟩), fun k hk => (hOR k hk).imp (fun s q => ⟨Nat.lt_of_lt_of_le q.1 hm1, q.2⟩), hOV, by omega⟩, (KMo.fr ga_58 r_42 (by decide) (fun _ z => nomatch z)), (KWe.fr ga_58 r_42 (by decide) (pick_dis ND (l := [m, draft_, asked_, prepared_, preparedSize_, texts_, sizes_, weights_, entries_, lies_, live_, row_, level_, oldTexts_, oldSizes_, oldLies_, oldLive_, oldRow_, firstToken_, starred_, tokenAt_, tokenSize_, groupKind_, groupPhrase_, groupSize_, groupMask_, groupFar_, out_, top_, masks_, begins_, lasts_, truth_, answers_, order_, scores_]) (is := [7]) (js := [0, 9, 11, 12]) (by decide))), (KBe.fr ga_58 r_42 (by decide) (pick_dis ND (l := [m, draft_, asked_, prepared_, preparedSize_, texts_, sizes_, weights_, entries_, lies_, live_, row_, level_, oldTexts_, oldSizes_, oldLies_, oldLive_, oldRow_, firstToken_, starred_, tokenAt_, tokenSize_, groupKind_, groupPhrase_, groupSize_, groupMask_, groupFar_, out_, top_, masks_, begins_, lasts_, truth_, answers_, order_, scores_]) (is := [30, 31]) (js := [0, 9, 11, 12]) (by decide))), (KAn.fr ga_58 r_42 (by decide) (pick_dis ND (l := [m, draft_, asked_, prepared_, preparedSize_, texts_, sizes_, weights_, entries_, lies_, live_, row_, level_, oldTexts_, oldSizes_, oldLies_, oldLive_, oldRow_, firstToken_, starred_, tokenAt_, tokenSize_, groupKind_, groupPhrase_, groupSize_, groupMask_, groupFar_, out_, top_, masks_, begins_, lasts_, truth_, answers_, order_, scores_]) (is := [33, 34, 35]) (js := [0, 9, 11, 12]) (by decide))), (KQu.fr ga_58 r_42 (by decide) (pick_dis ND (l := [m, draft_, asked_, prepared_, preparedSize_, texts_, sizes_, weights_, entries_, lies_, live_, row_, level_, oldTexts_, oldSizes_, oldLies_, oldLive_, oldRow_, firstToken_, starred_, tokenAt_, tokenSize_, groupKind_, groupPhrase_, groupSize_, groupMask_, groupFar_, out_, top_, masks_, begins_, lasts_, truth_, answers_, order_, scores_]) (is := [2, 18, 19, 20, 21, 22, 23, 24, 25, 26, 27, 28, 29, 32]) (js := [0, 9, 11, 12]) (by decide)))⟩, r_42.mono (by simp), r_42, FF.of e e9 ga_58⟩
