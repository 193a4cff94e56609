/-! the reference in general states: by program (wip/tools/gen3.py, gen4.py, gen5.py) -/
set_option maxHeartbeats 2000000 in
theorem r_commit {G : xw_G} {F L : Nat} {h : xw_A}  {m draft_ asked_ prepared_ preparedSize_ texts_ sizes_ weights_ entries_ lies_ live_ row_ level_ oldTexts_ oldSizes_ oldLies_ oldLive_ oldRow_ firstToken_ starred_ tokenAt_ tokenSize_ groupKind_ groupPhrase_ groupSize_ groupMask_ groupFar_ out_ top_ masks_ begins_ lasts_ truth_ answers_ order_ scores_ T : Nat} (R : RI m draft_ asked_ prepared_ preparedSize_ texts_ sizes_ weights_ entries_ lies_ live_ row_ level_ oldTexts_ oldSizes_ oldLies_ oldLive_ oldRow_ firstToken_ starred_ tokenAt_ tokenSize_ groupKind_ groupPhrase_ groupSize_ groupMask_ groupFar_ out_ top_ masks_ begins_ lasts_ truth_ answers_ order_ scores_ T h) (ND : NDl [m, draft_, asked_, prepared_, preparedSize_, texts_, sizes_, weights_, entries_, lies_, live_, row_, level_, oldTexts_, oldSizes_, oldLies_, oldLive_, oldRow_, firstToken_, starred_, tokenAt_, tokenSize_, groupKind_, groupPhrase_, groupSize_, groupMask_, groupFar_, out_, top_, masks_, begins_, lasts_, truth_, answers_, order_, scores_]) (hT : T < 512) (hF : 4 ≤ F) (hL : 92 ≤ L) :
    xw_Met G m_Model_commit F L 0 0 [.ref m] h (fun v h' => (∃ y : Int32, v = some (.int y)) ∧ RI m draft_ asked_ prepared_ preparedSize_ texts_ sizes_ weights_ entries_ lies_ live_ row_ level_ oldTexts_ oldSizes_ oldLies_ oldLive_ oldRow_ firstToken_ starred_ tokenAt_ tokenSize_ groupKind_ groupPhrase_ groupSize_ groupMask_ groupFar_ out_ top_ masks_ begins_ lasts_ truth_ answers_ order_ scores_ (T + 1) h' ∧ FrO [m, draft_, asked_, prepared_, preparedSize_, texts_, sizes_, weights_, entries_, lies_, live_, row_, level_, oldTexts_, oldSizes_, oldLies_, oldLive_, oldRow_, firstToken_, starred_, tokenAt_, tokenSize_, groupKind_, groupPhrase_, groupSize_, groupMask_, groupFar_, out_, top_, masks_, begins_, lasts_, truth_, answers_, order_, scores_] h h' ∧ FrO [m, lies_, row_, level_] h h' ∧ FF m [0, 16, 19, 20] h h' ∧ (∀ op : Nat, op ≤ 1 → Rf m 20 (.int (nI op)) h → ((op = 0 ∧ Rf m 0 (.int 1) h') ∨ (op = 1 ∧ Rf m 0 (.int 0) h')) ∧ Rf m 20 (.int (nI 0)) h') ∧ (∀ (X : RSt) (nv mo : Nat) (fe fv : Nat → Int32), SgC m lies_ row_ level_ X h → Rf m 15 (.int (nI nv)) h → nv < 600 → Rf m 1 (.int (nI mo)) h → mo ≤ 9 → h entries_ = some (.inl (0, 600, .inl fe)) → h live_ = some (.inl (0, 24, .inl fv)) → (Rf m 0 (.int 1) h' ∧ SgC m lies_ row_ level_ X h') ∨ (Rf m 0 (.int 0) h' ∧ ∃ Z : RSt, SgC m lies_ row_ level_ Z h' ∧ FluS fe fv nv mo X Z ∧ v = some (.int (nI Z.2.2.2.2))))) (fun _ _ => False) := by
  refine xw_Met.of rfl (by decide) (Nat.le_of_ble_eq_true rfl) ?_
  obtain ⟨fs, l, e, ⟨er, g_err⟩, KDr, KPr, KTx, KOt, KSt, KMo, KWe, KBe, KAn, KQu⟩ := R
  obtain ⟨vs, md, sg, op, ov, os, fe, fi, fv, fr, fL, foi, fov, fow, g_versions, g_made, g_segments, g_open, g_oldVersions, g_oldSegments, g_entries, e_entries, g_lies, e_lies, g_live, e_live, g_row, e_row, g_level, e_level, g_oldLies, e_oldLies, g_oldLive, e_oldLive, g_oldRow, e_oldRow, hvs, hsg, hop, hov, hos, hLI, hRO, hLV, hOI, hOR, hOV, hpot⟩ := id KSt
  obtain ⟨mo, li, g_most, g_limit, hmo⟩ := id KMo
  have ga0 : ∀ i : Nat, i ∉ [0, 16, 19, 20] → fs[i]? = fs[i]? := fun _ _ => rfl
  have r0 : FrO [m, lies_, row_, level_] h h := FrO.rf
  refine s_Model_commit_0 l e g_open (fun z_1 => ?_) (fun z_2 => ?_)
  · skip
    refine x_u1 (fun h_3 e_4 f_5 => ?_)
    have e_6 := (f_5 entries_ (nd_ne ND (i := 8) (j := 0) rfl rfl (by decide))).trans e_entries
    have e_7 := (f_5 lies_ (nd_ne ND (i := 9) (j := 0) rfl rfl (by decide))).trans e_lies
    have e_8 := (f_5 live_ (nd_ne ND (i := 10) (j := 0) rfl rfl (by decide))).trans e_live
    have e_9 := (f_5 row_ (nd_ne ND (i := 11) (j := 0) rfl rfl (by decide))).trans e_row
    have e_10 := (f_5 level_ (nd_ne ND (i := 12) (j := 0) rfl rfl (by decide))).trans e_level
    have e_11 := (f_5 oldLies_ (nd_ne ND (i := 15) (j := 0) rfl rfl (by decide))).trans e_oldLies
    have e_12 := (f_5 oldLive_ (nd_ne ND (i := 16) (j := 0) rfl rfl (by decide))).trans e_oldLive
    have e_13 := (f_5 oldRow_ (nd_ne ND (i := 17) (j := 0) rfl rfl (by decide))).trans e_oldRow
    have r_14 := r0.up (by simp) f_5
    obtain ⟨fs_15, z_16⟩ : ∃ z, z = fs.set 0 (.int 0) := ⟨_, rfl⟩
    rw [← z_16] at e_4
    have l_17 : fs_15.length = 62 := by rw [z_16]; simp only [List.length_set]; exact l
    have g_18 : fs_15[(0 : Nat)]? = some (.int 0) := by rw [z_16]; exact (xw_gs (by simp [l]))
    have g_19 : fs_15[(1 : Nat)]? = some (.int (nI mo)) := by rw [z_16]; exact (xw_gn (by decide) g_most)
    have g_20 : fs_15[(2 : Nat)]? = some (.int li) := by rw [z_16]; exact (xw_gn (by decide) g_limit)
    have g_21 : fs_15[(12 : Nat)]? = some (.ref entries_) := by rw [z_16]; exact (xw_gn (by decide) g_entries)
    have g_22 : fs_15[(13 : Nat)]? = some (.ref lies_) := by rw [z_16]; exact (xw_gn (by decide) g_lies)
    have g_23 : fs_15[(14 : Nat)]? = some (.ref live_) := by rw [z_16]; exact (xw_gn (by decide) g_live)
    have g_24 : fs_15[(15 : Nat)]? = some (.int (nI vs)) := by rw [z_16]; exact (xw_gn (by decide) g_versions)
    have g_25 : fs_15[(16 : Nat)]? = some (.int (nI md)) := by rw [z_16]; exact (xw_gn (by decide) g_made)
    have g_26 : fs_15[(17 : Nat)]? = some (.ref row_) := by rw [z_16]; exact (xw_gn (by decide) g_row)
    have g_27 : fs_15[(18 : Nat)]? = some (.ref level_) := by rw [z_16]; exact (xw_gn (by decide) g_level)
    have g_28 : fs_15[(19 : Nat)]? = some (.int (nI sg)) := by rw [z_16]; exact (xw_gn (by decide) g_segments)
    have g_29 : fs_15[(20 : Nat)]? = some (.int (nI op)) := by rw [z_16]; exact (xw_gn (by decide) g_open)
    have g_30 : fs_15[(23 : Nat)]? = some (.ref oldLies_) := by rw [z_16]; exact (xw_gn (by decide) g_oldLies)
    have g_31 : fs_15[(24 : Nat)]? = some (.ref oldLive_) := by rw [z_16]; exact (xw_gn (by decide) g_oldLive)
    have g_32 : fs_15[(25 : Nat)]? = some (.ref oldRow_) := by rw [z_16]; exact (xw_gn (by decide) g_oldRow)
    have g_33 : fs_15[(26 : Nat)]? = some (.int (nI ov)) := by rw [z_16]; exact (xw_gn (by decide) g_oldVersions)
    have g_34 : fs_15[(27 : Nat)]? = some (.int (nI os)) := by rw [z_16]; exact (xw_gn (by decide) g_oldSegments)
    have ga_35 : ∀ i : Nat, i ∉ [0, 16, 19, 20] → fs_15[i]? = fs[i]? := fun i hi => by rw [z_16]; exact xw_gn (fun z => hi (by rw [z]; simp)) (ga0 i hi)
    clear z_16
    refine s_Model_commit_17 ?_
    refine s_Model_commit_18 ?_
    refine x_callV (As := [.int 0, .int 1]) (b := m) (rest := []) (F1 := 1) (L1 := 20) (mc := 0) (ms := 0) d_Model_commit_19 cV_Model_139 (f_fails0 l_17 e_4 g_18 (by omega) (by omega)) e_4 ⟨by decide, rfl⟩ ⟨by omega, by show 8 + (3 + 11) + 20 ≤ _; omega⟩ ⟨by omega, by omega⟩ (Nat.le_of_ble_eq_true rfl) (fun v_37 h_36 p_38 => ?_)
    obtain ⟨rfl, rfl⟩ := p_38
    refine s_Model_commit_22 (fun z_39 => ?_) (fun z => absurd z (by decide))
    obtain rfl : op = 1 := (by rcases (show op = 0 ∨ op = 1 by omega) with q | q <;> first | exact q | exact absurd (by rw [q]; rfl) z_1)
    refine s_Model_commit_27 l_17 e_4 ?_
    refine x_u1 (fun h_40 e_41 f_42 => ?_)
    have e_43 := (f_42 entries_ (nd_ne ND (i := 8) (j := 0) rfl rfl (by decide))).trans e_6
    have e_44 := (f_42 lies_ (nd_ne ND (i := 9) (j := 0) rfl rfl (by decide))).trans e_7
    have e_45 := (f_42 live_ (nd_ne ND (i := 10) (j := 0) rfl rfl (by decide))).trans e_8
    have e_46 := (f_42 row_ (nd_ne ND (i := 11) (j := 0) rfl rfl (by decide))).trans e_9
    have e_47 := (f_42 level_ (nd_ne ND (i := 12) (j := 0) rfl rfl (by decide))).trans e_10
    have e_48 := (f_42 oldLies_ (nd_ne ND (i := 15) (j := 0) rfl rfl (by decide))).trans e_11
    have e_49 := (f_42 oldLive_ (nd_ne ND (i := 16) (j := 0) rfl rfl (by decide))).trans e_12
    have e_50 := (f_42 oldRow_ (nd_ne ND (i := 17) (j := 0) rfl rfl (by decide))).trans e_13
    have r_51 := r_14.up (by simp) f_42
    obtain ⟨fs_52, z_53⟩ : ∃ z, z = fs_15.set 20 (.int 0) := ⟨_, rfl⟩
    rw [← z_53] at e_41
    have l_54 : fs_52.length = 62 := by rw [z_53]; simp only [List.length_set]; exact l_17
    have g_55 : fs_52[(0 : Nat)]? = some (.int 0) := by rw [z_53]; exact (xw_gn (by decide) g_18)
    have g_56 : fs_52[(1 : Nat)]? = some (.int (nI mo)) := by rw [z_53]; exact (xw_gn (by decide) g_19)
    have g_57 : fs_52[(2 : Nat)]? = some (.int li) := by rw [z_53]; exact (xw_gn (by decide) g_20)
    have g_58 : fs_52[(12 : Nat)]? = some (.ref entries_) := by rw [z_53]; exact (xw_gn (by decide) g_21)
    have g_59 : fs_52[(13 : Nat)]? = some (.ref lies_) := by rw [z_53]; exact (xw_gn (by decide) g_22)
    have g_60 : fs_52[(14 : Nat)]? = some (.ref live_) := by rw [z_53]; exact (xw_gn (by decide) g_23)
    have g_61 : fs_52[(15 : Nat)]? = some (.int (nI vs)) := by rw [z_53]; exact (xw_gn (by decide) g_24)
    have g_62 : fs_52[(16 : Nat)]? = some (.int (nI md)) := by rw [z_53]; exact (xw_gn (by decide) g_25)
    have g_63 : fs_52[(17 : Nat)]? = some (.ref row_) := by rw [z_53]; exact (xw_gn (by decide) g_26)
    have g_64 : fs_52[(18 : Nat)]? = some (.ref level_) := by rw [z_53]; exact (xw_gn (by decide) g_27)
    have g_65 : fs_52[(19 : Nat)]? = some (.int (nI sg)) := by rw [z_53]; exact (xw_gn (by decide) g_28)
    have g_66 : fs_52[(20 : Nat)]? = some (.int 0) := by rw [z_53]; exact (xw_gs (by simp [l_17]))
    have g_67 : fs_52[(23 : Nat)]? = some (.ref oldLies_) := by rw [z_53]; exact (xw_gn (by decide) g_30)
    have g_68 : fs_52[(24 : Nat)]? = some (.ref oldLive_) := by rw [z_53]; exact (xw_gn (by decide) g_31)
    have g_69 : fs_52[(25 : Nat)]? = some (.ref oldRow_) := by rw [z_53]; exact (xw_gn (by decide) g_32)
    have g_70 : fs_52[(26 : Nat)]? = some (.int (nI ov)) := by rw [z_53]; exact (xw_gn (by decide) g_33)
    have g_71 : fs_52[(27 : Nat)]? = some (.int (nI os)) := by rw [z_53]; exact (xw_gn (by decide) g_34)
    have ga_72 : ∀ i : Nat, i ∉ [0, 16, 19, 20] → fs_52[i]? = fs[i]? := fun i hi => by rw [z_53]; exact xw_gn (fun z => hi (by rw [z]; simp)) (ga_35 i hi)
    clear z_53
    refine x_callV (As := []) (b := m) (rest := []) (F1 := 3) (L1 := 69) (mc := 0) (ms := 0) d_Model_commit_33 cV_Model_175 (f_flushes (vs := vs) l_54 e_41 g_62 g_61 g_65 g_56 g_58 e_43 g_59 e_44 g_60 e_45 g_63 e_46 g_64 e_47 (nd_ne ND (i := 8) (j := 9) rfl rfl (by decide)) (nd_ne ND (i := 8) (j := 11) rfl rfl (by decide)) (nd_ne ND (i := 9) (j := 11) rfl rfl (by decide)) (by omega) (by omega) (by omega) hmo hLI hRO (by omega) (by omega)) e_41 ⟨by decide, rfl⟩ ⟨by omega, by show 8 + (4 + 11) + 69 ≤ _; omega⟩ ⟨by omega, by omega⟩ (Nat.le_of_ble_eq_true rfl) (fun v_74 h_73 p_75 => ?_)
    obtain ⟨rfl, md9, sg9, fs9, fi9, fr9, fL9, hm1, hm2, hs1, hpot9, l9, e9, gm9, gs9, ga9, ei9, er9, el9, LI9, RO9, FL9, FLU, r9⟩ := p_75
    have e_76 := r9 entries_ _ (by simp only [List.mem_cons, List.not_mem_nil, or_false, not_or]; exact ⟨(nd_ne ND (i := 8) (j := 0) rfl rfl (by decide)), (nd_ne ND (i := 8) (j := 9) rfl rfl (by decide)), (nd_ne ND (i := 8) (j := 11) rfl rfl (by decide)), (nd_ne ND (i := 8) (j := 12) rfl rfl (by decide))⟩) e_43
    have e_77 := r9 live_ _ (by simp only [List.mem_cons, List.not_mem_nil, or_false, not_or]; exact ⟨(nd_ne ND (i := 10) (j := 0) rfl rfl (by decide)), (Ne.symm (nd_ne ND (i := 9) (j := 10) rfl rfl (by decide))), (nd_ne ND (i := 10) (j := 11) rfl rfl (by decide)), (nd_ne ND (i := 10) (j := 12) rfl rfl (by decide))⟩) e_45
    have e_78 := r9 oldLies_ _ (by simp only [List.mem_cons, List.not_mem_nil, or_false, not_or]; exact ⟨(nd_ne ND (i := 15) (j := 0) rfl rfl (by decide)), (Ne.symm (nd_ne ND (i := 9) (j := 15) rfl rfl (by decide))), (Ne.symm (nd_ne ND (i := 11) (j := 15) rfl rfl (by decide))), (Ne.symm (nd_ne ND (i := 12) (j := 15) rfl rfl (by decide)))⟩) e_48
    have e_79 := r9 oldLive_ _ (by simp only [List.mem_cons, List.not_mem_nil, or_false, not_or]; exact ⟨(nd_ne ND (i := 16) (j := 0) rfl rfl (by decide)), (Ne.symm (nd_ne ND (i := 9) (j := 16) rfl rfl (by decide))), (Ne.symm (nd_ne ND (i := 11) (j := 16) rfl rfl (by decide))), (Ne.symm (nd_ne ND (i := 12) (j := 16) rfl rfl (by decide)))⟩) e_49
    have e_80 := r9 oldRow_ _ (by simp only [List.mem_cons, List.not_mem_nil, or_false, not_or]; exact ⟨(nd_ne ND (i := 17) (j := 0) rfl rfl (by decide)), (Ne.symm (nd_ne ND (i := 9) (j := 17) rfl rfl (by decide))), (Ne.symm (nd_ne ND (i := 11) (j := 17) rfl rfl (by decide))), (Ne.symm (nd_ne ND (i := 12) (j := 17) rfl rfl (by decide)))⟩) e_50
    have r_81 := r_51.trans (r9.mono (by simp))
    have g_82 : fs9[(0 : Nat)]? = some (.int 0) := (ga9 0 (by decide)).trans g_55
    have g_83 : fs9[(1 : Nat)]? = some (.int (nI mo)) := (ga9 1 (by decide)).trans g_56
    have g_84 : fs9[(2 : Nat)]? = some (.int li) := (ga9 2 (by decide)).trans g_57
    have g_85 : fs9[(12 : Nat)]? = some (.ref entries_) := (ga9 12 (by decide)).trans g_58
    have g_86 : fs9[(13 : Nat)]? = some (.ref lies_) := (ga9 13 (by decide)).trans g_59
    have g_87 : fs9[(14 : Nat)]? = some (.ref live_) := (ga9 14 (by decide)).trans g_60
    have g_88 : fs9[(15 : Nat)]? = some (.int (nI vs)) := (ga9 15 (by decide)).trans g_61
    have g_89 : fs9[(17 : Nat)]? = some (.ref row_) := (ga9 17 (by decide)).trans g_63
    have g_90 : fs9[(18 : Nat)]? = some (.ref level_) := (ga9 18 (by decide)).trans g_64
    have g_91 : fs9[(20 : Nat)]? = some (.int 0) := (ga9 20 (by decide)).trans g_66
    have g_92 : fs9[(23 : Nat)]? = some (.ref oldLies_) := (ga9 23 (by decide)).trans g_67
    have g_93 : fs9[(24 : Nat)]? = some (.ref oldLive_) := (ga9 24 (by decide)).trans g_68
    have g_94 : fs9[(25 : Nat)]? = some (.ref oldRow_) := (ga9 25 (by decide)).trans g_69
    have g_95 : fs9[(26 : Nat)]? = some (.int (nI ov)) := (ga9 26 (by decide)).trans g_70
    have g_96 : fs9[(27 : Nat)]? = some (.int (nI os)) := (ga9 27 (by decide)).trans g_71
    have ga_97 : ∀ i : Nat, i ∉ [0, 16, 19, 20] → fs9[i]? = fs[i]? := fun i hi => (ga9 i (fun z => hi (by simp only [List.mem_cons, List.not_mem_nil, or_false] at z ⊢; omega))).trans (ga_72 i hi)
    refine s_Model_commit_36 l9 e9 gs9 ?_
    exact ⟨⟨_, rfl⟩, ⟨_, l9, e9, ⟨_, g_82⟩, (KDr.fr ga_97 r_81 (by decide) (pick_dis ND (l := [m, draft_, asked_, prepared_, preparedSize_, texts_, sizes_, weights_, entries_, lies_, live_, row_, level_, oldTexts_, oldSizes_, oldLies_, oldLive_, oldRow_, firstToken_, starred_, tokenAt_, tokenSize_, groupKind_, groupPhrase_, groupSize_, groupMask_, groupFar_, out_, top_, masks_, begins_, lasts_, truth_, answers_, order_, scores_]) (is := [1]) (js := [0, 9, 11, 12]) (by decide))), (KPr.fr ga_97 r_81 (by decide) (pick_dis ND (l := [m, draft_, asked_, prepared_, preparedSize_, texts_, sizes_, weights_, entries_, lies_, live_, row_, level_, oldTexts_, oldSizes_, oldLies_, oldLive_, oldRow_, firstToken_, starred_, tokenAt_, tokenSize_, groupKind_, groupPhrase_, groupSize_, groupMask_, groupFar_, out_, top_, masks_, begins_, lasts_, truth_, answers_, order_, scores_]) (is := [3, 4]) (js := [0, 9, 11, 12]) (by decide))), (KTx.fr ga_97 r_81 (by decide) (pick_dis ND (l := [m, draft_, asked_, prepared_, preparedSize_, texts_, sizes_, weights_, entries_, lies_, live_, row_, level_, oldTexts_, oldSizes_, oldLies_, oldLive_, oldRow_, firstToken_, starred_, tokenAt_, tokenSize_, groupKind_, groupPhrase_, groupSize_, groupMask_, groupFar_, out_, top_, masks_, begins_, lasts_, truth_, answers_, order_, scores_]) (is := [5, 6]) (js := [0, 9, 11, 12]) (by decide))), (KOt.fr ga_97 r_81 (by decide) (pick_dis ND (l := [m, draft_, asked_, prepared_, preparedSize_, texts_, sizes_, weights_, entries_, lies_, live_, row_, level_, oldTexts_, oldSizes_, oldLies_, oldLive_, oldRow_, firstToken_, starred_, tokenAt_, tokenSize_, groupKind_, groupPhrase_, groupSize_, groupMask_, groupFar_, out_, top_, masks_, begins_, lasts_, truth_, answers_, order_, scores_]) (is := [13, 14]) (js := [0, 9, 11, 12]) (by decide))), ⟨vs, md9, sg9, 0, ov, os, _, _, _, _, _, _, _, _, g_88, gm9, gs9, g_91, g_95, g_96, g_85, e_76, g_86, ei9, g_87, e_77, g_89, er9, g_90, el9, g_92, e_78, g_93, e_79, g_94, e_80, by omega, by omega, by omega, by omega, by omega, LI9, RO9, hLV, fun v hv => (hOI v hv).imp id (fun ⟨s, a, b⟩ => ⟨s, Nat.lt_of_lt_of_le a hm1, b⟩), fun k hk => (hOR k hk).imp (fun s q => ⟨Nat.lt_of_lt_of_le q.1 hm1, q.2⟩), fun q => absurd q (by decide), by omega⟩, (KMo.fr ga_97 r_81 (by decide) (fun _ z => nomatch z)), (KWe.fr ga_97 r_81 (by decide) (pick_dis ND (l := [m, draft_, asked_, prepared_, preparedSize_, texts_, sizes_, weights_, entries_, lies_, live_, row_, level_, oldTexts_, oldSizes_, oldLies_, oldLive_, oldRow_, firstToken_, starred_, tokenAt_, tokenSize_, groupKind_, groupPhrase_, groupSize_, groupMask_, groupFar_, out_, top_, masks_, begins_, lasts_, truth_, answers_, order_, scores_]) (is := [7]) (js := [0, 9, 11, 12]) (by decide))), (KBe.fr ga_97 r_81 (by decide) (pick_dis ND (l := [m, draft_, asked_, prepared_, preparedSize_, texts_, sizes_, weights_, entries_, lies_, live_, row_, level_, oldTexts_, oldSizes_, oldLies_, oldLive_, oldRow_, firstToken_, starred_, tokenAt_, tokenSize_, groupKind_, groupPhrase_, groupSize_, groupMask_, groupFar_, out_, top_, masks_, begins_, lasts_, truth_, answers_, order_, scores_]) (is := [30, 31]) (js := [0, 9, 11, 12]) (by decide))), (KAn.fr ga_97 r_81 (by decide) (pick_dis ND (l := [m, draft_, asked_, prepared_, preparedSize_, texts_, sizes_, weights_, entries_, lies_, live_, row_, level_, oldTexts_, oldSizes_, oldLies_, oldLive_, oldRow_, firstToken_, starred_, tokenAt_, tokenSize_, groupKind_, groupPhrase_, groupSize_, groupMask_, groupFar_, out_, top_, masks_, begins_, lasts_, truth_, answers_, order_, scores_]) (is := [33, 34, 35]) (js := [0, 9, 11, 12]) (by decide))), (KQu.fr ga_97 r_81 (by decide) (pick_dis ND (l := [m, draft_, asked_, prepared_, preparedSize_, texts_, sizes_, weights_, entries_, lies_, live_, row_, level_, oldTexts_, oldSizes_, oldLies_, oldLive_, oldRow_, firstToken_, starred_, tokenAt_, tokenSize_, groupKind_, groupPhrase_, groupSize_, groupMask_, groupFar_, out_, top_, masks_, begins_, lasts_, truth_, answers_, order_, scores_]) (is := [2, 18, 19, 20, 21, 22, 23, 24, 25, 26, 27, 28, 29, 32]) (js := [0, 9, 11, 12]) (by decide)))⟩, r_81.mono (by simp), r_81, FF.of e e9 ga_97, (fun opw hpw Kw => by obtain rfl : opw = 1 := (nI_eq (by omega) (by omega)).mp (Value.int.inj (Kw.inj ⟨_, e, g_open⟩)); exact ⟨Or.inr ⟨rfl, ⟨_, e9, g_82⟩⟩, ⟨_, e9, g_91⟩⟩), fun Xw nvw mow few fvw kX kv hnv km hmo9 we wv => by obtain rfl := kX.eq e g_made g_segments e_lies e_row e_level (by omega) (by omega); obtain rfl : nvw = vs := (nI_eq (by omega) (by omega)).mp (Value.int.inj (kv.inj ⟨_, e, g_versions⟩)); obtain rfl : mow = mo := (nI_eq (by omega) (by omega)).mp (Value.int.inj (km.inj ⟨_, e, g_most⟩)); obtain rfl := cinj we e_entries; obtain rfl := cinj wv e_live; exact Or.inr ⟨⟨_, e9, g_82⟩, (fi9, fr9, fL9, md9, sg9), ⟨ei9, er9, el9, ⟨_, e9, gm9⟩, ⟨_, e9, gs9⟩, (by dsimp only; omega), (by dsimp only; omega)⟩, FLU, rfl⟩⟩
  · skip
    refine x_u1 (fun h_98 e_99 f_100 => ?_)
    have e_101 := (f_100 entries_ (nd_ne ND (i := 8) (j := 0) rfl rfl (by decide))).trans e_entries
    have e_102 := (f_100 lies_ (nd_ne ND (i := 9) (j := 0) rfl rfl (by decide))).trans e_lies
    have e_103 := (f_100 live_ (nd_ne ND (i := 10) (j := 0) rfl rfl (by decide))).trans e_live
    have e_104 := (f_100 row_ (nd_ne ND (i := 11) (j := 0) rfl rfl (by decide))).trans e_row
    have e_105 := (f_100 level_ (nd_ne ND (i := 12) (j := 0) rfl rfl (by decide))).trans e_level
    have e_106 := (f_100 oldLies_ (nd_ne ND (i := 15) (j := 0) rfl rfl (by decide))).trans e_oldLies
    have e_107 := (f_100 oldLive_ (nd_ne ND (i := 16) (j := 0) rfl rfl (by decide))).trans e_oldLive
    have e_108 := (f_100 oldRow_ (nd_ne ND (i := 17) (j := 0) rfl rfl (by decide))).trans e_oldRow
    have r_109 := r0.up (by simp) f_100
    obtain ⟨fs_110, z_111⟩ : ∃ z, z = fs.set 0 (.int 0) := ⟨_, rfl⟩
    rw [← z_111] at e_99
    have l_112 : fs_110.length = 62 := by rw [z_111]; simp only [List.length_set]; exact l
    have g_113 : fs_110[(0 : Nat)]? = some (.int 0) := by rw [z_111]; exact (xw_gs (by simp [l]))
    have g_114 : fs_110[(1 : Nat)]? = some (.int (nI mo)) := by rw [z_111]; exact (xw_gn (by decide) g_most)
    have g_115 : fs_110[(2 : Nat)]? = some (.int li) := by rw [z_111]; exact (xw_gn (by decide) g_limit)
    have g_116 : fs_110[(12 : Nat)]? = some (.ref entries_) := by rw [z_111]; exact (xw_gn (by decide) g_entries)
    have g_117 : fs_110[(13 : Nat)]? = some (.ref lies_) := by rw [z_111]; exact (xw_gn (by decide) g_lies)
    have g_118 : fs_110[(14 : Nat)]? = some (.ref live_) := by rw [z_111]; exact (xw_gn (by decide) g_live)
    have g_119 : fs_110[(15 : Nat)]? = some (.int (nI vs)) := by rw [z_111]; exact (xw_gn (by decide) g_versions)
    have g_120 : fs_110[(16 : Nat)]? = some (.int (nI md)) := by rw [z_111]; exact (xw_gn (by decide) g_made)
    have g_121 : fs_110[(17 : Nat)]? = some (.ref row_) := by rw [z_111]; exact (xw_gn (by decide) g_row)
    have g_122 : fs_110[(18 : Nat)]? = some (.ref level_) := by rw [z_111]; exact (xw_gn (by decide) g_level)
    have g_123 : fs_110[(19 : Nat)]? = some (.int (nI sg)) := by rw [z_111]; exact (xw_gn (by decide) g_segments)
    have g_124 : fs_110[(20 : Nat)]? = some (.int (nI op)) := by rw [z_111]; exact (xw_gn (by decide) g_open)
    have g_125 : fs_110[(23 : Nat)]? = some (.ref oldLies_) := by rw [z_111]; exact (xw_gn (by decide) g_oldLies)
    have g_126 : fs_110[(24 : Nat)]? = some (.ref oldLive_) := by rw [z_111]; exact (xw_gn (by decide) g_oldLive)
    have g_127 : fs_110[(25 : Nat)]? = some (.ref oldRow_) := by rw [z_111]; exact (xw_gn (by decide) g_oldRow)
    have g_128 : fs_110[(26 : Nat)]? = some (.int (nI ov)) := by rw [z_111]; exact (xw_gn (by decide) g_oldVersions)
    have g_129 : fs_110[(27 : Nat)]? = some (.int (nI os)) := by rw [z_111]; exact (xw_gn (by decide) g_oldSegments)
    have ga_130 : ∀ i : Nat, i ∉ [0, 16, 19, 20] → fs_110[i]? = fs[i]? := fun i hi => by rw [z_111]; exact xw_gn (fun z => hi (by rw [z]; simp)) (ga0 i hi)
    clear z_111
    refine s_Model_commit_13 ?_
    refine s_Model_commit_18 ?_
    refine x_callV (As := [.int 1, .int 1]) (b := m) (rest := []) (F1 := 1) (L1 := 20) (mc := 0) (ms := 0) d_Model_commit_19 cV_Model_139 (f_fails1 (c := 1) l_112 e_99 g_113 (by decide) (by omega) (by omega)) e_99 ⟨by decide, rfl⟩ ⟨by omega, by show 8 + (3 + 11) + 20 ≤ _; omega⟩ ⟨by omega, by omega⟩ (Nat.le_of_ble_eq_true rfl) (fun v_138 h_137 p_139 => ?_)
    obtain ⟨rfl, fs_131, l_132, e_133, g_135, ga_134, fr_136⟩ := p_139
    have g_140 : fs_131[(1 : Nat)]? = some (.int (nI mo)) := (ga_134 1 (by decide)).trans g_114
    have g_141 : fs_131[(2 : Nat)]? = some (.int li) := (ga_134 2 (by decide)).trans g_115
    have g_142 : fs_131[(12 : Nat)]? = some (.ref entries_) := (ga_134 12 (by decide)).trans g_116
    have g_143 : fs_131[(13 : Nat)]? = some (.ref lies_) := (ga_134 13 (by decide)).trans g_117
    have g_144 : fs_131[(14 : Nat)]? = some (.ref live_) := (ga_134 14 (by decide)).trans g_118
    have g_145 : fs_131[(15 : Nat)]? = some (.int (nI vs)) := (ga_134 15 (by decide)).trans g_119
    have g_146 : fs_131[(16 : Nat)]? = some (.int (nI md)) := (ga_134 16 (by decide)).trans g_120
    have g_147 : fs_131[(17 : Nat)]? = some (.ref row_) := (ga_134 17 (by decide)).trans g_121
    have g_148 : fs_131[(18 : Nat)]? = some (.ref level_) := (ga_134 18 (by decide)).trans g_122
    have g_149 : fs_131[(19 : Nat)]? = some (.int (nI sg)) := (ga_134 19 (by decide)).trans g_123
    have g_150 : fs_131[(20 : Nat)]? = some (.int (nI op)) := (ga_134 20 (by decide)).trans g_124
    have g_151 : fs_131[(23 : Nat)]? = some (.ref oldLies_) := (ga_134 23 (by decide)).trans g_125
    have g_152 : fs_131[(24 : Nat)]? = some (.ref oldLive_) := (ga_134 24 (by decide)).trans g_126
    have g_153 : fs_131[(25 : Nat)]? = some (.ref oldRow_) := (ga_134 25 (by decide)).trans g_127
    have g_154 : fs_131[(26 : Nat)]? = some (.int (nI ov)) := (ga_134 26 (by decide)).trans g_128
    have g_155 : fs_131[(27 : Nat)]? = some (.int (nI os)) := (ga_134 27 (by decide)).trans g_129
    have e_156 := fr_136 entries_ _ (by simp only [List.mem_cons, List.not_mem_nil, or_false, not_or]; exact (nd_ne ND (i := 8) (j := 0) rfl rfl (by decide))) e_101
    have e_157 := fr_136 lies_ _ (by simp only [List.mem_cons, List.not_mem_nil, or_false, not_or]; exact (nd_ne ND (i := 9) (j := 0) rfl rfl (by decide))) e_102
    have e_158 := fr_136 live_ _ (by simp only [List.mem_cons, List.not_mem_nil, or_false, not_or]; exact (nd_ne ND (i := 10) (j := 0) rfl rfl (by decide))) e_103
    have e_159 := fr_136 row_ _ (by simp only [List.mem_cons, List.not_mem_nil, or_false, not_or]; exact (nd_ne ND (i := 11) (j := 0) rfl rfl (by decide))) e_104
    have e_160 := fr_136 level_ _ (by simp only [List.mem_cons, List.not_mem_nil, or_false, not_or]; exact (nd_ne ND (i := 12) (j := 0) rfl rfl (by decide))) e_105
    have e_161 := fr_136 oldLies_ _ (by simp only [List.mem_cons, List.not_mem_nil, or_false, not_or]; exact (nd_ne ND (i := 15) (j := 0) rfl rfl (by decide))) e_106
    have e_162 := fr_136 oldLive_ _ (by simp only [List.mem_cons, List.not_mem_nil, or_false, not_or]; exact (nd_ne ND (i := 16) (j := 0) rfl rfl (by decide))) e_107
    have e_163 := fr_136 oldRow_ _ (by simp only [List.mem_cons, List.not_mem_nil, or_false, not_or]; exact (nd_ne ND (i := 17) (j := 0) rfl rfl (by decide))) e_108
    have ga_164 : ∀ i : Nat, i ∉ [0, 16, 19, 20] → fs_131[i]? = fs[i]? := fun i hi => (ga_134 i (fun z => hi (by simp only [List.mem_cons, List.not_mem_nil, or_false] at z ⊢; omega))).trans (ga_130 i hi)
    have r_165 := r_109.trans (fr_136.mono (by simp))
    refine s_Model_commit_22 (fun z => absurd z (by decide)) (fun z_166 => ?_)
    refine s_Model_commit_25 ?_
    have hop0 : op = 0 := (nI_eq (a := op) (b := 0) (by omega) (by decide)).mp z_2
    have q20 : Rf m 20 (.int (nI 0)) h_137 := by have q9 : Rf m 20 (.int (nI op)) h_137 := ⟨_, e_133, g_150⟩; rw [hop0] at q9; exact q9
    exact ⟨⟨_, rfl⟩, ⟨_, l_132, e_133, ⟨_, g_135⟩, (KDr.fr ga_164 r_165 (by decide) (pick_dis ND (l := [m, draft_, asked_, prepared_, preparedSize_, texts_, sizes_, weights_, entries_, lies_, live_, row_, level_, oldTexts_, oldSizes_, oldLies_, oldLive_, oldRow_, firstToken_, starred_, tokenAt_, tokenSize_, groupKind_, groupPhrase_, groupSize_, groupMask_, groupFar_, out_, top_, masks_, begins_, lasts_, truth_, answers_, order_, scores_]) (is := [1]) (js := [0, 9, 11, 12]) (by decide))), (KPr.fr ga_164 r_165 (by decide) (pick_dis ND (l := [m, draft_, asked_, prepared_, preparedSize_, texts_, sizes_, weights_, entries_, lies_, live_, row_, level_, oldTexts_, oldSizes_, oldLies_, oldLive_, oldRow_, firstToken_, starred_, tokenAt_, tokenSize_, groupKind_, groupPhrase_, groupSize_, groupMask_, groupFar_, out_, top_, masks_, begins_, lasts_, truth_, answers_, order_, scores_]) (is := [3, 4]) (js := [0, 9, 11, 12]) (by decide))), (KTx.fr ga_164 r_165 (by decide) (pick_dis ND (l := [m, draft_, asked_, prepared_, preparedSize_, texts_, sizes_, weights_, entries_, lies_, live_, row_, level_, oldTexts_, oldSizes_, oldLies_, oldLive_, oldRow_, firstToken_, starred_, tokenAt_, tokenSize_, groupKind_, groupPhrase_, groupSize_, groupMask_, groupFar_, out_, top_, masks_, begins_, lasts_, truth_, answers_, order_, scores_]) (is := [5, 6]) (js := [0, 9, 11, 12]) (by decide))), (KOt.fr ga_164 r_165 (by decide) (pick_dis ND (l := [m, draft_, asked_, prepared_, preparedSize_, texts_, sizes_, weights_, entries_, lies_, live_, row_, level_, oldTexts_, oldSizes_, oldLies_, oldLive_, oldRow_, firstToken_, starred_, tokenAt_, tokenSize_, groupKind_, groupPhrase_, groupSize_, groupMask_, groupFar_, out_, top_, masks_, begins_, lasts_, truth_, answers_, order_, scores_]) (is := [13, 14]) (js := [0, 9, 11, 12]) (by decide))), ⟨vs, md, sg, op, ov, os, _, _, _, _, _, _, _, _, g_145, g_146, g_149, g_150, g_154, g_155, g_142, e_156, g_143, e_157, g_144, e_158, g_147, e_159, g_148, e_160, g_151, e_161, g_152, e_162, g_153, e_163, by omega, by omega, by omega, by omega, by omega, hLI, hRO, hLV, hOI, hOR, hOV, by omega⟩, (KMo.fr ga_164 r_165 (by decide) (fun _ z => nomatch z)), (KWe.fr ga_164 r_165 (by decide) (pick_dis ND (l := [m, draft_, asked_, prepared_, preparedSize_, texts_, sizes_, weights_, entries_, lies_, live_, row_, level_, oldTexts_, oldSizes_, oldLies_, oldLive_, oldRow_, firstToken_, starred_, tokenAt_, tokenSize_, groupKind_, groupPhrase_, groupSize_, groupMask_, groupFar_, out_, top_, masks_, begins_, lasts_, truth_, answers_, order_, scores_]) (is := [7]) (js := [0, 9, 11, 12]) (by decide))), (KBe.fr ga_164 r_165 (by decide) (pick_dis ND (l := [m, draft_, asked_, prepared_, preparedSize_, texts_, sizes_, weights_, entries_, lies_, live_, row_, level_, oldTexts_, oldSizes_, oldLies_, oldLive_, oldRow_, firstToken_, starred_, tokenAt_, tokenSize_, groupKind_, groupPhrase_, groupSize_, groupMask_, groupFar_, out_, top_, masks_, begins_, lasts_, truth_, answers_, order_, scores_]) (is := [30, 31]) (js := [0, 9, 11, 12]) (by decide))), (KAn.fr ga_164 r_165 (by decide) (pick_dis ND (l := [m, draft_, asked_, prepared_, preparedSize_, texts_, sizes_, weights_, entries_, lies_, live_, row_, level_, oldTexts_, oldSizes_, oldLies_, oldLive_, oldRow_, firstToken_, starred_, tokenAt_, tokenSize_, groupKind_, groupPhrase_, groupSize_, groupMask_, groupFar_, out_, top_, masks_, begins_, lasts_, truth_, answers_, order_, scores_]) (is := [33, 34, 35]) (js := [0, 9, 11, 12]) (by decide))), (KQu.fr ga_164 r_165 (by decide) (pick_dis ND (l := [m, draft_, asked_, prepared_, preparedSize_, texts_, sizes_, weights_, entries_, lies_, live_, row_, level_, oldTexts_, oldSizes_, oldLies_, oldLive_, oldRow_, firstToken_, starred_, tokenAt_, tokenSize_, groupKind_, groupPhrase_, groupSize_, groupMask_, groupFar_, out_, top_, masks_, begins_, lasts_, truth_, answers_, order_, scores_]) (is := [2, 18, 19, 20, 21, 22, 23, 24, 25, 26, 27, 28, 29, 32]) (js := [0, 9, 11, 12]) (by decide)))⟩, r_165.mono (by simp), r_165, FF.of e e_133 ga_164, (fun opw hpw Kw => by obtain rfl : opw = op := (nI_eq (by omega) (by omega)).mp (Value.int.inj (Kw.inj ⟨_, e, g_open⟩)); exact ⟨Or.inl ⟨hop0, ⟨_, e_133, g_135⟩⟩, q20⟩), fun Xw nvw mow few fvw kX kv hnv km hmo9 we wv => by obtain rfl := kX.eq e g_made g_segments e_lies e_row e_level (by omega) (by omega); obtain rfl : nvw = vs := (nI_eq (by omega) (by omega)).mp (Value.int.inj (kv.inj ⟨_, e, g_versions⟩)); obtain rfl : mow = mo := (nI_eq (by omega) (by omega)).mp (Value.int.inj (km.inj ⟨_, e, g_most⟩)); obtain rfl := cinj we e_entries; obtain rfl := cinj wv e_live; exact Or.inl ⟨⟨_, e_133, g_135⟩, ⟨e_157, e_159, e_160, ⟨_, e_133, g_146⟩, ⟨_, e_133, g_149⟩, (by dsimp only; omega), (by dsimp only; omega)⟩⟩⟩
set_option maxHeartbeats 2000000 in
theorem r_delete {G : xw_G} {F L : Nat} {h : xw_A} {x : Int32} {m draft_ asked_ prepared_ preparedSize_ texts_ sizes_ weights_ entries_ lies_ live_ row_ level_ oldTexts_ oldSizes_ oldLies_ oldLive_ oldRow_ firstToken_ starred_ tokenAt_ tokenSize_ groupKind_ groupPhrase_ groupSize_ groupMask_ groupFar_ out_ top_ masks_ begins_ lasts_ truth_ answers_ order_ scores_ T : Nat} (R : RI m draft_ asked_ prepared_ preparedSize_ texts_ sizes_ weights_ entries_ lies_ live_ row_ level_ oldTexts_ oldSizes_ oldLies_ oldLive_ oldRow_ firstToken_ starred_ tokenAt_ tokenSize_ groupKind_ groupPhrase_ groupSize_ groupMask_ groupFar_ out_ top_ masks_ begins_ lasts_ truth_ answers_ order_ scores_ T h) (ND : NDl [m, draft_, asked_, prepared_, preparedSize_, texts_, sizes_, weights_, entries_, lies_, live_, row_, level_, oldTexts_, oldSizes_, oldLies_, oldLive_, oldRow_, firstToken_, starred_, tokenAt_, tokenSize_, groupKind_, groupPhrase_, groupSize_, groupMask_, groupFar_, out_, top_, masks_, begins_, lasts_, truth_, answers_, order_, scores_]) (hT : T < 512) (hF : 5 ≤ F) (hL : 109 ≤ L) :
    xw_Met G m_Model_delete F L 0 0 [.ref m, .int x] h (fun v h' => (∃ y : Int32, v = some (.int y)) ∧ RI m draft_ asked_ prepared_ preparedSize_ texts_ sizes_ weights_ entries_ lies_ live_ row_ level_ oldTexts_ oldSizes_ oldLies_ oldLive_ oldRow_ firstToken_ starred_ tokenAt_ tokenSize_ groupKind_ groupPhrase_ groupSize_ groupMask_ groupFar_ out_ top_ masks_ begins_ lasts_ truth_ answers_ order_ scores_ (T + 1) h' ∧ FrO [m, draft_, asked_, prepared_, preparedSize_, texts_, sizes_, weights_, entries_, lies_, live_, row_, level_, oldTexts_, oldSizes_, oldLies_, oldLive_, oldRow_, firstToken_, starred_, tokenAt_, tokenSize_, groupKind_, groupPhrase_, groupSize_, groupMask_, groupFar_, out_, top_, masks_, begins_, lasts_, truth_, answers_, order_, scores_] h h' ∧ FrO [m, begins_, lasts_, live_] h h' ∧ FF m [0, 55] h h' ∧ (∀ fv : Nat → Int32, h live_ = some (.inl (0, 24, .inl fv)) → ((∃ j : Nat, j < 24 ∧ x = nI (j + 1) ∧ ¬ fv j < 0 ∧ Rf m 0 (.int 0) h' ∧ h' live_ = some (.inl (0, 24, .inl (upd fv j (-1))))) ∨ ((∀ j, j < 24 → x = nI (j + 1) → fv j < 0) ∧ Rf m 0 (.int 1) h' ∧ h' live_ = some (.inl (0, 24, .inl fv))))) ∧ (∀ ft fz : Nat → Int32, h texts_ = some (.inl (0, 2304, .inl ft)) → h sizes_ = some (.inl (0, 48, .inl fz)) → ∀ j, j < 24 → x = nI (j + 1) → Rf m 0 (.int 0) h' → v = some (.int (nI (tokN (fun i => ft (96 * j + 48 * 0 + i)) (fz (2 * j + 0)).toNatClampNeg + tokN (fun i => ft (96 * j + 48 * 1 + i)) (fz (2 * j + 1)).toNatClampNeg))))) (fun _ _ => False) := by
  refine xw_Met.of rfl (by decide) (Nat.le_of_ble_eq_true rfl) ?_
  obtain ⟨fs, l, e, ⟨er, g_err⟩, KDr, KPr, KTx, KOt, KSt, KMo, KWe, KBe, KAn, KQu⟩ := R
  obtain ⟨ft, fz, g_texts, e_texts, g_sizes, e_sizes, hSZ⟩ := id KTx
  obtain ⟨vs, md, sg, op, ov, os, fe, fi, fv, fr, fL, foi, fov, fow, g_versions, g_made, g_segments, g_open, g_oldVersions, g_oldSegments, g_entries, e_entries, g_lies, e_lies, g_live, e_live, g_row, e_row, g_level, e_level, g_oldLies, e_oldLies, g_oldLive, e_oldLive, g_oldRow, e_oldRow, hvs, hsg, hop, hov, hos, hLI, hRO, hLV, hOI, hOR, hOV, hpot⟩ := id KSt
  obtain ⟨cl, fb, fl, g_column, g_begins, e_begins, g_lasts, e_lasts⟩ := id KBe
  have ga0 : ∀ i : Nat, i ∉ [0, 55] → fs[i]? = fs[i]? := fun _ _ => rfl
  have r0 : FrO [m, begins_, lasts_, live_] h h := FrO.rf
  refine s_Model_delete_0 l e ?_
  refine x_u1 (fun h_1 e_2 f_3 => ?_)
  have e_4 := (f_3 texts_ (nd_ne ND (i := 5) (j := 0) rfl rfl (by decide))).trans e_texts
  have e_5 := (f_3 sizes_ (nd_ne ND (i := 6) (j := 0) rfl rfl (by decide))).trans e_sizes
  have e_6 := (f_3 entries_ (nd_ne ND (i := 8) (j := 0) rfl rfl (by decide))).trans e_entries
  have e_7 := (f_3 lies_ (nd_ne ND (i := 9) (j := 0) rfl rfl (by decide))).trans e_lies
  have e_8 := (f_3 live_ (nd_ne ND (i := 10) (j := 0) rfl rfl (by decide))).trans e_live
  have e_9 := (f_3 row_ (nd_ne ND (i := 11) (j := 0) rfl rfl (by decide))).trans e_row
  have e_10 := (f_3 level_ (nd_ne ND (i := 12) (j := 0) rfl rfl (by decide))).trans e_level
  have e_11 := (f_3 oldLies_ (nd_ne ND (i := 15) (j := 0) rfl rfl (by decide))).trans e_oldLies
  have e_12 := (f_3 oldLive_ (nd_ne ND (i := 16) (j := 0) rfl rfl (by decide))).trans e_oldLive
  have e_13 := (f_3 oldRow_ (nd_ne ND (i := 17) (j := 0) rfl rfl (by decide))).trans e_oldRow
  have e_14 := (f_3 begins_ (nd_ne ND (i := 30) (j := 0) rfl rfl (by decide))).trans e_begins
  have e_15 := (f_3 lasts_ (nd_ne ND (i := 31) (j := 0) rfl rfl (by decide))).trans e_lasts
  have r_16 := r0.up (by simp) f_3
  obtain ⟨fs_17, z_18⟩ : ∃ z, z = fs.set 0 (.int 0) := ⟨_, rfl⟩
  rw [← z_18] at e_2
  have l_19 : fs_17.length = 62 := by rw [z_18]; simp only [List.length_set]; exact l
  have g_20 : fs_17[(0 : Nat)]? = some (.int 0) := by rw [z_18]; exact (xw_gs (by simp [l]))
  have g_21 : fs_17[(7 : Nat)]? = some (.ref texts_) := by rw [z_18]; exact (xw_gn (by decide) g_texts)
  have g_22 : fs_17[(8 : Nat)]? = some (.ref sizes_) := by rw [z_18]; exact (xw_gn (by decide) g_sizes)
  have g_23 : fs_17[(12 : Nat)]? = some (.ref entries_) := by rw [z_18]; exact (xw_gn (by decide) g_entries)
  have g_24 : fs_17[(13 : Nat)]? = some (.ref lies_) := by rw [z_18]; exact (xw_gn (by decide) g_lies)
  have g_25 : fs_17[(14 : Nat)]? = some (.ref live_) := by rw [z_18]; exact (xw_gn (by decide) g_live)
  have g_26 : fs_17[(15 : Nat)]? = some (.int (nI vs)) := by rw [z_18]; exact (xw_gn (by decide) g_versions)
  have g_27 : fs_17[(16 : Nat)]? = some (.int (nI md)) := by rw [z_18]; exact (xw_gn (by decide) g_made)
  have g_28 : fs_17[(17 : Nat)]? = some (.ref row_) := by rw [z_18]; exact (xw_gn (by decide) g_row)
  have g_29 : fs_17[(18 : Nat)]? = some (.ref level_) := by rw [z_18]; exact (xw_gn (by decide) g_level)
  have g_30 : fs_17[(19 : Nat)]? = some (.int (nI sg)) := by rw [z_18]; exact (xw_gn (by decide) g_segments)
  have g_31 : fs_17[(20 : Nat)]? = some (.int (nI op)) := by rw [z_18]; exact (xw_gn (by decide) g_open)
  have g_32 : fs_17[(23 : Nat)]? = some (.ref oldLies_) := by rw [z_18]; exact (xw_gn (by decide) g_oldLies)
  have g_33 : fs_17[(24 : Nat)]? = some (.ref oldLive_) := by rw [z_18]; exact (xw_gn (by decide) g_oldLive)
  have g_34 : fs_17[(25 : Nat)]? = some (.ref oldRow_) := by rw [z_18]; exact (xw_gn (by decide) g_oldRow)
  have g_35 : fs_17[(26 : Nat)]? = some (.int (nI ov)) := by rw [z_18]; exact (xw_gn (by decide) g_oldVersions)
  have g_36 : fs_17[(27 : Nat)]? = some (.int (nI os)) := by rw [z_18]; exact (xw_gn (by decide) g_oldSegments)
  have g_37 : fs_17[(53 : Nat)]? = some (.ref begins_) := by rw [z_18]; exact (xw_gn (by decide) g_begins)
  have g_38 : fs_17[(54 : Nat)]? = some (.ref lasts_) := by rw [z_18]; exact (xw_gn (by decide) g_lasts)
  have g_39 : fs_17[(55 : Nat)]? = some (.int cl) := by rw [z_18]; exact (xw_gn (by decide) g_column)
  have ga_40 : ∀ i : Nat, i ∉ [0, 55] → fs_17[i]? = fs[i]? := fun i hi => by rw [z_18]; exact xw_gn (fun z => hi (by rw [z]; simp)) (ga0 i hi)
  clear z_18
  refine x_callV (As := [.int x]) (b := m) (rest := [.ref m]) (F1 := 2) (L1 := 42) (mc := 0) (ms := 0) d_Model_delete_8 cV_Model_181 (f_has l_19 e_2 g_25 e_8 (by omega) (by omega)) e_2 ⟨by decide, rfl⟩ ⟨by omega, by show 8 + (2 + 11) + 42 ≤ _; omega⟩ ⟨by omega, by omega⟩ (Nat.le_of_ble_eq_true rfl) (fun v_44 h_43 p_45 => ?_)
  obtain ⟨⟨y_41, rfl, hy_42⟩, rfl⟩ := p_45
  refine s_Model_delete_11 (fun z_46 => ?_) (fun z_47 => ?_)
  · skip
    refine s_Model_delete_18 ?_
    refine s_Model_delete_19 ?_
    refine x_callV (As := [.int 0, .int 1]) (b := m) (rest := []) (F1 := 1) (L1 := 20) (mc := 0) (ms := 0) d_Model_delete_20 cV_Model_139 (f_fails0 l_19 e_2 g_20 (by omega) (by omega)) e_2 ⟨by decide, rfl⟩ ⟨by omega, by show 8 + (3 + 11) + 20 ≤ _; omega⟩ ⟨by omega, by omega⟩ (Nat.le_of_ble_eq_true rfl) (fun v_49 h_48 p_50 => ?_)
    obtain ⟨rfl, rfl⟩ := p_50
    refine s_Model_delete_23 (fun z_51 => ?_) (fun z => absurd z (by decide))
    obtain ⟨jN, hjN, rfl, hlv⟩ : ∃ j, j < 24 ∧ x = nI (j + 1) ∧ ¬ fv j < 0 := (hy_42.resolve_left (fun q => z_46 q.1)).2
    refine s_Model_delete_28 ?_
    rw [nI_pred]
    refine x_callV (As := [.int (nI jN)]) (b := m) (rest := []) (F1 := 4) (L1 := 87) (mc := 0) (ms := 0) d_Model_delete_32 cV_Model_184 (f_tokensOf l_19 e_2 g_39 g_21 e_4 g_22 e_5 g_37 e_14 g_38 e_15 (nd_ne ND (i := 30) (j := 31) rfl rfl (by decide)) hjN hSZ (by omega) (by omega)) e_2 ⟨by decide, rfl⟩ ⟨by omega, by show 8 + (3 + 11) + 87 ≤ _; omega⟩ ⟨by omega, by omega⟩ (Nat.le_of_ble_eq_true rfl) (fun v_67 h_66 p_68 => ?_)
    obtain ⟨k_52, fb_53, fl_54, fs_55, rfl, hk_56, hk_57, l_58, e_59, ⟨cl_60, gc_61⟩, ga_62, eb_63, el_64, fr_65⟩ := p_68
    have e_69 := fr_65 texts_ _ (by simp only [List.mem_cons, List.not_mem_nil, or_false, not_or]; exact ⟨(nd_ne ND (i := 5) (j := 0) rfl rfl (by decide)), (nd_ne ND (i := 5) (j := 30) rfl rfl (by decide)), (nd_ne ND (i := 5) (j := 31) rfl rfl (by decide))⟩) e_4
    have e_70 := fr_65 sizes_ _ (by simp only [List.mem_cons, List.not_mem_nil, or_false, not_or]; exact ⟨(nd_ne ND (i := 6) (j := 0) rfl rfl (by decide)), (nd_ne ND (i := 6) (j := 30) rfl rfl (by decide)), (nd_ne ND (i := 6) (j := 31) rfl rfl (by decide))⟩) e_5
    have e_71 := fr_65 entries_ _ (by simp only [List.mem_cons, List.not_mem_nil, or_false, not_or]; exact ⟨(nd_ne ND (i := 8) (j := 0) rfl rfl (by decide)), (nd_ne ND (i := 8) (j := 30) rfl rfl (by decide)), (nd_ne ND (i := 8) (j := 31) rfl rfl (by decide))⟩) e_6
    have e_72 := fr_65 lies_ _ (by simp only [List.mem_cons, List.not_mem_nil, or_false, not_or]; exact ⟨(nd_ne ND (i := 9) (j := 0) rfl rfl (by decide)), (nd_ne ND (i := 9) (j := 30) rfl rfl (by decide)), (nd_ne ND (i := 9) (j := 31) rfl rfl (by decide))⟩) e_7
    have e_73 := fr_65 live_ _ (by simp only [List.mem_cons, List.not_mem_nil, or_false, not_or]; exact ⟨(nd_ne ND (i := 10) (j := 0) rfl rfl (by decide)), (nd_ne ND (i := 10) (j := 30) rfl rfl (by decide)), (nd_ne ND (i := 10) (j := 31) rfl rfl (by decide))⟩) e_8
    have e_74 := fr_65 row_ _ (by simp only [List.mem_cons, List.not_mem_nil, or_false, not_or]; exact ⟨(nd_ne ND (i := 11) (j := 0) rfl rfl (by decide)), (nd_ne ND (i := 11) (j := 30) rfl rfl (by decide)), (nd_ne ND (i := 11) (j := 31) rfl rfl (by decide))⟩) e_9
    have e_75 := fr_65 level_ _ (by simp only [List.mem_cons, List.not_mem_nil, or_false, not_or]; exact ⟨(nd_ne ND (i := 12) (j := 0) rfl rfl (by decide)), (nd_ne ND (i := 12) (j := 30) rfl rfl (by decide)), (nd_ne ND (i := 12) (j := 31) rfl rfl (by decide))⟩) e_10
    have e_76 := fr_65 oldLies_ _ (by simp only [List.mem_cons, List.not_mem_nil, or_false, not_or]; exact ⟨(nd_ne ND (i := 15) (j := 0) rfl rfl (by decide)), (nd_ne ND (i := 15) (j := 30) rfl rfl (by decide)), (nd_ne ND (i := 15) (j := 31) rfl rfl (by decide))⟩) e_11
    have e_77 := fr_65 oldLive_ _ (by simp only [List.mem_cons, List.not_mem_nil, or_false, not_or]; exact ⟨(nd_ne ND (i := 16) (j := 0) rfl rfl (by decide)), (nd_ne ND (i := 16) (j := 30) rfl rfl (by decide)), (nd_ne ND (i := 16) (j := 31) rfl rfl (by decide))⟩) e_12
    have e_78 := fr_65 oldRow_ _ (by simp only [List.mem_cons, List.not_mem_nil, or_false, not_or]; exact ⟨(nd_ne ND (i := 17) (j := 0) rfl rfl (by decide)), (nd_ne ND (i := 17) (j := 30) rfl rfl (by decide)), (nd_ne ND (i := 17) (j := 31) rfl rfl (by decide))⟩) e_13
    have r_79 := r_16.trans (fr_65.mono (by simp))
    have g_80 : fs_55[(0 : Nat)]? = some (.int 0) := (ga_62 0 (by decide)).trans g_20
    have g_81 : fs_55[(7 : Nat)]? = some (.ref texts_) := (ga_62 7 (by decide)).trans g_21
    have g_82 : fs_55[(8 : Nat)]? = some (.ref sizes_) := (ga_62 8 (by decide)).trans g_22
    have g_83 : fs_55[(12 : Nat)]? = some (.ref entries_) := (ga_62 12 (by decide)).trans g_23
    have g_84 : fs_55[(13 : Nat)]? = some (.ref lies_) := (ga_62 13 (by decide)).trans g_24
    have g_85 : fs_55[(14 : Nat)]? = some (.ref live_) := (ga_62 14 (by decide)).trans g_25
    have g_86 : fs_55[(15 : Nat)]? = some (.int (nI vs)) := (ga_62 15 (by decide)).trans g_26
    have g_87 : fs_55[(16 : Nat)]? = some (.int (nI md)) := (ga_62 16 (by decide)).trans g_27
    have g_88 : fs_55[(17 : Nat)]? = some (.ref row_) := (ga_62 17 (by decide)).trans g_28
    have g_89 : fs_55[(18 : Nat)]? = some (.ref level_) := (ga_62 18 (by decide)).trans g_29
    have g_90 : fs_55[(19 : Nat)]? = some (.int (nI sg)) := (ga_62 19 (by decide)).trans g_30
    have g_91 : fs_55[(20 : Nat)]? = some (.int (nI op)) := (ga_62 20 (by decide)).trans g_31
    have g_92 : fs_55[(23 : Nat)]? = some (.ref oldLies_) := (ga_62 23 (by decide)).trans g_32
    have g_93 : fs_55[(24 : Nat)]? = some (.ref oldLive_) := (ga_62 24 (by decide)).trans g_33
    have g_94 : fs_55[(25 : Nat)]? = some (.ref oldRow_) := (ga_62 25 (by decide)).trans g_34
    have g_95 : fs_55[(26 : Nat)]? = some (.int (nI ov)) := (ga_62 26 (by decide)).trans g_35
    have g_96 : fs_55[(27 : Nat)]? = some (.int (nI os)) := (ga_62 27 (by decide)).trans g_36
    have g_97 : fs_55[(53 : Nat)]? = some (.ref begins_) := (ga_62 53 (by decide)).trans g_37
    have g_98 : fs_55[(54 : Nat)]? = some (.ref lasts_) := (ga_62 54 (by decide)).trans g_38
    have ga_99 : ∀ i : Nat, i ∉ [0, 55] → fs_55[i]? = fs[i]? := fun i hi => (ga_62 i (fun z => hi (by simp only [List.mem_cons, List.not_mem_nil, or_false] at z ⊢; omega))).trans (ga_40 i hi)
    refine s_Model_delete_35 l_58 e_59 g_85 e_73 (by rw [nI_pred]; exact vp_in_nI (by omega) (by decide)) ?_
    obtain ⟨h_100, z_103⟩ : ∃ z, z = xw_up h_66 live_ (.inl (0, 24, .inl (upd fv (((nI (jN + 1)) - 1)).toNatClampNeg ((-1))))) := ⟨_, rfl⟩
    rw [← z_103]
    have e_101 : h_100 live_ = some (.inl (0, 24, .inl (upd fv (((nI (jN + 1)) - 1)).toNatClampNeg ((-1))))) := by rw [z_103]; exact xw_up_s _ _ _
    have f_102 : ∀ q, q ≠ live_ → h_100 q = h_66 q := fun q hq => by rw [z_103]; exact xw_up_n _ _ hq
    clear z_103
    have e_104 := (f_102 texts_ (nd_ne ND (i := 5) (j := 10) rfl rfl (by decide))).trans e_69
    have e_105 := (f_102 sizes_ (nd_ne ND (i := 6) (j := 10) rfl rfl (by decide))).trans e_70
    have e_106 := (f_102 entries_ (nd_ne ND (i := 8) (j := 10) rfl rfl (by decide))).trans e_71
    have e_107 := (f_102 lies_ (nd_ne ND (i := 9) (j := 10) rfl rfl (by decide))).trans e_72
    have e_108 := (f_102 row_ (Ne.symm (nd_ne ND (i := 10) (j := 11) rfl rfl (by decide)))).trans e_74
    have e_109 := (f_102 level_ (Ne.symm (nd_ne ND (i := 10) (j := 12) rfl rfl (by decide)))).trans e_75
    have e_110 := (f_102 oldLies_ (Ne.symm (nd_ne ND (i := 10) (j := 15) rfl rfl (by decide)))).trans e_76
    have e_111 := (f_102 oldLive_ (Ne.symm (nd_ne ND (i := 10) (j := 16) rfl rfl (by decide)))).trans e_77
    have e_112 := (f_102 oldRow_ (Ne.symm (nd_ne ND (i := 10) (j := 17) rfl rfl (by decide)))).trans e_78
    have e_113 := (f_102 begins_ (Ne.symm (nd_ne ND (i := 10) (j := 30) rfl rfl (by decide)))).trans eb_63
    have e_114 := (f_102 lasts_ (Ne.symm (nd_ne ND (i := 10) (j := 31) rfl rfl (by decide)))).trans el_64
    have e_115 := (f_102 m (Ne.symm (nd_ne ND (i := 10) (j := 0) rfl rfl (by decide)))).trans e_59
    have r_116 := r_79.up (by simp) f_102
    rw [nI_pred, nI_clamp (by omega)] at e_101
    exact ⟨⟨_, rfl⟩, ⟨_, l_58, e_115, ⟨_, g_80⟩, (KDr.fr ga_99 r_116 (by decide) (pick_dis ND (l := [m, draft_, asked_, prepared_, preparedSize_, texts_, sizes_, weights_, entries_, lies_, live_, row_, level_, oldTexts_, oldSizes_, oldLies_, oldLive_, oldRow_, firstToken_, starred_, tokenAt_, tokenSize_, groupKind_, groupPhrase_, groupSize_, groupMask_, groupFar_, out_, top_, masks_, begins_, lasts_, truth_, answers_, order_, scores_]) (is := [1]) (js := [0, 30, 31, 10]) (by decide))), (KPr.fr ga_99 r_116 (by decide) (pick_dis ND (l := [m, draft_, asked_, prepared_, preparedSize_, texts_, sizes_, weights_, entries_, lies_, live_, row_, level_, oldTexts_, oldSizes_, oldLies_, oldLive_, oldRow_, firstToken_, starred_, tokenAt_, tokenSize_, groupKind_, groupPhrase_, groupSize_, groupMask_, groupFar_, out_, top_, masks_, begins_, lasts_, truth_, answers_, order_, scores_]) (is := [3, 4]) (js := [0, 30, 31, 10]) (by decide))), (KTx.fr ga_99 r_116 (by decide) (pick_dis ND (l := [m, draft_, asked_, prepared_, preparedSize_, texts_, sizes_, weights_, entries_, lies_, live_, row_, level_, oldTexts_, oldSizes_, oldLies_, oldLive_, oldRow_, firstToken_, starred_, tokenAt_, tokenSize_, groupKind_, groupPhrase_, groupSize_, groupMask_, groupFar_, out_, top_, masks_, begins_, lasts_, truth_, answers_, order_, scores_]) (is := [5, 6]) (js := [0, 30, 31, 10]) (by decide))), (KOt.fr ga_99 r_116 (by decide) (pick_dis ND (l := [m, draft_, asked_, prepared_, preparedSize_, texts_, sizes_, weights_, entries_, lies_, live_, row_, level_, oldTexts_, oldSizes_, oldLies_, oldLive_, oldRow_, firstToken_, starred_, tokenAt_, tokenSize_, groupKind_, groupPhrase_, groupSize_, groupMask_, groupFar_, out_, top_, masks_, begins_, lasts_, truth_, answers_, order_, scores_]) (is := [13, 14]) (js := [0, 30, 31, 10]) (by decide))), ⟨vs, md, sg, op, ov, os, _, _, _, _, _, _, _, _, g_86, g_87, g_90, g_91, g_95, g_96, g_83, e_106, g_84, e_107, g_85, e_101, g_88, e_108, g_89, e_109, g_92, e_110, g_93, e_111, g_94, e_112, by omega, by omega, by omega, by omega, by omega, hLI, hRO, fun r9_ hr9_ => by by_cases q : r9_ = jN; (subst q; rw [pk_us]; exact Or.inl (by decide)); (rw [pk_un q]; exact hLV r9_ hr9_), hOI, hOR, hOV, by omega⟩, (KMo.fr ga_99 r_116 (by decide) (fun _ z => nomatch z)), (KWe.fr ga_99 r_116 (by decide) (pick_dis ND (l := [m, draft_, asked_, prepared_, preparedSize_, texts_, sizes_, weights_, entries_, lies_, live_, row_, level_, oldTexts_, oldSizes_, oldLies_, oldLive_, oldRow_, firstToken_, starred_, tokenAt_, tokenSize_, groupKind_, groupPhrase_, groupSize_, groupMask_, groupFar_, out_, top_, masks_, begins_, lasts_, truth_, answers_, order_, scores_]) (is := [7]) (js := [0, 30, 31, 10]) (by decide))), ⟨_, _, _, gc_61, g_97, e_113, g_98, e_114⟩, (KAn.fr ga_99 r_116 (by decide) (pick_dis ND (l := [m, draft_, asked_, prepared_, preparedSize_, texts_, sizes_, weights_, entries_, lies_, live_, row_, level_, oldTexts_, oldSizes_, oldLies_, oldLive_, oldRow_, firstToken_, starred_, tokenAt_, tokenSize_, groupKind_, groupPhrase_, groupSize_, groupMask_, groupFar_, out_, top_, masks_, begins_, lasts_, truth_, answers_, order_, scores_]) (is := [33, 34, 35]) (js := [0, 30, 31, 10]) (by decide))), (KQu.fr ga_99 r_116 (by decide) (pick_dis ND (l := [m, draft_, asked_, prepared_, preparedSize_, texts_, sizes_, weights_, entries_, lies_, live_, row_, level_, oldTexts_, oldSizes_, oldLies_, oldLive_, oldRow_, firstToken_, starred_, tokenAt_, tokenSize_, groupKind_, groupPhrase_, groupSize_, groupMask_, groupFar_, out_, top_, masks_, begins_, lasts_, truth_, answers_, order_, scores_]) (is := [2, 18, 19, 20, 21, 22, 23, 24, 25, 26, 27, 28, 29, 32]) (js := [0, 30, 31, 10]) (by decide)))⟩, r_116.mono (by simp), r_116, FF.of e e_115 ga_99, (fun fvw ew => by obtain rfl := cinj ew e_live; exact Or.inl ⟨jN, hjN, rfl, hlv, ⟨_, e_115, g_80⟩, e_101⟩), fun ftw fzw w3 w4 j8 hj8 e8 z8 => by obtain rfl := cinj w3 e_texts; obtain rfl := cinj w4 e_sizes; obtain rfl : j8 = jN := (by have q8 := (nI_eq (a := jN + 1) (b := j8 + 1) (by omega) (by omega)).mp e8; omega); rw [hk_56]⟩
  · skip
    refine s_Model_delete_14 ?_
    refine s_Model_delete_19 ?_
    refine x_callV (As := [.int 1, .int 1]) (b := m) (rest := []) (F1 := 1) (L1 := 20) (mc := 0) (ms := 0) d_Model_delete_20 cV_Model_139 (f_fails1 (c := 1) l_19 e_2 g_20 (by decide) (by omega) (by omega)) e_2 ⟨by decide, rfl⟩ ⟨by omega, by show 8 + (3 + 11) + 20 ≤ _; omega⟩ ⟨by omega, by omega⟩ (Nat.le_of_ble_eq_true rfl) (fun v_124 h_123 p_125 => ?_)
    obtain ⟨rfl, fs_117, l_118, e_119, g_121, ga_120, fr_122⟩ := p_125
    have g_126 : fs_117[(7 : Nat)]? = some (.ref texts_) := (ga_120 7 (by decide)).trans g_21
    have g_127 : fs_117[(8 : Nat)]? = some (.ref sizes_) := (ga_120 8 (by decide)).trans g_22
    have g_128 : fs_117[(12 : Nat)]? = some (.ref entries_) := (ga_120 12 (by decide)).trans g_23
    have g_129 : fs_117[(13 : Nat)]? = some (.ref lies_) := (ga_120 13 (by decide)).trans g_24
    have g_130 : fs_117[(14 : Nat)]? = some (.ref live_) := (ga_120 14 (by decide)).trans g_25
    have g_131 : fs_117[(15 : Nat)]? = some (.int (nI vs)) := (ga_120 15 (by decide)).trans g_26
    have g_132 : fs_117[(16 : Nat)]? = some (.int (nI md)) := (ga_120 16 (by decide)).trans g_27
    have g_133 : fs_117[(17 : Nat)]? = some (.ref row_) := (ga_120 17 (by decide)).trans g_28
    have g_134 : fs_117[(18 : Nat)]? = some (.ref level_) := (ga_120 18 (by decide)).trans g_29
    have g_135 : fs_117[(19 : Nat)]? = some (.int (nI sg)) := (ga_120 19 (by decide)).trans g_30
    have g_136 : fs_117[(20 : Nat)]? = some (.int (nI op)) := (ga_120 20 (by decide)).trans g_31
    have g_137 : fs_117[(23 : Nat)]? = some (.ref oldLies_) := (ga_120 23 (by decide)).trans g_32
    have g_138 : fs_117[(24 : Nat)]? = some (.ref oldLive_) := (ga_120 24 (by decide)).trans g_33
    have g_139 : fs_117[(25 : Nat)]? = some (.ref oldRow_) := (ga_120 25 (by decide)).trans g_34
    have g_140 : fs_117[(26 : Nat)]? = some (.int (nI ov)) := (ga_120 26 (by decide)).trans g_35
    have g_141 : fs_117[(27 : Nat)]? = some (.int (nI os)) := (ga_120 27 (by decide)).trans g_36
    have g_142 : fs_117[(53 : Nat)]? = some (.ref begins_) := (ga_120 53 (by decide)).trans g_37
    have g_143 : fs_117[(54 : Nat)]? = some (.ref lasts_) := (ga_120 54 (by decide)).trans g_38
    have g_144 : fs_117[(55 : Nat)]? = some (.int cl) := (ga_120 55 (by decide)).trans g_39
    have e_145 := fr_122 texts_ _ (by simp only [List.mem_cons, List.not_mem_nil, or_false, not_or]; exact (nd_ne ND (i := 5) (j := 0) rfl rfl (by decide))) e_4
    have e_146 := fr_122 sizes_ _ (by simp only [List.mem_cons, List.not_mem_nil, or_false, not_or]; exact (nd_ne ND (i := 6) (j := 0) rfl rfl (by decide))) e_5
    have e_147 := fr_122 entries_ _ (by simp only [List.mem_cons, List.not_mem_nil, or_false, not_or]; exact (nd_ne ND (i := 8) (j := 0) rfl rfl (by decide))) e_6
    have e_148 := fr_122 lies_ _ (by simp only [List.mem_cons, List.not_mem_nil, or_false, not_or]; exact (nd_ne ND (i := 9) (j := 0) rfl rfl (by decide))) e_7
    have e_149 := fr_122 live_ _ (by simp only [List.mem_cons, List.not_mem_nil, or_false, not_or]; exact (nd_ne ND (i := 10) (j := 0) rfl rfl (by decide))) e_8
    have e_150 := fr_122 row_ _ (by simp only [List.mem_cons, List.not_mem_nil, or_false, not_or]; exact (nd_ne ND (i := 11) (j := 0) rfl rfl (by decide))) e_9
    have e_151 := fr_122 level_ _ (by simp only [List.mem_cons, List.not_mem_nil, or_false, not_or]; exact (nd_ne ND (i := 12) (j := 0) rfl rfl (by decide))) e_10
    have e_152 := fr_122 oldLies_ _ (by simp only [List.mem_cons, List.not_mem_nil, or_false, not_or]; exact (nd_ne ND (i := 15) (j := 0) rfl rfl (by decide))) e_11
    have e_153 := fr_122 oldLive_ _ (by simp only [List.mem_cons, List.not_mem_nil, or_false, not_or]; exact (nd_ne ND (i := 16) (j := 0) rfl rfl (by decide))) e_12
    have e_154 := fr_122 oldRow_ _ (by simp only [List.mem_cons, List.not_mem_nil, or_false, not_or]; exact (nd_ne ND (i := 17) (j := 0) rfl rfl (by decide))) e_13
    have e_155 := fr_122 begins_ _ (by simp only [List.mem_cons, List.not_mem_nil, or_false, not_or]; exact (nd_ne ND (i := 30) (j := 0) rfl rfl (by decide))) e_14
    have e_156 := fr_122 lasts_ _ (by simp only [List.mem_cons, List.not_mem_nil, or_false, not_or]; exact (nd_ne ND (i := 31) (j := 0) rfl rfl (by decide))) e_15
    have ga_157 : ∀ i : Nat, i ∉ [0, 55] → fs_117[i]? = fs[i]? := fun i hi => (ga_120 i (fun z => hi (by simp only [List.mem_cons, List.not_mem_nil, or_false] at z ⊢; omega))).trans (ga_40 i hi)
    have r_158 := r_16.trans (fr_122.mono (by simp))
    refine s_Model_delete_23 (fun z => absurd z (by decide)) (fun z_159 => ?_)
    refine s_Model_delete_26 ?_
    exact ⟨⟨_, rfl⟩, ⟨_, l_118, e_119, ⟨_, g_121⟩, (KDr.fr ga_157 r_158 (by decide) (pick_dis ND (l := [m, draft_, asked_, prepared_, preparedSize_, texts_, sizes_, weights_, entries_, lies_, live_, row_, level_, oldTexts_, oldSizes_, oldLies_, oldLive_, oldRow_, firstToken_, starred_, tokenAt_, tokenSize_, groupKind_, groupPhrase_, groupSize_, groupMask_, groupFar_, out_, top_, masks_, begins_, lasts_, truth_, answers_, order_, scores_]) (is := [1]) (js := [0, 30, 31, 10]) (by decide))), (KPr.fr ga_157 r_158 (by decide) (pick_dis ND (l := [m, draft_, asked_, prepared_, preparedSize_, texts_, sizes_, weights_, entries_, lies_, live_, row_, level_, oldTexts_, oldSizes_, oldLies_, oldLive_, oldRow_, firstToken_, starred_, tokenAt_, tokenSize_, groupKind_, groupPhrase_, groupSize_, groupMask_, groupFar_, out_, top_, masks_, begins_, lasts_, truth_, answers_, order_, scores_]) (is := [3, 4]) (js := [0, 30, 31, 10]) (by decide))), (KTx.fr ga_157 r_158 (by decide) (pick_dis ND (l := [m, draft_, asked_, prepared_, preparedSize_, texts_, sizes_, weights_, entries_, lies_, live_, row_, level_, oldTexts_, oldSizes_, oldLies_, oldLive_, oldRow_, firstToken_, starred_, tokenAt_, tokenSize_, groupKind_, groupPhrase_, groupSize_, groupMask_, groupFar_, out_, top_, masks_, begins_, lasts_, truth_, answers_, order_, scores_]) (is := [5, 6]) (js := [0, 30, 31, 10]) (by decide))), (KOt.fr ga_157 r_158 (by decide) (pick_dis ND (l := [m, draft_, asked_, prepared_, preparedSize_, texts_, sizes_, weights_, entries_, lies_, live_, row_, level_, oldTexts_, oldSizes_, oldLies_, oldLive_, oldRow_, firstToken_, starred_, tokenAt_, tokenSize_, groupKind_, groupPhrase_, groupSize_, groupMask_, groupFar_, out_, top_, masks_, begins_, lasts_, truth_, answers_, order_, scores_]) (is := [13, 14]) (js := [0, 30, 31, 10]) (by decide))), ⟨vs, md, sg, op, ov, os, _, _, _, _, _, _, _, _, g_131, g_132, g_135, g_136, g_140, g_141, g_128, e_147, g_129, e_148, g_130, e_149, g_133, e_150, g_134, e_151, g_137, e_152, g_138, e_153, g_139, e_154, by omega, by omega, by omega, by omega, by omega, hLI, hRO, hLV, hOI, hOR, hOV, by omega⟩, (KMo.fr ga_157 r_158 (by decide) (fun _ z => nomatch z)), (KWe.fr ga_157 r_158 (by decide) (pick_dis ND (l := [m, draft_, asked_, prepared_, preparedSize_, texts_, sizes_, weights_, entries_, lies_, live_, row_, level_, oldTexts_, oldSizes_, oldLies_, oldLive_, oldRow_, firstToken_, starred_, tokenAt_, tokenSize_, groupKind_, groupPhrase_, groupSize_, groupMask_, groupFar_, out_, top_, masks_, begins_, lasts_, truth_, answers_, order_, scores_]) (is := [7]) (js := [0, 30, 31, 10]) (by decide))), ⟨_, _, _, g_144, g_142, e_155, g_143, e_156⟩, (KAn.fr ga_157 r_158 (by decide) (pick_dis ND (l := [m, draft_, asked_, prepared_, preparedSize_, texts_, sizes_, weights_, entries_, lies_, live_, row_, level_, oldTexts_, oldSizes_, oldLies_, oldLive_, oldRow_, firstToken_, starred_, tokenAt_, tokenSize_, groupKind_, groupPhrase_, groupSize_, groupMask_, groupFar_, out_, top_, masks_, begins_, lasts_, truth_, answers_, order_, scores_]) (is := [33, 34, 35]) (js := [0, 30, 31, 10]) (by decide))), (KQu.fr ga_157 r_158 (by decide) (pick_dis ND (l := [m, draft_, asked_, prepared_, preparedSize_, texts_, sizes_, weights_, entries_, lies_, live_, row_, level_, oldTexts_, oldSizes_, oldLies_, oldLive_, oldRow_, firstToken_, starred_, tokenAt_, tokenSize_, groupKind_, groupPhrase_, groupSize_, groupMask_, groupFar_, out_, top_, masks_, begins_, lasts_, truth_, answers_, order_, scores_]) (is := [2, 18, 19, 20, 21, 22, 23, 24, 25, 26, 27, 28, 29, 32]) (js := [0, 30, 31, 10]) (by decide)))⟩, r_158.mono (by simp), r_158, FF.of e e_119 ga_157, (fun fvw ew => by obtain rfl := cinj ew e_live; exact Or.inr ⟨hy_42.elim (fun q => q.2) (fun q => absurd (q.1.symm.trans z_47) (by decide)), ⟨_, e_119, g_121⟩, e_149⟩), fun ftw fzw w3 w4 j8 hj8 e8 z8 => by obtain rfl := cinj w3 e_texts; obtain rfl := cinj w4 e_sizes; exact absurd (Value.int.inj (z8.inj ⟨_, e_119, g_121⟩)) (by decide)⟩
