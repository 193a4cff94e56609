/-! the reference in general states: by program (wip/tools/gen3.py, gen4.py, gen5.py) -/
theorem sgk_ix {k n : Nat} (h : n ≤ k) (hk : k < 2 ^ 31) : nI n - 1 < nI k := by
  rcases Nat.eq_zero_or_pos n with q | q
  · subst q
    exact Int32.lt_of_lt_of_le (by decide) (nI_pos' hk)
  · rw [show (1 : Int32) = nI 1 from rfl, pk_sub q]
    exact nI_lt (by omega) hk
theorem sg_no {k : Int32} {sg : Nat} (h : k < 0 ∨ nI sg - 1 < k) (hs : sg < 600) : ∀ j, j < sg → ¬ k = nI j := fun j hj q => by
  rw [q] at h
  rcases h with h | h
  · exact absurd h (nI_pos (by omega))
  · rw [show (1 : Int32) = nI 1 from rfl, pk_sub (by omega)] at h
    exact absurd h (nI_nlt (by omega) (by omega))
theorem sg_yes {k : Int32} {sg : Nat} (h : ¬ k < 0 ∧ ¬ nI sg - 1 < k) (hs : sg < 600) : ∃ j, j < sg ∧ k = nI j := by
  obtain ⟨j, hj, rfl⟩ := nI_of h.1
  refine ⟨j, ?_, rfl⟩
  rcases Nat.lt_or_ge j sg with q | q
  · exact q
  · exact absurd (sgk_ix q (by omega)) h.2
theorem kpx_m1 {x : Int32} : ¬ kpx (-1) x := fun w => w.elim (fun u => absurd u (by decide)) (fun u => u.1 (by decide))
set_option maxHeartbeats 1000000 in
theorem lp_seg {G : xw_G} {F L bc bs : Nat} {pr : Option Value → xw_A → Prop} {px : String → xw_A → Prop} {h : xw_A} {kN vs : Nat} {c : Int32} {fe fi fr : Nat → Int32} {entries_ lies_ row_ : Nat} {m : Nat} {fs : List Value} (l : fs.length = 62) (e : h m = some (.inr (11, fs))) (g_versions : fs[(15 : Nat)]? = some (.int (nI vs))) (g_entries : fs[(12 : Nat)]? = some (.ref entries_)) (e_entries : h entries_ = some (.inl (0, 600, .inl (fe)))) (g_lies : fs[(13 : Nat)]? = some (.ref lies_)) (e_lies : h lies_ = some (.inl (0, 600, .inl (fi)))) (g_row : fs[(17 : Nat)]? = some (.ref row_)) (e_row : h row_ = some (.inl (0, 600, .inl (fr)))) (n_entries_lies : entries_ ≠ lies_) (n_entries_row : entries_ ≠ row_) (n_lies_row : lies_ ≠ row_) (hkN : kN < 600) (hvs : vs ≤ 600) (kk : pr (some (.int (sgN fi fe (fr kN) c vs))) h) :
    ∀ (dd i : Nat) (acc : Int32), i + dd = vs → acc = sgN fi fe (fr kN) c i → xw G m_Model_segment F L bc bs pr px 77 [some (.ref m), some (.int (nI kN)), some (.int c), some (.int acc), some (.int (nI i))] [] h := by
  intro dd
  induction dd with
  | zero =>
    intro i acc hi hp
    obtain rfl : i = vs := by omega
    refine s_Model_segment_77 l e g_versions (fun z_1 => ?_) (fun z => absurd (nI_le (Nat.le_refl _) (by omega)) z)
    refine s_Model_segment_127 ?_
    rw [hp]; exact kk
  | succ dd ih =>
    intro i acc hi hp
    refine s_Model_segment_77 l e g_versions (fun z => absurd z (nI_ge (b := vs) (show i < vs by omega) (by omega))) (fun z_1 => ?_)
    refine s_Model_segment_86 l e g_lies e_lies (vp_in_nI (by omega) (by omega)) g_row e_row (vp_in_nI (by omega) (by omega)) (fun z_2 => ?_) (fun z_3 => ?_)
    · skip
      refine s_Model_segment_121 ?_
      simp only [nI_1]
      exact ih (i + 1) _ (by omega) (by rw [sgN, if_neg (by rw [nI_clamp (show i < 2 ^ 31 by omega), nI_clamp (show kN < 2 ^ 31 by omega)] at z_2; exact z_2), hp])
    · skip
      refine s_Model_segment_102 (fun z_4 => ?_) (fun z_5 => ?_)
      · skip
        refine s_Model_segment_112 l e g_entries e_entries (vp_in_nI (by omega) (by omega)) ?_
        refine s_Model_segment_119 ?_
        refine s_Model_segment_121 ?_
        simp only [nI_1]
        exact ih (i + 1) _ (by omega) (by rw [sgN, if_pos (by rw [nI_clamp (show i < 2 ^ 31 by omega), nI_clamp (show kN < 2 ^ 31 by omega)] at z_3; exact z_3), if_neg z_4, hp, nI_clamp (show i < 2 ^ 31 by omega)])
      · skip
        refine s_Model_segment_108 ?_
        refine s_Model_segment_119 ?_
        refine s_Model_segment_121 ?_
        simp only [nI_1]
        exact ih (i + 1) _ (by omega) (by rw [sgN, if_pos (by rw [nI_clamp (show i < 2 ^ 31 by omega), nI_clamp (show kN < 2 ^ 31 by omega)] at z_3; exact z_3), if_pos z_5, hp])
set_option maxHeartbeats 2000000 in
theorem r_segment {G : xw_G} {F L : Nat} {h : xw_A} {k c : Int32} {m draft_ asked_ prepared_ preparedSize_ texts_ sizes_ weights_ entries_ lies_ live_ row_ level_ oldTexts_ oldSizes_ oldLies_ oldLive_ oldRow_ firstToken_ starred_ tokenAt_ tokenSize_ groupKind_ groupPhrase_ groupSize_ groupMask_ groupFar_ out_ top_ masks_ begins_ lasts_ truth_ answers_ order_ scores_ T : Nat} (R : RI m draft_ asked_ prepared_ preparedSize_ texts_ sizes_ weights_ entries_ lies_ live_ row_ level_ oldTexts_ oldSizes_ oldLies_ oldLive_ oldRow_ firstToken_ starred_ tokenAt_ tokenSize_ groupKind_ groupPhrase_ groupSize_ groupMask_ groupFar_ out_ top_ masks_ begins_ lasts_ truth_ answers_ order_ scores_ T h) (ND : NDl [m, draft_, asked_, prepared_, preparedSize_, texts_, sizes_, weights_, entries_, lies_, live_, row_, level_, oldTexts_, oldSizes_, oldLies_, oldLive_, oldRow_, firstToken_, starred_, tokenAt_, tokenSize_, groupKind_, groupPhrase_, groupSize_, groupMask_, groupFar_, out_, top_, masks_, begins_, lasts_, truth_, answers_, order_, scores_]) (hT : T < 512) (hF : 2 ≤ F) (hL : 42 ≤ L) :
    xw_Met G m_Model_segment F L 0 0 [.ref m, .int k, .int c] h (fun v h' => (∃ y : Int32, v = some (.int y)) ∧ RI m draft_ asked_ prepared_ preparedSize_ texts_ sizes_ weights_ entries_ lies_ live_ row_ level_ oldTexts_ oldSizes_ oldLies_ oldLive_ oldRow_ firstToken_ starred_ tokenAt_ tokenSize_ groupKind_ groupPhrase_ groupSize_ groupMask_ groupFar_ out_ top_ masks_ begins_ lasts_ truth_ answers_ order_ scores_ (T + 1) h' ∧ FrO [m, draft_, asked_, prepared_, preparedSize_, texts_, sizes_, weights_, entries_, lies_, live_, row_, level_, oldTexts_, oldSizes_, oldLies_, oldLive_, oldRow_, firstToken_, starred_, tokenAt_, tokenSize_, groupKind_, groupPhrase_, groupSize_, groupMask_, groupFar_, out_, top_, masks_, begins_, lasts_, truth_, answers_, order_, scores_] h h' ∧ FrO [m] h h' ∧ FF m [0] h h' ∧ (∀ (X : RSt) (nv : Nat) (fe : Nat → Int32), SgC m lies_ row_ level_ X h → Rf m 15 (.int (nI nv)) h → nv < 600 → h entries_ = some (.inl (0, 600, .inl fe)) → ((∀ j, j < X.2.2.2.2 → ¬ k = nI j) ∧ Rf m 0 (.int 1) h') ∨ ∃ j, j < X.2.2.2.2 ∧ k = nI j ∧ (((c < 0 ∨ 2 < c) ∧ Rf m 0 (.int 2) h') ∨ (Rf m 0 (.int 0) h' ∧ ¬ (c < 0 ∨ 2 < c) ∧ ((c = 0 ∧ v = some (.int (lev X.2.2.1 X.2.1 j))) ∨ (¬ c = 0 ∧ v = some (.int (sgN X.1 fe (X.2.1 j) c nv)))))))) (fun _ _ => False) := by
  refine xw_Met.of rfl (by decide) (Nat.le_of_ble_eq_true rfl) ?_
  obtain ⟨fs, l, e, ⟨er, g_err⟩, KDr, KPr, KTx, KOt, KSt, KMo, KWe, KBe, KAn, KQu⟩ := R
  obtain ⟨vs, md, sg, op, ov, os, fe, fi, fv, fr, fL, foi, fov, fow, g_versions, g_made, g_segments, g_open, g_oldVersions, g_oldSegments, g_entries, e_entries, g_lies, e_lies, g_live, e_live, g_row, e_row, g_level, e_level, g_oldLies, e_oldLies, g_oldLive, e_oldLive, g_oldRow, e_oldRow, hvs, hsg, hop, hov, hos, hLI, hRO, hLV, hOI, hOR, hOV, hpot⟩ := id KSt
  have ga0 : ∀ i : Nat, i ∉ [0] → fs[i]? = fs[i]? := fun _ _ => rfl
  have r0 : FrO [m] h h := FrO.rf
  refine s_Model_segment_0 l e g_segments ?_
  refine x_u1 (fun h_1 e_2 f_3 => ?_)
  have e_4 := (f_3 entries_ (nd_ne ND (i := 8) (j := 0) rfl rfl (by decide))).trans e_entries
  have e_5 := (f_3 lies_ (nd_ne ND (i := 9) (j := 0) rfl rfl (by decide))).trans e_lies
  have e_6 := (f_3 live_ (nd_ne ND (i := 10) (j := 0) rfl rfl (by decide))).trans e_live
  have e_7 := (f_3 row_ (nd_ne ND (i := 11) (j := 0) rfl rfl (by decide))).trans e_row
  have e_8 := (f_3 level_ (nd_ne ND (i := 12) (j := 0) rfl rfl (by decide))).trans e_level
  have e_9 := (f_3 oldLies_ (nd_ne ND (i := 15) (j := 0) rfl rfl (by decide))).trans e_oldLies
  have e_10 := (f_3 oldLive_ (nd_ne ND (i := 16) (j := 0) rfl rfl (by decide))).trans e_oldLive
  have e_11 := (f_3 oldRow_ (nd_ne ND (i := 17) (j := 0) rfl rfl (by decide))).trans e_oldRow
  have r_12 := r0.up (by simp) f_3
  obtain ⟨fs_13, z_14⟩ : ∃ z, z = fs.set 0 (.int 0) := ⟨_, rfl⟩
  rw [← z_14] at e_2
  have l_15 : fs_13.length = 62 := by rw [z_14]; simp only [List.length_set]; exact l
  have g_16 : fs_13[(0 : Nat)]? = some (.int 0) := by rw [z_14]; exact (xw_gs (by simp [l]))
  have g_17 : fs_13[(12 : Nat)]? = some (.ref entries_) := by rw [z_14]; exact (xw_gn (by decide) g_entries)
  have g_18 : fs_13[(13 : Nat)]? = some (.ref lies_) := by rw [z_14]; exact (xw_gn (by decide) g_lies)
  have g_19 : fs_13[(14 : Nat)]? = some (.ref live_) := by rw [z_14]; exact (xw_gn (by decide) g_live)
  have g_20 : fs_13[(15 : Nat)]? = some (.int (nI vs)) := by rw [z_14]; exact (xw_gn (by decide) g_versions)
  have g_21 : fs_13[(16 : Nat)]? = some (.int (nI md)) := by rw [z_14]; exact (xw_gn (by decide) g_made)
  have g_22 : fs_13[(17 : Nat)]? = some (.ref row_) := by rw [z_14]; exact (xw_gn (by decide) g_row)
  have g_23 : fs_13[(18 : Nat)]? = some (.ref level_) := by rw [z_14]; exact (xw_gn (by decide) g_level)
  have g_24 : fs_13[(19 : Nat)]? = some (.int (nI sg)) := by rw [z_14]; exact (xw_gn (by decide) g_segments)
  have g_25 : fs_13[(20 : Nat)]? = some (.int (nI op)) := by rw [z_14]; exact (xw_gn (by decide) g_open)
  have g_26 : fs_13[(23 : Nat)]? = some (.ref oldLies_) := by rw [z_14]; exact (xw_gn (by decide) g_oldLies)
  have g_27 : fs_13[(24 : Nat)]? = some (.ref oldLive_) := by rw [z_14]; exact (xw_gn (by decide) g_oldLive)
  have g_28 : fs_13[(25 : Nat)]? = some (.ref oldRow_) := by rw [z_14]; exact (xw_gn (by decide) g_oldRow)
  have g_29 : fs_13[(26 : Nat)]? = some (.int (nI ov)) := by rw [z_14]; exact (xw_gn (by decide) g_oldVersions)
  have g_30 : fs_13[(27 : Nat)]? = some (.int (nI os)) := by rw [z_14]; exact (xw_gn (by decide) g_oldSegments)
  have ga_31 : ∀ i : Nat, i ∉ [0] → fs_13[i]? = fs[i]? := fun i hi => by rw [z_14]; exact xw_gn (fun z => hi (by rw [z]; simp)) (ga0 i hi)
  clear z_14
  refine x_callS (As := [.int k, .int 0, .int ((nI sg) - 1)]) (rest := [.ref m]) (F1 := 1) (L1 := 20) (mc := 0) (ms := 0) d_Model_segment_14 cS_Model_133 (f_inB (by omega) (by omega)) ⟨by omega, by show 8 + (3 + 11) + 20 ≤ _; omega⟩ ⟨by omega, by omega⟩ (Nat.le_of_ble_eq_true rfl) (fun v_33 h_32 p_34 => ?_)
  obtain ⟨rfl, rfl⟩ := p_34
  refine s_Model_segment_17 (fun z_35 => ?_) (fun z_36 => ?_)
  · skip
    refine s_Model_segment_24 ?_
    refine s_Model_segment_25 ?_
    refine x_callV (As := [.int 0, .int 1]) (b := m) (rest := []) (F1 := 1) (L1 := 20) (mc := 0) (ms := 0) d_Model_segment_26 cV_Model_139 (f_fails0 l_15 e_2 g_16 (by omega) (by omega)) e_2 ⟨by decide, rfl⟩ ⟨by omega, by show 8 + (3 + 11) + 20 ≤ _; omega⟩ ⟨by omega, by omega⟩ (Nat.le_of_ble_eq_true rfl) (fun v_38 h_37 p_39 => ?_)
    obtain ⟨rfl, rfl⟩ := p_39
    refine s_Model_segment_29 (fun z => absurd z (by decide)) (fun z_40 => ?_)
    refine s_Model_segment_32 ?_
    refine x_callS (As := [.int c, .int 0, .int 2]) (rest := [.ref m]) (F1 := 1) (L1 := 20) (mc := 0) (ms := 0) d_Model_segment_36 cS_Model_133 (f_inB (by omega) (by omega)) ⟨by omega, by show 8 + (3 + 11) + 20 ≤ _; omega⟩ ⟨by omega, by omega⟩ (Nat.le_of_ble_eq_true rfl) (fun v_42 h_41 p_43 => ?_)
    obtain ⟨rfl, rfl⟩ := p_43
    refine s_Model_segment_39 (fun z_44 => ?_) (fun z_45 => ?_)
    · skip
      refine s_Model_segment_46 ?_
      refine s_Model_segment_47 ?_
      refine x_callV (As := [.int 0, .int 2]) (b := m) (rest := []) (F1 := 1) (L1 := 20) (mc := 0) (ms := 0) d_Model_segment_48 cV_Model_139 (f_fails0 l_15 e_2 g_16 (by omega) (by omega)) e_2 ⟨by decide, rfl⟩ ⟨by omega, by show 8 + (3 + 11) + 20 ≤ _; omega⟩ ⟨by omega, by omega⟩ (Nat.le_of_ble_eq_true rfl) (fun v_47 h_46 p_48 => ?_)
      obtain ⟨rfl, rfl⟩ := p_48
      refine s_Model_segment_51 (fun z_49 => ?_) (fun z => absurd z (by decide))
      have hb9 := inB_t z_35
      obtain ⟨kN, hkN, rfl⟩ := nI_of hb9.1
      have hk9 : kN < sg := by rcases Nat.lt_or_ge kN sg with q | q; (exact q); (exact absurd (sgk_ix q (by omega)) hb9.2)
      obtain ⟨sN, hsN, hsE⟩ := hRO kN hk9
      refine s_Model_segment_56 (fun z_50 => ?_) (fun z_51 => ?_)
      · skip
        refine s_Model_segment_72 ?_
        exact lp_seg l_15 e_2 g_20 g_17 e_4 g_18 e_5 g_22 e_7 (nd_ne ND (i := 8) (j := 9) rfl rfl (by decide)) (nd_ne ND (i := 8) (j := 11) rfl rfl (by decide)) (nd_ne ND (i := 9) (j := 11) rfl rfl (by decide)) (by omega) (by omega) (⟨⟨_, rfl⟩, ⟨_, l_15, e_2, ⟨_, g_16⟩, (KDr.fr ga_31 r_12 (by decide) (pick_dis ND (l := [m, draft_, asked_, prepared_, preparedSize_, texts_, sizes_, weights_, entries_, lies_, live_, row_, level_, oldTexts_, oldSizes_, oldLies_, oldLive_, oldRow_, firstToken_, starred_, tokenAt_, tokenSize_, groupKind_, groupPhrase_, groupSize_, groupMask_, groupFar_, out_, top_, masks_, begins_, lasts_, truth_, answers_, order_, scores_]) (is := [1]) (js := [0]) (by decide))), (KPr.fr ga_31 r_12 (by decide) (pick_dis ND (l := [m, draft_, asked_, prepared_, preparedSize_, texts_, sizes_, weights_, entries_, lies_, live_, row_, level_, oldTexts_, oldSizes_, oldLies_, oldLive_, oldRow_, firstToken_, starred_, tokenAt_, tokenSize_, groupKind_, groupPhrase_, groupSize_, groupMask_, groupFar_, out_, top_, masks_, begins_, lasts_, truth_, answers_, order_, scores_]) (is := [3, 4]) (js := [0]) (by decide))), (KTx.fr ga_31 r_12 (by decide) (pick_dis ND (l := [m, draft_, asked_, prepared_, preparedSize_, texts_, sizes_, weights_, entries_, lies_, live_, row_, level_, oldTexts_, oldSizes_, oldLies_, oldLive_, oldRow_, firstToken_, starred_, tokenAt_, tokenSize_, groupKind_, groupPhrase_, groupSize_, groupMask_, groupFar_, out_, top_, masks_, begins_, lasts_, truth_, answers_, order_, scores_]) (is := [5, 6]) (js := [0]) (by decide))), (KOt.fr ga_31 r_12 (by decide) (pick_dis ND (l := [m, draft_, asked_, prepared_, preparedSize_, texts_, sizes_, weights_, entries_, lies_, live_, row_, level_, oldTexts_, oldSizes_, oldLies_, oldLive_, oldRow_, firstToken_, starred_, tokenAt_, tokenSize_, groupKind_, groupPhrase_, groupSize_, groupMask_, groupFar_, out_, top_, masks_, begins_, lasts_, truth_, answers_, order_, scores_]) (is := [13, 14]) (js := [0]) (by decide))), (KSt.fr ga_31 r_12 (by decide) (pick_dis ND (l := [m, draft_, asked_, prepared_, preparedSize_, texts_, sizes_, weights_, entries_, lies_, live_, row_, level_, oldTexts_, oldSizes_, oldLies_, oldLive_, oldRow_, firstToken_, starred_, tokenAt_, tokenSize_, groupKind_, groupPhrase_, groupSize_, groupMask_, groupFar_, out_, top_, masks_, begins_, lasts_, truth_, answers_, order_, scores_]) (is := [8, 9, 10, 11, 12, 15, 16, 17]) (js := [0]) (by decide))).succ, (KMo.fr ga_31 r_12 (by decide) (fun _ z => nomatch z)), (KWe.fr ga_31 r_12 (by decide) (pick_dis ND (l := [m, draft_, asked_, prepared_, preparedSize_, texts_, sizes_, weights_, entries_, lies_, live_, row_, level_, oldTexts_, oldSizes_, oldLies_, oldLive_, oldRow_, firstToken_, starred_, tokenAt_, tokenSize_, groupKind_, groupPhrase_, groupSize_, groupMask_, groupFar_, out_, top_, masks_, begins_, lasts_, truth_, answers_, order_, scores_]) (is := [7]) (js := [0]) (by decide))), (KBe.fr ga_31 r_12 (by decide) (pick_dis ND (l := [m, draft_, asked_, prepared_, preparedSize_, texts_, sizes_, weights_, entries_, lies_, live_, row_, level_, oldTexts_, oldSizes_, oldLies_, oldLive_, oldRow_, firstToken_, starred_, tokenAt_, tokenSize_, groupKind_, groupPhrase_, groupSize_, groupMask_, groupFar_, out_, top_, masks_, begins_, lasts_, truth_, answers_, order_, scores_]) (is := [30, 31]) (js := [0]) (by decide))), (KAn.fr ga_31 r_12 (by decide) (pick_dis ND (l := [m, draft_, asked_, prepared_, preparedSize_, texts_, sizes_, weights_, entries_, lies_, live_, row_, level_, oldTexts_, oldSizes_, oldLies_, oldLive_, oldRow_, firstToken_, starred_, tokenAt_, tokenSize_, groupKind_, groupPhrase_, groupSize_, groupMask_, groupFar_, out_, top_, masks_, begins_, lasts_, truth_, answers_, order_, scores_]) (is := [33, 34, 35]) (js := [0]) (by decide))), (KQu.fr ga_31 r_12 (by decide) (pick_dis ND (l := [m, draft_, asked_, prepared_, preparedSize_, texts_, sizes_, weights_, entries_, lies_, live_, row_, level_, oldTexts_, oldSizes_, oldLies_, oldLive_, oldRow_, firstToken_, starred_, tokenAt_, tokenSize_, groupKind_, groupPhrase_, groupSize_, groupMask_, groupFar_, out_, top_, masks_, begins_, lasts_, truth_, answers_, order_, scores_]) (is := [2, 18, 19, 20, 21, 22, 23, 24, 25, 26, 27, 28, 29, 32]) (js := [0]) (by decide)))⟩, r_12.mono (by simp), r_12, FF.of e e_2 ga_31, fun Xw nvw few kX kv hnv we => by obtain rfl := kX.eq e g_made g_segments e_lies e_row e_level (by omega) (by omega); obtain rfl : nvw = vs := (nI_eq (by omega) (by omega)).mp (Value.int.inj (kv.inj ⟨_, e, g_versions⟩)); obtain rfl := cinj we e_entries; exact Or.inr ⟨kN, hk9, rfl, Or.inr ⟨⟨_, e_2, g_16⟩, (fun q => q.elim (inB_t z_44).1 (inB_t z_44).2), Or.inr ⟨z_50, rfl⟩⟩⟩⟩) vs 0 0 (Nat.zero_add _) rfl
      · skip
        refine s_Model_segment_60 l_15 e_2 g_23 g_22 e_7 (vp_in_nI (by omega) (by omega)) e_8 (by rw [nI_clamp (by omega), hsE]; exact vp_in_nI (by omega) (by decide)) ?_
        exact ⟨⟨_, rfl⟩, ⟨_, l_15, e_2, ⟨_, g_16⟩, (KDr.fr ga_31 r_12 (by decide) (pick_dis ND (l := [m, draft_, asked_, prepared_, preparedSize_, texts_, sizes_, weights_, entries_, lies_, live_, row_, level_, oldTexts_, oldSizes_, oldLies_, oldLive_, oldRow_, firstToken_, starred_, tokenAt_, tokenSize_, groupKind_, groupPhrase_, groupSize_, groupMask_, groupFar_, out_, top_, masks_, begins_, lasts_, truth_, answers_, order_, scores_]) (is := [1]) (js := [0]) (by decide))), (KPr.fr ga_31 r_12 (by decide) (pick_dis ND (l := [m, draft_, asked_, prepared_, preparedSize_, texts_, sizes_, weights_, entries_, lies_, live_, row_, level_, oldTexts_, oldSizes_, oldLies_, oldLive_, oldRow_, firstToken_, starred_, tokenAt_, tokenSize_, groupKind_, groupPhrase_, groupSize_, groupMask_, groupFar_, out_, top_, masks_, begins_, lasts_, truth_, answers_, order_, scores_]) (is := [3, 4]) (js := [0]) (by decide))), (KTx.fr ga_31 r_12 (by decide) (pick_dis ND (l := [m, draft_, asked_, prepared_, preparedSize_, texts_, sizes_, weights_, entries_, lies_, live_, row_, level_, oldTexts_, oldSizes_, oldLies_, oldLive_, oldRow_, firstToken_, starred_, tokenAt_, tokenSize_, groupKind_, groupPhrase_, groupSize_, groupMask_, groupFar_, out_, top_, masks_, begins_, lasts_, truth_, answers_, order_, scores_]) (is := [5, 6]) (js := [0]) (by decide))), (KOt.fr ga_31 r_12 (by decide) (pick_dis ND (l := [m, draft_, asked_, prepared_, preparedSize_, texts_, sizes_, weights_, entries_, lies_, live_, row_, level_, oldTexts_, oldSizes_, oldLies_, oldLive_, oldRow_, firstToken_, starred_, tokenAt_, tokenSize_, groupKind_, groupPhrase_, groupSize_, groupMask_, groupFar_, out_, top_, masks_, begins_, lasts_, truth_, answers_, order_, scores_]) (is := [13, 14]) (js := [0]) (by decide))), (KSt.fr ga_31 r_12 (by decide) (pick_dis ND (l := [m, draft_, asked_, prepared_, preparedSize_, texts_, sizes_, weights_, entries_, lies_, live_, row_, level_, oldTexts_, oldSizes_, oldLies_, oldLive_, oldRow_, firstToken_, starred_, tokenAt_, tokenSize_, groupKind_, groupPhrase_, groupSize_, groupMask_, groupFar_, out_, top_, masks_, begins_, lasts_, truth_, answers_, order_, scores_]) (is := [8, 9, 10, 11, 12, 15, 16, 17]) (js := [0]) (by decide))).succ, (KMo.fr ga_31 r_12 (by decide) (fun _ z => nomatch z)), (KWe.fr ga_31 r_12 (by decide) (pick_dis ND (l := [m, draft_, asked_, prepared_, preparedSize_, texts_, sizes_, weights_, entries_, lies_, live_, row_, level_, oldTexts_, oldSizes_, oldLies_, oldLive_, oldRow_, firstToken_, starred_, tokenAt_, tokenSize_, groupKind_, groupPhrase_, groupSize_, groupMask_, groupFar_, out_, top_, masks_, begins_, lasts_, truth_, answers_, order_, scores_]) (is := [7]) (js := [0]) (by decide))), (KBe.fr ga_31 r_12 (by decide) (pick_dis ND (l := [m, draft_, asked_, prepared_, preparedSize_, texts_, sizes_, weights_, entries_, lies_, live_, row_, level_, oldTexts_, oldSizes_, oldLies_, oldLive_, oldRow_, firstToken_, starred_, tokenAt_, tokenSize_, groupKind_, groupPhrase_, groupSize_, groupMask_, groupFar_, out_, top_, masks_, begins_, lasts_, truth_, answers_, order_, scores_]) (is := [30, 31]) (js := [0]) (by decide))), (KAn.fr ga_31 r_12 (by decide) (pick_dis ND (l := [m, draft_, asked_, prepared_, preparedSize_, texts_, sizes_, weights_, entries_, lies_, live_, row_, level_, oldTexts_, oldSizes_, oldLies_, oldLive_, oldRow_, firstToken_, starred_, tokenAt_, tokenSize_, groupKind_, groupPhrase_, groupSize_, groupMask_, groupFar_, out_, top_, masks_, begins_, lasts_, truth_, answers_, order_, scores_]) (is := [33, 34, 35]) (js := [0]) (by decide))), (KQu.fr ga_31 r_12 (by decide) (pick_dis ND (l := [m, draft_, asked_, prepared_, preparedSize_, texts_, sizes_, weights_, entries_, lies_, live_, row_, level_, oldTexts_, oldSizes_, oldLies_, oldLive_, oldRow_, firstToken_, starred_, tokenAt_, tokenSize_, groupKind_, groupPhrase_, groupSize_, groupMask_, groupFar_, out_, top_, masks_, begins_, lasts_, truth_, answers_, order_, scores_]) (is := [2, 18, 19, 20, 21, 22, 23, 24, 25, 26, 27, 28, 29, 32]) (js := [0]) (by decide)))⟩, r_12.mono (by simp), r_12, FF.of e e_2 ga_31, fun Xw nvw few kX kv hnv we => by obtain rfl := kX.eq e g_made g_segments e_lies e_row e_level (by omega) (by omega); obtain rfl : nvw = vs := (nI_eq (by omega) (by omega)).mp (Value.int.inj (kv.inj ⟨_, e, g_versions⟩)); obtain rfl := cinj we e_entries; exact Or.inr ⟨kN, hk9, rfl, Or.inr ⟨⟨_, e_2, g_16⟩, (fun q => q.elim (inB_t z_44).1 (inB_t z_44).2), Or.inl ⟨z_51, by rw [nI_clamp (show kN < 2 ^ 31 by omega)]; rfl⟩⟩⟩⟩
    · skip
      refine s_Model_segment_42 ?_
      refine s_Model_segment_47 ?_
      refine x_callV (As := [.int 1, .int 2]) (b := m) (rest := []) (F1 := 1) (L1 := 20) (mc := 0) (ms := 0) d_Model_segment_48 cV_Model_139 (f_fails1 (c := 2) l_15 e_2 g_16 (by decide) (by omega) (by omega)) e_2 ⟨by decide, rfl⟩ ⟨by omega, by show 8 + (3 + 11) + 20 ≤ _; omega⟩ ⟨by omega, by omega⟩ (Nat.le_of_ble_eq_true rfl) (fun v_59 h_58 p_60 => ?_)
      obtain ⟨rfl, fs_52, l_53, e_54, g_56, ga_55, fr_57⟩ := p_60
      have g_61 : fs_52[(12 : Nat)]? = some (.ref entries_) := (ga_55 12 (by decide)).trans g_17
      have g_62 : fs_52[(13 : Nat)]? = some (.ref lies_) := (ga_55 13 (by decide)).trans g_18
      have g_63 : fs_52[(14 : Nat)]? = some (.ref live_) := (ga_55 14 (by decide)).trans g_19
      have g_64 : fs_52[(15 : Nat)]? = some (.int (nI vs)) := (ga_55 15 (by decide)).trans g_20
      have g_65 : fs_52[(16 : Nat)]? = some (.int (nI md)) := (ga_55 16 (by decide)).trans g_21
      have g_66 : fs_52[(17 : Nat)]? = some (.ref row_) := (ga_55 17 (by decide)).trans g_22
      have g_67 : fs_52[(18 : Nat)]? = some (.ref level_) := (ga_55 18 (by decide)).trans g_23
      have g_68 : fs_52[(19 : Nat)]? = some (.int (nI sg)) := (ga_55 19 (by decide)).trans g_24
      have g_69 : fs_52[(20 : Nat)]? = some (.int (nI op)) := (ga_55 20 (by decide)).trans g_25
      have g_70 : fs_52[(23 : Nat)]? = some (.ref oldLies_) := (ga_55 23 (by decide)).trans g_26
      have g_71 : fs_52[(24 : Nat)]? = some (.ref oldLive_) := (ga_55 24 (by decide)).trans g_27
      have g_72 : fs_52[(25 : Nat)]? = some (.ref oldRow_) := (ga_55 25 (by decide)).trans g_28
      have g_73 : fs_52[(26 : Nat)]? = some (.int (nI ov)) := (ga_55 26 (by decide)).trans g_29
      have g_74 : fs_52[(27 : Nat)]? = some (.int (nI os)) := (ga_55 27 (by decide)).trans g_30
      have e_75 := fr_57 entries_ _ (by simp only [List.mem_cons, List.not_mem_nil, or_false, not_or]; exact (nd_ne ND (i := 8) (j := 0) rfl rfl (by decide))) e_4
      have e_76 := fr_57 lies_ _ (by simp only [List.mem_cons, List.not_mem_nil, or_false, not_or]; exact (nd_ne ND (i := 9) (j := 0) rfl rfl (by decide))) e_5
      have e_77 := fr_57 live_ _ (by simp only [List.mem_cons, List.not_mem_nil, or_false, not_or]; exact (nd_ne ND (i := 10) (j := 0) rfl rfl (by decide))) e_6
      have e_78 := fr_57 row_ _ (by simp only [List.mem_cons, List.not_mem_nil, or_false, not_or]; exact (nd_ne ND (i := 11) (j := 0) rfl rfl (by decide))) e_7
      have e_79 := fr_57 level_ _ (by simp only [List.mem_cons, List.not_mem_nil, or_false, not_or]; exact (nd_ne ND (i := 12) (j := 0) rfl rfl (by decide))) e_8
      have e_80 := fr_57 oldLies_ _ (by simp only [List.mem_cons, List.not_mem_nil, or_false, not_or]; exact (nd_ne ND (i := 15) (j := 0) rfl rfl (by decide))) e_9
      have e_81 := fr_57 oldLive_ _ (by simp only [List.mem_cons, List.not_mem_nil, or_false, not_or]; exact (nd_ne ND (i := 16) (j := 0) rfl rfl (by decide))) e_10
      have e_82 := fr_57 oldRow_ _ (by simp only [List.mem_cons, List.not_mem_nil, or_false, not_or]; exact (nd_ne ND (i := 17) (j := 0) rfl rfl (by decide))) e_11
      have ga_83 : ∀ i : Nat, i ∉ [0] → fs_52[i]? = fs[i]? := fun i hi => (ga_55 i (fun z => hi (by simp only [List.mem_cons, List.not_mem_nil, or_false] at z ⊢; omega))).trans (ga_31 i hi)
      have r_84 := r_12.trans (fr_57.mono (by simp))
      refine s_Model_segment_51 (fun z => absurd z (by decide)) (fun z_85 => ?_)
      refine s_Model_segment_54 ?_
      exact ⟨⟨_, rfl⟩, ⟨_, l_53, e_54, ⟨_, g_56⟩, (KDr.fr ga_83 r_84 (by decide) (pick_dis ND (l := [m, draft_, asked_, prepared_, preparedSize_, texts_, sizes_, weights_, entries_, lies_, live_, row_, level_, oldTexts_, oldSizes_, oldLies_, oldLive_, oldRow_, firstToken_, starred_, tokenAt_, tokenSize_, groupKind_, groupPhrase_, groupSize_, groupMask_, groupFar_, out_, top_, masks_, begins_, lasts_, truth_, answers_, order_, scores_]) (is := [1]) (js := [0]) (by decide))), (KPr.fr ga_83 r_84 (by decide) (pick_dis ND (l := [m, draft_, asked_, prepared_, preparedSize_, texts_, sizes_, weights_, entries_, lies_, live_, row_, level_, oldTexts_, oldSizes_, oldLies_, oldLive_, oldRow_, firstToken_, starred_, tokenAt_, tokenSize_, groupKind_, groupPhrase_, groupSize_, groupMask_, groupFar_, out_, top_, masks_, begins_, lasts_, truth_, answers_, order_, scores_]) (is := [3, 4]) (js := [0]) (by decide))), (KTx.fr ga_83 r_84 (by decide) (pick_dis ND (l := [m, draft_, asked_, prepared_, preparedSize_, texts_, sizes_, weights_, entries_, lies_, live_, row_, level_, oldTexts_, oldSizes_, oldLies_, oldLive_, oldRow_, firstToken_, starred_, tokenAt_, tokenSize_, groupKind_, groupPhrase_, groupSize_, groupMask_, groupFar_, out_, top_, masks_, begins_, lasts_, truth_, answers_, order_, scores_]) (is := [5, 6]) (js := [0]) (by decide))), (KOt.fr ga_83 r_84 (by decide) (pick_dis ND (l := [m, draft_, asked_, prepared_, preparedSize_, texts_, sizes_, weights_, entries_, lies_, live_, row_, level_, oldTexts_, oldSizes_, oldLies_, oldLive_, oldRow_, firstToken_, starred_, tokenAt_, tokenSize_, groupKind_, groupPhrase_, groupSize_, groupMask_, groupFar_, out_, top_, masks_, begins_, lasts_, truth_, answers_, order_, scores_]) (is := [13, 14]) (js := [0]) (by decide))), (KSt.fr ga_83 r_84 (by decide) (pick_dis ND (l := [m, draft_, asked_, prepared_, preparedSize_, texts_, sizes_, weights_, entries_, lies_, live_, row_, level_, oldTexts_, oldSizes_, oldLies_, oldLive_, oldRow_, firstToken_, starred_, tokenAt_, tokenSize_, groupKind_, groupPhrase_, groupSize_, groupMask_, groupFar_, out_, top_, masks_, begins_, lasts_, truth_, answers_, order_, scores_]) (is := [8, 9, 10, 11, 12, 15, 16, 17]) (js := [0]) (by decide))).succ, (KMo.fr ga_83 r_84 (by decide) (fun _ z => nomatch z)), (KWe.fr ga_83 r_84 (by decide) (pick_dis ND (l := [m, draft_, asked_, prepared_, preparedSize_, texts_, sizes_, weights_, entries_, lies_, live_, row_, level_, oldTexts_, oldSizes_, oldLies_, oldLive_, oldRow_, firstToken_, starred_, tokenAt_, tokenSize_, groupKind_, groupPhrase_, groupSize_, groupMask_, groupFar_, out_, top_, masks_, begins_, lasts_, truth_, answers_, order_, scores_]) (is := [7]) (js := [0]) (by decide))), (KBe.fr ga_83 r_84 (by decide) (pick_dis ND (l := [m, draft_, asked_, prepared_, preparedSize_, texts_, sizes_, weights_, entries_, lies_, live_, row_, level_, oldTexts_, oldSizes_, oldLies_, oldLive_, oldRow_, firstToken_, starred_, tokenAt_, tokenSize_, groupKind_, groupPhrase_, groupSize_, groupMask_, groupFar_, out_, top_, masks_, begins_, lasts_, truth_, answers_, order_, scores_]) (is := [30, 31]) (js := [0]) (by decide))), (KAn.fr ga_83 r_84 (by decide) (pick_dis ND (l := [m, draft_, asked_, prepared_, preparedSize_, texts_, sizes_, weights_, entries_, lies_, live_, row_, level_, oldTexts_, oldSizes_, oldLies_, oldLive_, oldRow_, firstToken_, starred_, tokenAt_, tokenSize_, groupKind_, groupPhrase_, groupSize_, groupMask_, groupFar_, out_, top_, masks_, begins_, lasts_, truth_, answers_, order_, scores_]) (is := [33, 34, 35]) (js := [0]) (by decide))), (KQu.fr ga_83 r_84 (by decide) (pick_dis ND (l := [m, draft_, asked_, prepared_, preparedSize_, texts_, sizes_, weights_, entries_, lies_, live_, row_, level_, oldTexts_, oldSizes_, oldLies_, oldLive_, oldRow_, firstToken_, starred_, tokenAt_, tokenSize_, groupKind_, groupPhrase_, groupSize_, groupMask_, groupFar_, out_, top_, masks_, begins_, lasts_, truth_, answers_, order_, scores_]) (is := [2, 18, 19, 20, 21, 22, 23, 24, 25, 26, 27, 28, 29, 32]) (js := [0]) (by decide)))⟩, r_84.mono (by simp), r_84, FF.of e e_54 ga_83, fun Xw nvw few kX kv hnv we => by obtain rfl := kX.eq e g_made g_segments e_lies e_row e_level (by omega) (by omega); obtain rfl : nvw = vs := (nI_eq (by omega) (by omega)).mp (Value.int.inj (kv.inj ⟨_, e, g_versions⟩)); obtain rfl := cinj we e_entries; exact Or.inr ((sg_yes (sg := sg) (inB_t z_35) (by omega)).imp (fun j q => ⟨q.1, q.2, Or.inl ⟨inB_f z_45, ⟨_, e_54, g_56⟩⟩⟩))⟩
  · skip
    refine s_Model_segment_20 ?_
    refine s_Model_segment_25 ?_
    refine x_callV (As := [.int 1, .int 1]) (b := m) (rest := []) (F1 := 1) (L1 := 20) (mc := 0) (ms := 0) d_Model_segment_26 cV_Model_139 (f_fails1 (c := 1) l_15 e_2 g_16 (by decide) (by omega) (by omega)) e_2 ⟨by decide, rfl⟩ ⟨by omega, by show 8 + (3 + 11) + 20 ≤ _; omega⟩ ⟨by omega, by omega⟩ (Nat.le_of_ble_eq_true rfl) (fun v_93 h_92 p_94 => ?_)
    obtain ⟨rfl, fs_86, l_87, e_88, g_90, ga_89, fr_91⟩ := p_94
    have g_95 : fs_86[(12 : Nat)]? = some (.ref entries_) := (ga_89 12 (by decide)).trans g_17
    have g_96 : fs_86[(13 : Nat)]? = some (.ref lies_) := (ga_89 13 (by decide)).trans g_18
    have g_97 : fs_86[(14 : Nat)]? = some (.ref live_) := (ga_89 14 (by decide)).trans g_19
    have g_98 : fs_86[(15 : Nat)]? = some (.int (nI vs)) := (ga_89 15 (by decide)).trans g_20
    have g_99 : fs_86[(16 : Nat)]? = some (.int (nI md)) := (ga_89 16 (by decide)).trans g_21
    have g_100 : fs_86[(17 : Nat)]? = some (.ref row_) := (ga_89 17 (by decide)).trans g_22
    have g_101 : fs_86[(18 : Nat)]? = some (.ref level_) := (ga_89 18 (by decide)).trans g_23
    have g_102 : fs_86[(19 : Nat)]? = some (.int (nI sg)) := (ga_89 19 (by decide)).trans g_24
    have g_103 : fs_86[(20 : Nat)]? = some (.int (nI op)) := (ga_89 20 (by decide)).trans g_25
    have g_104 : fs_86[(23 : Nat)]? = some (.ref oldLies_) := (ga_89 23 (by decide)).trans g_26
    have g_105 : fs_86[(24 : Nat)]? = some (.ref oldLive_) := (ga_89 24 (by decide)).trans g_27
    have g_106 : fs_86[(25 : Nat)]? = some (.ref oldRow_) := (ga_89 25 (by decide)).trans g_28
    have g_107 : fs_86[(26 : Nat)]? = some (.int (nI ov)) := (ga_89 26 (by decide)).trans g_29
    have g_108 : fs_86[(27 : Nat)]? = some (.int (nI os)) := (ga_89 27 (by decide)).trans g_30
    have e_109 := fr_91 entries_ _ (by simp only [List.mem_cons, List.not_mem_nil, or_false, not_or]; exact (nd_ne ND (i := 8) (j := 0) rfl rfl (by decide))) e_4
    have e_110 := fr_91 lies_ _ (by simp only [List.mem_cons, List.not_mem_nil, or_false, not_or]; exact (nd_ne ND (i := 9) (j := 0) rfl rfl (by decide))) e_5
    have e_111 := fr_91 live_ _ (by simp only [List.mem_cons, List.not_mem_nil, or_false, not_or]; exact (nd_ne ND (i := 10) (j := 0) rfl rfl (by decide))) e_6
    have e_112 := fr_91 row_ _ (by simp only [List.mem_cons, List.not_mem_nil, or_false, not_or]; exact (nd_ne ND (i := 11) (j := 0) rfl rfl (by decide))) e_7
    have e_113 := fr_91 level_ _ (by simp only [List.mem_cons, List.not_mem_nil, or_false, not_or]; exact (nd_ne ND (i := 12) (j := 0) rfl rfl (by decide))) e_8
    have e_114 := fr_91 oldLies_ _ (by simp only [List.mem_cons, List.not_mem_nil, or_false, not_or]; exact (nd_ne ND (i := 15) (j := 0) rfl rfl (by decide))) e_9
    have e_115 := fr_91 oldLive_ _ (by simp only [List.mem_cons, List.not_mem_nil, or_false, not_or]; exact (nd_ne ND (i := 16) (j := 0) rfl rfl (by decide))) e_10
    have e_116 := fr_91 oldRow_ _ (by simp only [List.mem_cons, List.not_mem_nil, or_false, not_or]; exact (nd_ne ND (i := 17) (j := 0) rfl rfl (by decide))) e_11
    have ga_117 : ∀ i : Nat, i ∉ [0] → fs_86[i]? = fs[i]? := fun i hi => (ga_89 i (fun z => hi (by simp only [List.mem_cons, List.not_mem_nil, or_false] at z ⊢; omega))).trans (ga_31 i hi)
    have r_118 := r_12.trans (fr_91.mono (by simp))
    refine s_Model_segment_29 (fun z_119 => ?_) (fun z => absurd z (by decide))
    refine s_Model_segment_54 ?_
    exact ⟨⟨_, rfl⟩, ⟨_, l_87, e_88, ⟨_, g_90⟩, (KDr.fr ga_117 r_118 (by decide) (pick_dis ND (l := [m, draft_, asked_, prepared_, preparedSize_, texts_, sizes_, weights_, entries_, lies_, live_, row_, level_, oldTexts_, oldSizes_, oldLies_, oldLive_, oldRow_, firstToken_, starred_, tokenAt_, tokenSize_, groupKind_, groupPhrase_, groupSize_, groupMask_, groupFar_, out_, top_, masks_, begins_, lasts_, truth_, answers_, order_, scores_]) (is := [1]) (js := [0]) (by decide))), (KPr.fr ga_117 r_118 (by decide) (pick_dis ND (l := [m, draft_, asked_, prepared_, preparedSize_, texts_, sizes_, weights_, entries_, lies_, live_, row_, level_, oldTexts_, oldSizes_, oldLies_, oldLive_, oldRow_, firstToken_, starred_, tokenAt_, tokenSize_, groupKind_, groupPhrase_, groupSize_, groupMask_, groupFar_, out_, top_, masks_, begins_, lasts_, truth_, answers_, order_, scores_]) (is := [3, 4]) (js := [0]) (by decide))), (KTx.fr ga_117 r_118 (by decide) (pick_dis ND (l := [m, draft_, asked_, prepared_, preparedSize_, texts_, sizes_, weights_, entries_, lies_, live_, row_, level_, oldTexts_, oldSizes_, oldLies_, oldLive_, oldRow_, firstToken_, starred_, tokenAt_, tokenSize_, groupKind_, groupPhrase_, groupSize_, groupMask_, groupFar_, out_, top_, masks_, begins_, lasts_, truth_, answers_, order_, scores_]) (is := [5, 6]) (js := [0]) (by decide))), (KOt.fr ga_117 r_118 (by decide) (pick_dis ND (l := [m, draft_, asked_, prepared_, preparedSize_, texts_, sizes_, weights_, entries_, lies_, live_, row_, level_, oldTexts_, oldSizes_, oldLies_, oldLive_, oldRow_, firstToken_, starred_, tokenAt_, tokenSize_, groupKind_, groupPhrase_, groupSize_, groupMask_, groupFar_, out_, top_, masks_, begins_, lasts_, truth_, answers_, order_, scores_]) (is := [13, 14]) (js := [0]) (by decide))), (KSt.fr ga_117 r_118 (by decide) (pick_dis ND (l := [m, draft_, asked_, prepared_, preparedSize_, texts_, sizes_, weights_, entries_, lies_, live_, row_, level_, oldTexts_, oldSizes_, oldLies_, oldLive_, oldRow_, firstToken_, starred_, tokenAt_, tokenSize_, groupKind_, groupPhrase_, groupSize_, groupMask_, groupFar_, out_, top_, masks_, begins_, lasts_, truth_, answers_, order_, scores_]) (is := [8, 9, 10, 11, 12, 15, 16, 17]) (js := [0]) (by decide))).succ, (KMo.fr ga_117 r_118 (by decide) (fun _ z => nomatch z)), (KWe.fr ga_117 r_118 (by decide) (pick_dis ND (l := [m, draft_, asked_, prepared_, preparedSize_, texts_, sizes_, weights_, entries_, lies_, live_, row_, level_, oldTexts_, oldSizes_, oldLies_, oldLive_, oldRow_, firstToken_, starred_, tokenAt_, tokenSize_, groupKind_, groupPhrase_, groupSize_, groupMask_, groupFar_, out_, top_, masks_, begins_, lasts_, truth_, answers_, order_, scores_]) (is := [7]) (js := [0]) (by decide))), (KBe.fr ga_117 r_118 (by decide) (pick_dis ND (l := [m, draft_, asked_, prepared_, preparedSize_, texts_, sizes_, weights_, entries_, lies_, live_, row_, level_, oldTexts_, oldSizes_, oldLies_, oldLive_, oldRow_, firstToken_, starred_, tokenAt_, tokenSize_, groupKind_, groupPhrase_, groupSize_, groupMask_, groupFar_, out_, top_, masks_, begins_, lasts_, truth_, answers_, order_, scores_]) (is := [30, 31]) (js := [0]) (by decide))), (KAn.fr ga_117 r_118 (by decide) (pick_dis ND (l := [m, draft_, asked_, prepared_, preparedSize_, texts_, sizes_, weights_, entries_, lies_, live_, row_, level_, oldTexts_, oldSizes_, oldLies_, oldLive_, oldRow_, firstToken_, starred_, tokenAt_, tokenSize_, groupKind_, groupPhrase_, groupSize_, groupMask_, groupFar_, out_, top_, masks_, begins_, lasts_, truth_, answers_, order_, scores_]) (is := [33, 34, 35]) (js := [0]) (by decide))), (KQu.fr ga_117 r_118 (by decide) (pick_dis ND (l := [m, draft_, asked_, prepared_, preparedSize_, texts_, sizes_, weights_, entries_, lies_, live_, row_, level_, oldTexts_, oldSizes_, oldLies_, oldLive_, oldRow_, firstToken_, starred_, tokenAt_, tokenSize_, groupKind_, groupPhrase_, groupSize_, groupMask_, groupFar_, out_, top_, masks_, begins_, lasts_, truth_, answers_, order_, scores_]) (is := [2, 18, 19, 20, 21, 22, 23, 24, 25, 26, 27, 28, 29, 32]) (js := [0]) (by decide)))⟩, r_118.mono (by simp), r_118, FF.of e e_88 ga_117, fun Xw nvw few kX kv hnv we => by obtain rfl := kX.eq e g_made g_segments e_lies e_row e_level (by omega) (by omega); obtain rfl : nvw = vs := (nI_eq (by omega) (by omega)).mp (Value.int.inj (kv.inj ⟨_, e, g_versions⟩)); obtain rfl := cinj we e_entries; exact Or.inl ⟨sg_no (sg := sg) (inB_f z_36) (by omega), ⟨_, e_88, g_90⟩⟩⟩
set_option maxHeartbeats 1000000 in
theorem lp_opt {G : xw_G} {F L bc bs : Nat} {pr : Option Value → xw_A → Prop} {px : String → xw_A → Prop} {h : xw_A} {md sg : Nat} {fr fL : Nat → Int32} {row_ level_ : Nat} {m : Nat} {fs : List Value} (l : fs.length = 62) (e : h m = some (.inr (11, fs))) (g_segments : fs[(19 : Nat)]? = some (.int (nI sg))) (g_row : fs[(17 : Nat)]? = some (.ref row_)) (e_row : h row_ = some (.inl (0, 600, .inl (fr)))) (g_level : fs[(18 : Nat)]? = some (.ref level_)) (e_level : h level_ = some (.inl (0, 1300, .inl (fL)))) (hmd : md < 1300) (hsg : sg < 600) (hRO : ∀ k, k < sg → ∃ s, s < md ∧ fr k = nI s) (kk : xw G m_Model_optimize F L bc bs pr px 55 [some (.ref m), some (.int (nI sg)), some (.int (hiE fL fr sg)), none] [] h) :
    ∀ (dd i : Nat) (hg : Int32), i + dd = sg → hg = hiE fL fr i → xw G m_Model_optimize F L bc bs pr px 14 [some (.ref m), some (.int (nI sg)), some (.int hg), some (.int (nI i))] [] h := by
  intro dd
  induction dd with
  | zero =>
    intro i hg hi hp
    obtain rfl : i = sg := by omega
    refine s_Model_optimize_14 l e g_segments (fun z_1 => ?_) (fun z => absurd (nI_le (Nat.le_refl _) (by omega)) z)
    rw [hp]; exact kk
  | succ dd ih =>
    intro i hg hi hp
    refine s_Model_optimize_14 l e g_segments (fun z => absurd z (nI_ge (b := sg) (show i < sg by omega) (by omega))) (fun z_1 => ?_)
    refine s_Model_optimize_22 l e g_level g_row e_row (vp_in_nI (by omega) (by omega)) e_level (by obtain ⟨s, h1, h2⟩ := hRO i (by omega); rw [nI_clamp (by omega), h2]; exact vp_in_nI (by omega) (by decide)) (fun z_2 => ?_) (fun z_3 => ?_)
    · skip
      refine s_Model_optimize_49 ?_
      simp only [nI_1]
      exact ih (i + 1) _ (by omega) (by rw [hiE, if_neg (by rw [nI_clamp (show i < 2 ^ 31 by omega), hp] at z_2; first | exact z_2 | exact Int32.not_lt.mpr z_2), hp])
    · skip
      refine s_Model_optimize_37 l e g_level g_row e_row (vp_in_nI (by omega) (by omega)) e_level (by obtain ⟨s, h1, h2⟩ := hRO i (by omega); rw [nI_clamp (by omega), h2]; exact vp_in_nI (by omega) (by decide)) ?_
      refine s_Model_optimize_49 ?_
      simp only [nI_1]
      exact ih (i + 1) _ (by omega) (by rw [hiE, if_pos (by rw [nI_clamp (show i < 2 ^ 31 by omega), hp] at z_3; first | exact z_3 | exact Int32.not_le.mp z_3), nI_clamp (show i < 2 ^ 31 by omega)]; rfl)
set_option maxHeartbeats 2000000 in
theorem r_optimize {G : xw_G} {F L : Nat} {h : xw_A}  {m draft_ asked_ prepared_ preparedSize_ texts_ sizes_ weights_ entries_ lies_ live_ row_ level_ oldTexts_ oldSizes_ oldLies_ oldLive_ oldRow_ firstToken_ starred_ tokenAt_ tokenSize_ groupKind_ groupPhrase_ groupSize_ groupMask_ groupFar_ out_ top_ masks_ begins_ lasts_ truth_ answers_ order_ scores_ T : Nat} (R : RI m draft_ asked_ prepared_ preparedSize_ texts_ sizes_ weights_ entries_ lies_ live_ row_ level_ oldTexts_ oldSizes_ oldLies_ oldLive_ oldRow_ firstToken_ starred_ tokenAt_ tokenSize_ groupKind_ groupPhrase_ groupSize_ groupMask_ groupFar_ out_ top_ masks_ begins_ lasts_ truth_ answers_ order_ scores_ T h) (ND : NDl [m, draft_, asked_, prepared_, preparedSize_, texts_, sizes_, weights_, entries_, lies_, live_, row_, level_, oldTexts_, oldSizes_, oldLies_, oldLive_, oldRow_, firstToken_, starred_, tokenAt_, tokenSize_, groupKind_, groupPhrase_, groupSize_, groupMask_, groupFar_, out_, top_, masks_, begins_, lasts_, truth_, answers_, order_, scores_]) (hT : T < 512) (hF : 3 ≤ F) (hL : 69 ≤ L) :
    xw_Met G m_Model_optimize F L 0 0 [.ref m] h (fun v h' => (∃ y : Int32, v = some (.int y)) ∧ RI m draft_ asked_ prepared_ preparedSize_ texts_ sizes_ weights_ entries_ lies_ live_ row_ level_ oldTexts_ oldSizes_ oldLies_ oldLive_ oldRow_ firstToken_ starred_ tokenAt_ tokenSize_ groupKind_ groupPhrase_ groupSize_ groupMask_ groupFar_ out_ top_ masks_ begins_ lasts_ truth_ answers_ order_ scores_ (T + 1) h' ∧ FrO [m, draft_, asked_, prepared_, preparedSize_, texts_, sizes_, weights_, entries_, lies_, live_, row_, level_, oldTexts_, oldSizes_, oldLies_, oldLive_, oldRow_, firstToken_, starred_, tokenAt_, tokenSize_, groupKind_, groupPhrase_, groupSize_, groupMask_, groupFar_, out_, top_, masks_, begins_, lasts_, truth_, answers_, order_, scores_] h h' ∧ FrO [m, lies_, row_, level_] h h' ∧ FF m [0, 16, 19] h h' ∧ (∀ (X : RSt) (nv : Nat) (fe fv : Nat → Int32), SgC m lies_ row_ level_ X h → Rf m 15 (.int (nI nv)) h → nv < 600 → h entries_ = some (.inl (0, 600, .inl fe)) → h live_ = some (.inl (0, 24, .inl fv)) → v = some (.int (nI X.2.2.2.2)) ∧ Rf m 0 (.int 0) h' ∧ ((X.2.2.2.2 = 0 ∧ SgC m lies_ row_ level_ X h') ∨ ∃ Z : RSt, SgC m lies_ row_ level_ Z h' ∧ GaS fe fv (-1) (hiE X.2.2.1 X.2.1 X.2.2.2.2) nv X Z))) (fun _ _ => False) := by
  refine xw_Met.of rfl (by decide) (Nat.le_of_ble_eq_true rfl) ?_
  obtain ⟨fs, l, e, ⟨er, g_err⟩, KDr, KPr, KTx, KOt, KSt, KMo, KWe, KBe, KAn, KQu⟩ := R
  obtain ⟨vs, md, sg, op, ov, os, fe, fi, fv, fr, fL, foi, fov, fow, g_versions, g_made, g_segments, g_open, g_oldVersions, g_oldSegments, g_entries, e_entries, g_lies, e_lies, g_live, e_live, g_row, e_row, g_level, e_level, g_oldLies, e_oldLies, g_oldLive, e_oldLive, g_oldRow, e_oldRow, hvs, hsg, hop, hov, hos, hLI, hRO, hLV, hOI, hOR, hOV, hpot⟩ := id KSt
  have ga0 : ∀ i : Nat, i ∉ [0, 16, 19] → fs[i]? = fs[i]? := fun _ _ => rfl
  have r0 : FrO [m, lies_, row_, level_] h h := FrO.rf
  refine s_Model_optimize_0 l e g_segments ?_
  refine x_u1 (fun h_1 e_2 f_3 => ?_)
  have e_4 := (f_3 entries_ (nd_ne ND (i := 8) (j := 0) rfl rfl (by decide))).trans e_entries
  have e_5 := (f_3 lies_ (nd_ne ND (i := 9) (j := 0) rfl rfl (by decide))).trans e_lies
  have e_6 := (f_3 live_ (nd_ne ND (i := 10) (j := 0) rfl rfl (by decide))).trans e_live
  have e_7 := (f_3 row_ (nd_ne ND (i := 11) (j := 0) rfl rfl (by decide))).trans e_row
  have e_8 := (f_3 level_ (nd_ne ND (i := 12) (j := 0) rfl rfl (by decide))).trans e_level
  have e_9 := (f_3 oldLies_ (nd_ne ND (i := 15) (j := 0) rfl rfl (by decide))).trans e_oldLies
  have e_10 := (f_3 oldLive_ (nd_ne ND (i := 16) (j := 0) rfl rfl (by decide))).trans e_oldLive
  have e_11 := (f_3 oldRow_ (nd_ne ND (i := 17) (j := 0) rfl rfl (by decide))).trans e_oldRow
  have r_12 := r0.up (by simp) f_3
  obtain ⟨fs_13, z_14⟩ : ∃ z, z = fs.set 0 (.int 0) := ⟨_, rfl⟩
  rw [← z_14] at e_2
  have l_15 : fs_13.length = 62 := by rw [z_14]; simp only [List.length_set]; exact l
  have g_16 : fs_13[(0 : Nat)]? = some (.int 0) := by rw [z_14]; exact (xw_gs (by simp [l]))
  have g_17 : fs_13[(12 : Nat)]? = some (.ref entries_) := by rw [z_14]; exact (xw_gn (by decide) g_entries)
  have g_18 : fs_13[(13 : Nat)]? = some (.ref lies_) := by rw [z_14]; exact (xw_gn (by decide) g_lies)
  have g_19 : fs_13[(14 : Nat)]? = some (.ref live_) := by rw [z_14]; exact (xw_gn (by decide) g_live)
  have g_20 : fs_13[(15 : Nat)]? = some (.int (nI vs)) := by rw [z_14]; exact (xw_gn (by decide) g_versions)
  have g_21 : fs_13[(16 : Nat)]? = some (.int (nI md)) := by rw [z_14]; exact (xw_gn (by decide) g_made)
  have g_22 : fs_13[(17 : Nat)]? = some (.ref row_) := by rw [z_14]; exact (xw_gn (by decide) g_row)
  have g_23 : fs_13[(18 : Nat)]? = some (.ref level_) := by rw [z_14]; exact (xw_gn (by decide) g_level)
  have g_24 : fs_13[(19 : Nat)]? = some (.int (nI sg)) := by rw [z_14]; exact (xw_gn (by decide) g_segments)
  have g_25 : fs_13[(20 : Nat)]? = some (.int (nI op)) := by rw [z_14]; exact (xw_gn (by decide) g_open)
  have g_26 : fs_13[(23 : Nat)]? = some (.ref oldLies_) := by rw [z_14]; exact (xw_gn (by decide) g_oldLies)
  have g_27 : fs_13[(24 : Nat)]? = some (.ref oldLive_) := by rw [z_14]; exact (xw_gn (by decide) g_oldLive)
  have g_28 : fs_13[(25 : Nat)]? = some (.ref oldRow_) := by rw [z_14]; exact (xw_gn (by decide) g_oldRow)
  have g_29 : fs_13[(26 : Nat)]? = some (.int (nI ov)) := by rw [z_14]; exact (xw_gn (by decide) g_oldVersions)
  have g_30 : fs_13[(27 : Nat)]? = some (.int (nI os)) := by rw [z_14]; exact (xw_gn (by decide) g_oldSegments)
  have ga_31 : ∀ i : Nat, i ∉ [0, 16, 19] → fs_13[i]? = fs[i]? := fun i hi => by rw [z_14]; exact xw_gn (fun z => hi (by rw [z]; simp)) (ga0 i hi)
  clear z_14
  refine lp_opt l_15 e_2 g_24 g_22 e_7 g_23 e_8 (show md < 1300 by omega) (by omega) hRO ?_ sg 0 _ (Nat.zero_add _) rfl
  generalize hgE : hiE fL fr sg = hg
  refine s_Model_optimize_55 (fun z_32 => ?_) (fun z_33 => ?_)
  · skip
    refine s_Model_optimize_65 ?_
    exact ⟨⟨_, rfl⟩, ⟨_, l_15, e_2, ⟨_, g_16⟩, (KDr.fr ga_31 r_12 (by decide) (pick_dis ND (l := [m, draft_, asked_, prepared_, preparedSize_, texts_, sizes_, weights_, entries_, lies_, live_, row_, level_, oldTexts_, oldSizes_, oldLies_, oldLive_, oldRow_, firstToken_, starred_, tokenAt_, tokenSize_, groupKind_, groupPhrase_, groupSize_, groupMask_, groupFar_, out_, top_, masks_, begins_, lasts_, truth_, answers_, order_, scores_]) (is := [1]) (js := [0, 9, 11, 12]) (by decide))), (KPr.fr ga_31 r_12 (by decide) (pick_dis ND (l := [m, draft_, asked_, prepared_, preparedSize_, texts_, sizes_, weights_, entries_, lies_, live_, row_, level_, oldTexts_, oldSizes_, oldLies_, oldLive_, oldRow_, firstToken_, starred_, tokenAt_, tokenSize_, groupKind_, groupPhrase_, groupSize_, groupMask_, groupFar_, out_, top_, masks_, begins_, lasts_, truth_, answers_, order_, scores_]) (is := [3, 4]) (js := [0, 9, 11, 12]) (by decide))), (KTx.fr ga_31 r_12 (by decide) (pick_dis ND (l := [m, draft_, asked_, prepared_, preparedSize_, texts_, sizes_, weights_, entries_, lies_, live_, row_, level_, oldTexts_, oldSizes_, oldLies_, oldLive_, oldRow_, firstToken_, starred_, tokenAt_, tokenSize_, groupKind_, groupPhrase_, groupSize_, groupMask_, groupFar_, out_, top_, masks_, begins_, lasts_, truth_, answers_, order_, scores_]) (is := [5, 6]) (js := [0, 9, 11, 12]) (by decide))), (KOt.fr ga_31 r_12 (by decide) (pick_dis ND (l := [m, draft_, asked_, prepared_, preparedSize_, texts_, sizes_, weights_, entries_, lies_, live_, row_, level_, oldTexts_, oldSizes_, oldLies_, oldLive_, oldRow_, firstToken_, starred_, tokenAt_, tokenSize_, groupKind_, groupPhrase_, groupSize_, groupMask_, groupFar_, out_, top_, masks_, begins_, lasts_, truth_, answers_, order_, scores_]) (is := [13, 14]) (js := [0, 9, 11, 12]) (by decide))), ⟨vs, md, sg, op, ov, os, _, _, _, _, _, _, _, _, g_20, g_21, g_24, g_25, g_29, g_30, g_17, e_4, g_18, e_5, g_19, e_6, g_22, e_7, g_23, e_8, g_26, e_9, g_27, e_10, g_28, e_11, by omega, by omega, by omega, by omega, by omega, hLI, hRO, hLV, hOI, hOR, hOV, by omega⟩, (KMo.fr ga_31 r_12 (by decide) (fun _ z => nomatch z)), (KWe.fr ga_31 r_12 (by decide) (pick_dis ND (l := [m, draft_, asked_, prepared_, preparedSize_, texts_, sizes_, weights_, entries_, lies_, live_, row_, level_, oldTexts_, oldSizes_, oldLies_, oldLive_, oldRow_, firstToken_, starred_, tokenAt_, tokenSize_, groupKind_, groupPhrase_, groupSize_, groupMask_, groupFar_, out_, top_, masks_, begins_, lasts_, truth_, answers_, order_, scores_]) (is := [7]) (js := [0, 9, 11, 12]) (by decide))), (KBe.fr ga_31 r_12 (by decide) (pick_dis ND (l := [m, draft_, asked_, prepared_, preparedSize_, texts_, sizes_, weights_, entries_, lies_, live_, row_, level_, oldTexts_, oldSizes_, oldLies_, oldLive_, oldRow_, firstToken_, starred_, tokenAt_, tokenSize_, groupKind_, groupPhrase_, groupSize_, groupMask_, groupFar_, out_, top_, masks_, begins_, lasts_, truth_, answers_, order_, scores_]) (is := [30, 31]) (js := [0, 9, 11, 12]) (by decide))), (KAn.fr ga_31 r_12 (by decide) (pick_dis ND (l := [m, draft_, asked_, prepared_, preparedSize_, texts_, sizes_, weights_, entries_, lies_, live_, row_, level_, oldTexts_, oldSizes_, oldLies_, oldLive_, oldRow_, firstToken_, starred_, tokenAt_, tokenSize_, groupKind_, groupPhrase_, groupSize_, groupMask_, groupFar_, out_, top_, masks_, begins_, lasts_, truth_, answers_, order_, scores_]) (is := [33, 34, 35]) (js := [0, 9, 11, 12]) (by decide))), (KQu.fr ga_31 r_12 (by decide) (pick_dis ND (l := [m, draft_, asked_, prepared_, preparedSize_, texts_, sizes_, weights_, entries_, lies_, live_, row_, level_, oldTexts_, oldSizes_, oldLies_, oldLive_, oldRow_, firstToken_, starred_, tokenAt_, tokenSize_, groupKind_, groupPhrase_, groupSize_, groupMask_, groupFar_, out_, top_, masks_, begins_, lasts_, truth_, answers_, order_, scores_]) (is := [2, 18, 19, 20, 21, 22, 23, 24, 25, 26, 27, 28, 29, 32]) (js := [0, 9, 11, 12]) (by decide)))⟩, r_12.mono (by simp), r_12, FF.of e e_2 ga_31, fun Xw nvw few fvw kX kv hnv we wv => by obtain rfl := kX.eq e g_made g_segments e_lies e_row e_level (by omega) (by omega); obtain rfl : nvw = vs := (nI_eq (by omega) (by omega)).mp (Value.int.inj (kv.inj ⟨_, e, g_versions⟩)); obtain rfl := cinj we e_entries; obtain rfl := cinj wv e_live; exact ⟨rfl, ⟨_, e_2, g_16⟩, Or.inl ⟨Decidable.by_contra (fun q => absurd z_32 (nI_nle (Nat.pos_of_ne_zero q) (by omega))), ⟨e_5, e_7, e_8, ⟨_, e_2, g_21⟩, ⟨_, e_2, g_24⟩, (by dsimp only; omega), (by dsimp only; omega)⟩⟩⟩⟩
  · skip
    refine s_Model_optimize_59 ?_
    refine x_callV (As := [.int ((-1)), .int hg]) (b := m) (rest := []) (F1 := 2) (L1 := 42) (mc := 0) (ms := 0) d_Model_optimize_62 cV_Model_196 (f_gathers (wh := -1) (to := hg) l_15 e_2 g_21 g_20 g_24 g_17 e_4 g_18 e_5 g_19 e_6 g_22 e_7 g_23 e_8 (nd_ne ND (i := 8) (j := 9) rfl rfl (by decide)) (nd_ne ND (i := 8) (j := 11) rfl rfl (by decide)) (nd_ne ND (i := 9) (j := 11) rfl rfl (by decide)) (by omega) (by omega) (by omega) (Or.inr (Or.inl rfl)) hLI hRO (by omega) (by omega)) e_2 ⟨by decide, rfl⟩ ⟨by omega, by show 8 + (8 + 11) + 42 ≤ _; omega⟩ ⟨by omega, by omega⟩ (Nat.le_of_ble_eq_true rfl) (fun v_35 h_34 p_36 => ?_)
    obtain ⟨rfl, dl, lf, fs1, fi1, fr1, fL1, hdl, l1, e1, gm1_, gs1, ga1, ei1, er1, el1, LI1, RO1, FL1, FN1, CN1, w1, w2, w3, hlf, GV1, r1⟩ := p_36
    have e_37 := r1 entries_ _ (by simp only [List.mem_cons, List.not_mem_nil, or_false, not_or]; exact ⟨(nd_ne ND (i := 8) (j := 0) rfl rfl (by decide)), (nd_ne ND (i := 8) (j := 9) rfl rfl (by decide)), (nd_ne ND (i := 8) (j := 11) rfl rfl (by decide)), (nd_ne ND (i := 8) (j := 12) rfl rfl (by decide))⟩) e_4
    have e_38 := r1 live_ _ (by simp only [List.mem_cons, List.not_mem_nil, or_false, not_or]; exact ⟨(nd_ne ND (i := 10) (j := 0) rfl rfl (by decide)), (Ne.symm (nd_ne ND (i := 9) (j := 10) rfl rfl (by decide))), (nd_ne ND (i := 10) (j := 11) rfl rfl (by decide)), (nd_ne ND (i := 10) (j := 12) rfl rfl (by decide))⟩) e_6
    have e_39 := r1 oldLies_ _ (by simp only [List.mem_cons, List.not_mem_nil, or_false, not_or]; exact ⟨(nd_ne ND (i := 15) (j := 0) rfl rfl (by decide)), (Ne.symm (nd_ne ND (i := 9) (j := 15) rfl rfl (by decide))), (Ne.symm (nd_ne ND (i := 11) (j := 15) rfl rfl (by decide))), (Ne.symm (nd_ne ND (i := 12) (j := 15) rfl rfl (by decide)))⟩) e_9
    have e_40 := r1 oldLive_ _ (by simp only [List.mem_cons, List.not_mem_nil, or_false, not_or]; exact ⟨(nd_ne ND (i := 16) (j := 0) rfl rfl (by decide)), (Ne.symm (nd_ne ND (i := 9) (j := 16) rfl rfl (by decide))), (Ne.symm (nd_ne ND (i := 11) (j := 16) rfl rfl (by decide))), (Ne.symm (nd_ne ND (i := 12) (j := 16) rfl rfl (by decide)))⟩) e_10
    have e_41 := r1 oldRow_ _ (by simp only [List.mem_cons, List.not_mem_nil, or_false, not_or]; exact ⟨(nd_ne ND (i := 17) (j := 0) rfl rfl (by decide)), (Ne.symm (nd_ne ND (i := 9) (j := 17) rfl rfl (by decide))), (Ne.symm (nd_ne ND (i := 11) (j := 17) rfl rfl (by decide))), (Ne.symm (nd_ne ND (i := 12) (j := 17) rfl rfl (by decide)))⟩) e_11
    have r_42 := r_12.trans (r1.mono (by simp))
    have g_43 : fs1[(0 : Nat)]? = some (.int 0) := (ga1 0 (by decide)).trans g_16
    have g_44 : fs1[(12 : Nat)]? = some (.ref entries_) := (ga1 12 (by decide)).trans g_17
    have g_45 : fs1[(13 : Nat)]? = some (.ref lies_) := (ga1 13 (by decide)).trans g_18
    have g_46 : fs1[(14 : Nat)]? = some (.ref live_) := (ga1 14 (by decide)).trans g_19
    have g_47 : fs1[(15 : Nat)]? = some (.int (nI vs)) := (ga1 15 (by decide)).trans g_20
    have g_48 : fs1[(17 : Nat)]? = some (.ref row_) := (ga1 17 (by decide)).trans g_22
    have g_49 : fs1[(18 : Nat)]? = some (.ref level_) := (ga1 18 (by decide)).trans g_23
    have g_50 : fs1[(20 : Nat)]? = some (.int (nI op)) := (ga1 20 (by decide)).trans g_25
    have g_51 : fs1[(23 : Nat)]? = some (.ref oldLies_) := (ga1 23 (by decide)).trans g_26
    have g_52 : fs1[(24 : Nat)]? = some (.ref oldLive_) := (ga1 24 (by decide)).trans g_27
    have g_53 : fs1[(25 : Nat)]? = some (.ref oldRow_) := (ga1 25 (by decide)).trans g_28
    have g_54 : fs1[(26 : Nat)]? = some (.int (nI ov)) := (ga1 26 (by decide)).trans g_29
    have g_55 : fs1[(27 : Nat)]? = some (.int (nI os)) := (ga1 27 (by decide)).trans g_30
    have ga_56 : ∀ i : Nat, i ∉ [0, 16, 19] → fs1[i]? = fs[i]? := fun i hi => (ga1 i (fun z => hi (by simp only [List.mem_cons, List.not_mem_nil, or_false] at z ⊢; omega))).trans (ga_31 i hi)
    have hlf0 : lf = 0 := w3 rfl
    have cx : ∀ x, lvC fL1 fr1 (lf + dl) x = if hg = nI x then dl else 0 := fun x => by unfold lvC; rw [CN1 (nI x), if_neg kpx_m1, Nat.zero_add]
    have hp9 : 2 * dl + gmC 5 (lvC fL1 fr1 (lf + dl)) ≤ 5 := gmC_one hdl (fun x y hx hy h1 h2 => by rw [cx] at h1 h2; by_cases p : hg = nI x; (by_cases q : hg = nI y; (exact (nI_eq (by omega) (by omega)).mp (p.symm.trans q)); (rw [if_neg q] at h2; cases h2)); (rw [if_neg p] at h1; cases h1)) (fun x => by rw [cx]; split <;> omega)
    refine x_le (xw_le_n (xw_le_s (xw_le_n (xw_le_n xw_le_e)))) ?_
    refine s_Model_optimize_65 ?_
    exact ⟨⟨_, rfl⟩, ⟨_, l1, e1, ⟨_, g_43⟩, (KDr.fr ga_56 r_42 (by decide) (pick_dis ND (l := [m, draft_, asked_, prepared_, preparedSize_, texts_, sizes_, weights_, entries_, lies_, live_, row_, level_, oldTexts_, oldSizes_, oldLies_, oldLive_, oldRow_, firstToken_, starred_, tokenAt_, tokenSize_, groupKind_, groupPhrase_, groupSize_, groupMask_, groupFar_, out_, top_, masks_, begins_, lasts_, truth_, answers_, order_, scores_]) (is := [1]) (js := [0, 9, 11, 12]) (by decide))), (KPr.fr ga_56 r_42 (by decide) (pick_dis ND (l := [m, draft_, asked_, prepared_, preparedSize_, texts_, sizes_, weights_, entries_, lies_, live_, row_, level_, oldTexts_, oldSizes_, oldLies_, oldLive_, oldRow_, firstToken_, starred_, tokenAt_, tokenSize_, groupKind_, groupPhrase_, groupSize_, groupMask_, groupFar_, out_, top_, masks_, begins_, lasts_, truth_, answers_, order_, scores_]) (is := [3, 4]) (js := [0, 9, 11, 12]) (by decide))), (KTx.fr ga_56 r_42 (by decide) (pick_dis ND (l := [m, draft_, asked_, prepared_, preparedSize_, texts_, sizes_, weights_, entries_, lies_, live_, row_, level_, oldTexts_, oldSizes_, oldLies_, oldLive_, oldRow_, firstToken_, starred_, tokenAt_, tokenSize_, groupKind_, groupPhrase_, groupSize_, groupMask_, groupFar_, out_, top_, masks_, begins_, lasts_, truth_, answers_, order_, scores_]) (is := [5, 6]) (js := [0, 9, 11, 12]) (by decide))), (KOt.fr ga_56 r_42 (by decide) (pick_dis ND (l := [m, draft_, asked_, prepared_, preparedSize_, texts_, sizes_, weights_, entries_, lies_, live_, row_, level_, oldTexts_, oldSizes_, oldLies_, oldLive_, oldRow_, firstToken_, starred_, tokenAt_, tokenSize_, groupKind_, groupPhrase_, groupSize_, groupMask_, groupFar_, out_, top_, masks_, begins_, lasts_, truth_, answers_, order_, scores_]) (is := [13, 14]) (js := [0, 9, 11, 12]) (by decide))), ⟨vs, (md + dl), (lf + dl), op, ov, os, _, _, _, _, _, _, _, _, g_47, gm1_, gs1, g_50, g_54, g_55, g_44, e_37, g_45, ei1, g_46, e_38, g_48, er1, g_49, el1, g_51, e_39, g_52, e_40, g_53, e_41, by omega, by omega, by omega, by omega, by omega, LI1, RO1, hLV, fun v hv => (hOI v hv).imp id (fun ⟨s, a, b⟩ => ⟨s, Nat.lt_of_lt_of_le a (Nat.le_add_right md dl), b⟩), fun k hk => (hOR k hk).imp (fun s q => ⟨Nat.lt_of_lt_of_le q.1 (Nat.le_add_right md dl), q.2⟩), hOV, by omega⟩, (KMo.fr ga_56 r_42 (by decide) (fun _ z => nomatch z)), (KWe.fr ga_56 r_42 (by decide) (pick_dis ND (l := [m, draft_, asked_, prepared_, preparedSize_, texts_, sizes_, weights_, entries_, lies_, live_, row_, level_, oldTexts_, oldSizes_, oldLies_, oldLive_, oldRow_, firstToken_, starred_, tokenAt_, tokenSize_, groupKind_, groupPhrase_, groupSize_, groupMask_, groupFar_, out_, top_, masks_, begins_, lasts_, truth_, answers_, order_, scores_]) (is := [7]) (js := [0, 9, 11, 12]) (by decide))), (KBe.fr ga_56 r_42 (by decide) (pick_dis ND (l := [m, draft_, asked_, prepared_, preparedSize_, texts_, sizes_, weights_, entries_, lies_, live_, row_, level_, oldTexts_, oldSizes_, oldLies_, oldLive_, oldRow_, firstToken_, starred_, tokenAt_, tokenSize_, groupKind_, groupPhrase_, groupSize_, groupMask_, groupFar_, out_, top_, masks_, begins_, lasts_, truth_, answers_, order_, scores_]) (is := [30, 31]) (js := [0, 9, 11, 12]) (by decide))), (KAn.fr ga_56 r_42 (by decide) (pick_dis ND (l := [m, draft_, asked_, prepared_, preparedSize_, texts_, sizes_, weights_, entries_, lies_, live_, row_, level_, oldTexts_, oldSizes_, oldLies_, oldLive_, oldRow_, firstToken_, starred_, tokenAt_, tokenSize_, groupKind_, groupPhrase_, groupSize_, groupMask_, groupFar_, out_, top_, masks_, begins_, lasts_, truth_, answers_, order_, scores_]) (is := [33, 34, 35]) (js := [0, 9, 11, 12]) (by decide))), (KQu.fr ga_56 r_42 (by decide) (pick_dis ND (l := [m, draft_, asked_, prepared_, preparedSize_, texts_, sizes_, weights_, entries_, lies_, live_, row_, level_, oldTexts_, oldSizes_, oldLies_, oldLive_, oldRow_, firstToken_, starred_, tokenAt_, tokenSize_, groupKind_, groupPhrase_, groupSize_, groupMask_, groupFar_, out_, top_, masks_, begins_, lasts_, truth_, answers_, order_, scores_]) (is := [2, 18, 19, 20, 21, 22, 23, 24, 25, 26, 27, 28, 29, 32]) (js := [0, 9, 11, 12]) (by decide)))⟩, r_42.mono (by simp), r_42, FF.of e e1 ga_56, fun Xw nvw few fvw kX kv hnv we wv => by obtain rfl := kX.eq e g_made g_segments e_lies e_row e_level (by omega) (by omega); obtain rfl : nvw = vs := (nI_eq (by omega) (by omega)).mp (Value.int.inj (kv.inj ⟨_, e, g_versions⟩)); obtain rfl := cinj we e_entries; obtain rfl := cinj wv e_live; exact ⟨rfl, ⟨_, e1, g_43⟩, Or.inr ⟨(fi1, fr1, fL1, md + dl, lf + dl), ⟨ei1, er1, el1, ⟨_, e1, gm1_⟩, ⟨_, e1, gs1⟩, (by dsimp only; omega), (by dsimp only; omega)⟩, dl, lf, hdl, rfl, rfl, by rw [hgE]; exact GV1⟩⟩⟩
set_option maxHeartbeats 2000000 in
theorem lp_mlet {G : xw_G} {F L bc bs : Nat} {pr : Option Value → xw_A → Prop} {px : String → xw_A → Prop} {h : xw_A} {m : Nat} {w : Int64} {fs : List Value} (l : fs.length = 62) (e : h m = some (.inr (11, fs))) (g : fs[(0 : Nat)]? = some (.int 0)) (hF : 2 ≤ F) (hL : 60 ≤ L)
    (kN : ∀ n : Nat, ltr (oct w) 8 0 = some n → xw G m_Model_letters F L bc bs pr px 83 [some (.ref m), some (.long w), none, some (.int (nI n)), none, none] [] h)
    (kE : ltr (oct w) 8 0 = none → pr (some (.int 0)) (xw_up h m (.inr (11, fs.set 0 (.int 1))))) :
    ∀ d i : Nat, i + d = 8 → ltr (oct w) d i = ltr (oct w) 8 0 → xw G m_Model_letters F L bc bs pr px 10 [some (.ref m), some (.long w), none, some (.int (nI i)), some (.int (nI i)), none] [] h := by
  intro d
  induction d with
  | zero =>
    intro i hi hl
    obtain rfl : i = 8 := by omega
    refine s_Model_letters_10 (fun _ => ?_) (fun z => absurd z (by decide))
    exact kN 8 hl.symm
  | succ d ih =>
    intro i hi hl
    have hoc : ((((w.toUInt64 >>> ((8 * nI i).toInt64.toUInt64 &&& Int64.toUInt64 63)).toInt64) &&& 255).toInt32) = oct w i := octM _
    refine s_Model_letters_10 (fun z => absurd z (nI_ge (b := 8) (show i < 8 by omega) (by decide))) (fun _ => ?_)
    refine s_Model_letters_17 (fun z => absurd rfl z) (fun _ => ?_)
    refine s_Model_letters_23 (fun z => ?_) (fun z => ?_)
    · rw [hoc] at z ⊢
      refine s_Model_letters_59 ?_
      refine s_Model_letters_60 ?_
      refine x_callV (As := [.int 0, .int 1]) (b := m) (rest := []) (F1 := 1) (L1 := 20) (mc := 0) (ms := 0) d_Model_letters_61 cV_Model_139 (f_fails_no l e g (by omega) (by omega)) e ⟨by decide, rfl⟩ ⟨by omega, by show 8 + (3 + 11) + 20 ≤ _; omega⟩ ⟨by omega, by omega⟩ (Nat.le_of_ble_eq_true rfl) (fun v h1 p => ?_)
      obtain ⟨rfl, rfl⟩ := p
      refine s_Model_letters_64 (fun _ => ?_) (fun z => absurd rfl z)
      refine s_Model_letters_69 (fun _ => ?_) (fun z9 => absurd z z9)
      refine s_Model_letters_77 ?_
      have hk := kN i (by rw [← hl]; exact ltr_0 z)
      refine s_Model_letters_10 (fun _ => hk) (fun _ => ?_)
      refine s_Model_letters_17 (fun _ => hk) (fun z9 => absurd z9 (by rw [nI_1, nI_eq (by omega) (by omega)]; omega))
    · rw [hoc] at z ⊢
      refine s_Model_letters_43 ?_
      by_cases hn : oct w i < 32 ∨ 126 < oct w i
      · refine x_callS (As := [.int (oct w i), .int 32, .int 126]) (rest := [.ref m]) (F1 := 1) (L1 := 20) (mc := 0) (ms := 0) d_Model_letters_49 cS_Model_133 (f_in_no hn (by omega) (by omega)) ⟨by omega, by show 8 + (3 + 11) + 20 ≤ _; omega⟩ ⟨by omega, by omega⟩ (Nat.le_of_ble_eq_true rfl) (fun v h1 p => ?_)
        obtain ⟨rfl, rfl⟩ := p
        refine s_Model_letters_52 (fun z => absurd rfl z) (fun _ => ?_)
        refine s_Model_letters_55 ?_
        refine s_Model_letters_60 ?_
        refine x_callV (As := [.int 1, .int 1]) (b := m) (rest := []) (F1 := 1) (L1 := 20) (mc := 0) (ms := 0) d_Model_letters_61 cV_Model_139 (f_fails_yes (by decide) l e g (by omega) (by omega)) e ⟨by decide, rfl⟩ ⟨by omega, by show 8 + (3 + 11) + 20 ≤ _; omega⟩ ⟨by omega, by omega⟩ (Nat.le_of_ble_eq_true rfl) (fun v h1 p => ?_)
        obtain ⟨rfl, rfl⟩ := p
        refine s_Model_letters_64 (fun z => absurd z (by decide)) (fun _ => ?_)
        refine s_Model_letters_67 ?_
        exact kE (by rw [← hl]; exact ltr_n z hn)
      · have hn2 := hn
        rw [not_or] at hn2
        refine x_callS (As := [.int (oct w i), .int 32, .int 126]) (rest := [.ref m]) (F1 := 1) (L1 := 20) (mc := 0) (ms := 0) d_Model_letters_49 cS_Model_133 (f_in_yes hn2.1 hn2.2 (by omega) (by omega)) ⟨by omega, by show 8 + (3 + 11) + 20 ≤ _; omega⟩ ⟨by omega, by omega⟩ (Nat.le_of_ble_eq_true rfl) (fun v h1 p => ?_)
        obtain ⟨rfl, rfl⟩ := p
        refine s_Model_letters_52 (fun _ => ?_) (fun z => absurd z (by decide))
        refine s_Model_letters_59 ?_
        refine s_Model_letters_60 ?_
        refine x_callV (As := [.int 0, .int 1]) (b := m) (rest := []) (F1 := 1) (L1 := 20) (mc := 0) (ms := 0) d_Model_letters_61 cV_Model_139 (f_fails_no l e g (by omega) (by omega)) e ⟨by decide, rfl⟩ ⟨by omega, by show 8 + (3 + 11) + 20 ≤ _; omega⟩ ⟨by omega, by omega⟩ (Nat.le_of_ble_eq_true rfl) (fun v h1 p => ?_)
        obtain ⟨rfl, rfl⟩ := p
        refine s_Model_letters_64 (fun _ => ?_) (fun z => absurd rfl z)
        refine s_Model_letters_69 (fun z9 => absurd z9 z) (fun _ => ?_)
        refine s_Model_letters_74 ?_
        refine s_Model_letters_77 ?_
        rw [nI_1]
        exact ih (i + 1) (by omega) (by rw [← hl]; exact (ltr_s z hn).symm)
set_option maxHeartbeats 2000000 in
theorem lp_let2 {G : xw_G} {F L bc bs : Nat} {pr : Option Value → xw_A → Prop} {px : String → xw_A → Prop} {w : Int64} {m draft_ dl n : Nat} {f0 : Nat → Int32} {gs : List Value} {h0 : xw_A} (l : gs.length = 62) (q_m : h0 m = some (.inr (11, gs))) (g_draft : gs[(3 : Nat)]? = some (.ref draft_)) (g_drafted : gs[(10 : Nat)]? = some (.int (nI dl))) (q_d : ∃ f, h0 draft_ = some (.inl (0, 96, .inl f))) (hdn : dl + n ≤ 96) (kk : ∀ (h : xw_A) (fd : Nat → Int32), h draft_ = some (.inl (0, 96, .inl fd)) → ((∀ j, j < dl → fd j = f0 j) ∧ ∀ t, t < n → fd (dl + t) = oct w t) → FrO [draft_] h0 h → xw G m_Model_letters F L bc bs pr px 165 [some (.ref m), none, none, some (.int (nI n)), none, none] [] h) :
    ∀ (dd i : Nat) (h : xw_A) (fd : Nat → Int32), i + dd = n → h draft_ = some (.inl (0, 96, .inl fd)) → ((∀ j, j < dl → fd j = f0 j) ∧ ∀ t, t < i → fd (dl + t) = oct w t) → FrO [draft_] h0 h → xw G m_Model_letters F L bc bs pr px 129 [some (.ref m), some (.long w), none, some (.int (nI n)), some (.int (nI i)), none] [] h := by
  intro dd
  induction dd with
  | zero =>
    intro i h fd hi e_draft C9 r0
    obtain rfl : i = n := by omega
    have e := r0 m _ (by obtain ⟨f, o⟩ := q_d; simp only [List.mem_cons, List.not_mem_nil, or_false, not_or]; exact xw_neC q_m o (by simp)) q_m
    refine s_Model_letters_129 (fun z_1 => ?_) (fun z => absurd (nI_le (Nat.le_refl _) (by omega)) z)
    exact kk _ _ e_draft C9 r0
  | succ dd ih =>
    intro i h fd hi e_draft C9 r0
    have e := r0 m _ (by obtain ⟨f, o⟩ := q_d; simp only [List.mem_cons, List.not_mem_nil, or_false, not_or]; exact xw_neC q_m o (by simp)) q_m
    refine s_Model_letters_129 (fun z => absurd z (nI_ge (b := n) (show i < n by omega) (by omega))) (fun z_1 => ?_)
    refine s_Model_letters_135 l e g_draft g_drafted e_draft (by rw [nI_add]; exact vp_in_nI (by omega) (by decide)) ?_
    refine x_u1 (fun h_2 e_3 f_4 => ?_)
    have e_5 := (f_4 m (xw_neC e e_draft (by simp))).trans e
    have r_6 := r0.up (by simp) f_4
    rw [nI_1]
    rw [nI_add, nI_clamp (by omega), octM] at e_3
    exact ih (i + 1) _ _ (by omega) e_3 ⟨(fun j9 hj9 => by have q : ¬ j9 = dl + i := (by omega); rw [pk_un q]; exact C9.1 j9 hj9), (fun t9 ht9 => by by_cases q : t9 = i; (rw [q]; exact pk_us); (have q2 : ¬ dl + t9 = dl + i := (by omega); rw [pk_un q2]; exact C9.2 t9 (by omega)))⟩ r_6
set_option maxHeartbeats 2000000 in
theorem r_letters {G : xw_G} {F L : Nat} {h : xw_A} {w : Int64} {m draft_ asked_ prepared_ preparedSize_ texts_ sizes_ weights_ entries_ lies_ live_ row_ level_ oldTexts_ oldSizes_ oldLies_ oldLive_ oldRow_ firstToken_ starred_ tokenAt_ tokenSize_ groupKind_ groupPhrase_ groupSize_ groupMask_ groupFar_ out_ top_ masks_ begins_ lasts_ truth_ answers_ order_ scores_ T : Nat} (R : RI m draft_ asked_ prepared_ preparedSize_ texts_ sizes_ weights_ entries_ lies_ live_ row_ level_ oldTexts_ oldSizes_ oldLies_ oldLive_ oldRow_ firstToken_ starred_ tokenAt_ tokenSize_ groupKind_ groupPhrase_ groupSize_ groupMask_ groupFar_ out_ top_ masks_ begins_ lasts_ truth_ answers_ order_ scores_ T h) (ND : NDl [m, draft_, asked_, prepared_, preparedSize_, texts_, sizes_, weights_, entries_, lies_, live_, row_, level_, oldTexts_, oldSizes_, oldLies_, oldLive_, oldRow_, firstToken_, starred_, tokenAt_, tokenSize_, groupKind_, groupPhrase_, groupSize_, groupMask_, groupFar_, out_, top_, masks_, begins_, lasts_, truth_, answers_, order_, scores_]) (hT : T < 512) (hF : 2 ≤ F) (hL : 60 ≤ L) :
    xw_Met G m_Model_letters F L 0 0 [.ref m, .long w] h (fun v h' => (∃ y : Int32, v = some (.int y)) ∧ RI m draft_ asked_ prepared_ preparedSize_ texts_ sizes_ weights_ entries_ lies_ live_ row_ level_ oldTexts_ oldSizes_ oldLies_ oldLive_ oldRow_ firstToken_ starred_ tokenAt_ tokenSize_ groupKind_ groupPhrase_ groupSize_ groupMask_ groupFar_ out_ top_ masks_ begins_ lasts_ truth_ answers_ order_ scores_ (T + 1) h' ∧ FrO [m, draft_, asked_, prepared_, preparedSize_, texts_, sizes_, weights_, entries_, lies_, live_, row_, level_, oldTexts_, oldSizes_, oldLies_, oldLive_, oldRow_, firstToken_, starred_, tokenAt_, tokenSize_, groupKind_, groupPhrase_, groupSize_, groupMask_, groupFar_, out_, top_, masks_, begins_, lasts_, truth_, answers_, order_, scores_] h h' ∧ FrO [m, draft_] h h' ∧ FF m [0, 10] h h' ∧ (∀ dl : Nat, dl ≤ 96 → Rf m 10 (.int (nI dl)) h → (((ltr (oct w) 8 0).getD 0 = 0 ∧ Rf m 10 (.int (nI dl)) h' ∧ Rf m 0 (.int 1) h') ∨ ∃ n, ltr (oct w) 8 0 = some (n + 1) ∧ ((96 < dl + (n + 1) ∧ Rf m 10 (.int (nI dl)) h' ∧ Rf m 0 (.int 2) h') ∨ (dl + (n + 1) ≤ 96 ∧ Rf m 10 (.int (nI (dl + (n + 1)))) h' ∧ Rf m 0 (.int 0) h' ∧ v = some (.int (nI (dl + (n + 1)))))))) ∧ (∀ dl : Nat, dl ≤ 96 → Rf m 10 (.int (nI dl)) h → ∀ fd : Nat → Int32, h draft_ = some (.inl (0, 96, .inl fd)) → ∃ fd' : Nat → Int32, h' draft_ = some (.inl (0, 96, .inl fd')) ∧ (∀ j, j < dl → fd' j = fd j) ∧ ∀ n, ltr (oct w) 8 0 = some (n + 1) → dl + (n + 1) ≤ 96 → ∀ t, t < n + 1 → fd' (dl + t) = oct w t)) (fun _ _ => False) := by
  refine xw_Met.of rfl (by decide) (Nat.le_of_ble_eq_true rfl) ?_
  obtain ⟨fs, l, e, ⟨er, g_err⟩, KDr, KPr, KTx, KOt, KSt, KMo, KWe, KBe, KAn, KQu⟩ := R
  obtain ⟨dl, fd, g_drafted, g_draft, e_draft, hdl⟩ := id KDr
  have ga0 : ∀ i : Nat, i ∉ [0, 10] → fs[i]? = fs[i]? := fun _ _ => rfl
  have r0 : FrO [m, draft_] h h := FrO.rf
  refine s_Model_letters_0 l e ?_
  refine x_u1 (fun h_1 e_2 f_3 => ?_)
  have e_4 := (f_3 draft_ (nd_ne ND (i := 1) (j := 0) rfl rfl (by decide))).trans e_draft
  have r_5 := r0.up (by simp) f_3
  obtain ⟨fs_6, z_7⟩ : ∃ z, z = fs.set 0 (.int 0) := ⟨_, rfl⟩
  rw [← z_7] at e_2
  have l_8 : fs_6.length = 62 := by rw [z_7]; simp only [List.length_set]; exact l
  have g_9 : fs_6[(0 : Nat)]? = some (.int 0) := by rw [z_7]; exact (xw_gs (by simp [l]))
  have g_10 : fs_6[(3 : Nat)]? = some (.ref draft_) := by rw [z_7]; exact (xw_gn (by decide) g_draft)
  have g_11 : fs_6[(10 : Nat)]? = some (.int (nI dl)) := by rw [z_7]; exact (xw_gn (by decide) g_drafted)
  have ga_12 : ∀ i : Nat, i ∉ [0, 10] → fs_6[i]? = fs[i]? := fun i hi => by rw [z_7]; exact xw_gn (fun z => hi (by rw [z]; simp)) (ga0 i hi)
  clear z_7
  refine lp_mlet l_8 e_2 g_9 (by omega) (by omega) (fun nN hnN => ?_) (fun hE => ?_) 8 0 rfl rfl
  · skip
    have hnN8 := ltr_le 8 0 nN hnN
    refine s_Model_letters_83 (fun z_13 => ?_) (fun z_14 => ?_)
    · skip
      refine s_Model_letters_92 ?_
      refine s_Model_letters_93 ?_
      refine x_callV (As := [.int 0, .int 1]) (b := m) (rest := []) (F1 := 1) (L1 := 20) (mc := 0) (ms := 0) d_Model_letters_94 cV_Model_139 (f_fails0 l_8 e_2 g_9 (by omega) (by omega)) e_2 ⟨by decide, rfl⟩ ⟨by omega, by show 8 + (3 + 11) + 20 ≤ _; omega⟩ ⟨by omega, by omega⟩ (Nat.le_of_ble_eq_true rfl) (fun v_16 h_15 p_17 => ?_)
      obtain ⟨rfl, rfl⟩ := p_17
      refine s_Model_letters_97 (fun z => absurd z (by decide)) (fun z_18 => ?_)
      refine s_Model_letters_100 l_8 e_2 g_11 (fun z_19 => ?_) (fun z_20 => ?_)
      · skip
        refine s_Model_letters_116 ?_
        refine s_Model_letters_117 ?_
        refine x_callV (As := [.int 0, .int 2]) (b := m) (rest := []) (F1 := 1) (L1 := 20) (mc := 0) (ms := 0) d_Model_letters_118 cV_Model_139 (f_fails0 l_8 e_2 g_9 (by omega) (by omega)) e_2 ⟨by decide, rfl⟩ ⟨by omega, by show 8 + (3 + 11) + 20 ≤ _; omega⟩ ⟨by omega, by omega⟩ (Nat.le_of_ble_eq_true rfl) (fun v_22 h_21 p_23 => ?_)
        obtain ⟨rfl, rfl⟩ := p_23
        refine s_Model_letters_121 (fun z_24 => ?_) (fun z => absurd z (by decide))
        refine s_Model_letters_126 ?_
        have hdn : dl + nN ≤ 96 := Nat.le_of_not_lt (fun q => absurd z_19 (by rw [nI_add]; exact nI_ge (b := dl + nN) (show 96 < dl + nN from q) (by omega)))
        refine lp_let2 (gs := fs_6) (h0 := h_1) l_8 e_2 g_10 g_11 ⟨_, e_4⟩ hdn (fun h_25 fd_26 e_27 C_29 fr_28 => ?_) nN 0 _ _ (Nat.zero_add _) e_4 ⟨fun _ _ => rfl, fun t ht => absurd ht (Nat.not_lt_zero _)⟩ FrO.rf
        have e_30 := fr_28 m _ (by simp only [List.mem_cons, List.not_mem_nil, or_false, not_or]; exact (Ne.symm (nd_ne ND (i := 1) (j := 0) rfl rfl (by decide)))) e_2
        have r_31 := r_5.trans (fr_28.mono (by simp))
        refine s_Model_letters_165 l_8 e_30 g_11 ?_
        obtain ⟨h_32, z_35⟩ : ∃ z, z = xw_up h_25 m (.inr (11, (fs_6.set 10 (.int ((nI dl) + (nI nN)))))) := ⟨_, rfl⟩
        rw [← z_35]
        have e_33 : h_32 m = some (.inr (11, (fs_6.set 10 (.int ((nI dl) + (nI nN)))))) := by rw [z_35]; exact xw_up_s _ _ _
        have f_34 : ∀ q, q ≠ m → h_32 q = h_25 q := fun q hq => by rw [z_35]; exact xw_up_n _ _ hq
        clear z_35
        have e_36 := (f_34 draft_ (nd_ne ND (i := 1) (j := 0) rfl rfl (by decide))).trans e_27
        have r_37 := r_31.up (by simp) f_34
        obtain ⟨fs_38, z_39⟩ : ∃ z, z = fs_6.set 10 (.int ((nI dl) + (nI nN))) := ⟨_, rfl⟩
        rw [← z_39] at e_33
        have l_40 : fs_38.length = 62 := by rw [z_39]; simp only [List.length_set]; exact l_8
        have g_41 : fs_38[(0 : Nat)]? = some (.int 0) := by rw [z_39]; exact (xw_gn (by decide) g_9)
        have g_42 : fs_38[(3 : Nat)]? = some (.ref draft_) := by rw [z_39]; exact (xw_gn (by decide) g_10)
        have g_43 : fs_38[(10 : Nat)]? = some (.int ((nI dl) + (nI nN))) := by rw [z_39]; exact (xw_gs (by simp [l_8]))
        have ga_44 : ∀ i : Nat, i ∉ [0, 10] → fs_38[i]? = fs[i]? := fun i hi => by rw [z_39]; exact xw_gn (fun z => hi (by rw [z]; simp)) (ga_12 i hi)
        clear z_39
        rw [nI_add] at g_43
        have hnn : nN - 1 + 1 = nN := by have q9 : ¬ nN = 0 := fun q => z_13 (by rw [q]; rfl); omega
        exact ⟨⟨_, rfl⟩, ⟨_, l_40, e_33, ⟨_, g_41⟩, ⟨(dl + nN), _, g_43, g_42, e_36, hdn⟩, (KPr.fr ga_44 r_37 (by decide) (pick_dis ND (l := [m, draft_, asked_, prepared_, preparedSize_, texts_, sizes_, weights_, entries_, lies_, live_, row_, level_, oldTexts_, oldSizes_, oldLies_, oldLive_, oldRow_, firstToken_, starred_, tokenAt_, tokenSize_, groupKind_, groupPhrase_, groupSize_, groupMask_, groupFar_, out_, top_, masks_, begins_, lasts_, truth_, answers_, order_, scores_]) (is := [3, 4]) (js := [0, 1]) (by decide))), (KTx.fr ga_44 r_37 (by decide) (pick_dis ND (l := [m, draft_, asked_, prepared_, preparedSize_, texts_, sizes_, weights_, entries_, lies_, live_, row_, level_, oldTexts_, oldSizes_, oldLies_, oldLive_, oldRow_, firstToken_, starred_, tokenAt_, tokenSize_, groupKind_, groupPhrase_, groupSize_, groupMask_, groupFar_, out_, top_, masks_, begins_, lasts_, truth_, answers_, order_, scores_]) (is := [5, 6]) (js := [0, 1]) (by decide))), (KOt.fr ga_44 r_37 (by decide) (pick_dis ND (l := [m, draft_, asked_, prepared_, preparedSize_, texts_, sizes_, weights_, entries_, lies_, live_, row_, level_, oldTexts_, oldSizes_, oldLies_, oldLive_, oldRow_, firstToken_, starred_, tokenAt_, tokenSize_, groupKind_, groupPhrase_, groupSize_, groupMask_, groupFar_, out_, top_, masks_, begins_, lasts_, truth_, answers_, order_, scores_]) (is := [13, 14]) (js := [0, 1]) (by decide))), (KSt.fr ga_44 r_37 (by decide) (pick_dis ND (l := [m, draft_, asked_, prepared_, preparedSize_, texts_, sizes_, weights_, entries_, lies_, live_, row_, level_, oldTexts_, oldSizes_, oldLies_, oldLive_, oldRow_, firstToken_, starred_, tokenAt_, tokenSize_, groupKind_, groupPhrase_, groupSize_, groupMask_, groupFar_, out_, top_, masks_, begins_, lasts_, truth_, answers_, order_, scores_]) (is := [8, 9, 10, 11, 12, 15, 16, 17]) (js := [0, 1]) (by decide))).succ, (KMo.fr ga_44 r_37 (by decide) (fun _ z => nomatch z)), (KWe.fr ga_44 r_37 (by decide) (pick_dis ND (l := [m, draft_, asked_, prepared_, preparedSize_, texts_, sizes_, weights_, entries_, lies_, live_, row_, level_, oldTexts_, oldSizes_, oldLies_, oldLive_, oldRow_, firstToken_, starred_, tokenAt_, tokenSize_, groupKind_, groupPhrase_, groupSize_, groupMask_, groupFar_, out_, top_, masks_, begins_, lasts_, truth_, answers_, order_, scores_]) (is := [7]) (js := [0, 1]) (by decide))), (KBe.fr ga_44 r_37 (by decide) (pick_dis ND (l := [m, draft_, asked_, prepared_, preparedSize_, texts_, sizes_, weights_, entries_, lies_, live_, row_, level_, oldTexts_, oldSizes_, oldLies_, oldLive_, oldRow_, firstToken_, starred_, tokenAt_, tokenSize_, groupKind_, groupPhrase_, groupSize_, groupMask_, groupFar_, out_, top_, masks_, begins_, lasts_, truth_, answers_, order_, scores_]) (is := [30, 31]) (js := [0, 1]) (by decide))), (KAn.fr ga_44 r_37 (by decide) (pick_dis ND (l := [m, draft_, asked_, prepared_, preparedSize_, texts_, sizes_, weights_, entries_, lies_, live_, row_, level_, oldTexts_, oldSizes_, oldLies_, oldLive_, oldRow_, firstToken_, starred_, tokenAt_, tokenSize_, groupKind_, groupPhrase_, groupSize_, groupMask_, groupFar_, out_, top_, masks_, begins_, lasts_, truth_, answers_, order_, scores_]) (is := [33, 34, 35]) (js := [0, 1]) (by decide))), (KQu.fr ga_44 r_37 (by decide) (pick_dis ND (l := [m, draft_, asked_, prepared_, preparedSize_, texts_, sizes_, weights_, entries_, lies_, live_, row_, level_, oldTexts_, oldSizes_, oldLies_, oldLive_, oldRow_, firstToken_, starred_, tokenAt_, tokenSize_, groupKind_, groupPhrase_, groupSize_, groupMask_, groupFar_, out_, top_, masks_, begins_, lasts_, truth_, answers_, order_, scores_]) (is := [2, 18, 19, 20, 21, 22, 23, 24, 25, 26, 27, 28, 29, 32]) (js := [0, 1]) (by decide)))⟩, r_37.mono (by simp), r_37, FF.of e e_33 ga_44, (fun dl9 hd9 K9 => by obtain rfl : dl9 = dl := (nI_eq (by omega) (by omega)).mp (Value.int.inj (K9.inj ⟨_, e, g_drafted⟩)); exact Or.inr ⟨nN - 1, by rw [hnn]; exact hnN, Or.inr ⟨by omega, by rw [hnn]; exact ⟨_, e_33, g_43⟩, ⟨_, e_33, g_41⟩, by rw [hnn, nI_add]⟩⟩), fun dl9 hd9 K9 => by obtain rfl : dl9 = dl := (nI_eq (by omega) (by omega)).mp (Value.int.inj (K9.inj ⟨_, e, g_drafted⟩)); exact (fun fvw ew => by obtain rfl := cinj ew e_draft; exact ⟨_, e_36, C_29.1, fun n8 hn8 hd8 t8 ht8 => C_29.2 t8 (by have q := Option.some.inj (hnN.symm.trans hn8); omega)⟩)⟩
      · skip
        refine s_Model_letters_112 ?_
        refine s_Model_letters_117 ?_
        refine x_callV (As := [.int 1, .int 2]) (b := m) (rest := []) (F1 := 1) (L1 := 20) (mc := 0) (ms := 0) d_Model_letters_118 cV_Model_139 (f_fails1 (c := 2) l_8 e_2 g_9 (by decide) (by omega) (by omega)) e_2 ⟨by decide, rfl⟩ ⟨by omega, by show 8 + (3 + 11) + 20 ≤ _; omega⟩ ⟨by omega, by omega⟩ (Nat.le_of_ble_eq_true rfl) (fun v_52 h_51 p_53 => ?_)
        obtain ⟨rfl, fs_45, l_46, e_47, g_49, ga_48, fr_50⟩ := p_53
        have g_54 : fs_45[(3 : Nat)]? = some (.ref draft_) := (ga_48 3 (by decide)).trans g_10
        have g_55 : fs_45[(10 : Nat)]? = some (.int (nI dl)) := (ga_48 10 (by decide)).trans g_11
        have e_56 := fr_50 draft_ _ (by simp only [List.mem_cons, List.not_mem_nil, or_false, not_or]; exact (nd_ne ND (i := 1) (j := 0) rfl rfl (by decide))) e_4
        have ga_57 : ∀ i : Nat, i ∉ [0, 10] → fs_45[i]? = fs[i]? := fun i hi => (ga_48 i (fun z => hi (by simp only [List.mem_cons, List.not_mem_nil, or_false] at z ⊢; omega))).trans (ga_12 i hi)
        have r_58 := r_5.trans (fr_50.mono (by simp))
        refine s_Model_letters_121 (fun z => absurd z (by decide)) (fun z_59 => ?_)
        refine s_Model_letters_124 ?_
        have hnn : nN - 1 + 1 = nN := by have q9 : ¬ nN = 0 := fun q => z_13 (by rw [q]; rfl); omega
        have q96 : 96 < dl + nN := Nat.lt_of_not_le (fun q => z_20 (by rw [nI_add]; exact nI_le q (by decide)))
        exact ⟨⟨_, rfl⟩, ⟨_, l_46, e_47, ⟨_, g_49⟩, ⟨dl, _, g_55, g_54, e_56, hdl⟩, (KPr.fr ga_57 r_58 (by decide) (pick_dis ND (l := [m, draft_, asked_, prepared_, preparedSize_, texts_, sizes_, weights_, entries_, lies_, live_, row_, level_, oldTexts_, oldSizes_, oldLies_, oldLive_, oldRow_, firstToken_, starred_, tokenAt_, tokenSize_, groupKind_, groupPhrase_, groupSize_, groupMask_, groupFar_, out_, top_, masks_, begins_, lasts_, truth_, answers_, order_, scores_]) (is := [3, 4]) (js := [0, 1]) (by decide))), (KTx.fr ga_57 r_58 (by decide) (pick_dis ND (l := [m, draft_, asked_, prepared_, preparedSize_, texts_, sizes_, weights_, entries_, lies_, live_, row_, level_, oldTexts_, oldSizes_, oldLies_, oldLive_, oldRow_, firstToken_, starred_, tokenAt_, tokenSize_, groupKind_, groupPhrase_, groupSize_, groupMask_, groupFar_, out_, top_, masks_, begins_, lasts_, truth_, answers_, order_, scores_]) (is := [5, 6]) (js := [0, 1]) (by decide))), (KOt.fr ga_57 r_58 (by decide) (pick_dis ND (l := [m, draft_, asked_, prepared_, preparedSize_, texts_, sizes_, weights_, entries_, lies_, live_, row_, level_, oldTexts_, oldSizes_, oldLies_, oldLive_, oldRow_, firstToken_, starred_, tokenAt_, tokenSize_, groupKind_, groupPhrase_, groupSize_, groupMask_, groupFar_, out_, top_, masks_, begins_, lasts_, truth_, answers_, order_, scores_]) (is := [13, 14]) (js := [0, 1]) (by decide))), (KSt.fr ga_57 r_58 (by decide) (pick_dis ND (l := [m, draft_, asked_, prepared_, preparedSize_, texts_, sizes_, weights_, entries_, lies_, live_, row_, level_, oldTexts_, oldSizes_, oldLies_, oldLive_, oldRow_, firstToken_, starred_, tokenAt_, tokenSize_, groupKind_, groupPhrase_, groupSize_, groupMask_, groupFar_, out_, top_, masks_, begins_, lasts_, truth_, answers_, order_, scores_]) (is := [8, 9, 10, 11, 12, 15, 16, 17]) (js := [0, 1]) (by decide))).succ, (KMo.fr ga_57 r_58 (by decide) (fun _ z => nomatch z)), (KWe.fr ga_57 r_58 (by decide) (pick_dis ND (l := [m, draft_, asked_, prepared_, preparedSize_, texts_, sizes_, weights_, entries_, lies_, live_, row_, level_, oldTexts_, oldSizes_, oldLies_, oldLive_, oldRow_, firstToken_, starred_, tokenAt_, tokenSize_, groupKind_, groupPhrase_, groupSize_, groupMask_, groupFar_, out_, top_, masks_, begins_, lasts_, truth_, answers_, order_, scores_]) (is := [7]) (js := [0, 1]) (by decide))), (KBe.fr ga_57 r_58 (by decide) (pick_dis ND (l := [m, draft_, asked_, prepared_, preparedSize_, texts_, sizes_, weights_, entries_, lies_, live_, row_, level_, oldTexts_, oldSizes_, oldLies_, oldLive_, oldRow_, firstToken_, starred_, tokenAt_, tokenSize_, groupKind_, groupPhrase_, groupSize_, groupMask_, groupFar_, out_, top_, masks_, begins_, lasts_, truth_, answers_, order_, scores_]) (is := [30, 31]) (js := [0, 1]) (by decide))), (KAn.fr ga_57 r_58 (by decide) (pick_dis ND (l := [m, draft_, asked_, prepared_, preparedSize_, texts_, sizes_, weights_, entries_, lies_, live_, row_, level_, oldTexts_, oldSizes_, oldLies_, oldLive_, oldRow_, firstToken_, starred_, tokenAt_, tokenSize_, groupKind_, groupPhrase_, groupSize_, groupMask_, groupFar_, out_, top_, masks_, begins_, lasts_, truth_, answers_, order_, scores_]) (is := [33, 34, 35]) (js := [0, 1]) (by decide))), (KQu.fr ga_57 r_58 (by decide) (pick_dis ND (l := [m, draft_, asked_, prepared_, preparedSize_, texts_, sizes_, weights_, entries_, lies_, live_, row_, level_, oldTexts_, oldSizes_, oldLies_, oldLive_, oldRow_, firstToken_, starred_, tokenAt_, tokenSize_, groupKind_, groupPhrase_, groupSize_, groupMask_, groupFar_, out_, top_, masks_, begins_, lasts_, truth_, answers_, order_, scores_]) (is := [2, 18, 19, 20, 21, 22, 23, 24, 25, 26, 27, 28, 29, 32]) (js := [0, 1]) (by decide)))⟩, r_58.mono (by simp), r_58, FF.of e e_47 ga_57, (fun dl9 hd9 K9 => by obtain rfl : dl9 = dl := (nI_eq (by omega) (by omega)).mp (Value.int.inj (K9.inj ⟨_, e, g_drafted⟩)); exact Or.inr ⟨nN - 1, by rw [hnn]; exact hnN, Or.inl ⟨by omega, ⟨_, e_47, g_55⟩, ⟨_, e_47, g_49⟩⟩⟩), fun dl9 hd9 K9 => by obtain rfl : dl9 = dl := (nI_eq (by omega) (by omega)).mp (Value.int.inj (K9.inj ⟨_, e, g_drafted⟩)); exact (fun fvw ew => by obtain rfl := cinj ew e_draft; exact ⟨_, e_56, fun _ _ => rfl, fun n8 hn8 hd8 t8 ht8 => absurd (Option.some.inj (hnN.symm.trans hn8)) (by omega)⟩)⟩
    · skip
      refine s_Model_letters_88 ?_
      refine s_Model_letters_93 ?_
      refine x_callV (As := [.int 1, .int 1]) (b := m) (rest := []) (F1 := 1) (L1 := 20) (mc := 0) (ms := 0) d_Model_letters_94 cV_Model_139 (f_fails1 (c := 1) l_8 e_2 g_9 (by decide) (by omega) (by omega)) e_2 ⟨by decide, rfl⟩ ⟨by omega, by show 8 + (3 + 11) + 20 ≤ _; omega⟩ ⟨by omega, by omega⟩ (Nat.le_of_ble_eq_true rfl) (fun v_67 h_66 p_68 => ?_)
      obtain ⟨rfl, fs_60, l_61, e_62, g_64, ga_63, fr_65⟩ := p_68
      have g_69 : fs_60[(3 : Nat)]? = some (.ref draft_) := (ga_63 3 (by decide)).trans g_10
      have g_70 : fs_60[(10 : Nat)]? = some (.int (nI dl)) := (ga_63 10 (by decide)).trans g_11
      have e_71 := fr_65 draft_ _ (by simp only [List.mem_cons, List.not_mem_nil, or_false, not_or]; exact (nd_ne ND (i := 1) (j := 0) rfl rfl (by decide))) e_4
      have ga_72 : ∀ i : Nat, i ∉ [0, 10] → fs_60[i]? = fs[i]? := fun i hi => (ga_63 i (fun z => hi (by simp only [List.mem_cons, List.not_mem_nil, or_false] at z ⊢; omega))).trans (ga_12 i hi)
      have r_73 := r_5.trans (fr_65.mono (by simp))
      refine s_Model_letters_97 (fun z_74 => ?_) (fun z => absurd z (by decide))
      refine s_Model_letters_124 ?_
      exact ⟨⟨_, rfl⟩, ⟨_, l_61, e_62, ⟨_, g_64⟩, ⟨dl, _, g_70, g_69, e_71, hdl⟩, (KPr.fr ga_72 r_73 (by decide) (pick_dis ND (l := [m, draft_, asked_, prepared_, preparedSize_, texts_, sizes_, weights_, entries_, lies_, live_, row_, level_, oldTexts_, oldSizes_, oldLies_, oldLive_, oldRow_, firstToken_, starred_, tokenAt_, tokenSize_, groupKind_, groupPhrase_, groupSize_, groupMask_, groupFar_, out_, top_, masks_, begins_, lasts_, truth_, answers_, order_, scores_]) (is := [3, 4]) (js := [0, 1]) (by decide))), (KTx.fr ga_72 r_73 (by decide) (pick_dis ND (l := [m, draft_, asked_, prepared_, preparedSize_, texts_, sizes_, weights_, entries_, lies_, live_, row_, level_, oldTexts_, oldSizes_, oldLies_, oldLive_, oldRow_, firstToken_, starred_, tokenAt_, tokenSize_, groupKind_, groupPhrase_, groupSize_, groupMask_, groupFar_, out_, top_, masks_, begins_, lasts_, truth_, answers_, order_, scores_]) (is := [5, 6]) (js := [0, 1]) (by decide))), (KOt.fr ga_72 r_73 (by decide) (pick_dis ND (l := [m, draft_, asked_, prepared_, preparedSize_, texts_, sizes_, weights_, entries_, lies_, live_, row_, level_, oldTexts_, oldSizes_, oldLies_, oldLive_, oldRow_, firstToken_, starred_, tokenAt_, tokenSize_, groupKind_, groupPhrase_, groupSize_, groupMask_, groupFar_, out_, top_, masks_, begins_, lasts_, truth_, answers_, order_, scores_]) (is := [13, 14]) (js := [0, 1]) (by decide))), (KSt.fr ga_72 r_73 (by decide) (pick_dis ND (l := [m, draft_, asked_, prepared_, preparedSize_, texts_, sizes_, weights_, entries_, lies_, live_, row_, level_, oldTexts_, oldSizes_, oldLies_, oldLive_, oldRow_, firstToken_, starred_, tokenAt_, tokenSize_, groupKind_, groupPhrase_, groupSize_, groupMask_, groupFar_, out_, top_, masks_, begins_, lasts_, truth_, answers_, order_, scores_]) (is := [8, 9, 10, 11, 12, 15, 16, 17]) (js := [0, 1]) (by decide))).succ, (KMo.fr ga_72 r_73 (by decide) (fun _ z => nomatch z)), (KWe.fr ga_72 r_73 (by decide) (pick_dis ND (l := [m, draft_, asked_, prepared_, preparedSize_, texts_, sizes_, weights_, entries_, lies_, live_, row_, level_, oldTexts_, oldSizes_, oldLies_, oldLive_, oldRow_, firstToken_, starred_, tokenAt_, tokenSize_, groupKind_, groupPhrase_, groupSize_, groupMask_, groupFar_, out_, top_, masks_, begins_, lasts_, truth_, answers_, order_, scores_]) (is := [7]) (js := [0, 1]) (by decide))), (KBe.fr ga_72 r_73 (by decide) (pick_dis ND (l := [m, draft_, asked_, prepared_, preparedSize_, texts_, sizes_, weights_, entries_, lies_, live_, row_, level_, oldTexts_, oldSizes_, oldLies_, oldLive_, oldRow_, firstToken_, starred_, tokenAt_, tokenSize_, groupKind_, groupPhrase_, groupSize_, groupMask_, groupFar_, out_, top_, masks_, begins_, lasts_, truth_, answers_, order_, scores_]) (is := [30, 31]) (js := [0, 1]) (by decide))), (KAn.fr ga_72 r_73 (by decide) (pick_dis ND (l := [m, draft_, asked_, prepared_, preparedSize_, texts_, sizes_, weights_, entries_, lies_, live_, row_, level_, oldTexts_, oldSizes_, oldLies_, oldLive_, oldRow_, firstToken_, starred_, tokenAt_, tokenSize_, groupKind_, groupPhrase_, groupSize_, groupMask_, groupFar_, out_, top_, masks_, begins_, lasts_, truth_, answers_, order_, scores_]) (is := [33, 34, 35]) (js := [0, 1]) (by decide))), (KQu.fr ga_72 r_73 (by decide) (pick_dis ND (l := [m, draft_, asked_, prepared_, preparedSize_, texts_, sizes_, weights_, entries_, lies_, live_, row_, level_, oldTexts_, oldSizes_, oldLies_, oldLive_, oldRow_, firstToken_, starred_, tokenAt_, tokenSize_, groupKind_, groupPhrase_, groupSize_, groupMask_, groupFar_, out_, top_, masks_, begins_, lasts_, truth_, answers_, order_, scores_]) (is := [2, 18, 19, 20, 21, 22, 23, 24, 25, 26, 27, 28, 29, 32]) (js := [0, 1]) (by decide)))⟩, r_73.mono (by simp), r_73, FF.of e e_62 ga_72, (fun dl9 hd9 K9 => by obtain rfl : dl9 = dl := (nI_eq (by omega) (by omega)).mp (Value.int.inj (K9.inj ⟨_, e, g_drafted⟩)); exact Or.inl ⟨by rw [hnN, (nI_eq (a := nN) (b := 0) (by omega) (by decide)).mp z_14]; rfl, ⟨_, e_62, g_70⟩, ⟨_, e_62, g_64⟩⟩), fun dl9 hd9 K9 => by obtain rfl : dl9 = dl := (nI_eq (by omega) (by omega)).mp (Value.int.inj (K9.inj ⟨_, e, g_drafted⟩)); exact (fun fvw ew => by obtain rfl := cinj ew e_draft; exact ⟨_, e_71, fun _ _ => rfl, fun n8 hn8 hd8 t8 ht8 => absurd (Option.some.inj (hnN.symm.trans hn8)) (by have q := (nI_eq (a := nN) (b := 0) (by omega) (by decide)).mp z_14; omega)⟩)⟩
  · skip
    obtain ⟨h_75, z_78⟩ : ∃ z, z = xw_up h_1 m (.inr (11, fs_6.set 0 (.int 1))) := ⟨_, rfl⟩
    rw [← z_78]
    have e_76 : h_75 m = some (.inr (11, fs_6.set 0 (.int 1))) := by rw [z_78]; exact xw_up_s _ _ _
    have f_77 : ∀ q, q ≠ m → h_75 q = h_1 q := fun q hq => by rw [z_78]; exact xw_up_n _ _ hq
    clear z_78
    have e_79 := (f_77 draft_ (nd_ne ND (i := 1) (j := 0) rfl rfl (by decide))).trans e_4
    have r_80 := r_5.up (by simp) f_77
    obtain ⟨fs_81, z_82⟩ : ∃ z, z = fs_6.set 0 (.int 1) := ⟨_, rfl⟩
    rw [← z_82] at e_76
    have l_83 : fs_81.length = 62 := by rw [z_82]; simp only [List.length_set]; exact l_8
    have g_84 : fs_81[(0 : Nat)]? = some (.int 1) := by rw [z_82]; exact (xw_gs (by simp [l_8]))
    have g_85 : fs_81[(3 : Nat)]? = some (.ref draft_) := by rw [z_82]; exact (xw_gn (by decide) g_10)
    have g_86 : fs_81[(10 : Nat)]? = some (.int (nI dl)) := by rw [z_82]; exact (xw_gn (by decide) g_11)
    have ga_87 : ∀ i : Nat, i ∉ [0, 10] → fs_81[i]? = fs[i]? := fun i hi => by rw [z_82]; exact xw_gn (fun z => hi (by rw [z]; simp)) (ga_12 i hi)
    clear z_82
    exact ⟨⟨_, rfl⟩, ⟨_, l_83, e_76, ⟨_, g_84⟩, ⟨dl, _, g_86, g_85, e_79, hdl⟩, (KPr.fr ga_87 r_80 (by decide) (pick_dis ND (l := [m, draft_, asked_, prepared_, preparedSize_, texts_, sizes_, weights_, entries_, lies_, live_, row_, level_, oldTexts_, oldSizes_, oldLies_, oldLive_, oldRow_, firstToken_, starred_, tokenAt_, tokenSize_, groupKind_, groupPhrase_, groupSize_, groupMask_, groupFar_, out_, top_, masks_, begins_, lasts_, truth_, answers_, order_, scores_]) (is := [3, 4]) (js := [0, 1]) (by decide))), (KTx.fr ga_87 r_80 (by decide) (pick_dis ND (l := [m, draft_, asked_, prepared_, preparedSize_, texts_, sizes_, weights_, entries_, lies_, live_, row_, level_, oldTexts_, oldSizes_, oldLies_, oldLive_, oldRow_, firstToken_, starred_, tokenAt_, tokenSize_, groupKind_, groupPhrase_, groupSize_, groupMask_, groupFar_, out_, top_, masks_, begins_, lasts_, truth_, answers_, order_, scores_]) (is := [5, 6]) (js := [0, 1]) (by decide))), (KOt.fr ga_87 r_80 (by decide) (pick_dis ND (l := [m, draft_, asked_, prepared_, preparedSize_, texts_, sizes_, weights_, entries_, lies_, live_, row_, level_, oldTexts_, oldSizes_, oldLies_, oldLive_, oldRow_, firstToken_, starred_, tokenAt_, tokenSize_, groupKind_, groupPhrase_, groupSize_, groupMask_, groupFar_, out_, top_, masks_, begins_, lasts_, truth_, answers_, order_, scores_]) (is := [13, 14]) (js := [0, 1]) (by decide))), (KSt.fr ga_87 r_80 (by decide) (pick_dis ND (l := [m, draft_, asked_, prepared_, preparedSize_, texts_, sizes_, weights_, entries_, lies_, live_, row_, level_, oldTexts_, oldSizes_, oldLies_, oldLive_, oldRow_, firstToken_, starred_, tokenAt_, tokenSize_, groupKind_, groupPhrase_, groupSize_, groupMask_, groupFar_, out_, top_, masks_, begins_, lasts_, truth_, answers_, order_, scores_]) (is := [8, 9, 10, 11, 12, 15, 16, 17]) (js := [0, 1]) (by decide))).succ, (KMo.fr ga_87 r_80 (by decide) (fun _ z => nomatch z)), (KWe.fr ga_87 r_80 (by decide) (pick_dis ND (l := [m, draft_, asked_, prepared_, preparedSize_, texts_, sizes_, weights_, entries_, lies_, live_, row_, level_, oldTexts_, oldSizes_, oldLies_, oldLive_, oldRow_, firstToken_, starred_, tokenAt_, tokenSize_, groupKind_, groupPhrase_, groupSize_, groupMask_, groupFar_, out_, top_, masks_, begins_, lasts_, truth_, answers_, order_, scores_]) (is := [7]) (js := [0, 1]) (by decide))), (KBe.fr ga_87 r_80 (by decide) (pick_dis ND (l := [m, draft_, asked_, prepared_, preparedSize_, texts_, sizes_, weights_, entries_, lies_, live_, row_, level_, oldTexts_, oldSizes_, oldLies_, oldLive_, oldRow_, firstToken_, starred_, tokenAt_, tokenSize_, groupKind_, groupPhrase_, groupSize_, groupMask_, groupFar_, out_, top_, masks_, begins_, lasts_, truth_, answers_, order_, scores_]) (is := [30, 31]) (js := [0, 1]) (by decide))), (KAn.fr ga_87 r_80 (by decide) (pick_dis ND (l := [m, draft_, asked_, prepared_, preparedSize_, texts_, sizes_, weights_, entries_, lies_, live_, row_, level_, oldTexts_, oldSizes_, oldLies_, oldLive_, oldRow_, firstToken_, starred_, tokenAt_, tokenSize_, groupKind_, groupPhrase_, groupSize_, groupMask_, groupFar_, out_, top_, masks_, begins_, lasts_, truth_, answers_, order_, scores_]) (is := [33, 34, 35]) (js := [0, 1]) (by decide))), (KQu.fr ga_87 r_80 (by decide) (pick_dis ND (l := [m, draft_, asked_, prepared_, preparedSize_, texts_, sizes_, weights_, entries_, lies_, live_, row_, level_, oldTexts_, oldSizes_, oldLies_, oldLive_, oldRow_, firstToken_, starred_, tokenAt_, tokenSize_, groupKind_, groupPhrase_, groupSize_, groupMask_, groupFar_, out_, top_, masks_, begins_, lasts_, truth_, answers_, order_, scores_]) (is := [2, 18, 19, 20, 21, 22, 23, 24, 25, 26, 27, 28, 29, 32]) (js := [0, 1]) (by decide)))⟩, r_80.mono (by simp), r_80, FF.of e e_76 ga_87, (fun dl9 hd9 K9 => by obtain rfl : dl9 = dl := (nI_eq (by omega) (by omega)).mp (Value.int.inj (K9.inj ⟨_, e, g_drafted⟩)); exact Or.inl ⟨by rw [hE]; rfl, ⟨_, e_76, g_86⟩, ⟨_, e_76, g_84⟩⟩), fun dl9 hd9 K9 => by obtain rfl : dl9 = dl := (nI_eq (by omega) (by omega)).mp (Value.int.inj (K9.inj ⟨_, e, g_drafted⟩)); exact (fun fvw ew => by obtain rfl := cinj ew e_draft; exact ⟨_, e_79, fun _ _ => rfl, fun n8 hn8 hd8 t8 ht8 => absurd (hE.symm.trans hn8) (by simp)⟩)⟩
set_option maxHeartbeats 2000000 in
theorem lp_set1 {G : xw_G} {F L bc bs : Nat} {pr : Option Value → xw_A → Prop} {px : String → xw_A → Prop} {m draft_ prepared_ dl cN : Nat} {gs : List Value} {fd f0 : Nat → Int32} {h0 : xw_A} (l : gs.length = 62) (q_m : h0 m = some (.inr (11, gs))) (g_draft : gs[(3 : Nat)]? = some (.ref draft_)) (g_prepared : gs[(5 : Nat)]? = some (.ref prepared_)) (g_drafted : gs[(10 : Nat)]? = some (.int (nI dl))) (q_d : h0 draft_ = some (.inl (0, 96, .inl fd))) (q_p : ∃ f, h0 prepared_ = some (.inl (0, 96, .inl f))) (n_draft_prepared : draft_ ≠ prepared_) (hdl : dl ≤ 48) (hcN : cN < 2) (kk : ∀ (h : xw_A) (fp : Nat → Int32), h prepared_ = some (.inl (0, 96, .inl fp)) → ((∀ j, j < dl → fp (48 * cN + j) = fd j) ∧ ∀ k, (k < 48 * cN ∨ 48 * cN + 48 ≤ k) → fp k = f0 k) → FrO [prepared_] h0 h → xw G m_Model_set F L bc bs pr px 84 [some (.ref m), some (.int (nI cN)), none, none] [] h) :
    ∀ (dd i : Nat) (h : xw_A) (fp : Nat → Int32), i + dd = dl → h prepared_ = some (.inl (0, 96, .inl fp)) → ((∀ j, j < i → fp (48 * cN + j) = fd j) ∧ ∀ k, (k < 48 * cN ∨ 48 * cN + 48 ≤ k) → fp k = f0 k) → FrO [prepared_] h0 h → xw G m_Model_set F L bc bs pr px 53 [some (.ref m), some (.int (nI cN)), some (.int (nI i)), none] [] h := by
  intro dd
  induction dd with
  | zero =>
    intro i h fp hi e_prepared CP r0
    obtain rfl : i = dl := by omega
    have e := r0 m _ (by obtain ⟨f, o⟩ := q_p; simp only [List.mem_cons, List.not_mem_nil, or_false, not_or]; exact xw_neC q_m o (by simp)) q_m
    have e_draft := r0 draft_ _ (by simp only [List.mem_cons, List.not_mem_nil, or_false, not_or]; exact n_draft_prepared) q_d
    refine s_Model_set_53 l e g_drafted (fun z_1 => ?_) (fun z => absurd (nI_le (Nat.le_refl _) (by omega)) z)
    exact kk _ _ e_prepared CP r0
  | succ dd ih =>
    intro i h fp hi e_prepared CP r0
    have e := r0 m _ (by obtain ⟨f, o⟩ := q_p; simp only [List.mem_cons, List.not_mem_nil, or_false, not_or]; exact xw_neC q_m o (by simp)) q_m
    have e_draft := r0 draft_ _ (by simp only [List.mem_cons, List.not_mem_nil, or_false, not_or]; exact n_draft_prepared) q_d
    refine s_Model_set_53 l e g_drafted (fun z => absurd z (nI_ge (b := dl) (show i < dl by omega) (by omega))) (fun z_1 => ?_)
    refine s_Model_set_61 l e g_prepared g_draft e_draft (vp_in_nI (by omega) (by omega)) e_prepared (by rw [show (48 : Int32) = nI 48 from rfl, pk_mul, nI_add]; exact vp_in_nI (by omega) (by decide)) ?_
    refine x_u1 (fun h_2 e_3 f_4 => ?_)
    have e_5 := (f_4 m (xw_neC e e_prepared (by simp))).trans e
    have e_6 := (f_4 draft_ n_draft_prepared).trans e_draft
    have r_7 := r0.up (by simp) f_4
    rw [nI_1]
    rw [show (48 : Int32) = nI 48 from rfl, pk_mul, nI_add, nI_clamp (show 48 * cN + i < 2 ^ 31 by omega), nI_clamp (show i < 2 ^ 31 by omega)] at e_3
    exact ih (i + 1) _ _ (by omega) e_3 ⟨fun j hj => by by_cases q : j = i; (rw [q]; exact pk_us); (have q2 : ¬ 48 * cN + j = 48 * cN + i := (by omega); rw [pk_un q2]; exact CP.1 j (by omega)), fun k hk => by have q2 : ¬ k = 48 * cN + i := (by omega); rw [pk_un q2]; exact CP.2 k hk⟩ r_7
set_option maxHeartbeats 1000000 in
theorem lp_set2 {G : xw_G} {F L bc bs : Nat} {pr : Option Value → xw_A → Prop} {px : String → xw_A → Prop} {h : xw_A} {dl : Nat} {fd : Nat → Int32} {draft_ : Nat} {m : Nat} {fs : List Value} (l : fs.length = 62) (e : h m = some (.inr (11, fs))) (g_drafted : fs[(10 : Nat)]? = some (.int (nI dl))) (g_draft : fs[(3 : Nat)]? = some (.ref draft_)) (e_draft : h draft_ = some (.inl (0, 96, .inl (fd)))) (hdl : dl ≤ 96) (hF : 3 ≤ F) (hL : 62 ≤ L) (kk : ∀ y : Nat, y = tokN fd dl → xw G m_Model_set F L bc bs pr px 145 [some (.ref m), none, some (.int (nI y)), none] [] h) :
    ∀ (dd i : Nat) (acc : Nat), i + dd = dl → acc = tokN fd i → xw G m_Model_set F L bc bs pr px 98 [some (.ref m), none, some (.int (nI acc)), some (.int (nI i))] [] h := by
  intro dd
  induction dd with
  | zero =>
    intro i acc hi hp
    obtain rfl : i = dl := by omega
    refine s_Model_set_98 l e g_drafted (fun z_1 => ?_) (fun z => absurd (nI_le (Nat.le_refl _) (by omega)) z)
    exact kk _ hp
  | succ dd ih =>
    intro i acc hi hp
    refine s_Model_set_98 l e g_drafted (fun z => absurd z (nI_ge (b := dl) (show i < dl by omega) (by omega))) (fun z_1 => ?_)
    refine s_Model_set_106 l e g_draft e_draft (vp_in_nI (by omega) (by omega)) ?_
    refine x_callS (As := [.int (fd (nI i).toNatClampNeg)]) (rest := []) (F1 := 2) (L1 := 42) (mc := 0) (ms := 0) d_Model_set_112 cS_Model_146 (f_isSign (by omega) (by omega)) ⟨by omega, by show 8 + (1 + 11) + 42 ≤ _; omega⟩ ⟨by omega, by omega⟩ (Nat.le_of_ble_eq_true rfl) (fun v_3 h_2 p_4 => ?_)
    obtain ⟨rfl, rfl⟩ := p_4
    refine s_Model_set_115 (fun z_5 => ?_) (fun z_6 => ?_)
    · skip
      refine s_Model_set_139 ?_
      simp only [nI_1]
      exact ih (i + 1) _ (by omega) (by rw [tokN_n (t := fd) (Or.inl (b01_f0 (by rw [nI_clamp (by omega)] at z_5; exact z_5)))]; exact hp)
    · skip
      refine s_Model_set_118 (fun z_7 => ?_) (fun z_8 => ?_)
      · skip
        refine s_Model_set_136 ?_
        refine s_Model_set_139 ?_
        simp only [nI_1]
        exact ih (i + 1) _ (by omega) (by rw [tokN_y (t := fd) (b01_t0 (by rw [nI_clamp (by omega)] at z_6; exact z_6)) (Or.inl ((nI_eq (a := i) (b := 0) (by omega) (by decide)).mp z_7)), hp])
      · skip
        have hi0 : ¬ i = 0 := fun q => z_8 (by rw [q]; rfl)
        refine s_Model_set_122 l e g_draft e_draft (by rw [show (1 : Int32) = nI 1 from rfl, pk_sub (by omega)]; exact vp_in_nI (by omega) (by decide)) ?_
        refine x_callS (As := [.int (fd ((nI i) - 1).toNatClampNeg)]) (rest := []) (F1 := 2) (L1 := 42) (mc := 0) (ms := 0) d_Model_set_130 cS_Model_146 (f_isSign (by omega) (by omega)) ⟨by omega, by show 8 + (1 + 11) + 42 ≤ _; omega⟩ ⟨by omega, by omega⟩ (Nat.le_of_ble_eq_true rfl) (fun v_10 h_9 p_11 => ?_)
        obtain ⟨rfl, rfl⟩ := p_11
        refine s_Model_set_133 (fun z_12 => ?_) (fun z_13 => ?_)
        · skip
          refine s_Model_set_139 ?_
          simp only [nI_1]
          exact ih (i + 1) _ (by omega) (by rw [tokN_n (t := fd) (Or.inr ⟨hi0, b01_t0 (by rw [show (1 : Int32) = nI 1 from rfl, pk_sub (by omega), nI_clamp (by omega)] at z_12; exact z_12)⟩)]; exact hp)
        · skip
          refine s_Model_set_136 ?_
          refine s_Model_set_139 ?_
          simp only [nI_1]
          exact ih (i + 1) _ (by omega) (by rw [tokN_y (t := fd) (b01_t0 (by rw [nI_clamp (by omega)] at z_6; exact z_6)) (Or.inr (b01_f0 (by rw [show (1 : Int32) = nI 1 from rfl, pk_sub (by omega), nI_clamp (by omega)] at z_13; exact z_13))), hp])
set_option maxHeartbeats 2000000 in
theorem r_set {G : xw_G} {F L : Nat} {h : xw_A} {c : Int32} {m draft_ asked_ prepared_ preparedSize_ texts_ sizes_ weights_ entries_ lies_ live_ row_ level_ oldTexts_ oldSizes_ oldLies_ oldLive_ oldRow_ firstToken_ starred_ tokenAt_ tokenSize_ groupKind_ groupPhrase_ groupSize_ groupMask_ groupFar_ out_ top_ masks_ begins_ lasts_ truth_ answers_ order_ scores_ T : Nat} (R : RI m draft_ asked_ prepared_ preparedSize_ texts_ sizes_ weights_ entries_ lies_ live_ row_ level_ oldTexts_ oldSizes_ oldLies_ oldLive_ oldRow_ firstToken_ starred_ tokenAt_ tokenSize_ groupKind_ groupPhrase_ groupSize_ groupMask_ groupFar_ out_ top_ masks_ begins_ lasts_ truth_ answers_ order_ scores_ T h) (ND : NDl [m, draft_, asked_, prepared_, preparedSize_, texts_, sizes_, weights_, entries_, lies_, live_, row_, level_, oldTexts_, oldSizes_, oldLies_, oldLive_, oldRow_, firstToken_, starred_, tokenAt_, tokenSize_, groupKind_, groupPhrase_, groupSize_, groupMask_, groupFar_, out_, top_, masks_, begins_, lasts_, truth_, answers_, order_, scores_]) (hT : T < 512) (hF : 3 ≤ F) (hL : 62 ≤ L) :
    xw_Met G m_Model_set F L 0 0 [.ref m, .int c] h (fun v h' => (∃ y : Int32, v = some (.int y)) ∧ RI m draft_ asked_ prepared_ preparedSize_ texts_ sizes_ weights_ entries_ lies_ live_ row_ level_ oldTexts_ oldSizes_ oldLies_ oldLive_ oldRow_ firstToken_ starred_ tokenAt_ tokenSize_ groupKind_ groupPhrase_ groupSize_ groupMask_ groupFar_ out_ top_ masks_ begins_ lasts_ truth_ answers_ order_ scores_ (T + 1) h' ∧ FrO [m, draft_, asked_, prepared_, preparedSize_, texts_, sizes_, weights_, entries_, lies_, live_, row_, level_, oldTexts_, oldSizes_, oldLies_, oldLive_, oldRow_, firstToken_, starred_, tokenAt_, tokenSize_, groupKind_, groupPhrase_, groupSize_, groupMask_, groupFar_, out_, top_, masks_, begins_, lasts_, truth_, answers_, order_, scores_] h h' ∧ FrO [m, draft_, prepared_, preparedSize_] h h' ∧ FF m [0, 10] h h' ∧ (∀ dl : Nat, dl ≤ 96 → Rf m 10 (.int (nI dl)) h → (((c < 0 ∨ 1 < c) ∧ Rf m 10 (.int (nI dl)) h' ∧ Rf m 0 (.int 1) h') ∨ ((¬ c < 0 ∧ ¬ 1 < c) ∧ 48 < dl ∧ Rf m 10 (.int (nI dl)) h' ∧ Rf m 0 (.int 2) h') ∨ ((¬ c < 0 ∧ ¬ 1 < c) ∧ dl ≤ 48 ∧ Rf m 10 (.int (nI 0)) h' ∧ Rf m 0 (.int 0) h'))) ∧ (∀ dl : Nat, dl ≤ 96 → Rf m 10 (.int (nI dl)) h → ∀ fd : Nat → Int32, h draft_ = some (.inl (0, 96, .inl fd)) → h' draft_ = some (.inl (0, 96, .inl fd)) ∧ ((¬ c < 0 ∧ ¬ 1 < c) → dl ≤ 48 → v = some (.int (nI (tokN fd dl))))) ∧ (∀ dl : Nat, dl ≤ 96 → Rf m 10 (.int (nI dl)) h → ∀ fp fq fd : Nat → Int32, h prepared_ = some (.inl (0, 96, .inl fp)) → h preparedSize_ = some (.inl (0, 2, .inl fq)) → h draft_ = some (.inl (0, 96, .inl fd)) → ∃ fp' fq' : Nat → Int32, h' prepared_ = some (.inl (0, 96, .inl fp')) ∧ h' preparedSize_ = some (.inl (0, 2, .inl fq')) ∧ (((c < 0 ∨ 1 < c ∨ 48 < dl) ∧ fp' = fp ∧ fq' = fq) ∨ ∃ cN, cN < 2 ∧ c = nI cN ∧ dl ≤ 48 ∧ (∀ j, j < dl → fp' (48 * cN + j) = fd j) ∧ (∀ k, (k < 48 * cN ∨ 48 * cN + 48 ≤ k) → fp' k = fp k) ∧ fq' = upd fq cN (nI dl)))) (fun _ _ => False) := by
  refine xw_Met.of rfl (by decide) (Nat.le_of_ble_eq_true rfl) ?_
  obtain ⟨fs, l, e, ⟨er, g_err⟩, KDr, KPr, KTx, KOt, KSt, KMo, KWe, KBe, KAn, KQu⟩ := R
  obtain ⟨dl, fd, g_drafted, g_draft, e_draft, hdl⟩ := id KDr
  obtain ⟨fp, fq, g_prepared, e_prepared, g_preparedSize, e_preparedSize, hps⟩ := id KPr
  have ga0 : ∀ i : Nat, i ∉ [0, 10] → fs[i]? = fs[i]? := fun _ _ => rfl
  have r0 : FrO [m, draft_, prepared_, preparedSize_] h h := FrO.rf
  refine s_Model_set_0 l e ?_
  refine x_u1 (fun h_1 e_2 f_3 => ?_)
  have e_4 := (f_3 draft_ (nd_ne ND (i := 1) (j := 0) rfl rfl (by decide))).trans e_draft
  have e_5 := (f_3 prepared_ (nd_ne ND (i := 3) (j := 0) rfl rfl (by decide))).trans e_prepared
  have e_6 := (f_3 preparedSize_ (nd_ne ND (i := 4) (j := 0) rfl rfl (by decide))).trans e_preparedSize
  have r_7 := r0.up (by simp) f_3
  obtain ⟨fs_8, z_9⟩ : ∃ z, z = fs.set 0 (.int 0) := ⟨_, rfl⟩
  rw [← z_9] at e_2
  have l_10 : fs_8.length = 62 := by rw [z_9]; simp only [List.length_set]; exact l
  have g_11 : fs_8[(0 : Nat)]? = some (.int 0) := by rw [z_9]; exact (xw_gs (by simp [l]))
  have g_12 : fs_8[(3 : Nat)]? = some (.ref draft_) := by rw [z_9]; exact (xw_gn (by decide) g_draft)
  have g_13 : fs_8[(5 : Nat)]? = some (.ref prepared_) := by rw [z_9]; exact (xw_gn (by decide) g_prepared)
  have g_14 : fs_8[(6 : Nat)]? = some (.ref preparedSize_) := by rw [z_9]; exact (xw_gn (by decide) g_preparedSize)
  have g_15 : fs_8[(10 : Nat)]? = some (.int (nI dl)) := by rw [z_9]; exact (xw_gn (by decide) g_drafted)
  have ga_16 : ∀ i : Nat, i ∉ [0, 10] → fs_8[i]? = fs[i]? := fun i hi => by rw [z_9]; exact xw_gn (fun z => hi (by rw [z]; simp)) (ga0 i hi)
  clear z_9
  refine x_callS (As := [.int c, .int 0, .int 1]) (rest := [.ref m]) (F1 := 1) (L1 := 20) (mc := 0) (ms := 0) d_Model_set_9 cS_Model_133 (f_inB (by omega) (by omega)) ⟨by omega, by show 8 + (3 + 11) + 20 ≤ _; omega⟩ ⟨by omega, by omega⟩ (Nat.le_of_ble_eq_true rfl) (fun v_18 h_17 p_19 => ?_)
  obtain ⟨rfl, rfl⟩ := p_19
  refine s_Model_set_12 (fun z_20 => ?_) (fun z_21 => ?_)
  · skip
    refine s_Model_set_19 ?_
    refine s_Model_set_20 ?_
    refine x_callV (As := [.int 0, .int 1]) (b := m) (rest := []) (F1 := 1) (L1 := 20) (mc := 0) (ms := 0) d_Model_set_21 cV_Model_139 (f_fails0 l_10 e_2 g_11 (by omega) (by omega)) e_2 ⟨by decide, rfl⟩ ⟨by omega, by show 8 + (3 + 11) + 20 ≤ _; omega⟩ ⟨by omega, by omega⟩ (Nat.le_of_ble_eq_true rfl) (fun v_23 h_22 p_24 => ?_)
    obtain ⟨rfl, rfl⟩ := p_24
    refine s_Model_set_24 (fun z => absurd z (by decide)) (fun z_25 => ?_)
    refine s_Model_set_27 l_10 e_2 g_15 (fun z_26 => ?_) (fun z_27 => ?_)
    · skip
      refine s_Model_set_41 ?_
      refine s_Model_set_42 ?_
      refine x_callV (As := [.int 0, .int 2]) (b := m) (rest := []) (F1 := 1) (L1 := 20) (mc := 0) (ms := 0) d_Model_set_43 cV_Model_139 (f_fails0 l_10 e_2 g_11 (by omega) (by omega)) e_2 ⟨by decide, rfl⟩ ⟨by omega, by show 8 + (3 + 11) + 20 ≤ _; omega⟩ ⟨by omega, by omega⟩ (Nat.le_of_ble_eq_true rfl) (fun v_29 h_28 p_30 => ?_)
      obtain ⟨rfl, rfl⟩ := p_30
      refine s_Model_set_46 (fun z_31 => ?_) (fun z => absurd z (by decide))
      refine s_Model_set_51 ?_
      have hd48 : dl ≤ 48 := Nat.le_of_not_lt (fun q => absurd z_26 (nI_ge (b := dl) (show 48 < dl from q) (by omega)))
      obtain ⟨cN, -, hcN, rfl⟩ := ix_of (a := 0) (b := 1) (by decide) (by decide) (inB_t z_20).1 (inB_t z_20).2
      refine lp_set1 (gs := fs_8) (h0 := h_1) l_10 e_2 g_12 g_13 g_15 e_4 ⟨_, e_5⟩ (nd_ne ND (i := 1) (j := 3) rfl rfl (by decide)) hd48 (show cN < 2 by omega) (fun h_32 fp_33 e_34 CP_36 fr_35 => ?_) dl 0 _ _ (Nat.zero_add _) e_5 ⟨fun j hj => absurd hj (Nat.not_lt_zero _), fun _ _ => rfl⟩ FrO.rf
      have e_37 := fr_35 draft_ _ (by simp only [List.mem_cons, List.not_mem_nil, or_false, not_or]; exact (nd_ne ND (i := 1) (j := 3) rfl rfl (by decide))) e_4
      have e_38 := fr_35 preparedSize_ _ (by simp only [List.mem_cons, List.not_mem_nil, or_false, not_or]; exact (Ne.symm (nd_ne ND (i := 3) (j := 4) rfl rfl (by decide)))) e_6
      have e_39 := fr_35 m _ (by simp only [List.mem_cons, List.not_mem_nil, or_false, not_or]; exact (Ne.symm (nd_ne ND (i := 3) (j := 0) rfl rfl (by decide)))) e_2
      have r_40 := r_7.trans (fr_35.mono (by simp))
      refine s_Model_set_84 l_10 e_39 g_14 g_15 e_38 (vp_in_nI (by omega) (by decide)) ?_
      refine x_u1 (fun h_41 e_42 f_43 => ?_)
      have e_44 := (f_43 draft_ (nd_ne ND (i := 1) (j := 4) rfl rfl (by decide))).trans e_37
      have e_45 := (f_43 prepared_ (nd_ne ND (i := 3) (j := 4) rfl rfl (by decide))).trans e_34
      have e_46 := (f_43 m (Ne.symm (nd_ne ND (i := 4) (j := 0) rfl rfl (by decide)))).trans e_39
      have r_47 := r_40.up (by simp) f_43
      refine lp_set2 l_10 e_46 g_15 g_12 e_44 (by omega) (by omega) (by omega) (fun y_48 hy_49 => ?_) dl 0 0 (Nat.zero_add _) rfl
      refine s_Model_set_145 l_10 e_46 ?_
      obtain ⟨h_50, z_53⟩ : ∃ z, z = xw_up h_41 m (.inr (11, (fs_8.set 10 (.int 0)))) := ⟨_, rfl⟩
      rw [← z_53]
      have e_51 : h_50 m = some (.inr (11, (fs_8.set 10 (.int 0)))) := by rw [z_53]; exact xw_up_s _ _ _
      have f_52 : ∀ q, q ≠ m → h_50 q = h_41 q := fun q hq => by rw [z_53]; exact xw_up_n _ _ hq
      clear z_53
      have e_54 := (f_52 draft_ (nd_ne ND (i := 1) (j := 0) rfl rfl (by decide))).trans e_44
      have e_55 := (f_52 prepared_ (nd_ne ND (i := 3) (j := 0) rfl rfl (by decide))).trans e_45
      have e_56 := (f_52 preparedSize_ (nd_ne ND (i := 4) (j := 0) rfl rfl (by decide))).trans e_42
      have r_57 := r_47.up (by simp) f_52
      obtain ⟨fs_58, z_59⟩ : ∃ z, z = fs_8.set 10 (.int 0) := ⟨_, rfl⟩
      rw [← z_59] at e_51
      have l_60 : fs_58.length = 62 := by rw [z_59]; simp only [List.length_set]; exact l_10
      have g_61 : fs_58[(0 : Nat)]? = some (.int 0) := by rw [z_59]; exact (xw_gn (by decide) g_11)
      have g_62 : fs_58[(3 : Nat)]? = some (.ref draft_) := by rw [z_59]; exact (xw_gn (by decide) g_12)
      have g_63 : fs_58[(5 : Nat)]? = some (.ref prepared_) := by rw [z_59]; exact (xw_gn (by decide) g_13)
      have g_64 : fs_58[(6 : Nat)]? = some (.ref preparedSize_) := by rw [z_59]; exact (xw_gn (by decide) g_14)
      have g_65 : fs_58[(10 : Nat)]? = some (.int 0) := by rw [z_59]; exact (xw_gs (by simp [l_10]))
      have ga_66 : ∀ i : Nat, i ∉ [0, 10] → fs_58[i]? = fs[i]? := fun i hi => by rw [z_59]; exact xw_gn (fun z => hi (by rw [z]; simp)) (ga_16 i hi)
      clear z_59
      rw [nI_clamp (by omega)] at e_56
      exact ⟨⟨_, rfl⟩, ⟨_, l_60, e_51, ⟨_, g_61⟩, ⟨0, _, g_65, g_62, e_54, by omega⟩, ⟨_, _, g_63, e_55, g_64, e_56, fun c9 hc9 => by by_cases q : c9 = cN; (subst q; exact ⟨dl, pk_us, hd48⟩); (rw [pk_un q]; exact hps c9 hc9)⟩, (KTx.fr ga_66 r_57 (by decide) (pick_dis ND (l := [m, draft_, asked_, prepared_, preparedSize_, texts_, sizes_, weights_, entries_, lies_, live_, row_, level_, oldTexts_, oldSizes_, oldLies_, oldLive_, oldRow_, firstToken_, starred_, tokenAt_, tokenSize_, groupKind_, groupPhrase_, groupSize_, groupMask_, groupFar_, out_, top_, masks_, begins_, lasts_, truth_, answers_, order_, scores_]) (is := [5, 6]) (js := [0, 1, 3, 4]) (by decide))), (KOt.fr ga_66 r_57 (by decide) (pick_dis ND (l := [m, draft_, asked_, prepared_, preparedSize_, texts_, sizes_, weights_, entries_, lies_, live_, row_, level_, oldTexts_, oldSizes_, oldLies_, oldLive_, oldRow_, firstToken_, starred_, tokenAt_, tokenSize_, groupKind_, groupPhrase_, groupSize_, groupMask_, groupFar_, out_, top_, masks_, begins_, lasts_, truth_, answers_, order_, scores_]) (is := [13, 14]) (js := [0, 1, 3, 4]) (by decide))), (KSt.fr ga_66 r_57 (by decide) (pick_dis ND (l := [m, draft_, asked_, prepared_, preparedSize_, texts_, sizes_, weights_, entries_, lies_, live_, row_, level_, oldTexts_, oldSizes_, oldLies_, oldLive_, oldRow_, firstToken_, starred_, tokenAt_, tokenSize_, groupKind_, groupPhrase_, groupSize_, groupMask_, groupFar_, out_, top_, masks_, begins_, lasts_, truth_, answers_, order_, scores_]) (is := [8, 9, 10, 11, 12, 15, 16, 17]) (js := [0, 1, 3, 4]) (by decide))).succ, (KMo.fr ga_66 r_57 (by decide) (fun _ z => nomatch z)), (KWe.fr ga_66 r_57 (by decide) (pick_dis ND (l := [m, draft_, asked_, prepared_, preparedSize_, texts_, sizes_, weights_, entries_, lies_, live_, row_, level_, oldTexts_, oldSizes_, oldLies_, oldLive_, oldRow_, firstToken_, starred_, tokenAt_, tokenSize_, groupKind_, groupPhrase_, groupSize_, groupMask_, groupFar_, out_, top_, masks_, begins_, lasts_, truth_, answers_, order_, scores_]) (is := [7]) (js := [0, 1, 3, 4]) (by decide))), (KBe.fr ga_66 r_57 (by decide) (pick_dis ND (l := [m, draft_, asked_, prepared_, preparedSize_, texts_, sizes_, weights_, entries_, lies_, live_, row_, level_, oldTexts_, oldSizes_, oldLies_, oldLive_, oldRow_, firstToken_, starred_, tokenAt_, tokenSize_, groupKind_, groupPhrase_, groupSize_, groupMask_, groupFar_, out_, top_, masks_, begins_, lasts_, truth_, answers_, order_, scores_]) (is := [30, 31]) (js := [0, 1, 3, 4]) (by decide))), (KAn.fr ga_66 r_57 (by decide) (pick_dis ND (l := [m, draft_, asked_, prepared_, preparedSize_, texts_, sizes_, weights_, entries_, lies_, live_, row_, level_, oldTexts_, oldSizes_, oldLies_, oldLive_, oldRow_, firstToken_, starred_, tokenAt_, tokenSize_, groupKind_, groupPhrase_, groupSize_, groupMask_, groupFar_, out_, top_, masks_, begins_, lasts_, truth_, answers_, order_, scores_]) (is := [33, 34, 35]) (js := [0, 1, 3, 4]) (by decide))), (KQu.fr ga_66 r_57 (by decide) (pick_dis ND (l := [m, draft_, asked_, prepared_, preparedSize_, texts_, sizes_, weights_, entries_, lies_, live_, row_, level_, oldTexts_, oldSizes_, oldLies_, oldLive_, oldRow_, firstToken_, starred_, tokenAt_, tokenSize_, groupKind_, groupPhrase_, groupSize_, groupMask_, groupFar_, out_, top_, masks_, begins_, lasts_, truth_, answers_, order_, scores_]) (is := [2, 18, 19, 20, 21, 22, 23, 24, 25, 26, 27, 28, 29, 32]) (js := [0, 1, 3, 4]) (by decide)))⟩, r_57.mono (by simp), r_57, FF.of e e_51 ga_66, (fun dl9 hd9 K9 => by obtain rfl : dl9 = dl := (nI_eq (by omega) (by omega)).mp (Value.int.inj (K9.inj ⟨_, e, g_drafted⟩)); exact Or.inr (Or.inr ⟨inB_t z_20, hd48, ⟨_, e_51, g_65⟩, ⟨_, e_51, g_61⟩⟩)), (fun dl9 hd9 K9 => by obtain rfl : dl9 = dl := (nI_eq (by omega) (by omega)).mp (Value.int.inj (K9.inj ⟨_, e, g_drafted⟩)); exact (fun fvw ew => by obtain rfl := cinj ew e_draft; exact ⟨e_54, fun _ _ => by rw [hy_49]⟩)), fun dl9 hd9 K9 => by obtain rfl : dl9 = dl := (nI_eq (by omega) (by omega)).mp (Value.int.inj (K9.inj ⟨_, e, g_drafted⟩)); exact (fun fpw fqw fdw w1 w2 w3 => by obtain rfl := cinj w1 e_prepared; obtain rfl := cinj w2 e_preparedSize; obtain rfl := cinj w3 e_draft; exact ⟨_, _, e_55, e_56, Or.inr ⟨cN, by omega, rfl, hd48, CP_36.1, CP_36.2, rfl⟩⟩)⟩
    · skip
      refine s_Model_set_37 ?_
      refine s_Model_set_42 ?_
      refine x_callV (As := [.int 1, .int 2]) (b := m) (rest := []) (F1 := 1) (L1 := 20) (mc := 0) (ms := 0) d_Model_set_43 cV_Model_139 (f_fails1 (c := 2) l_10 e_2 g_11 (by decide) (by omega) (by omega)) e_2 ⟨by decide, rfl⟩ ⟨by omega, by show 8 + (3 + 11) + 20 ≤ _; omega⟩ ⟨by omega, by omega⟩ (Nat.le_of_ble_eq_true rfl) (fun v_74 h_73 p_75 => ?_)
      obtain ⟨rfl, fs_67, l_68, e_69, g_71, ga_70, fr_72⟩ := p_75
      have g_76 : fs_67[(3 : Nat)]? = some (.ref draft_) := (ga_70 3 (by decide)).trans g_12
      have g_77 : fs_67[(5 : Nat)]? = some (.ref prepared_) := (ga_70 5 (by decide)).trans g_13
      have g_78 : fs_67[(6 : Nat)]? = some (.ref preparedSize_) := (ga_70 6 (by decide)).trans g_14
      have g_79 : fs_67[(10 : Nat)]? = some (.int (nI dl)) := (ga_70 10 (by decide)).trans g_15
      have e_80 := fr_72 draft_ _ (by simp only [List.mem_cons, List.not_mem_nil, or_false, not_or]; exact (nd_ne ND (i := 1) (j := 0) rfl rfl (by decide))) e_4
      have e_81 := fr_72 prepared_ _ (by simp only [List.mem_cons, List.not_mem_nil, or_false, not_or]; exact (nd_ne ND (i := 3) (j := 0) rfl rfl (by decide))) e_5
      have e_82 := fr_72 preparedSize_ _ (by simp only [List.mem_cons, List.not_mem_nil, or_false, not_or]; exact (nd_ne ND (i := 4) (j := 0) rfl rfl (by decide))) e_6
      have ga_83 : ∀ i : Nat, i ∉ [0, 10] → fs_67[i]? = fs[i]? := fun i hi => (ga_70 i (fun z => hi (by simp only [List.mem_cons, List.not_mem_nil, or_false] at z ⊢; omega))).trans (ga_16 i hi)
      have r_84 := r_7.trans (fr_72.mono (by simp))
      refine s_Model_set_46 (fun z => absurd z (by decide)) (fun z_85 => ?_)
      refine s_Model_set_49 ?_
      have q48 : 48 < dl := Nat.lt_of_not_le (fun q => z_27 (nI_le q (by decide)))
      exact ⟨⟨_, rfl⟩, ⟨_, l_68, e_69, ⟨_, g_71⟩, ⟨dl, _, g_79, g_76, e_80, hdl⟩, ⟨_, _, g_77, e_81, g_78, e_82, hps⟩, (KTx.fr ga_83 r_84 (by decide) (pick_dis ND (l := [m, draft_, asked_, prepared_, preparedSize_, texts_, sizes_, weights_, entries_, lies_, live_, row_, level_, oldTexts_, oldSizes_, oldLies_, oldLive_, oldRow_, firstToken_, starred_, tokenAt_, tokenSize_, groupKind_, groupPhrase_, groupSize_, groupMask_, groupFar_, out_, top_, masks_, begins_, lasts_, truth_, answers_, order_, scores_]) (is := [5, 6]) (js := [0, 1, 3, 4]) (by decide))), (KOt.fr ga_83 r_84 (by decide) (pick_dis ND (l := [m, draft_, asked_, prepared_, preparedSize_, texts_, sizes_, weights_, entries_, lies_, live_, row_, level_, oldTexts_, oldSizes_, oldLies_, oldLive_, oldRow_, firstToken_, starred_, tokenAt_, tokenSize_, groupKind_, groupPhrase_, groupSize_, groupMask_, groupFar_, out_, top_, masks_, begins_, lasts_, truth_, answers_, order_, scores_]) (is := [13, 14]) (js := [0, 1, 3, 4]) (by decide))), (KSt.fr ga_83 r_84 (by decide) (pick_dis ND (l := [m, draft_, asked_, prepared_, preparedSize_, texts_, sizes_, weights_, entries_, lies_, live_, row_, level_, oldTexts_, oldSizes_, oldLies_, oldLive_, oldRow_, firstToken_, starred_, tokenAt_, tokenSize_, groupKind_, groupPhrase_, groupSize_, groupMask_, groupFar_, out_, top_, masks_, begins_, lasts_, truth_, answers_, order_, scores_]) (is := [8, 9, 10, 11, 12, 15, 16, 17]) (js := [0, 1, 3, 4]) (by decide))).succ, (KMo.fr ga_83 r_84 (by decide) (fun _ z => nomatch z)), (KWe.fr ga_83 r_84 (by decide) (pick_dis ND (l := [m, draft_, asked_, prepared_, preparedSize_, texts_, sizes_, weights_, entries_, lies_, live_, row_, level_, oldTexts_, oldSizes_, oldLies_, oldLive_, oldRow_, firstToken_, starred_, tokenAt_, tokenSize_, groupKind_, groupPhrase_, groupSize_, groupMask_, groupFar_, out_, top_, masks_, begins_, lasts_, truth_, answers_, order_, scores_]) (is := [7]) (js := [0, 1, 3, 4]) (by decide))), (KBe.fr ga_83 r_84 (by decide) (pick_dis ND (l := [m, draft_, asked_, prepared_, preparedSize_, texts_, sizes_, weights_, entries_, lies_, live_, row_, level_, oldTexts_, oldSizes_, oldLies_, oldLive_, oldRow_, firstToken_, starred_, tokenAt_, tokenSize_, groupKind_, groupPhrase_, groupSize_, groupMask_, groupFar_, out_, top_, masks_, begins_, lasts_, truth_, answers_, order_, scores_]) (is := [30, 31]) (js := [0, 1, 3, 4]) (by decide))), (KAn.fr ga_83 r_84 (by decide) (pick_dis ND (l := [m, draft_, asked_, prepared_, preparedSize_, texts_, sizes_, weights_, entries_, lies_, live_, row_, level_, oldTexts_, oldSizes_, oldLies_, oldLive_, oldRow_, firstToken_, starred_, tokenAt_, tokenSize_, groupKind_, groupPhrase_, groupSize_, groupMask_, groupFar_, out_, top_, masks_, begins_, lasts_, truth_, answers_, order_, scores_]) (is := [33, 34, 35]) (js := [0, 1, 3, 4]) (by decide))), (KQu.fr ga_83 r_84 (by decide) (pick_dis ND (l := [m, draft_, asked_, prepared_, preparedSize_, texts_, sizes_, weights_, entries_, lies_, live_, row_, level_, oldTexts_, oldSizes_, oldLies_, oldLive_, oldRow_, firstToken_, starred_, tokenAt_, tokenSize_, groupKind_, groupPhrase_, groupSize_, groupMask_, groupFar_, out_, top_, masks_, begins_, lasts_, truth_, answers_, order_, scores_]) (is := [2, 18, 19, 20, 21, 22, 23, 24, 25, 26, 27, 28, 29, 32]) (js := [0, 1, 3, 4]) (by decide)))⟩, r_84.mono (by simp), r_84, FF.of e e_69 ga_83, (fun dl9 hd9 K9 => by obtain rfl : dl9 = dl := (nI_eq (by omega) (by omega)).mp (Value.int.inj (K9.inj ⟨_, e, g_drafted⟩)); exact Or.inr (Or.inl ⟨inB_t z_20, q48, ⟨_, e_69, g_79⟩, ⟨_, e_69, g_71⟩⟩)), (fun dl9 hd9 K9 => by obtain rfl : dl9 = dl := (nI_eq (by omega) (by omega)).mp (Value.int.inj (K9.inj ⟨_, e, g_drafted⟩)); exact (fun fvw ew => by obtain rfl := cinj ew e_draft; exact ⟨e_80, fun _ q8 => absurd q8 (by omega)⟩)), fun dl9 hd9 K9 => by obtain rfl : dl9 = dl := (nI_eq (by omega) (by omega)).mp (Value.int.inj (K9.inj ⟨_, e, g_drafted⟩)); exact (fun fpw fqw fdw w1 w2 w3 => by obtain rfl := cinj w1 e_prepared; obtain rfl := cinj w2 e_preparedSize; obtain rfl := cinj w3 e_draft; exact ⟨_, _, e_81, e_82, Or.inl ⟨Or.inr (Or.inr q48), rfl, rfl⟩⟩)⟩
  · skip
    refine s_Model_set_15 ?_
    refine s_Model_set_20 ?_
    refine x_callV (As := [.int 1, .int 1]) (b := m) (rest := []) (F1 := 1) (L1 := 20) (mc := 0) (ms := 0) d_Model_set_21 cV_Model_139 (f_fails1 (c := 1) l_10 e_2 g_11 (by decide) (by omega) (by omega)) e_2 ⟨by decide, rfl⟩ ⟨by omega, by show 8 + (3 + 11) + 20 ≤ _; omega⟩ ⟨by omega, by omega⟩ (Nat.le_of_ble_eq_true rfl) (fun v_93 h_92 p_94 => ?_)
    obtain ⟨rfl, fs_86, l_87, e_88, g_90, ga_89, fr_91⟩ := p_94
    have g_95 : fs_86[(3 : Nat)]? = some (.ref draft_) := (ga_89 3 (by decide)).trans g_12
    have g_96 : fs_86[(5 : Nat)]? = some (.ref prepared_) := (ga_89 5 (by decide)).trans g_13
    have g_97 : fs_86[(6 : Nat)]? = some (.ref preparedSize_) := (ga_89 6 (by decide)).trans g_14
    have g_98 : fs_86[(10 : Nat)]? = some (.int (nI dl)) := (ga_89 10 (by decide)).trans g_15
    have e_99 := fr_91 draft_ _ (by simp only [List.mem_cons, List.not_mem_nil, or_false, not_or]; exact (nd_ne ND (i := 1) (j := 0) rfl rfl (by decide))) e_4
    have e_100 := fr_91 prepared_ _ (by simp only [List.mem_cons, List.not_mem_nil, or_false, not_or]; exact (nd_ne ND (i := 3) (j := 0) rfl rfl (by decide))) e_5
    have e_101 := fr_91 preparedSize_ _ (by simp only [List.mem_cons, List.not_mem_nil, or_false, not_or]; exact (nd_ne ND (i := 4) (j := 0) rfl rfl (by decide))) e_6
    have ga_102 : ∀ i : Nat, i ∉ [0, 10] → fs_86[i]? = fs[i]? := fun i hi => (ga_89 i (fun z => hi (by simp only [List.mem_cons, List.not_mem_nil, or_false] at z ⊢; omega))).trans (ga_16 i hi)
    have r_103 := r_7.trans (fr_91.mono (by simp))
    refine s_Model_set_24 (fun z_104 => ?_) (fun z => absurd z (by decide))
    refine s_Model_set_49 ?_
    exact ⟨⟨_, rfl⟩, ⟨_, l_87, e_88, ⟨_, g_90⟩, ⟨dl, _, g_98, g_95, e_99, hdl⟩, ⟨_, _, g_96, e_100, g_97, e_101, hps⟩, (KTx.fr ga_102 r_103 (by decide) (pick_dis ND (l := [m, draft_, asked_, prepared_, preparedSize_, texts_, sizes_, weights_, entries_, lies_, live_, row_, level_, oldTexts_, oldSizes_, oldLies_, oldLive_, oldRow_, firstToken_, starred_, tokenAt_, tokenSize_, groupKind_, groupPhrase_, groupSize_, groupMask_, groupFar_, out_, top_, masks_, begins_, lasts_, truth_, answers_, order_, scores_]) (is := [5, 6]) (js := [0, 1, 3, 4]) (by decide))), (KOt.fr ga_102 r_103 (by decide) (pick_dis ND (l := [m, draft_, asked_, prepared_, preparedSize_, texts_, sizes_, weights_, entries_, lies_, live_, row_, level_, oldTexts_, oldSizes_, oldLies_, oldLive_, oldRow_, firstToken_, starred_, tokenAt_, tokenSize_, groupKind_, groupPhrase_, groupSize_, groupMask_, groupFar_, out_, top_, masks_, begins_, lasts_, truth_, answers_, order_, scores_]) (is := [13, 14]) (js := [0, 1, 3, 4]) (by decide))), (KSt.fr ga_102 r_103 (by decide) (pick_dis ND (l := [m, draft_, asked_, prepared_, preparedSize_, texts_, sizes_, weights_, entries_, lies_, live_, row_, level_, oldTexts_, oldSizes_, oldLies_, oldLive_, oldRow_, firstToken_, starred_, tokenAt_, tokenSize_, groupKind_, groupPhrase_, groupSize_, groupMask_, groupFar_, out_, top_, masks_, begins_, lasts_, truth_, answers_, order_, scores_]) (is := [8, 9, 10, 11, 12, 15, 16, 17]) (js := [0, 1, 3, 4]) (by decide))).succ, (KMo.fr ga_102 r_103 (by decide) (fun _ z => nomatch z)), (KWe.fr ga_102 r_103 (by decide) (pick_dis ND (l := [m, draft_, asked_, prepared_, preparedSize_, texts_, sizes_, weights_, entries_, lies_, live_, row_, level_, oldTexts_, oldSizes_, oldLies_, oldLive_, oldRow_, firstToken_, starred_, tokenAt_, tokenSize_, groupKind_, groupPhrase_, groupSize_, groupMask_, groupFar_, out_, top_, masks_, begins_, lasts_, truth_, answers_, order_, scores_]) (is := [7]) (js := [0, 1, 3, 4]) (by decide))), (KBe.fr ga_102 r_103 (by decide) (pick_dis ND (l := [m, draft_, asked_, prepared_, preparedSize_, texts_, sizes_, weights_, entries_, lies_, live_, row_, level_, oldTexts_, oldSizes_, oldLies_, oldLive_, oldRow_, firstToken_, starred_, tokenAt_, tokenSize_, groupKind_, groupPhrase_, groupSize_, groupMask_, groupFar_, out_, top_, masks_, begins_, lasts_, truth_, answers_, order_, scores_]) (is := [30, 31]) (js := [0, 1, 3, 4]) (by decide))), (KAn.fr ga_102 r_103 (by decide) (pick_dis ND (l := [m, draft_, asked_, prepared_, preparedSize_, texts_, sizes_, weights_, entries_, lies_, live_, row_, level_, oldTexts_, oldSizes_, oldLies_, oldLive_, oldRow_, firstToken_, starred_, tokenAt_, tokenSize_, groupKind_, groupPhrase_, groupSize_, groupMask_, groupFar_, out_, top_, masks_, begins_, lasts_, truth_, answers_, order_, scores_]) (is := [33, 34, 35]) (js := [0, 1, 3, 4]) (by decide))), (KQu.fr ga_102 r_103 (by decide) (pick_dis ND (l := [m, draft_, asked_, prepared_, preparedSize_, texts_, sizes_, weights_, entries_, lies_, live_, row_, level_, oldTexts_, oldSizes_, oldLies_, oldLive_, oldRow_, firstToken_, starred_, tokenAt_, tokenSize_, groupKind_, groupPhrase_, groupSize_, groupMask_, groupFar_, out_, top_, masks_, begins_, lasts_, truth_, answers_, order_, scores_]) (is := [2, 18, 19, 20, 21, 22, 23, 24, 25, 26, 27, 28, 29, 32]) (js := [0, 1, 3, 4]) (by decide)))⟩, r_103.mono (by simp), r_103, FF.of e e_88 ga_102, (fun dl9 hd9 K9 => by obtain rfl : dl9 = dl := (nI_eq (by omega) (by omega)).mp (Value.int.inj (K9.inj ⟨_, e, g_drafted⟩)); exact Or.inl ⟨inB_f z_21, ⟨_, e_88, g_98⟩, ⟨_, e_88, g_90⟩⟩), (fun dl9 hd9 K9 => by obtain rfl : dl9 = dl := (nI_eq (by omega) (by omega)).mp (Value.int.inj (K9.inj ⟨_, e, g_drafted⟩)); exact (fun fvw ew => by obtain rfl := cinj ew e_draft; exact ⟨e_99, fun q8 _ => ((inB_f z_21).elim q8.1 q8.2).elim⟩)), fun dl9 hd9 K9 => by obtain rfl : dl9 = dl := (nI_eq (by omega) (by omega)).mp (Value.int.inj (K9.inj ⟨_, e, g_drafted⟩)); exact (fun fpw fqw fdw w1 w2 w3 => by obtain rfl := cinj w1 e_prepared; obtain rfl := cinj w2 e_preparedSize; obtain rfl := cinj w3 e_draft; exact ⟨_, _, e_100, e_101, Or.inl ⟨(inB_f z_21).elim Or.inl (fun q => Or.inr (Or.inl q)), rfl, rfl⟩⟩)⟩
