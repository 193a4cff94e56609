/-! the reference in general states: by program (wip/tools/gen5.py, gen6.py, gen7.py) -/
def RdP (m asked_ firstToken_ starred_ tokenAt_ tokenSize_ groupKind_ groupPhrase_ groupSize_ groupMask_ groupFar_ out_ top_ masks_ : Nat) (gs : List Value) (h0 h : xw_A) : Prop :=
  ∃ (p t g o : Nat) (bd : Int32) (z0 z1 z2 z3 z4 z5 z6 z7 z8 : Int32) (c1 c2 ca cs c5 c6 c7 c8 c9 co ct cm : Nat → Int32) (fs : List Value), p ≤ 12 ∧ g ≤ p ∧ (bd < 0 → t ≤ 49 ∧ PhO c1 p t ∧ TkO ca cs t 97 ∧ GrO c6 c7 g p ∧ o ≤ 60 ∧ hgt co o = some 1 ∧ ∀ k, k < o → co k < 0 ∨ ∃ j, j < g ∧ co k = nI j) ∧ fs.length = 62 ∧ h m = some (.inr (11, fs)) ∧ fs[(33 : Nat)]? = some (.int bd) ∧ fs[(34 : Nat)]? = some (.int (nI p)) ∧ fs[(37 : Nat)]? = some (.int (nI o)) ∧ fs[(28 : Nat)]? = some (.int z0) ∧ fs[(29 : Nat)]? = some (.int z1) ∧ fs[(30 : Nat)]? = some (.int z2) ∧ fs[(31 : Nat)]? = some (.int z3) ∧ fs[(35 : Nat)]? = some (.int z4) ∧ fs[(36 : Nat)]? = some (.int z5) ∧ fs[(38 : Nat)]? = some (.int z6) ∧ fs[(39 : Nat)]? = some (.int z7) ∧ fs[(61 : Nat)]? = some (.int z8) ∧ (∀ i : Nat, i ∉ [28, 29, 30, 31, 33, 34, 35, 36, 37, 38, 39, 61] → fs[i]? = gs[i]?) ∧ h firstToken_ = some (.inl (0, 13, .inl c1)) ∧ h starred_ = some (.inl (0, 13, .inl c2)) ∧ h tokenAt_ = some (.inl (0, 60, .inl ca)) ∧ h tokenSize_ = some (.inl (0, 60, .inl cs)) ∧ h groupKind_ = some (.inl (0, 13, .inl c5)) ∧ h groupPhrase_ = some (.inl (0, 13, .inl c6)) ∧ h groupSize_ = some (.inl (0, 13, .inl c7)) ∧ h groupMask_ = some (.inl (0, 13, .inl c8)) ∧ h groupFar_ = some (.inl (0, 13, .inl c9)) ∧ h out_ = some (.inl (0, 60, .inl co)) ∧ h top_ = some (.inl (0, 60, .inl ct)) ∧ h masks_ = some (.inl (0, 60, .inl cm)) ∧ FrO [m, firstToken_, starred_, tokenAt_, tokenSize_, groupKind_, groupPhrase_, groupSize_, groupMask_, groupFar_, out_, top_, masks_] h0 h
theorem QSt.bnd {m asked_ firstToken_ starred_ tokenAt_ tokenSize_ groupKind_ groupPhrase_ groupSize_ groupMask_ groupFar_ out_ top_ masks_ : Nat} {gs : List Value} {h0 : xw_A} {fa : Nat → Int32} {asz x b : Nat} {kd bd : Int32} {h : xw_A} (Q : QSt m asked_ firstToken_ starred_ tokenAt_ tokenSize_ groupKind_ groupPhrase_ groupSize_ groupMask_ groupFar_ out_ top_ masks_ gs h0 fa asz x b kd bd h) : b ≤ 1 ∧ x ≤ 97 ∧ ∃ fs, fs.length = 62 ∧ h m = some (.inr (11, fs)) ∧ fs[(33 : Nat)]? = some (.int bd) := by
  obtain ⟨y, p, t, g, o, n, mk, c1, c2, ca, cs, c5, c6, c7, c8, c9, co, ct, cm, fs, PT, J, TK, hp12, hgp, hD9, hoJ, hb1, hT1, HB, l, e, g_28, g_29, g_30, g_31, g_33, g_34, g_35, g_36, g_37, g_38, g_39, g_61, ga0, e_firstToken, e_starred, e_tokenAt, e_tokenSize, e_groupKind, e_groupPhrase, e_groupSize, e_groupMask, e_groupFar, e_out, e_top, e_masks, r0⟩ := Q
  exact ⟨hb1, Nat.le_trans PT.1 PT.2.1, fs, l, e, g_33⟩
theorem QSt.trans {m asked_ firstToken_ starred_ tokenAt_ tokenSize_ groupKind_ groupPhrase_ groupSize_ groupMask_ groupFar_ out_ top_ masks_ : Nat} {gs fs : List Value} {h0 h1 : xw_A} {fa : Nat → Int32} {asz x b : Nat} {kd bd : Int32} {h : xw_A} (Q : QSt m asked_ firstToken_ starred_ tokenAt_ tokenSize_ groupKind_ groupPhrase_ groupSize_ groupMask_ groupFar_ out_ top_ masks_ fs h1 fa asz x b kd bd h) (hga : ∀ i : Nat, i ∉ [28, 29, 30, 31, 33, 34, 35, 36, 37, 38, 39, 61] → fs[i]? = gs[i]?) (hr : FrO [m, firstToken_, starred_, tokenAt_, tokenSize_, groupKind_, groupPhrase_, groupSize_, groupMask_, groupFar_, out_, top_, masks_] h0 h1) : QSt m asked_ firstToken_ starred_ tokenAt_ tokenSize_ groupKind_ groupPhrase_ groupSize_ groupMask_ groupFar_ out_ top_ masks_ gs h0 fa asz x b kd bd h := by
  obtain ⟨y, p, t, g, o, n, mk, c1, c2, ca, cs, c5, c6, c7, c8, c9, co, ct, cm, fs9, PT, J, TK, hp12, hgp, hD9, hoJ, hb1, hT1, HB, l, e, g_28, g_29, g_30, g_31, g_33, g_34, g_35, g_36, g_37, g_38, g_39, g_61, ga0, e_firstToken, e_starred, e_tokenAt, e_tokenSize, e_groupKind, e_groupPhrase, e_groupSize, e_groupMask, e_groupFar, e_out, e_top, e_masks, r0⟩ := Q
  exact ⟨y, p, t, g, o, n, mk, c1, c2, ca, cs, c5, c6, c7, c8, c9, co, ct, cm, fs9, PT, J, TK, hp12, hgp, hD9, hoJ, hb1, hT1, HB, l, e, g_28, g_29, g_30, g_31, g_33, g_34, g_35, g_36, g_37, g_38, g_39, g_61, fun i hi => (ga0 i hi).trans (hga i hi), e_firstToken, e_starred, e_tokenAt, e_tokenSize, e_groupKind, e_groupPhrase, e_groupSize, e_groupMask, e_groupFar, e_out, e_top, e_masks, hr.trans r0⟩
set_option maxHeartbeats 8000000 in
theorem lp_rds {G : xw_G} {F L bc bs : Nat} {pr : Option Value → xw_A → Prop} {px : String → xw_A → Prop} {m asked_ firstToken_ starred_ tokenAt_ tokenSize_ groupKind_ groupPhrase_ groupSize_ groupMask_ groupFar_ out_ top_ masks_ asz : Nat} {gs : List Value} {fa : Nat → Int32} {h0 : xw_A} (q_askedSize : gs[(11 : Nat)]? = some (.int (nI asz))) (q_asked : gs[(4 : Nat)]? = some (.ref asked_)) (q_firstToken : gs[(41 : Nat)]? = some (.ref firstToken_)) (q_starred : gs[(42 : Nat)]? = some (.ref starred_)) (q_tokenAt : gs[(43 : Nat)]? = some (.ref tokenAt_)) (q_tokenSize : gs[(44 : Nat)]? = some (.ref tokenSize_)) (q_groupKind : gs[(45 : Nat)]? = some (.ref groupKind_)) (q_groupPhrase : gs[(46 : Nat)]? = some (.ref groupPhrase_)) (q_groupSize : gs[(47 : Nat)]? = some (.ref groupSize_)) (q_groupMask : gs[(48 : Nat)]? = some (.ref groupMask_)) (q_groupFar : gs[(49 : Nat)]? = some (.ref groupFar_)) (q_out : gs[(50 : Nat)]? = some (.ref out_)) (q_top : gs[(51 : Nat)]? = some (.ref top_)) (q_masks : gs[(52 : Nat)]? = some (.ref masks_)) (q_a : h0 asked_ = some (.inl (0, 96, .inl fa))) (ND : NDl [m, asked_, firstToken_, starred_, tokenAt_, tokenSize_, groupKind_, groupPhrase_, groupSize_, groupMask_, groupFar_, out_, top_, masks_]) (hasz : asz ≤ 96) (hF : 9 ≤ F) (hL : 190 ≤ L) (kk : ∀ (h : xw_A) (x b : Nat) (kd bd : Int32), QSt m asked_ firstToken_ starred_ tokenAt_ tokenSize_ groupKind_ groupPhrase_ groupSize_ groupMask_ groupFar_ out_ top_ masks_ gs h0 fa asz x b kd bd h → (bd < 0 → b = 1) → xw G m_Model_reads F L bc bs pr px 91 [some (.ref m)] [] h) :
    ∀ (dd i : Nat) (h : xw_A) (x : Nat) (b : Nat) (kd : Int32) (bd : Int32), 196 ≤ i + dd → i < 196 → QSt m asked_ firstToken_ starred_ tokenAt_ tokenSize_ groupKind_ groupPhrase_ groupSize_ groupMask_ groupFar_ out_ top_ masks_ gs h0 fa asz x b kd bd h → 2 * x + 1 = i + b → xw G m_Model_reads F L bc bs pr px 49 [some (.ref m)] [] h := by
  intro dd
  induction dd with
  | zero =>
    intro i h x b kd bd hi hb Q hi2
    exact absurd hi (by omega)
  | succ dd ih =>
    intro i h x b kd bd hi hb Q hi2
    obtain ⟨y, p, t, g, o, n, mk, c1, c2, ca, cs, c5, c6, c7, c8, c9, co, ct, cm, fs, PT, J, TK, hp12, hgp, hD9, hoJ, hb1, hT1, HB, l, e, g_28, g_29, g_30, g_31, g_33, g_34, g_35, g_36, g_37, g_38, g_39, g_61, ga0, e_firstToken, e_starred, e_tokenAt, e_tokenSize, e_groupKind, e_groupPhrase, e_groupSize, e_groupMask, e_groupFar, e_out, e_top, e_masks, r0⟩ := Q
    have g_askedSize := (ga0 11 (by decide)).trans q_askedSize
    have g_asked := (ga0 4 (by decide)).trans q_asked
    have g_firstToken := (ga0 41 (by decide)).trans q_firstToken
    have g_starred := (ga0 42 (by decide)).trans q_starred
    have g_tokenAt := (ga0 43 (by decide)).trans q_tokenAt
    have g_tokenSize := (ga0 44 (by decide)).trans q_tokenSize
    have g_groupKind := (ga0 45 (by decide)).trans q_groupKind
    have g_groupPhrase := (ga0 46 (by decide)).trans q_groupPhrase
    have g_groupSize := (ga0 47 (by decide)).trans q_groupSize
    have g_groupMask := (ga0 48 (by decide)).trans q_groupMask
    have g_groupFar := (ga0 49 (by decide)).trans q_groupFar
    have g_out := (ga0 50 (by decide)).trans q_out
    have g_top := (ga0 51 (by decide)).trans q_top
    have g_masks := (ga0 52 (by decide)).trans q_masks
    have e_asked := r0 asked_ _ (by simp only [List.mem_cons, List.not_mem_nil, or_false, not_or]; exact ⟨(Ne.symm (nd_ne ND (i := 0) (j := 1) rfl rfl (by decide))), (nd_ne ND (i := 1) (j := 2) rfl rfl (by decide)), (nd_ne ND (i := 1) (j := 3) rfl rfl (by decide)), (nd_ne ND (i := 1) (j := 4) rfl rfl (by decide)), (nd_ne ND (i := 1) (j := 5) rfl rfl (by decide)), (nd_ne ND (i := 1) (j := 6) rfl rfl (by decide)), (nd_ne ND (i := 1) (j := 7) rfl rfl (by decide)), (nd_ne ND (i := 1) (j := 8) rfl rfl (by decide)), (nd_ne ND (i := 1) (j := 9) rfl rfl (by decide)), (nd_ne ND (i := 1) (j := 10) rfl rfl (by decide)), (nd_ne ND (i := 1) (j := 11) rfl rfl (by decide)), (nd_ne ND (i := 1) (j := 12) rfl rfl (by decide)), (nd_ne ND (i := 1) (j := 13) rfl rfl (by decide))⟩) q_a
    have hxy0 := PT.1
    have hy97 := PT.2.1
    have hJD := cntJD ct n
    refine s_Model_reads_49 l e g_33 (fun z_1 => ?_) (fun z_2 => ?_)
    · skip
      exact kk _ x b kd bd ⟨y, p, t, g, o, n, mk, c1, c2, ca, cs, c5, c6, c7, c8, c9, co, ct, cm, fs, PT, J, TK, hp12, hgp, hD9, hoJ, hb1, hT1, HB, l, e, g_28, g_29, g_30, g_31, g_33, g_34, g_35, g_36, g_37, g_38, g_39, g_61, ga0, e_firstToken, e_starred, e_tokenAt, e_tokenSize, e_groupKind, e_groupPhrase, e_groupSize, e_groupMask, e_groupFar, e_out, e_top, e_masks, r0⟩ (fun q => absurd q (Int32.not_lt.mpr z_1))
    · skip
      refine s_Model_reads_56 l e g_29 (fun z_3 => ?_) (fun z_4 => ?_)
      · skip
        refine s_Model_reads_70 l e g_61 (fun z_5 => ?_) (fun z_6 => ?_)
        · skip
          refine s_Model_reads_84 ?_
          obtain ⟨PH, GR, hD8, hoJ1, hH, hC⟩ := HB (Int32.not_le.mp z_2)
          obtain rfl : b = 0 := (nI_eq (b := 0) (by omega) (by decide)).mp z_5
          refine x_callV (As := []) (b := m) (rest := []) (F1 := 8) (L1 := 170) (mc := 0) (ms := 0) d_Model_reads_85 cV_Model_306 (f_atom l e g_28 g_29 g_30 g_31 g_33 g_34 g_35 g_36 g_37 g_38 g_39 g_askedSize g_61 g_asked e_asked g_firstToken e_firstToken g_starred e_starred g_tokenAt e_tokenAt g_tokenSize e_tokenSize g_groupKind e_groupKind g_groupPhrase e_groupPhrase g_groupSize e_groupSize g_groupMask e_groupMask g_groupFar e_groupFar g_out e_out g_top e_top g_masks e_masks ND hasz PT J TK hp12 hgp hD8 hT1 PH GR hoJ1 hH hC (Int32.not_le.mp z_2) (by omega) (by omega)) e ⟨by decide, rfl⟩ ⟨by omega, by show 8 + (1 + 11) + 170 ≤ _; omega⟩ ⟨by omega, by omega⟩ (Nat.le_of_ble_eq_true rfl) (fun v_15 h_14 p_16 => ?_)
          obtain ⟨rfl, x_7, b_8, kd_9, bd_10, hx_11, hp_12, Q_13⟩ := p_16
          refine s_Model_reads_88 ?_
          have Q3 := QSt.trans Q_13 ga0 r0
          obtain ⟨v1, v2, fs3, v3, v4, v5⟩ := QSt.bnd Q3
          by_cases hbb : bd_10 < 0
          · skip
            have v6 := hp_12 hbb
            exact ih (2 * x_7 + 1 - b_8) _ x_7 b_8 kd_9 bd_10 (by omega) (by omega) Q3 (by omega)
          · skip
            refine s_Model_reads_49 v3 v4 v5 (fun _ => ?_) (fun z => absurd (Int32.not_lt.mp hbb) z)
            exact kk _ x_7 b_8 kd_9 bd_10 Q3 (fun q => absurd q hbb)
        · skip
          refine s_Model_reads_77 ?_
          obtain ⟨PH, GR, hD8, hoJ1, hH, hC⟩ := HB (Int32.not_le.mp z_2)
          obtain rfl : b = 1 := by have q9 : ¬ b = 0 := fun q => z_6 (by rw [q]; rfl); omega
          refine x_callV (As := []) (b := m) (rest := []) (F1 := 5) (L1 := 107) (mc := 0) (ms := 0) d_Model_reads_78 cV_Model_303 (f_follows l e g_28 g_29 g_30 g_31 g_33 g_37 g_38 g_39 g_askedSize g_61 g_asked e_asked g_out e_out g_top e_top g_masks e_masks (nd_ne ND (i := 11) (j := 12) rfl rfl (by decide)) (nd_ne ND (i := 11) (j := 13) rfl rfl (by decide)) (nd_ne ND (i := 12) (j := 13) rfl rfl (by decide)) hasz PT J TK (Nat.le_trans hgp hp12) hD8 hT1 hoJ1 hH hC (Int32.not_le.mp z_2) (by omega) (by omega)) e ⟨by decide, rfl⟩ ⟨by omega, by show 8 + (3 + 11) + 107 ≤ _; omega⟩ ⟨by omega, by omega⟩ (Nat.le_of_ble_eq_true rfl) (fun v_18 h_17 p_19 => ?_)
          obtain ⟨rfl, x2, y2, o2, n2, b2, kd2, bd2, mk2, co2, ct2, cm2, fs2, PT2, hx2, hpr2, hD2, hoJ2, hb2, hT2, HB2, l2, e2, g2_28, g2_29, g2_30, g2_31, g2_33, g2_37, g2_38, g2_39, g2_61, ga2, eo2, et2, em2, r2⟩ := p_19
          have e_20 := r2 asked_ _ (by simp only [List.mem_cons, List.not_mem_nil, or_false, not_or]; exact ⟨(Ne.symm (nd_ne ND (i := 0) (j := 1) rfl rfl (by decide))), (nd_ne ND (i := 1) (j := 11) rfl rfl (by decide)), (nd_ne ND (i := 1) (j := 12) rfl rfl (by decide)), (nd_ne ND (i := 1) (j := 13) rfl rfl (by decide))⟩) e_asked
          have e_21 := r2 firstToken_ _ (by simp only [List.mem_cons, List.not_mem_nil, or_false, not_or]; exact ⟨(Ne.symm (nd_ne ND (i := 0) (j := 2) rfl rfl (by decide))), (nd_ne ND (i := 2) (j := 11) rfl rfl (by decide)), (nd_ne ND (i := 2) (j := 12) rfl rfl (by decide)), (nd_ne ND (i := 2) (j := 13) rfl rfl (by decide))⟩) e_firstToken
          have e_22 := r2 starred_ _ (by simp only [List.mem_cons, List.not_mem_nil, or_false, not_or]; exact ⟨(Ne.symm (nd_ne ND (i := 0) (j := 3) rfl rfl (by decide))), (nd_ne ND (i := 3) (j := 11) rfl rfl (by decide)), (nd_ne ND (i := 3) (j := 12) rfl rfl (by decide)), (nd_ne ND (i := 3) (j := 13) rfl rfl (by decide))⟩) e_starred
          have e_23 := r2 tokenAt_ _ (by simp only [List.mem_cons, List.not_mem_nil, or_false, not_or]; exact ⟨(Ne.symm (nd_ne ND (i := 0) (j := 4) rfl rfl (by decide))), (nd_ne ND (i := 4) (j := 11) rfl rfl (by decide)), (nd_ne ND (i := 4) (j := 12) rfl rfl (by decide)), (nd_ne ND (i := 4) (j := 13) rfl rfl (by decide))⟩) e_tokenAt
          have e_24 := r2 tokenSize_ _ (by simp only [List.mem_cons, List.not_mem_nil, or_false, not_or]; exact ⟨(Ne.symm (nd_ne ND (i := 0) (j := 5) rfl rfl (by decide))), (nd_ne ND (i := 5) (j := 11) rfl rfl (by decide)), (nd_ne ND (i := 5) (j := 12) rfl rfl (by decide)), (nd_ne ND (i := 5) (j := 13) rfl rfl (by decide))⟩) e_tokenSize
          have e_25 := r2 groupKind_ _ (by simp only [List.mem_cons, List.not_mem_nil, or_false, not_or]; exact ⟨(Ne.symm (nd_ne ND (i := 0) (j := 6) rfl rfl (by decide))), (nd_ne ND (i := 6) (j := 11) rfl rfl (by decide)), (nd_ne ND (i := 6) (j := 12) rfl rfl (by decide)), (nd_ne ND (i := 6) (j := 13) rfl rfl (by decide))⟩) e_groupKind
          have e_26 := r2 groupPhrase_ _ (by simp only [List.mem_cons, List.not_mem_nil, or_false, not_or]; exact ⟨(Ne.symm (nd_ne ND (i := 0) (j := 7) rfl rfl (by decide))), (nd_ne ND (i := 7) (j := 11) rfl rfl (by decide)), (nd_ne ND (i := 7) (j := 12) rfl rfl (by decide)), (nd_ne ND (i := 7) (j := 13) rfl rfl (by decide))⟩) e_groupPhrase
          have e_27 := r2 groupSize_ _ (by simp only [List.mem_cons, List.not_mem_nil, or_false, not_or]; exact ⟨(Ne.symm (nd_ne ND (i := 0) (j := 8) rfl rfl (by decide))), (nd_ne ND (i := 8) (j := 11) rfl rfl (by decide)), (nd_ne ND (i := 8) (j := 12) rfl rfl (by decide)), (nd_ne ND (i := 8) (j := 13) rfl rfl (by decide))⟩) e_groupSize
          have e_28 := r2 groupMask_ _ (by simp only [List.mem_cons, List.not_mem_nil, or_false, not_or]; exact ⟨(Ne.symm (nd_ne ND (i := 0) (j := 9) rfl rfl (by decide))), (nd_ne ND (i := 9) (j := 11) rfl rfl (by decide)), (nd_ne ND (i := 9) (j := 12) rfl rfl (by decide)), (nd_ne ND (i := 9) (j := 13) rfl rfl (by decide))⟩) e_groupMask
          have e_29 := r2 groupFar_ _ (by simp only [List.mem_cons, List.not_mem_nil, or_false, not_or]; exact ⟨(Ne.symm (nd_ne ND (i := 0) (j := 10) rfl rfl (by decide))), (nd_ne ND (i := 10) (j := 11) rfl rfl (by decide)), (nd_ne ND (i := 10) (j := 12) rfl rfl (by decide)), (nd_ne ND (i := 10) (j := 13) rfl rfl (by decide))⟩) e_groupFar
          have r_30 := r0.trans (r2.mono (by simp))
          have g_31 : fs2[(34 : Nat)]? = some (.int (nI p)) := (ga2 34 (by decide)).trans g_34
          have g_32 : fs2[(35 : Nat)]? = some (.int (nI t)) := (ga2 35 (by decide)).trans g_35
          have g_33 : fs2[(36 : Nat)]? = some (.int (nI g)) := (ga2 36 (by decide)).trans g_36
          have g_34 : fs2[(4 : Nat)]? = some (.ref asked_) := (ga2 4 (by decide)).trans g_asked
          have g_35 : fs2[(41 : Nat)]? = some (.ref firstToken_) := (ga2 41 (by decide)).trans g_firstToken
          have g_36 : fs2[(42 : Nat)]? = some (.ref starred_) := (ga2 42 (by decide)).trans g_starred
          have g_37 : fs2[(43 : Nat)]? = some (.ref tokenAt_) := (ga2 43 (by decide)).trans g_tokenAt
          have g_38 : fs2[(44 : Nat)]? = some (.ref tokenSize_) := (ga2 44 (by decide)).trans g_tokenSize
          have g_39 : fs2[(45 : Nat)]? = some (.ref groupKind_) := (ga2 45 (by decide)).trans g_groupKind
          have g_40 : fs2[(46 : Nat)]? = some (.ref groupPhrase_) := (ga2 46 (by decide)).trans g_groupPhrase
          have g_41 : fs2[(47 : Nat)]? = some (.ref groupSize_) := (ga2 47 (by decide)).trans g_groupSize
          have g_42 : fs2[(48 : Nat)]? = some (.ref groupMask_) := (ga2 48 (by decide)).trans g_groupMask
          have g_43 : fs2[(49 : Nat)]? = some (.ref groupFar_) := (ga2 49 (by decide)).trans g_groupFar
          have g_44 : fs2[(50 : Nat)]? = some (.ref out_) := (ga2 50 (by decide)).trans g_out
          have g_45 : fs2[(51 : Nat)]? = some (.ref top_) := (ga2 51 (by decide)).trans g_top
          have g_46 : fs2[(52 : Nat)]? = some (.ref masks_) := (ga2 52 (by decide)).trans g_masks
          have g_47 : fs2[(11 : Nat)]? = some (.int (nI asz)) := (ga2 11 (by decide)).trans g_askedSize
          have ga_48 : ∀ i : Nat, i ∉ [28, 29, 30, 31, 33, 34, 35, 36, 37, 38, 39, 61] → fs2[i]? = gs[i]? := fun i hi => (ga2 i (fun z => hi (by simp only [List.mem_cons, List.not_mem_nil, or_false] at z ⊢; omega))).trans (ga0 i hi)
          have Q2 : QSt m asked_ firstToken_ starred_ tokenAt_ tokenSize_ groupKind_ groupPhrase_ groupSize_ groupMask_ groupFar_ out_ top_ masks_ gs h0 fa asz x2 b2 kd2 bd2 h_17 := ⟨y2, p, t, g, o2, n2, mk2, _, _, _, _, _, _, _, _, _, _, _, _, _, PT2, J.mono hx2, TK.mono hx2, hp12, hgp, hD2, hoJ2, hb2, hT2, fun q => ⟨PH, GR, HB2 q⟩, l2, e2, g2_28, g2_29, g2_30, g2_31, g2_33, g_31, g_32, g_33, g2_37, g2_38, g2_39, g2_61, ga_48, e_21, e_22, e_23, e_24, e_25, e_26, e_27, e_28, e_29, eo2, et2, em2, r_30⟩
          refine s_Model_reads_81 ?_
          obtain ⟨v1, v2, fs3, v3, v4, v5⟩ := QSt.bnd Q2
          by_cases hbb : bd2 < 0
          · skip
            have v6 := hpr2 hbb
            exact ih (2 * x2 + 1 - b2) _ x2 b2 kd2 bd2 (by omega) (by omega) Q2 (by omega)
          · skip
            refine s_Model_reads_49 v3 v4 v5 (fun _ => ?_) (fun z => absurd (Int32.not_lt.mp hbb) z)
            exact kk _ x2 b2 kd2 bd2 Q2 (fun q => absurd q hbb)
      · skip
        refine s_Model_reads_63 l e g_61 (fun z_49 => ?_) (fun z_50 => ?_)
        · skip
          exact kk _ x b kd bd ⟨y, p, t, g, o, n, mk, c1, c2, ca, cs, c5, c6, c7, c8, c9, co, ct, cm, fs, PT, J, TK, hp12, hgp, hD9, hoJ, hb1, hT1, HB, l, e, g_28, g_29, g_30, g_31, g_33, g_34, g_35, g_36, g_37, g_38, g_39, g_61, ga0, e_firstToken, e_starred, e_tokenAt, e_tokenSize, e_groupKind, e_groupPhrase, e_groupSize, e_groupMask, e_groupFar, e_out, e_top, e_masks, r0⟩ (fun _ => by have q9 : ¬ b = 0 := fun q => z_49 (by rw [q]; rfl); omega)
        · skip
          refine s_Model_reads_70 l e g_61 (fun z_51 => ?_) (fun z => absurd z_50 z)
          refine s_Model_reads_84 ?_
          obtain ⟨PH, GR, hD8, hoJ1, hH, hC⟩ := HB (Int32.not_le.mp z_2)
          obtain rfl : b = 0 := (nI_eq (b := 0) (by omega) (by decide)).mp z_51
          refine x_callV (As := []) (b := m) (rest := []) (F1 := 8) (L1 := 170) (mc := 0) (ms := 0) d_Model_reads_85 cV_Model_306 (f_atom l e g_28 g_29 g_30 g_31 g_33 g_34 g_35 g_36 g_37 g_38 g_39 g_askedSize g_61 g_asked e_asked g_firstToken e_firstToken g_starred e_starred g_tokenAt e_tokenAt g_tokenSize e_tokenSize g_groupKind e_groupKind g_groupPhrase e_groupPhrase g_groupSize e_groupSize g_groupMask e_groupMask g_groupFar e_groupFar g_out e_out g_top e_top g_masks e_masks ND hasz PT J TK hp12 hgp hD8 hT1 PH GR hoJ1 hH hC (Int32.not_le.mp z_2) (by omega) (by omega)) e ⟨by decide, rfl⟩ ⟨by omega, by show 8 + (1 + 11) + 170 ≤ _; omega⟩ ⟨by omega, by omega⟩ (Nat.le_of_ble_eq_true rfl) (fun v_60 h_59 p_61 => ?_)
          obtain ⟨rfl, x_52, b_53, kd_54, bd_55, hx_56, hp_57, Q_58⟩ := p_61
          refine s_Model_reads_88 ?_
          have Q3 := QSt.trans Q_58 ga0 r0
          obtain ⟨v1, v2, fs3, v3, v4, v5⟩ := QSt.bnd Q3
          by_cases hbb : bd_55 < 0
          · skip
            have v6 := hp_57 hbb
            exact ih (2 * x_52 + 1 - b_53) _ x_52 b_53 kd_54 bd_55 (by omega) (by omega) Q3 (by omega)
          · skip
            refine s_Model_reads_49 v3 v4 v5 (fun _ => ?_) (fun z => absurd (Int32.not_lt.mp hbb) z)
            exact kk _ x_52 b_53 kd_54 bd_55 Q3 (fun q => absurd q hbb)
set_option maxHeartbeats 8000000 in
theorem f_reads {G : xw_G} {F L : Nat} {h : xw_A} {asz : Nat} {y0 y1 y2 y3 y4 y5 y6 y7 y8 y9 y10 y11 : Int32} {fa c1 c2 ca cs c5 c6 c7 c8 c9 co ct cm : Nat → Int32} {m asked_ firstToken_ starred_ tokenAt_ tokenSize_ groupKind_ groupPhrase_ groupSize_ groupMask_ groupFar_ out_ top_ masks_ : Nat} {fs : List Value} (l : fs.length = 62) (e : h m = some (.inr (11, fs))) (g_at : fs[(28 : Nat)]? = some (.int y0)) (g_kind : fs[(29 : Nat)]? = some (.int y1)) (g_from : fs[(30 : Nat)]? = some (.int y2)) (g_to : fs[(31 : Nat)]? = some (.int y3)) (g_bad : fs[(33 : Nat)]? = some (.int y4)) (g_phrases : fs[(34 : Nat)]? = some (.int y5)) (g_tokens : fs[(35 : Nat)]? = some (.int y6)) (g_groups : fs[(36 : Nat)]? = some (.int y7)) (g_outs : fs[(37 : Nat)]? = some (.int y8)) (g_tops : fs[(38 : Nat)]? = some (.int y9)) (g_mask : fs[(39 : Nat)]? = some (.int y10)) (g_askedSize : fs[(11 : Nat)]? = some (.int (nI asz))) (g_behind : fs[(61 : Nat)]? = some (.int y11)) (g_asked : fs[(4 : Nat)]? = some (.ref asked_)) (e_asked : h asked_ = some (.inl (0, 96, .inl fa))) (g_firstToken : fs[(41 : Nat)]? = some (.ref firstToken_)) (e_firstToken : h firstToken_ = some (.inl (0, 13, .inl c1))) (g_starred : fs[(42 : Nat)]? = some (.ref starred_)) (e_starred : h starred_ = some (.inl (0, 13, .inl c2))) (g_tokenAt : fs[(43 : Nat)]? = some (.ref tokenAt_)) (e_tokenAt : h tokenAt_ = some (.inl (0, 60, .inl ca))) (g_tokenSize : fs[(44 : Nat)]? = some (.ref tokenSize_)) (e_tokenSize : h tokenSize_ = some (.inl (0, 60, .inl cs))) (g_groupKind : fs[(45 : Nat)]? = some (.ref groupKind_)) (e_groupKind : h groupKind_ = some (.inl (0, 13, .inl c5))) (g_groupPhrase : fs[(46 : Nat)]? = some (.ref groupPhrase_)) (e_groupPhrase : h groupPhrase_ = some (.inl (0, 13, .inl c6))) (g_groupSize : fs[(47 : Nat)]? = some (.ref groupSize_)) (e_groupSize : h groupSize_ = some (.inl (0, 13, .inl c7))) (g_groupMask : fs[(48 : Nat)]? = some (.ref groupMask_)) (e_groupMask : h groupMask_ = some (.inl (0, 13, .inl c8))) (g_groupFar : fs[(49 : Nat)]? = some (.ref groupFar_)) (e_groupFar : h groupFar_ = some (.inl (0, 13, .inl c9))) (g_out : fs[(50 : Nat)]? = some (.ref out_)) (e_out : h out_ = some (.inl (0, 60, .inl co))) (g_top : fs[(51 : Nat)]? = some (.ref top_)) (e_top : h top_ = some (.inl (0, 60, .inl ct))) (g_masks : fs[(52 : Nat)]? = some (.ref masks_)) (e_masks : h masks_ = some (.inl (0, 60, .inl cm))) (ND : NDl [m, asked_, firstToken_, starred_, tokenAt_, tokenSize_, groupKind_, groupPhrase_, groupSize_, groupMask_, groupFar_, out_, top_, masks_]) (hasz : asz ≤ 96) (hF : 9 ≤ F) (hL : 190 ≤ L) :
    xw_Met G m_Model_reads F L 0 0 [.ref m] h (fun v h' => v = none ∧ RdP m asked_ firstToken_ starred_ tokenAt_ tokenSize_ groupKind_ groupPhrase_ groupSize_ groupMask_ groupFar_ out_ top_ masks_ fs h h') (fun _ _ => False) := by
  refine xw_Met.of rfl (by decide) (Nat.le_of_ble_eq_true rfl) ?_
  have ga0 : ∀ i : Nat, i ∉ [28, 29, 30, 31, 33, 34, 35, 36, 37, 38, 39, 61] → fs[i]? = fs[i]? := fun _ _ => rfl
  have r0 : FrO [m, firstToken_, starred_, tokenAt_, tokenSize_, groupKind_, groupPhrase_, groupSize_, groupMask_, groupFar_, out_, top_, masks_] h h := FrO.rf
  refine s_Model_reads_0 l e ?_
  rw [xw_up_up, xw_up_up, xw_up_up]
  refine x_u1 (fun h_1 e_2 f_3 => ?_)
  have e_4 := (f_3 asked_ (Ne.symm (nd_ne ND (i := 0) (j := 1) rfl rfl (by decide)))).trans e_asked
  have e_5 := (f_3 firstToken_ (Ne.symm (nd_ne ND (i := 0) (j := 2) rfl rfl (by decide)))).trans e_firstToken
  have e_6 := (f_3 starred_ (Ne.symm (nd_ne ND (i := 0) (j := 3) rfl rfl (by decide)))).trans e_starred
  have e_7 := (f_3 tokenAt_ (Ne.symm (nd_ne ND (i := 0) (j := 4) rfl rfl (by decide)))).trans e_tokenAt
  have e_8 := (f_3 tokenSize_ (Ne.symm (nd_ne ND (i := 0) (j := 5) rfl rfl (by decide)))).trans e_tokenSize
  have e_9 := (f_3 groupKind_ (Ne.symm (nd_ne ND (i := 0) (j := 6) rfl rfl (by decide)))).trans e_groupKind
  have e_10 := (f_3 groupPhrase_ (Ne.symm (nd_ne ND (i := 0) (j := 7) rfl rfl (by decide)))).trans e_groupPhrase
  have e_11 := (f_3 groupSize_ (Ne.symm (nd_ne ND (i := 0) (j := 8) rfl rfl (by decide)))).trans e_groupSize
  have e_12 := (f_3 groupMask_ (Ne.symm (nd_ne ND (i := 0) (j := 9) rfl rfl (by decide)))).trans e_groupMask
  have e_13 := (f_3 groupFar_ (Ne.symm (nd_ne ND (i := 0) (j := 10) rfl rfl (by decide)))).trans e_groupFar
  have e_14 := (f_3 out_ (Ne.symm (nd_ne ND (i := 0) (j := 11) rfl rfl (by decide)))).trans e_out
  have e_15 := (f_3 top_ (Ne.symm (nd_ne ND (i := 0) (j := 12) rfl rfl (by decide)))).trans e_top
  have e_16 := (f_3 masks_ (Ne.symm (nd_ne ND (i := 0) (j := 13) rfl rfl (by decide)))).trans e_masks
  have r_17 := r0.up (by simp) f_3
  obtain ⟨fs_18, z_19⟩ : ∃ z, z = (((fs.set 28 (.int 0)).set 33 (.int ((-1)))).set 34 (.int 0)).set 35 (.int 0) := ⟨_, rfl⟩
  rw [← z_19] at e_2
  have l_20 : fs_18.length = 62 := by rw [z_19]; simp only [List.length_set]; exact l
  have g_21 : fs_18[(4 : Nat)]? = some (.ref asked_) := by rw [z_19]; exact (xw_gn (by decide) (xw_gn (by decide) (xw_gn (by decide) (xw_gn (by decide) g_asked))))
  have g_22 : fs_18[(11 : Nat)]? = some (.int (nI asz)) := by rw [z_19]; exact (xw_gn (by decide) (xw_gn (by decide) (xw_gn (by decide) (xw_gn (by decide) g_askedSize))))
  have g_23 : fs_18[(28 : Nat)]? = some (.int 0) := by rw [z_19]; exact (xw_gn (by decide) (xw_gn (by decide) (xw_gn (by decide) (xw_gs (by simp [l])))))
  have g_24 : fs_18[(29 : Nat)]? = some (.int y1) := by rw [z_19]; exact (xw_gn (by decide) (xw_gn (by decide) (xw_gn (by decide) (xw_gn (by decide) g_kind))))
  have g_25 : fs_18[(30 : Nat)]? = some (.int y2) := by rw [z_19]; exact (xw_gn (by decide) (xw_gn (by decide) (xw_gn (by decide) (xw_gn (by decide) g_from))))
  have g_26 : fs_18[(31 : Nat)]? = some (.int y3) := by rw [z_19]; exact (xw_gn (by decide) (xw_gn (by decide) (xw_gn (by decide) (xw_gn (by decide) g_to))))
  have g_27 : fs_18[(33 : Nat)]? = some (.int ((-1))) := by rw [z_19]; exact (xw_gn (by decide) (xw_gn (by decide) (xw_gs (by simp [l]))))
  have g_28 : fs_18[(34 : Nat)]? = some (.int 0) := by rw [z_19]; exact (xw_gn (by decide) (xw_gs (by simp [l])))
  have g_29 : fs_18[(35 : Nat)]? = some (.int 0) := by rw [z_19]; exact (xw_gs (by simp [l]))
  have g_30 : fs_18[(36 : Nat)]? = some (.int y7) := by rw [z_19]; exact (xw_gn (by decide) (xw_gn (by decide) (xw_gn (by decide) (xw_gn (by decide) g_groups))))
  have g_31 : fs_18[(37 : Nat)]? = some (.int y8) := by rw [z_19]; exact (xw_gn (by decide) (xw_gn (by decide) (xw_gn (by decide) (xw_gn (by decide) g_outs))))
  have g_32 : fs_18[(38 : Nat)]? = some (.int y9) := by rw [z_19]; exact (xw_gn (by decide) (xw_gn (by decide) (xw_gn (by decide) (xw_gn (by decide) g_tops))))
  have g_33 : fs_18[(39 : Nat)]? = some (.int y10) := by rw [z_19]; exact (xw_gn (by decide) (xw_gn (by decide) (xw_gn (by decide) (xw_gn (by decide) g_mask))))
  have g_34 : fs_18[(41 : Nat)]? = some (.ref firstToken_) := by rw [z_19]; exact (xw_gn (by decide) (xw_gn (by decide) (xw_gn (by decide) (xw_gn (by decide) g_firstToken))))
  have g_35 : fs_18[(42 : Nat)]? = some (.ref starred_) := by rw [z_19]; exact (xw_gn (by decide) (xw_gn (by decide) (xw_gn (by decide) (xw_gn (by decide) g_starred))))
  have g_36 : fs_18[(43 : Nat)]? = some (.ref tokenAt_) := by rw [z_19]; exact (xw_gn (by decide) (xw_gn (by decide) (xw_gn (by decide) (xw_gn (by decide) g_tokenAt))))
  have g_37 : fs_18[(44 : Nat)]? = some (.ref tokenSize_) := by rw [z_19]; exact (xw_gn (by decide) (xw_gn (by decide) (xw_gn (by decide) (xw_gn (by decide) g_tokenSize))))
  have g_38 : fs_18[(45 : Nat)]? = some (.ref groupKind_) := by rw [z_19]; exact (xw_gn (by decide) (xw_gn (by decide) (xw_gn (by decide) (xw_gn (by decide) g_groupKind))))
  have g_39 : fs_18[(46 : Nat)]? = some (.ref groupPhrase_) := by rw [z_19]; exact (xw_gn (by decide) (xw_gn (by decide) (xw_gn (by decide) (xw_gn (by decide) g_groupPhrase))))
  have g_40 : fs_18[(47 : Nat)]? = some (.ref groupSize_) := by rw [z_19]; exact (xw_gn (by decide) (xw_gn (by decide) (xw_gn (by decide) (xw_gn (by decide) g_groupSize))))
  have g_41 : fs_18[(48 : Nat)]? = some (.ref groupMask_) := by rw [z_19]; exact (xw_gn (by decide) (xw_gn (by decide) (xw_gn (by decide) (xw_gn (by decide) g_groupMask))))
  have g_42 : fs_18[(49 : Nat)]? = some (.ref groupFar_) := by rw [z_19]; exact (xw_gn (by decide) (xw_gn (by decide) (xw_gn (by decide) (xw_gn (by decide) g_groupFar))))
  have g_43 : fs_18[(50 : Nat)]? = some (.ref out_) := by rw [z_19]; exact (xw_gn (by decide) (xw_gn (by decide) (xw_gn (by decide) (xw_gn (by decide) g_out))))
  have g_44 : fs_18[(51 : Nat)]? = some (.ref top_) := by rw [z_19]; exact (xw_gn (by decide) (xw_gn (by decide) (xw_gn (by decide) (xw_gn (by decide) g_top))))
  have g_45 : fs_18[(52 : Nat)]? = some (.ref masks_) := by rw [z_19]; exact (xw_gn (by decide) (xw_gn (by decide) (xw_gn (by decide) (xw_gn (by decide) g_masks))))
  have g_46 : fs_18[(61 : Nat)]? = some (.int y11) := by rw [z_19]; exact (xw_gn (by decide) (xw_gn (by decide) (xw_gn (by decide) (xw_gn (by decide) g_behind))))
  have ga_47 : ∀ i : Nat, i ∉ [28, 29, 30, 31, 33, 34, 35, 36, 37, 38, 39, 61] → fs_18[i]? = fs[i]? := fun i hi => by rw [z_19]; exact xw_gn (fun z => hi (by rw [z]; simp)) (xw_gn (fun z => hi (by rw [z]; simp)) (xw_gn (fun z => hi (by rw [z]; simp)) (xw_gn (fun z => hi (by rw [z]; simp)) (ga0 i hi))))
  clear z_19
  refine s_Model_reads_20 l_20 e_2 ?_
  rw [xw_up_up, xw_up_up, xw_up_up]
  refine x_u1 (fun h_48 e_49 f_50 => ?_)
  have e_51 := (f_50 asked_ (Ne.symm (nd_ne ND (i := 0) (j := 1) rfl rfl (by decide)))).trans e_4
  have e_52 := (f_50 firstToken_ (Ne.symm (nd_ne ND (i := 0) (j := 2) rfl rfl (by decide)))).trans e_5
  have e_53 := (f_50 starred_ (Ne.symm (nd_ne ND (i := 0) (j := 3) rfl rfl (by decide)))).trans e_6
  have e_54 := (f_50 tokenAt_ (Ne.symm (nd_ne ND (i := 0) (j := 4) rfl rfl (by decide)))).trans e_7
  have e_55 := (f_50 tokenSize_ (Ne.symm (nd_ne ND (i := 0) (j := 5) rfl rfl (by decide)))).trans e_8
  have e_56 := (f_50 groupKind_ (Ne.symm (nd_ne ND (i := 0) (j := 6) rfl rfl (by decide)))).trans e_9
  have e_57 := (f_50 groupPhrase_ (Ne.symm (nd_ne ND (i := 0) (j := 7) rfl rfl (by decide)))).trans e_10
  have e_58 := (f_50 groupSize_ (Ne.symm (nd_ne ND (i := 0) (j := 8) rfl rfl (by decide)))).trans e_11
  have e_59 := (f_50 groupMask_ (Ne.symm (nd_ne ND (i := 0) (j := 9) rfl rfl (by decide)))).trans e_12
  have e_60 := (f_50 groupFar_ (Ne.symm (nd_ne ND (i := 0) (j := 10) rfl rfl (by decide)))).trans e_13
  have e_61 := (f_50 out_ (Ne.symm (nd_ne ND (i := 0) (j := 11) rfl rfl (by decide)))).trans e_14
  have e_62 := (f_50 top_ (Ne.symm (nd_ne ND (i := 0) (j := 12) rfl rfl (by decide)))).trans e_15
  have e_63 := (f_50 masks_ (Ne.symm (nd_ne ND (i := 0) (j := 13) rfl rfl (by decide)))).trans e_16
  have r_64 := r_17.up (by simp) f_50
  obtain ⟨fs_65, z_66⟩ : ∃ z, z = (((fs_18.set 36 (.int 0)).set 37 (.int 0)).set 38 (.int 0)).set 39 (.int 3) := ⟨_, rfl⟩
  rw [← z_66] at e_49
  have l_67 : fs_65.length = 62 := by rw [z_66]; simp only [List.length_set]; exact l_20
  have g_68 : fs_65[(4 : Nat)]? = some (.ref asked_) := by rw [z_66]; exact (xw_gn (by decide) (xw_gn (by decide) (xw_gn (by decide) (xw_gn (by decide) g_21))))
  have g_69 : fs_65[(11 : Nat)]? = some (.int (nI asz)) := by rw [z_66]; exact (xw_gn (by decide) (xw_gn (by decide) (xw_gn (by decide) (xw_gn (by decide) g_22))))
  have g_70 : fs_65[(28 : Nat)]? = some (.int 0) := by rw [z_66]; exact (xw_gn (by decide) (xw_gn (by decide) (xw_gn (by decide) (xw_gn (by decide) g_23))))
  have g_71 : fs_65[(29 : Nat)]? = some (.int y1) := by rw [z_66]; exact (xw_gn (by decide) (xw_gn (by decide) (xw_gn (by decide) (xw_gn (by decide) g_24))))
  have g_72 : fs_65[(30 : Nat)]? = some (.int y2) := by rw [z_66]; exact (xw_gn (by decide) (xw_gn (by decide) (xw_gn (by decide) (xw_gn (by decide) g_25))))
  have g_73 : fs_65[(31 : Nat)]? = some (.int y3) := by rw [z_66]; exact (xw_gn (by decide) (xw_gn (by decide) (xw_gn (by decide) (xw_gn (by decide) g_26))))
  have g_74 : fs_65[(33 : Nat)]? = some (.int ((-1))) := by rw [z_66]; exact (xw_gn (by decide) (xw_gn (by decide) (xw_gn (by decide) (xw_gn (by decide) g_27))))
  have g_75 : fs_65[(34 : Nat)]? = some (.int 0) := by rw [z_66]; exact (xw_gn (by decide) (xw_gn (by decide) (xw_gn (by decide) (xw_gn (by decide) g_28))))
  have g_76 : fs_65[(35 : Nat)]? = some (.int 0) := by rw [z_66]; exact (xw_gn (by decide) (xw_gn (by decide) (xw_gn (by decide) (xw_gn (by decide) g_29))))
  have g_77 : fs_65[(36 : Nat)]? = some (.int 0) := by rw [z_66]; exact (xw_gn (by decide) (xw_gn (by decide) (xw_gn (by decide) (xw_gs (by simp [l_20])))))
  have g_78 : fs_65[(37 : Nat)]? = some (.int 0) := by rw [z_66]; exact (xw_gn (by decide) (xw_gn (by decide) (xw_gs (by simp [l_20]))))
  have g_79 : fs_65[(38 : Nat)]? = some (.int 0) := by rw [z_66]; exact (xw_gn (by decide) (xw_gs (by simp [l_20])))
  have g_80 : fs_65[(39 : Nat)]? = some (.int 3) := by rw [z_66]; exact (xw_gs (by simp [l_20]))
  have g_81 : fs_65[(41 : Nat)]? = some (.ref firstToken_) := by rw [z_66]; exact (xw_gn (by decide) (xw_gn (by decide) (xw_gn (by decide) (xw_gn (by decide) g_34))))
  have g_82 : fs_65[(42 : Nat)]? = some (.ref starred_) := by rw [z_66]; exact (xw_gn (by decide) (xw_gn (by decide) (xw_gn (by decide) (xw_gn (by decide) g_35))))
  have g_83 : fs_65[(43 : Nat)]? = some (.ref tokenAt_) := by rw [z_66]; exact (xw_gn (by decide) (xw_gn (by decide) (xw_gn (by decide) (xw_gn (by decide) g_36))))
  have g_84 : fs_65[(44 : Nat)]? = some (.ref tokenSize_) := by rw [z_66]; exact (xw_gn (by decide) (xw_gn (by decide) (xw_gn (by decide) (xw_gn (by decide) g_37))))
  have g_85 : fs_65[(45 : Nat)]? = some (.ref groupKind_) := by rw [z_66]; exact (xw_gn (by decide) (xw_gn (by decide) (xw_gn (by decide) (xw_gn (by decide) g_38))))
  have g_86 : fs_65[(46 : Nat)]? = some (.ref groupPhrase_) := by rw [z_66]; exact (xw_gn (by decide) (xw_gn (by decide) (xw_gn (by decide) (xw_gn (by decide) g_39))))
  have g_87 : fs_65[(47 : Nat)]? = some (.ref groupSize_) := by rw [z_66]; exact (xw_gn (by decide) (xw_gn (by decide) (xw_gn (by decide) (xw_gn (by decide) g_40))))
  have g_88 : fs_65[(48 : Nat)]? = some (.ref groupMask_) := by rw [z_66]; exact (xw_gn (by decide) (xw_gn (by decide) (xw_gn (by decide) (xw_gn (by decide) g_41))))
  have g_89 : fs_65[(49 : Nat)]? = some (.ref groupFar_) := by rw [z_66]; exact (xw_gn (by decide) (xw_gn (by decide) (xw_gn (by decide) (xw_gn (by decide) g_42))))
  have g_90 : fs_65[(50 : Nat)]? = some (.ref out_) := by rw [z_66]; exact (xw_gn (by decide) (xw_gn (by decide) (xw_gn (by decide) (xw_gn (by decide) g_43))))
  have g_91 : fs_65[(51 : Nat)]? = some (.ref top_) := by rw [z_66]; exact (xw_gn (by decide) (xw_gn (by decide) (xw_gn (by decide) (xw_gn (by decide) g_44))))
  have g_92 : fs_65[(52 : Nat)]? = some (.ref masks_) := by rw [z_66]; exact (xw_gn (by decide) (xw_gn (by decide) (xw_gn (by decide) (xw_gn (by decide) g_45))))
  have g_93 : fs_65[(61 : Nat)]? = some (.int y11) := by rw [z_66]; exact (xw_gn (by decide) (xw_gn (by decide) (xw_gn (by decide) (xw_gn (by decide) g_46))))
  have ga_94 : ∀ i : Nat, i ∉ [28, 29, 30, 31, 33, 34, 35, 36, 37, 38, 39, 61] → fs_65[i]? = fs[i]? := fun i hi => by rw [z_66]; exact xw_gn (fun z => hi (by rw [z]; simp)) (xw_gn (fun z => hi (by rw [z]; simp)) (xw_gn (fun z => hi (by rw [z]; simp)) (xw_gn (fun z => hi (by rw [z]; simp)) (ga_47 i hi))))
  clear z_66
  refine s_Model_reads_40 l_67 e_49 ?_
  refine x_u1 (fun h_95 e_96 f_97 => ?_)
  have e_98 := (f_97 asked_ (Ne.symm (nd_ne ND (i := 0) (j := 1) rfl rfl (by decide)))).trans e_51
  have e_99 := (f_97 firstToken_ (Ne.symm (nd_ne ND (i := 0) (j := 2) rfl rfl (by decide)))).trans e_52
  have e_100 := (f_97 starred_ (Ne.symm (nd_ne ND (i := 0) (j := 3) rfl rfl (by decide)))).trans e_53
  have e_101 := (f_97 tokenAt_ (Ne.symm (nd_ne ND (i := 0) (j := 4) rfl rfl (by decide)))).trans e_54
  have e_102 := (f_97 tokenSize_ (Ne.symm (nd_ne ND (i := 0) (j := 5) rfl rfl (by decide)))).trans e_55
  have e_103 := (f_97 groupKind_ (Ne.symm (nd_ne ND (i := 0) (j := 6) rfl rfl (by decide)))).trans e_56
  have e_104 := (f_97 groupPhrase_ (Ne.symm (nd_ne ND (i := 0) (j := 7) rfl rfl (by decide)))).trans e_57
  have e_105 := (f_97 groupSize_ (Ne.symm (nd_ne ND (i := 0) (j := 8) rfl rfl (by decide)))).trans e_58
  have e_106 := (f_97 groupMask_ (Ne.symm (nd_ne ND (i := 0) (j := 9) rfl rfl (by decide)))).trans e_59
  have e_107 := (f_97 groupFar_ (Ne.symm (nd_ne ND (i := 0) (j := 10) rfl rfl (by decide)))).trans e_60
  have e_108 := (f_97 out_ (Ne.symm (nd_ne ND (i := 0) (j := 11) rfl rfl (by decide)))).trans e_61
  have e_109 := (f_97 top_ (Ne.symm (nd_ne ND (i := 0) (j := 12) rfl rfl (by decide)))).trans e_62
  have e_110 := (f_97 masks_ (Ne.symm (nd_ne ND (i := 0) (j := 13) rfl rfl (by decide)))).trans e_63
  have r_111 := r_64.up (by simp) f_97
  obtain ⟨fs_112, z_113⟩ : ∃ z, z = fs_65.set 61 (.int 0) := ⟨_, rfl⟩
  rw [← z_113] at e_96
  have l_114 : fs_112.length = 62 := by rw [z_113]; simp only [List.length_set]; exact l_67
  have g_115 : fs_112[(4 : Nat)]? = some (.ref asked_) := by rw [z_113]; exact (xw_gn (by decide) g_68)
  have g_116 : fs_112[(11 : Nat)]? = some (.int (nI asz)) := by rw [z_113]; exact (xw_gn (by decide) g_69)
  have g_117 : fs_112[(28 : Nat)]? = some (.int 0) := by rw [z_113]; exact (xw_gn (by decide) g_70)
  have g_118 : fs_112[(29 : Nat)]? = some (.int y1) := by rw [z_113]; exact (xw_gn (by decide) g_71)
  have g_119 : fs_112[(30 : Nat)]? = some (.int y2) := by rw [z_113]; exact (xw_gn (by decide) g_72)
  have g_120 : fs_112[(31 : Nat)]? = some (.int y3) := by rw [z_113]; exact (xw_gn (by decide) g_73)
  have g_121 : fs_112[(33 : Nat)]? = some (.int ((-1))) := by rw [z_113]; exact (xw_gn (by decide) g_74)
  have g_122 : fs_112[(34 : Nat)]? = some (.int 0) := by rw [z_113]; exact (xw_gn (by decide) g_75)
  have g_123 : fs_112[(35 : Nat)]? = some (.int 0) := by rw [z_113]; exact (xw_gn (by decide) g_76)
  have g_124 : fs_112[(36 : Nat)]? = some (.int 0) := by rw [z_113]; exact (xw_gn (by decide) g_77)
  have g_125 : fs_112[(37 : Nat)]? = some (.int 0) := by rw [z_113]; exact (xw_gn (by decide) g_78)
  have g_126 : fs_112[(38 : Nat)]? = some (.int 0) := by rw [z_113]; exact (xw_gn (by decide) g_79)
  have g_127 : fs_112[(39 : Nat)]? = some (.int 3) := by rw [z_113]; exact (xw_gn (by decide) g_80)
  have g_128 : fs_112[(41 : Nat)]? = some (.ref firstToken_) := by rw [z_113]; exact (xw_gn (by decide) g_81)
  have g_129 : fs_112[(42 : Nat)]? = some (.ref starred_) := by rw [z_113]; exact (xw_gn (by decide) g_82)
  have g_130 : fs_112[(43 : Nat)]? = some (.ref tokenAt_) := by rw [z_113]; exact (xw_gn (by decide) g_83)
  have g_131 : fs_112[(44 : Nat)]? = some (.ref tokenSize_) := by rw [z_113]; exact (xw_gn (by decide) g_84)
  have g_132 : fs_112[(45 : Nat)]? = some (.ref groupKind_) := by rw [z_113]; exact (xw_gn (by decide) g_85)
  have g_133 : fs_112[(46 : Nat)]? = some (.ref groupPhrase_) := by rw [z_113]; exact (xw_gn (by decide) g_86)
  have g_134 : fs_112[(47 : Nat)]? = some (.ref groupSize_) := by rw [z_113]; exact (xw_gn (by decide) g_87)
  have g_135 : fs_112[(48 : Nat)]? = some (.ref groupMask_) := by rw [z_113]; exact (xw_gn (by decide) g_88)
  have g_136 : fs_112[(49 : Nat)]? = some (.ref groupFar_) := by rw [z_113]; exact (xw_gn (by decide) g_89)
  have g_137 : fs_112[(50 : Nat)]? = some (.ref out_) := by rw [z_113]; exact (xw_gn (by decide) g_90)
  have g_138 : fs_112[(51 : Nat)]? = some (.ref top_) := by rw [z_113]; exact (xw_gn (by decide) g_91)
  have g_139 : fs_112[(52 : Nat)]? = some (.ref masks_) := by rw [z_113]; exact (xw_gn (by decide) g_92)
  have g_140 : fs_112[(61 : Nat)]? = some (.int 0) := by rw [z_113]; exact (xw_gs (by simp [l_67]))
  have ga_141 : ∀ i : Nat, i ∉ [28, 29, 30, 31, 33, 34, 35, 36, 37, 38, 39, 61] → fs_112[i]? = fs[i]? := fun i hi => by rw [z_113]; exact xw_gn (fun z => hi (by rw [z]; simp)) (ga_94 i hi)
  clear z_113
  refine x_callV (As := []) (b := m) (rest := []) (F1 := 3) (L1 := 66) (mc := 0) (ms := 0) d_Model_reads_46 cV_Model_234 (f_part (x0 := 0) l_114 e_96 g_117 g_118 g_119 g_120 g_116 g_115 e_98 (by omega) hasz (by omega) (by omega)) e_96 ⟨by decide, rfl⟩ ⟨by omega, by show 8 + (2 + 11) + 66 ≤ _; omega⟩ ⟨by omega, by omega⟩ (Nat.le_of_ble_eq_true rfl) (fun v_143 h_142 p_144 => ?_)
  obtain ⟨rfl, x8, y8_, kd8, fs8, hx8, PT8, l8, e8, g8a, g8b, g8c, g8d, ga8, r8⟩ := p_144
  have e_145 := r8 asked_ _ (by simp only [List.mem_cons, List.not_mem_nil, or_false, not_or]; exact (Ne.symm (nd_ne ND (i := 0) (j := 1) rfl rfl (by decide)))) e_98
  have e_146 := r8 firstToken_ _ (by simp only [List.mem_cons, List.not_mem_nil, or_false, not_or]; exact (Ne.symm (nd_ne ND (i := 0) (j := 2) rfl rfl (by decide)))) e_99
  have e_147 := r8 starred_ _ (by simp only [List.mem_cons, List.not_mem_nil, or_false, not_or]; exact (Ne.symm (nd_ne ND (i := 0) (j := 3) rfl rfl (by decide)))) e_100
  have e_148 := r8 tokenAt_ _ (by simp only [List.mem_cons, List.not_mem_nil, or_false, not_or]; exact (Ne.symm (nd_ne ND (i := 0) (j := 4) rfl rfl (by decide)))) e_101
  have e_149 := r8 tokenSize_ _ (by simp only [List.mem_cons, List.not_mem_nil, or_false, not_or]; exact (Ne.symm (nd_ne ND (i := 0) (j := 5) rfl rfl (by decide)))) e_102
  have e_150 := r8 groupKind_ _ (by simp only [List.mem_cons, List.not_mem_nil, or_false, not_or]; exact (Ne.symm (nd_ne ND (i := 0) (j := 6) rfl rfl (by decide)))) e_103
  have e_151 := r8 groupPhrase_ _ (by simp only [List.mem_cons, List.not_mem_nil, or_false, not_or]; exact (Ne.symm (nd_ne ND (i := 0) (j := 7) rfl rfl (by decide)))) e_104
  have e_152 := r8 groupSize_ _ (by simp only [List.mem_cons, List.not_mem_nil, or_false, not_or]; exact (Ne.symm (nd_ne ND (i := 0) (j := 8) rfl rfl (by decide)))) e_105
  have e_153 := r8 groupMask_ _ (by simp only [List.mem_cons, List.not_mem_nil, or_false, not_or]; exact (Ne.symm (nd_ne ND (i := 0) (j := 9) rfl rfl (by decide)))) e_106
  have e_154 := r8 groupFar_ _ (by simp only [List.mem_cons, List.not_mem_nil, or_false, not_or]; exact (Ne.symm (nd_ne ND (i := 0) (j := 10) rfl rfl (by decide)))) e_107
  have e_155 := r8 out_ _ (by simp only [List.mem_cons, List.not_mem_nil, or_false, not_or]; exact (Ne.symm (nd_ne ND (i := 0) (j := 11) rfl rfl (by decide)))) e_108
  have e_156 := r8 top_ _ (by simp only [List.mem_cons, List.not_mem_nil, or_false, not_or]; exact (Ne.symm (nd_ne ND (i := 0) (j := 12) rfl rfl (by decide)))) e_109
  have e_157 := r8 masks_ _ (by simp only [List.mem_cons, List.not_mem_nil, or_false, not_or]; exact (Ne.symm (nd_ne ND (i := 0) (j := 13) rfl rfl (by decide)))) e_110
  have r_158 := r_111.trans (r8.mono (by simp))
  have g_159 : fs8[(4 : Nat)]? = some (.ref asked_) := (ga8 4 (by decide)).trans g_115
  have g_160 : fs8[(11 : Nat)]? = some (.int (nI asz)) := (ga8 11 (by decide)).trans g_116
  have g_161 : fs8[(33 : Nat)]? = some (.int ((-1))) := (ga8 33 (by decide)).trans g_121
  have g_162 : fs8[(34 : Nat)]? = some (.int 0) := (ga8 34 (by decide)).trans g_122
  have g_163 : fs8[(35 : Nat)]? = some (.int 0) := (ga8 35 (by decide)).trans g_123
  have g_164 : fs8[(36 : Nat)]? = some (.int 0) := (ga8 36 (by decide)).trans g_124
  have g_165 : fs8[(37 : Nat)]? = some (.int 0) := (ga8 37 (by decide)).trans g_125
  have g_166 : fs8[(38 : Nat)]? = some (.int 0) := (ga8 38 (by decide)).trans g_126
  have g_167 : fs8[(39 : Nat)]? = some (.int 3) := (ga8 39 (by decide)).trans g_127
  have g_168 : fs8[(41 : Nat)]? = some (.ref firstToken_) := (ga8 41 (by decide)).trans g_128
  have g_169 : fs8[(42 : Nat)]? = some (.ref starred_) := (ga8 42 (by decide)).trans g_129
  have g_170 : fs8[(43 : Nat)]? = some (.ref tokenAt_) := (ga8 43 (by decide)).trans g_130
  have g_171 : fs8[(44 : Nat)]? = some (.ref tokenSize_) := (ga8 44 (by decide)).trans g_131
  have g_172 : fs8[(45 : Nat)]? = some (.ref groupKind_) := (ga8 45 (by decide)).trans g_132
  have g_173 : fs8[(46 : Nat)]? = some (.ref groupPhrase_) := (ga8 46 (by decide)).trans g_133
  have g_174 : fs8[(47 : Nat)]? = some (.ref groupSize_) := (ga8 47 (by decide)).trans g_134
  have g_175 : fs8[(48 : Nat)]? = some (.ref groupMask_) := (ga8 48 (by decide)).trans g_135
  have g_176 : fs8[(49 : Nat)]? = some (.ref groupFar_) := (ga8 49 (by decide)).trans g_136
  have g_177 : fs8[(50 : Nat)]? = some (.ref out_) := (ga8 50 (by decide)).trans g_137
  have g_178 : fs8[(51 : Nat)]? = some (.ref top_) := (ga8 51 (by decide)).trans g_138
  have g_179 : fs8[(52 : Nat)]? = some (.ref masks_) := (ga8 52 (by decide)).trans g_139
  have g_180 : fs8[(61 : Nat)]? = some (.int 0) := (ga8 61 (by decide)).trans g_140
  have ga_181 : ∀ i : Nat, i ∉ [28, 29, 30, 31, 33, 34, 35, 36, 37, 38, 39, 61] → fs8[i]? = fs[i]? := fun i hi => (ga8 i (fun z => hi (by simp only [List.mem_cons, List.not_mem_nil, or_false] at z ⊢; omega))).trans (ga_141 i hi)
  have hx97 := Nat.le_trans PT8.1 PT8.2.1
  refine lp_rds (gs := fs8) (h0 := h_142) g_160 g_159 g_168 g_169 g_170 g_171 g_172 g_173 g_174 g_175 g_176 g_177 g_178 g_179 e_145 ND hasz (by omega) (by omega) (fun h9 x9 b9 kd9 bd9 Q9 hb9 => ?_) 196 (2 * x8 + 1) _ x8 0 kd8 (-1) (by omega) (by omega) ⟨y8_, 0, 0, 0, 0, 0, _, _, _, _, _, _, _, _, _, _, _, _, _, _, PT8, ⟨by omega, fun _ => by omega⟩, fun _ q => absurd q (Nat.not_lt_zero _), by omega, Nat.le_refl _, Nat.zero_le _, Nat.le_refl _, by omega, fun _ q => absurd q (Nat.not_lt_zero _), fun _ => ⟨fun _ q => absurd q (Nat.not_lt_zero _), fun _ q => absurd q (Nat.not_lt_zero _), Nat.zero_le _, rfl, rfl, fun _ q => absurd q (Nat.not_lt_zero _)⟩, l8, e8, g8a, g8b, g8c, g8d, g_161, g_162, g_163, g_164, g_165, g_166, g_167, g_180, fun _ _ => rfl, e_146, e_147, e_148, e_149, e_150, e_151, e_152, e_153, e_154, e_155, e_156, e_157, FrO.rf⟩ (by omega)
  obtain ⟨y_, p_, t_, g_, o_, n_, mk_, c1_, c2_, ca_, cs_, c5_, c6_, c7_, c8_, c9_, co_, ct_, cm_, fs_, PT_, J_, TK_, hp12_, hgp_, hD9_, hoJ_, hb1_, hT1_, HB_, l_, e_, g_28_, g_29_, g_30_, g_31_, g_33_, g_34_, g_35_, g_36_, g_37_, g_38_, g_39_, g_61_, ga0_, e_firstToken_, e_starred_, e_tokenAt_, e_tokenSize_, e_groupKind_, e_groupPhrase_, e_groupSize_, e_groupMask_, e_groupFar_, e_out_, e_top_, e_masks_, r0_⟩ := Q9
  have e_182 := r0_ asked_ _ (by simp only [List.mem_cons, List.not_mem_nil, or_false, not_or]; exact ⟨(Ne.symm (nd_ne ND (i := 0) (j := 1) rfl rfl (by decide))), (nd_ne ND (i := 1) (j := 2) rfl rfl (by decide)), (nd_ne ND (i := 1) (j := 3) rfl rfl (by decide)), (nd_ne ND (i := 1) (j := 4) rfl rfl (by decide)), (nd_ne ND (i := 1) (j := 5) rfl rfl (by decide)), (nd_ne ND (i := 1) (j := 6) rfl rfl (by decide)), (nd_ne ND (i := 1) (j := 7) rfl rfl (by decide)), (nd_ne ND (i := 1) (j := 8) rfl rfl (by decide)), (nd_ne ND (i := 1) (j := 9) rfl rfl (by decide)), (nd_ne ND (i := 1) (j := 10) rfl rfl (by decide)), (nd_ne ND (i := 1) (j := 11) rfl rfl (by decide)), (nd_ne ND (i := 1) (j := 12) rfl rfl (by decide)), (nd_ne ND (i := 1) (j := 13) rfl rfl (by decide))⟩) e_145
  have r_183 := r_158.trans (r0_.mono (by simp))
  have g_184 : fs_[(4 : Nat)]? = some (.ref asked_) := (ga0_ 4 (by decide)).trans g_159
  have g_185 : fs_[(11 : Nat)]? = some (.int (nI asz)) := (ga0_ 11 (by decide)).trans g_160
  have g_186 : fs_[(41 : Nat)]? = some (.ref firstToken_) := (ga0_ 41 (by decide)).trans g_168
  have g_187 : fs_[(42 : Nat)]? = some (.ref starred_) := (ga0_ 42 (by decide)).trans g_169
  have g_188 : fs_[(43 : Nat)]? = some (.ref tokenAt_) := (ga0_ 43 (by decide)).trans g_170
  have g_189 : fs_[(44 : Nat)]? = some (.ref tokenSize_) := (ga0_ 44 (by decide)).trans g_171
  have g_190 : fs_[(45 : Nat)]? = some (.ref groupKind_) := (ga0_ 45 (by decide)).trans g_172
  have g_191 : fs_[(46 : Nat)]? = some (.ref groupPhrase_) := (ga0_ 46 (by decide)).trans g_173
  have g_192 : fs_[(47 : Nat)]? = some (.ref groupSize_) := (ga0_ 47 (by decide)).trans g_174
  have g_193 : fs_[(48 : Nat)]? = some (.ref groupMask_) := (ga0_ 48 (by decide)).trans g_175
  have g_194 : fs_[(49 : Nat)]? = some (.ref groupFar_) := (ga0_ 49 (by decide)).trans g_176
  have g_195 : fs_[(50 : Nat)]? = some (.ref out_) := (ga0_ 50 (by decide)).trans g_177
  have g_196 : fs_[(51 : Nat)]? = some (.ref top_) := (ga0_ 51 (by decide)).trans g_178
  have g_197 : fs_[(52 : Nat)]? = some (.ref masks_) := (ga0_ 52 (by decide)).trans g_179
  have ga_198 : ∀ i : Nat, i ∉ [28, 29, 30, 31, 33, 34, 35, 36, 37, 38, 39, 61] → fs_[i]? = fs[i]? := fun i hi => (ga0_ i (fun z => hi (by simp only [List.mem_cons, List.not_mem_nil, or_false] at z ⊢; omega))).trans (ga_181 i hi)
  have hJD := cntJD ct_ n_
  refine s_Model_reads_91 ?_
  refine x_callV (As := [.int 1]) (b := m) (rest := []) (F1 := 1) (L1 := 20) (mc := 0) (ms := 0) d_Model_reads_93 cV_Model_281 (f_reduces l_ e_ g_37_ g_38_ g_195 e_out_ g_196 e_top_ (nd_ne ND (i := 11) (j := 12) rfl rfl (by decide)) (by omega) (by decide) (by omega) (by omega)) e_ ⟨by decide, rfl⟩ ⟨by omega, by show 8 + (2 + 11) + 20 ≤ _; omega⟩ ⟨by omega, by omega⟩ (Nat.le_of_ble_eq_true rfl) (fun v_200 h_199 p_201 => ?_)
  obtain ⟨rfl, n1, o1, co1, fs1, hS1, hO1, hK1, hD1, hV1, hE1, hX1, l1, e1, go1, gt1, ga1, eo1, r1⟩ := p_201
  have e_202 := r1 asked_ _ (by simp only [List.mem_cons, List.not_mem_nil, or_false, not_or]; exact ⟨(Ne.symm (nd_ne ND (i := 0) (j := 1) rfl rfl (by decide))), (nd_ne ND (i := 1) (j := 11) rfl rfl (by decide))⟩) e_182
  have e_203 := r1 firstToken_ _ (by simp only [List.mem_cons, List.not_mem_nil, or_false, not_or]; exact ⟨(Ne.symm (nd_ne ND (i := 0) (j := 2) rfl rfl (by decide))), (nd_ne ND (i := 2) (j := 11) rfl rfl (by decide))⟩) e_firstToken_
  have e_204 := r1 starred_ _ (by simp only [List.mem_cons, List.not_mem_nil, or_false, not_or]; exact ⟨(Ne.symm (nd_ne ND (i := 0) (j := 3) rfl rfl (by decide))), (nd_ne ND (i := 3) (j := 11) rfl rfl (by decide))⟩) e_starred_
  have e_205 := r1 tokenAt_ _ (by simp only [List.mem_cons, List.not_mem_nil, or_false, not_or]; exact ⟨(Ne.symm (nd_ne ND (i := 0) (j := 4) rfl rfl (by decide))), (nd_ne ND (i := 4) (j := 11) rfl rfl (by decide))⟩) e_tokenAt_
  have e_206 := r1 tokenSize_ _ (by simp only [List.mem_cons, List.not_mem_nil, or_false, not_or]; exact ⟨(Ne.symm (nd_ne ND (i := 0) (j := 5) rfl rfl (by decide))), (nd_ne ND (i := 5) (j := 11) rfl rfl (by decide))⟩) e_tokenSize_
  have e_207 := r1 groupKind_ _ (by simp only [List.mem_cons, List.not_mem_nil, or_false, not_or]; exact ⟨(Ne.symm (nd_ne ND (i := 0) (j := 6) rfl rfl (by decide))), (nd_ne ND (i := 6) (j := 11) rfl rfl (by decide))⟩) e_groupKind_
  have e_208 := r1 groupPhrase_ _ (by simp only [List.mem_cons, List.not_mem_nil, or_false, not_or]; exact ⟨(Ne.symm (nd_ne ND (i := 0) (j := 7) rfl rfl (by decide))), (nd_ne ND (i := 7) (j := 11) rfl rfl (by decide))⟩) e_groupPhrase_
  have e_209 := r1 groupSize_ _ (by simp only [List.mem_cons, List.not_mem_nil, or_false, not_or]; exact ⟨(Ne.symm (nd_ne ND (i := 0) (j := 8) rfl rfl (by decide))), (nd_ne ND (i := 8) (j := 11) rfl rfl (by decide))⟩) e_groupSize_
  have e_210 := r1 groupMask_ _ (by simp only [List.mem_cons, List.not_mem_nil, or_false, not_or]; exact ⟨(Ne.symm (nd_ne ND (i := 0) (j := 9) rfl rfl (by decide))), (nd_ne ND (i := 9) (j := 11) rfl rfl (by decide))⟩) e_groupMask_
  have e_211 := r1 groupFar_ _ (by simp only [List.mem_cons, List.not_mem_nil, or_false, not_or]; exact ⟨(Ne.symm (nd_ne ND (i := 0) (j := 10) rfl rfl (by decide))), (nd_ne ND (i := 10) (j := 11) rfl rfl (by decide))⟩) e_groupFar_
  have e_212 := r1 top_ _ (by simp only [List.mem_cons, List.not_mem_nil, or_false, not_or]; exact ⟨(Ne.symm (nd_ne ND (i := 0) (j := 12) rfl rfl (by decide))), (Ne.symm (nd_ne ND (i := 11) (j := 12) rfl rfl (by decide)))⟩) e_top_
  have e_213 := r1 masks_ _ (by simp only [List.mem_cons, List.not_mem_nil, or_false, not_or]; exact ⟨(Ne.symm (nd_ne ND (i := 0) (j := 13) rfl rfl (by decide))), (Ne.symm (nd_ne ND (i := 11) (j := 13) rfl rfl (by decide)))⟩) e_masks_
  have r_214 := r_183.trans (r1.mono (by simp))
  have g_215 : fs1[(4 : Nat)]? = some (.ref asked_) := (ga1 4 (by decide)).trans g_184
  have g_216 : fs1[(11 : Nat)]? = some (.int (nI asz)) := (ga1 11 (by decide)).trans g_185
  have g_217 : fs1[(41 : Nat)]? = some (.ref firstToken_) := (ga1 41 (by decide)).trans g_186
  have g_218 : fs1[(42 : Nat)]? = some (.ref starred_) := (ga1 42 (by decide)).trans g_187
  have g_219 : fs1[(43 : Nat)]? = some (.ref tokenAt_) := (ga1 43 (by decide)).trans g_188
  have g_220 : fs1[(44 : Nat)]? = some (.ref tokenSize_) := (ga1 44 (by decide)).trans g_189
  have g_221 : fs1[(45 : Nat)]? = some (.ref groupKind_) := (ga1 45 (by decide)).trans g_190
  have g_222 : fs1[(46 : Nat)]? = some (.ref groupPhrase_) := (ga1 46 (by decide)).trans g_191
  have g_223 : fs1[(47 : Nat)]? = some (.ref groupSize_) := (ga1 47 (by decide)).trans g_192
  have g_224 : fs1[(48 : Nat)]? = some (.ref groupMask_) := (ga1 48 (by decide)).trans g_193
  have g_225 : fs1[(49 : Nat)]? = some (.ref groupFar_) := (ga1 49 (by decide)).trans g_194
  have g_226 : fs1[(50 : Nat)]? = some (.ref out_) := (ga1 50 (by decide)).trans g_195
  have g_227 : fs1[(51 : Nat)]? = some (.ref top_) := (ga1 51 (by decide)).trans g_196
  have g_228 : fs1[(52 : Nat)]? = some (.ref masks_) := (ga1 52 (by decide)).trans g_197
  have g_229 : fs1[(28 : Nat)]? = some (.int (nI x9)) := (ga1 28 (by decide)).trans g_28_
  have g_230 : fs1[(29 : Nat)]? = some (.int kd9) := (ga1 29 (by decide)).trans g_29_
  have g_231 : fs1[(30 : Nat)]? = some (.int (nI x9)) := (ga1 30 (by decide)).trans g_30_
  have g_232 : fs1[(31 : Nat)]? = some (.int (nI y_)) := (ga1 31 (by decide)).trans g_31_
  have g_233 : fs1[(33 : Nat)]? = some (.int bd9) := (ga1 33 (by decide)).trans g_33_
  have g_234 : fs1[(34 : Nat)]? = some (.int (nI p_)) := (ga1 34 (by decide)).trans g_34_
  have g_235 : fs1[(35 : Nat)]? = some (.int (nI t_)) := (ga1 35 (by decide)).trans g_35_
  have g_236 : fs1[(36 : Nat)]? = some (.int (nI g_)) := (ga1 36 (by decide)).trans g_36_
  have g_237 : fs1[(39 : Nat)]? = some (.int mk_) := (ga1 39 (by decide)).trans g_39_
  have g_238 : fs1[(61 : Nat)]? = some (.int (nI b9)) := (ga1 61 (by decide)).trans g_61_
  have ga_239 : ∀ i : Nat, i ∉ [28, 29, 30, 31, 33, 34, 35, 36, 37, 38, 39, 61] → fs1[i]? = fs[i]? := fun i hi => (ga1 i (fun z => hi (by simp only [List.mem_cons, List.not_mem_nil, or_false] at z ⊢; omega))).trans (ga_198 i hi)
  refine s_Model_reads_96 l1 e1 gt1 (fun z_240 => ?_) (fun z_241 => ?_)
  · skip
    refine s_Model_reads_108 ?_
    refine s_Model_reads_109 l1 e1 g_216 ?_
    refine x_callV (As := [.int 0, .int (nI asz)]) (b := m) (rest := []) (F1 := 1) (L1 := 20) (mc := 0) (ms := 0) d_Model_reads_113 cV_Model_250 (f_wrongs (k := asz) l1 e1 g_233 (by omega) (by omega) (by omega)) e1 ⟨by decide, rfl⟩ ⟨by omega, by show 8 + (3 + 11) + 20 ≤ _; omega⟩ ⟨by omega, by omega⟩ (Nat.le_of_ble_eq_true rfl) (fun v_252 h_251 p_253 => ?_)
    obtain ⟨rfl, bd_242, fs_243, hw_244, hk_245, l_246, e_247, g_248, ga_249, r_250⟩ := p_253
    have e_254 := r_250 asked_ _ (by simp only [List.mem_cons, List.not_mem_nil, or_false, not_or]; exact (Ne.symm (nd_ne ND (i := 0) (j := 1) rfl rfl (by decide)))) e_202
    have e_255 := r_250 firstToken_ _ (by simp only [List.mem_cons, List.not_mem_nil, or_false, not_or]; exact (Ne.symm (nd_ne ND (i := 0) (j := 2) rfl rfl (by decide)))) e_203
    have e_256 := r_250 starred_ _ (by simp only [List.mem_cons, List.not_mem_nil, or_false, not_or]; exact (Ne.symm (nd_ne ND (i := 0) (j := 3) rfl rfl (by decide)))) e_204
    have e_257 := r_250 tokenAt_ _ (by simp only [List.mem_cons, List.not_mem_nil, or_false, not_or]; exact (Ne.symm (nd_ne ND (i := 0) (j := 4) rfl rfl (by decide)))) e_205
    have e_258 := r_250 tokenSize_ _ (by simp only [List.mem_cons, List.not_mem_nil, or_false, not_or]; exact (Ne.symm (nd_ne ND (i := 0) (j := 5) rfl rfl (by decide)))) e_206
    have e_259 := r_250 groupKind_ _ (by simp only [List.mem_cons, List.not_mem_nil, or_false, not_or]; exact (Ne.symm (nd_ne ND (i := 0) (j := 6) rfl rfl (by decide)))) e_207
    have e_260 := r_250 groupPhrase_ _ (by simp only [List.mem_cons, List.not_mem_nil, or_false, not_or]; exact (Ne.symm (nd_ne ND (i := 0) (j := 7) rfl rfl (by decide)))) e_208
    have e_261 := r_250 groupSize_ _ (by simp only [List.mem_cons, List.not_mem_nil, or_false, not_or]; exact (Ne.symm (nd_ne ND (i := 0) (j := 8) rfl rfl (by decide)))) e_209
    have e_262 := r_250 groupMask_ _ (by simp only [List.mem_cons, List.not_mem_nil, or_false, not_or]; exact (Ne.symm (nd_ne ND (i := 0) (j := 9) rfl rfl (by decide)))) e_210
    have e_263 := r_250 groupFar_ _ (by simp only [List.mem_cons, List.not_mem_nil, or_false, not_or]; exact (Ne.symm (nd_ne ND (i := 0) (j := 10) rfl rfl (by decide)))) e_211
    have e_264 := r_250 out_ _ (by simp only [List.mem_cons, List.not_mem_nil, or_false, not_or]; exact (Ne.symm (nd_ne ND (i := 0) (j := 11) rfl rfl (by decide)))) eo1
    have e_265 := r_250 top_ _ (by simp only [List.mem_cons, List.not_mem_nil, or_false, not_or]; exact (Ne.symm (nd_ne ND (i := 0) (j := 12) rfl rfl (by decide)))) e_212
    have e_266 := r_250 masks_ _ (by simp only [List.mem_cons, List.not_mem_nil, or_false, not_or]; exact (Ne.symm (nd_ne ND (i := 0) (j := 13) rfl rfl (by decide)))) e_213
    have r_267 := r_214.trans (r_250.mono (by simp))
    have g_268 : fs_243[(4 : Nat)]? = some (.ref asked_) := (ga_249 4 (by decide)).trans g_215
    have g_269 : fs_243[(11 : Nat)]? = some (.int (nI asz)) := (ga_249 11 (by decide)).trans g_216
    have g_270 : fs_243[(41 : Nat)]? = some (.ref firstToken_) := (ga_249 41 (by decide)).trans g_217
    have g_271 : fs_243[(42 : Nat)]? = some (.ref starred_) := (ga_249 42 (by decide)).trans g_218
    have g_272 : fs_243[(43 : Nat)]? = some (.ref tokenAt_) := (ga_249 43 (by decide)).trans g_219
    have g_273 : fs_243[(44 : Nat)]? = some (.ref tokenSize_) := (ga_249 44 (by decide)).trans g_220
    have g_274 : fs_243[(45 : Nat)]? = some (.ref groupKind_) := (ga_249 45 (by decide)).trans g_221
    have g_275 : fs_243[(46 : Nat)]? = some (.ref groupPhrase_) := (ga_249 46 (by decide)).trans g_222
    have g_276 : fs_243[(47 : Nat)]? = some (.ref groupSize_) := (ga_249 47 (by decide)).trans g_223
    have g_277 : fs_243[(48 : Nat)]? = some (.ref groupMask_) := (ga_249 48 (by decide)).trans g_224
    have g_278 : fs_243[(49 : Nat)]? = some (.ref groupFar_) := (ga_249 49 (by decide)).trans g_225
    have g_279 : fs_243[(50 : Nat)]? = some (.ref out_) := (ga_249 50 (by decide)).trans g_226
    have g_280 : fs_243[(51 : Nat)]? = some (.ref top_) := (ga_249 51 (by decide)).trans g_227
    have g_281 : fs_243[(52 : Nat)]? = some (.ref masks_) := (ga_249 52 (by decide)).trans g_228
    have g_282 : fs_243[(28 : Nat)]? = some (.int (nI x9)) := (ga_249 28 (by decide)).trans g_229
    have g_283 : fs_243[(29 : Nat)]? = some (.int kd9) := (ga_249 29 (by decide)).trans g_230
    have g_284 : fs_243[(30 : Nat)]? = some (.int (nI x9)) := (ga_249 30 (by decide)).trans g_231
    have g_285 : fs_243[(31 : Nat)]? = some (.int (nI y_)) := (ga_249 31 (by decide)).trans g_232
    have g_286 : fs_243[(34 : Nat)]? = some (.int (nI p_)) := (ga_249 34 (by decide)).trans g_234
    have g_287 : fs_243[(35 : Nat)]? = some (.int (nI t_)) := (ga_249 35 (by decide)).trans g_235
    have g_288 : fs_243[(36 : Nat)]? = some (.int (nI g_)) := (ga_249 36 (by decide)).trans g_236
    have g_289 : fs_243[(39 : Nat)]? = some (.int mk_) := (ga_249 39 (by decide)).trans g_237
    have g_290 : fs_243[(61 : Nat)]? = some (.int (nI b9)) := (ga_249 61 (by decide)).trans g_238
    have g_291 : fs_243[(37 : Nat)]? = some (.int (nI o1)) := (ga_249 37 (by decide)).trans go1
    have g_292 : fs_243[(38 : Nat)]? = some (.int (nI n1)) := (ga_249 38 (by decide)).trans gt1
    have ga_293 : ∀ i : Nat, i ∉ [28, 29, 30, 31, 33, 34, 35, 36, 37, 38, 39, 61] → fs_243[i]? = fs[i]? := fun i hi => (ga_249 i (fun z => hi (by simp only [List.mem_cons, List.not_mem_nil, or_false] at z ⊢; omega))).trans (ga_239 i hi)
    refine x_le (xw_le_n xw_le_e) ?_
    refine s_Model_reads_116 ?_
    have hn0 : n1 = 0 := by rcases Nat.eq_zero_or_pos n1 with q | q; (exact q); (exact absurd z_240 (nI_ge (b := n1) q (by omega)))
    subst hn0
    have hB9 := fun q => (hw_244 q).2
    exact ⟨rfl, p_, t_, g_, o1, _, _, _, _, _, _, _, _, _, _, _, _, _, _, _, _, _, _, _, _, _, _, _, hp12_, hgp_, fun q => by have q2 : bd9 < 0 := (hB9 q) ▸ q; obtain rfl := hb9 q2; obtain ⟨k1, k2, k3, k4, k5, k6⟩ := HB_ q2; exact ⟨by have u1 := J_.1; have u2 := Nat.le_trans PT_.1 PT_.2.1; omega, k1, TK_.mono (Nat.le_trans PT_.1 PT_.2.1), k2, by omega, hV1 k5, fun k hk => (hE1 k hk).elim Or.inl (fun q9 => by rw [q9.2]; exact k6 k q9.1)⟩, l_246, e_247, g_248, g_286, g_291, g_282, g_283, g_284, g_285, g_287, g_288, g_292, g_289, g_290, ga_293, e_255, e_256, e_257, e_258, e_259, e_260, e_261, e_262, e_263, e_264, e_265, e_266, r_267⟩
  · skip
    refine s_Model_reads_104 ?_
    refine s_Model_reads_109 l1 e1 g_216 ?_
    refine x_callV (As := [.int 1, .int (nI asz)]) (b := m) (rest := []) (F1 := 1) (L1 := 20) (mc := 0) (ms := 0) d_Model_reads_113 cV_Model_250 (f_wrongs (k := asz) l1 e1 g_233 (by omega) (by omega) (by omega)) e1 ⟨by decide, rfl⟩ ⟨by omega, by show 8 + (3 + 11) + 20 ≤ _; omega⟩ ⟨by omega, by omega⟩ (Nat.le_of_ble_eq_true rfl) (fun v_304 h_303 p_305 => ?_)
    obtain ⟨rfl, bd_294, fs_295, hw_296, hk_297, l_298, e_299, g_300, ga_301, r_302⟩ := p_305
    have e_306 := r_302 asked_ _ (by simp only [List.mem_cons, List.not_mem_nil, or_false, not_or]; exact (Ne.symm (nd_ne ND (i := 0) (j := 1) rfl rfl (by decide)))) e_202
    have e_307 := r_302 firstToken_ _ (by simp only [List.mem_cons, List.not_mem_nil, or_false, not_or]; exact (Ne.symm (nd_ne ND (i := 0) (j := 2) rfl rfl (by decide)))) e_203
    have e_308 := r_302 starred_ _ (by simp only [List.mem_cons, List.not_mem_nil, or_false, not_or]; exact (Ne.symm (nd_ne ND (i := 0) (j := 3) rfl rfl (by decide)))) e_204
    have e_309 := r_302 tokenAt_ _ (by simp only [List.mem_cons, List.not_mem_nil, or_false, not_or]; exact (Ne.symm (nd_ne ND (i := 0) (j := 4) rfl rfl (by decide)))) e_205
    have e_310 := r_302 tokenSize_ _ (by simp only [List.mem_cons, List.not_mem_nil, or_false, not_or]; exact (Ne.symm (nd_ne ND (i := 0) (j := 5) rfl rfl (by decide)))) e_206
    have e_311 := r_302 groupKind_ _ (by simp only [List.mem_cons, List.not_mem_nil, or_false, not_or]; exact (Ne.symm (nd_ne ND (i := 0) (j := 6) rfl rfl (by decide)))) e_207
    have e_312 := r_302 groupPhrase_ _ (by simp only [List.mem_cons, List.not_mem_nil, or_false, not_or]; exact (Ne.symm (nd_ne ND (i := 0) (j := 7) rfl rfl (by decide)))) e_208
    have e_313 := r_302 groupSize_ _ (by simp only [List.mem_cons, List.not_mem_nil, or_false, not_or]; exact (Ne.symm (nd_ne ND (i := 0) (j := 8) rfl rfl (by decide)))) e_209
    have e_314 := r_302 groupMask_ _ (by simp only [List.mem_cons, List.not_mem_nil, or_false, not_or]; exact (Ne.symm (nd_ne ND (i := 0) (j := 9) rfl rfl (by decide)))) e_210
    have e_315 := r_302 groupFar_ _ (by simp only [List.mem_cons, List.not_mem_nil, or_false, not_or]; exact (Ne.symm (nd_ne ND (i := 0) (j := 10) rfl rfl (by decide)))) e_211
    have e_316 := r_302 out_ _ (by simp only [List.mem_cons, List.not_mem_nil, or_false, not_or]; exact (Ne.symm (nd_ne ND (i := 0) (j := 11) rfl rfl (by decide)))) eo1
    have e_317 := r_302 top_ _ (by simp only [List.mem_cons, List.not_mem_nil, or_false, not_or]; exact (Ne.symm (nd_ne ND (i := 0) (j := 12) rfl rfl (by decide)))) e_212
    have e_318 := r_302 masks_ _ (by simp only [List.mem_cons, List.not_mem_nil, or_false, not_or]; exact (Ne.symm (nd_ne ND (i := 0) (j := 13) rfl rfl (by decide)))) e_213
    have r_319 := r_214.trans (r_302.mono (by simp))
    have g_320 : fs_295[(4 : Nat)]? = some (.ref asked_) := (ga_301 4 (by decide)).trans g_215
    have g_321 : fs_295[(11 : Nat)]? = some (.int (nI asz)) := (ga_301 11 (by decide)).trans g_216
    have g_322 : fs_295[(41 : Nat)]? = some (.ref firstToken_) := (ga_301 41 (by decide)).trans g_217
    have g_323 : fs_295[(42 : Nat)]? = some (.ref starred_) := (ga_301 42 (by decide)).trans g_218
    have g_324 : fs_295[(43 : Nat)]? = some (.ref tokenAt_) := (ga_301 43 (by decide)).trans g_219
    have g_325 : fs_295[(44 : Nat)]? = some (.ref tokenSize_) := (ga_301 44 (by decide)).trans g_220
    have g_326 : fs_295[(45 : Nat)]? = some (.ref groupKind_) := (ga_301 45 (by decide)).trans g_221
    have g_327 : fs_295[(46 : Nat)]? = some (.ref groupPhrase_) := (ga_301 46 (by decide)).trans g_222
    have g_328 : fs_295[(47 : Nat)]? = some (.ref groupSize_) := (ga_301 47 (by decide)).trans g_223
    have g_329 : fs_295[(48 : Nat)]? = some (.ref groupMask_) := (ga_301 48 (by decide)).trans g_224
    have g_330 : fs_295[(49 : Nat)]? = some (.ref groupFar_) := (ga_301 49 (by decide)).trans g_225
    have g_331 : fs_295[(50 : Nat)]? = some (.ref out_) := (ga_301 50 (by decide)).trans g_226
    have g_332 : fs_295[(51 : Nat)]? = some (.ref top_) := (ga_301 51 (by decide)).trans g_227
    have g_333 : fs_295[(52 : Nat)]? = some (.ref masks_) := (ga_301 52 (by decide)).trans g_228
    have g_334 : fs_295[(28 : Nat)]? = some (.int (nI x9)) := (ga_301 28 (by decide)).trans g_229
    have g_335 : fs_295[(29 : Nat)]? = some (.int kd9) := (ga_301 29 (by decide)).trans g_230
    have g_336 : fs_295[(30 : Nat)]? = some (.int (nI x9)) := (ga_301 30 (by decide)).trans g_231
    have g_337 : fs_295[(31 : Nat)]? = some (.int (nI y_)) := (ga_301 31 (by decide)).trans g_232
    have g_338 : fs_295[(34 : Nat)]? = some (.int (nI p_)) := (ga_301 34 (by decide)).trans g_234
    have g_339 : fs_295[(35 : Nat)]? = some (.int (nI t_)) := (ga_301 35 (by decide)).trans g_235
    have g_340 : fs_295[(36 : Nat)]? = some (.int (nI g_)) := (ga_301 36 (by decide)).trans g_236
    have g_341 : fs_295[(39 : Nat)]? = some (.int mk_) := (ga_301 39 (by decide)).trans g_237
    have g_342 : fs_295[(61 : Nat)]? = some (.int (nI b9)) := (ga_301 61 (by decide)).trans g_238
    have g_343 : fs_295[(37 : Nat)]? = some (.int (nI o1)) := (ga_301 37 (by decide)).trans go1
    have g_344 : fs_295[(38 : Nat)]? = some (.int (nI n1)) := (ga_301 38 (by decide)).trans gt1
    have ga_345 : ∀ i : Nat, i ∉ [28, 29, 30, 31, 33, 34, 35, 36, 37, 38, 39, 61] → fs_295[i]? = fs[i]? := fun i hi => (ga_301 i (fun z => hi (by simp only [List.mem_cons, List.not_mem_nil, or_false] at z ⊢; omega))).trans (ga_239 i hi)
    refine x_le (xw_le_n xw_le_e) ?_
    refine s_Model_reads_116 ?_
    exact ⟨rfl, p_, t_, g_, o1, _, _, _, _, _, _, _, _, _, _, _, _, _, _, _, _, _, _, _, _, _, _, _, hp12_, hgp_, fun q => absurd (hw_296 q).1 (by decide), l_298, e_299, g_300, g_338, g_343, g_334, g_335, g_336, g_337, g_339, g_340, g_344, g_341, g_342, ga_345, e_307, e_308, e_309, e_310, e_311, e_312, e_313, e_314, e_315, e_316, e_317, e_318, r_319⟩
