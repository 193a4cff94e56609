/-! the reference in general states: by program (wip/tools/gen5.py, gen6.py, gen7.py) -/
def EvP (m begins_ lasts_ : Nat) (gs : List Value) (h0 h : xw_A) : Prop := ∃ (cl : Int32) (fb fl : Nat → Int32) (fs : List Value), fs.length = 62 ∧ h m = some (.inr (11, fs)) ∧ fs[55]? = some (.int cl) ∧ (∀ i, i ∉ [55] → fs[i]? = gs[i]?) ∧ h begins_ = some (.inl (0, 24, .inl fb)) ∧ h lasts_ = some (.inl (0, 24, .inl fl)) ∧ FrO [m, begins_, lasts_] h0 h
theorem hgt_pre {f : Nat → Int32} : ∀ n a, hgt f n = some a → ∀ i, i ≤ n → ∃ b, hgt f i = some b := by
  intro n
  induction n with
  | zero => intro a h i hi; obtain rfl : i = 0 := (by omega); exact ⟨_, h⟩
  | succ n ih =>
    intro a h i hi
    rcases Nat.eq_or_lt_of_le hi with q | q
    · subst q; exact ⟨a, h⟩
    · cases q2 : hgt f n with
      | none => rw [hgt, q2] at h; cases h
      | some b => exact ih b q2 i (by omega)
theorem hgt_two {f : Nat → Int32} {o a i n : Nat} (h : hgt f o = some a) (hi : i < o) (hn : hgt f i = some n) (hf : f i < 0) : 2 ≤ n ∧ hgt f (i + 1) = some (n - 1) := by
  obtain ⟨b, hb⟩ := hgt_pre o a h (i + 1) (by omega)
  have hb2 := hb
  rw [hgt, hn, Option.bind_some, if_pos hf] at hb2
  split at hb2
  · rename_i q
    exact ⟨q, by rw [hb, ← hb2]⟩
  · cases hb2
theorem hgt_one {f : Nat → Int32} {i n : Nat} (hn : hgt f i = some n) (hf : ¬ f i < 0) : hgt f (i + 1) = some (n + 1) := by
  rw [hgt, hn, Option.bind_some, if_neg hf]
theorem vnb {y : Int32} (h : y = 0 ∨ y = 1) : vp_nar .boolean y = 0 ∨ vp_nar .boolean y = 1 := by
  rcases h with rfl | rfl
  · exact Or.inl rfl
  · exact Or.inr rfl
theorem nI_m1 (n : Nat) : nI (n + 1) + (-1) = nI n := by rw [← Int32.sub_eq_add_neg, nI_pred]
set_option maxHeartbeats 2000000 in
theorem f_holds {G : xw_G} {F L : Nat} {h : xw_A} {m draft_ asked_ prepared_ preparedSize_ texts_ sizes_ weights_ entries_ lies_ live_ row_ level_ oldTexts_ oldSizes_ oldLies_ oldLive_ oldRow_ firstToken_ starred_ tokenAt_ tokenSize_ groupKind_ groupPhrase_ groupSize_ groupMask_ groupFar_ out_ top_ masks_ begins_ lasts_ truth_ answers_ order_ scores_ : Nat} {fb fl ca cs ft fa c1 c2 c5 c6 c7 c9 c8 fz : Nat → Int32} {cl : Int32} {fs : List Value} (l : fs.length = 62) (e : h m = some (.inr (11, fs))) (g_column : fs[55]? = some (.int cl)) (g_begins : fs[53]? = some (.ref begins_)) (e_begins : h begins_ = some (.inl (0, 24, .inl fb))) (g_lasts : fs[54]? = some (.ref lasts_)) (e_lasts : h lasts_ = some (.inl (0, 24, .inl fl))) (g_tokenAt : fs[43]? = some (.ref tokenAt_)) (e_tokenAt : h tokenAt_ = some (.inl (0, 60, .inl ca))) (g_tokenSize : fs[44]? = some (.ref tokenSize_)) (e_tokenSize : h tokenSize_ = some (.inl (0, 60, .inl cs))) (g_texts : fs[7]? = some (.ref texts_)) (e_texts : h texts_ = some (.inl (0, 2304, .inl ft))) (g_asked : fs[4]? = some (.ref asked_)) (e_asked : h asked_ = some (.inl (0, 96, .inl fa))) (g_firstToken : fs[41]? = some (.ref firstToken_)) (e_firstToken : h firstToken_ = some (.inl (0, 13, .inl c1))) (g_starred : fs[42]? = some (.ref starred_)) (e_starred : h starred_ = some (.inl (0, 13, .inl c2))) (g_groupKind : fs[45]? = some (.ref groupKind_)) (e_groupKind : h groupKind_ = some (.inl (0, 13, .inl c5))) (g_groupPhrase : fs[46]? = some (.ref groupPhrase_)) (e_groupPhrase : h groupPhrase_ = some (.inl (0, 13, .inl c6))) (g_groupSize : fs[47]? = some (.ref groupSize_)) (e_groupSize : h groupSize_ = some (.inl (0, 13, .inl c7))) (g_groupFar : fs[49]? = some (.ref groupFar_)) (e_groupFar : h groupFar_ = some (.inl (0, 13, .inl c9))) (g_groupMask : fs[48]? = some (.ref groupMask_)) (e_groupMask : h groupMask_ = some (.inl (0, 13, .inl c8))) (g_sizes : fs[8]? = some (.ref sizes_)) (e_sizes : h sizes_ = some (.inl (0, 48, .inl fz))) (ND : NDl [m, draft_, asked_, prepared_, preparedSize_, texts_, sizes_, weights_, entries_, lies_, live_, row_, level_, oldTexts_, oldSizes_, oldLies_, oldLive_, oldRow_, firstToken_, starred_, tokenAt_, tokenSize_, groupKind_, groupPhrase_, groupSize_, groupMask_, groupFar_, out_, top_, masks_, begins_, lasts_, truth_, answers_, order_, scores_]) {P t : Nat} (hP : P ≤ 12) (PH : PhO c1 P t) (ht : t ≤ 49) (TK : TkO ca cs t 97) {g a q r : Nat} (hg : g < 13) (h6 : c6 g = nI a) (h7 : c7 g = nI q) (hq : 1 ≤ q) (haq : a + q ≤ P) (hr : r < 24) (hz : SZo fz 48) (hF : 7 ≤ F) (hL : 161 ≤ L) :
    xw_Met G m_Model_holds F L 0 0 [.ref m, .int (nI g), .int (nI r)] h (fun v h' => (∃ y : Int32, v = some (.int y) ∧ (y = 0 ∨ y = 1)) ∧ EvP m begins_ lasts_ fs h h') (fun _ _ => False) := by
  refine xw_Met.of rfl (by decide) (Nat.le_of_ble_eq_true rfl) ?_
  obtain ⟨n0, hz0, hz0b⟩ := hz (2 * r + 0) (by omega)
  obtain ⟨n1, hz1, hz1b⟩ := hz (2 * r + 1) (by omega)
  have ga0 : ∀ i, i ∉ [55] → fs[i]? = fs[i]? := fun _ _ => rfl
  have r0 : FrO [m, begins_, lasts_] h h := FrO.rf
  refine s_Model_holds_0 ?_
  refine s_Model_holds_2 (fun z => absurd z (by decide)) (fun z_1 => ?_)
  refine s_Model_holds_7 l e g_groupMask e_groupMask (vp_in_nI (by omega) (by omega)) (fun z_2 => ?_) (fun z_3 => ?_)
  · skip
    refine s_Model_holds_37 ?_
    rw [show (0 : Int32) + 1 = 1 from rfl]
    refine s_Model_holds_2 (fun z => absurd z (by decide)) (fun z_4 => ?_)
    refine s_Model_holds_7 l e g_groupMask e_groupMask (vp_in_nI (by omega) (by omega)) (fun z_5 => ?_) (fun z_6 => ?_)
    · skip
      refine s_Model_holds_37 ?_
      rw [show (1 : Int32) + 1 = 2 from rfl]
      refine s_Model_holds_2 (fun z_7 => ?_) (fun z => absurd z (by decide))
      refine s_Model_holds_43 ?_
      exact ⟨⟨_, rfl, by simp⟩, ⟨_, _, _, _, l, e, g_column, ga0, e_begins, e_lasts, r0⟩⟩
    · skip
      refine s_Model_holds_21 ?_
      refine x_callV (As := [.int (nI r), .int (nI 1)]) (b := m) (rest := []) (F1 := 3) (L1 := 62) (mc := 0) (ms := 0) d_Model_holds_24 cV_Model_153 (f_opens l e g_column g_texts e_texts g_sizes e_sizes g_begins e_begins g_lasts e_lasts (nd_ne ND (i := 30) (j := 31) rfl rfl (by decide)) (show r < 24 by omega) (show 1 < 2 by omega) hz1 hz1b (by omega) (by omega)) e ⟨by decide, rfl⟩ ⟨by omega, by show 8 + (6 + 11) + 62 ≤ _; omega⟩ ⟨by omega, by omega⟩ (Nat.le_of_ble_eq_true rfl) (fun v_22 h_21 p_23 => ?_)
      obtain ⟨rfl, k_8, fb_9, fl_10, fs_11, l_12, e_13, g_14, ga_15, eb_16, el_17, TW_18, hk_19, fr_20⟩ := p_23
      have e_24 := fr_20 tokenAt_ _ (by simp only [List.mem_cons, List.not_mem_nil, or_false, not_or]; exact ⟨(Ne.symm (nd_ne ND (i := 0) (j := 20) rfl rfl (by decide))), (Ne.symm (nd_ne ND (i := 30) (j := 20) rfl rfl (by decide))), (Ne.symm (nd_ne ND (i := 31) (j := 20) rfl rfl (by decide)))⟩) e_tokenAt
      have e_25 := fr_20 tokenSize_ _ (by simp only [List.mem_cons, List.not_mem_nil, or_false, not_or]; exact ⟨(Ne.symm (nd_ne ND (i := 0) (j := 21) rfl rfl (by decide))), (Ne.symm (nd_ne ND (i := 30) (j := 21) rfl rfl (by decide))), (Ne.symm (nd_ne ND (i := 31) (j := 21) rfl rfl (by decide)))⟩) e_tokenSize
      have e_26 := fr_20 texts_ _ (by simp only [List.mem_cons, List.not_mem_nil, or_false, not_or]; exact ⟨(Ne.symm (nd_ne ND (i := 0) (j := 5) rfl rfl (by decide))), (Ne.symm (nd_ne ND (i := 30) (j := 5) rfl rfl (by decide))), (Ne.symm (nd_ne ND (i := 31) (j := 5) rfl rfl (by decide)))⟩) e_texts
      have e_27 := fr_20 asked_ _ (by simp only [List.mem_cons, List.not_mem_nil, or_false, not_or]; exact ⟨(Ne.symm (nd_ne ND (i := 0) (j := 2) rfl rfl (by decide))), (Ne.symm (nd_ne ND (i := 30) (j := 2) rfl rfl (by decide))), (Ne.symm (nd_ne ND (i := 31) (j := 2) rfl rfl (by decide)))⟩) e_asked
      have e_28 := fr_20 firstToken_ _ (by simp only [List.mem_cons, List.not_mem_nil, or_false, not_or]; exact ⟨(Ne.symm (nd_ne ND (i := 0) (j := 18) rfl rfl (by decide))), (Ne.symm (nd_ne ND (i := 30) (j := 18) rfl rfl (by decide))), (Ne.symm (nd_ne ND (i := 31) (j := 18) rfl rfl (by decide)))⟩) e_firstToken
      have e_29 := fr_20 starred_ _ (by simp only [List.mem_cons, List.not_mem_nil, or_false, not_or]; exact ⟨(Ne.symm (nd_ne ND (i := 0) (j := 19) rfl rfl (by decide))), (Ne.symm (nd_ne ND (i := 30) (j := 19) rfl rfl (by decide))), (Ne.symm (nd_ne ND (i := 31) (j := 19) rfl rfl (by decide)))⟩) e_starred
      have e_30 := fr_20 groupKind_ _ (by simp only [List.mem_cons, List.not_mem_nil, or_false, not_or]; exact ⟨(Ne.symm (nd_ne ND (i := 0) (j := 22) rfl rfl (by decide))), (Ne.symm (nd_ne ND (i := 30) (j := 22) rfl rfl (by decide))), (Ne.symm (nd_ne ND (i := 31) (j := 22) rfl rfl (by decide)))⟩) e_groupKind
      have e_31 := fr_20 groupPhrase_ _ (by simp only [List.mem_cons, List.not_mem_nil, or_false, not_or]; exact ⟨(Ne.symm (nd_ne ND (i := 0) (j := 23) rfl rfl (by decide))), (Ne.symm (nd_ne ND (i := 30) (j := 23) rfl rfl (by decide))), (Ne.symm (nd_ne ND (i := 31) (j := 23) rfl rfl (by decide)))⟩) e_groupPhrase
      have e_32 := fr_20 groupSize_ _ (by simp only [List.mem_cons, List.not_mem_nil, or_false, not_or]; exact ⟨(Ne.symm (nd_ne ND (i := 0) (j := 24) rfl rfl (by decide))), (Ne.symm (nd_ne ND (i := 30) (j := 24) rfl rfl (by decide))), (Ne.symm (nd_ne ND (i := 31) (j := 24) rfl rfl (by decide)))⟩) e_groupSize
      have e_33 := fr_20 groupFar_ _ (by simp only [List.mem_cons, List.not_mem_nil, or_false, not_or]; exact ⟨(Ne.symm (nd_ne ND (i := 0) (j := 26) rfl rfl (by decide))), (Ne.symm (nd_ne ND (i := 30) (j := 26) rfl rfl (by decide))), (Ne.symm (nd_ne ND (i := 31) (j := 26) rfl rfl (by decide)))⟩) e_groupFar
      have e_34 := fr_20 groupMask_ _ (by simp only [List.mem_cons, List.not_mem_nil, or_false, not_or]; exact ⟨(Ne.symm (nd_ne ND (i := 0) (j := 25) rfl rfl (by decide))), (Ne.symm (nd_ne ND (i := 30) (j := 25) rfl rfl (by decide))), (Ne.symm (nd_ne ND (i := 31) (j := 25) rfl rfl (by decide)))⟩) e_groupMask
      have e_35 := fr_20 sizes_ _ (by simp only [List.mem_cons, List.not_mem_nil, or_false, not_or]; exact ⟨(Ne.symm (nd_ne ND (i := 0) (j := 6) rfl rfl (by decide))), (Ne.symm (nd_ne ND (i := 30) (j := 6) rfl rfl (by decide))), (Ne.symm (nd_ne ND (i := 31) (j := 6) rfl rfl (by decide)))⟩) e_sizes
      have g_36 : fs_11[53]? = some (.ref begins_) := (ga_15 53 (by decide)).trans g_begins
      have g_37 : fs_11[54]? = some (.ref lasts_) := (ga_15 54 (by decide)).trans g_lasts
      have g_38 : fs_11[43]? = some (.ref tokenAt_) := (ga_15 43 (by decide)).trans g_tokenAt
      have g_39 : fs_11[44]? = some (.ref tokenSize_) := (ga_15 44 (by decide)).trans g_tokenSize
      have g_40 : fs_11[7]? = some (.ref texts_) := (ga_15 7 (by decide)).trans g_texts
      have g_41 : fs_11[4]? = some (.ref asked_) := (ga_15 4 (by decide)).trans g_asked
      have g_42 : fs_11[41]? = some (.ref firstToken_) := (ga_15 41 (by decide)).trans g_firstToken
      have g_43 : fs_11[42]? = some (.ref starred_) := (ga_15 42 (by decide)).trans g_starred
      have g_44 : fs_11[45]? = some (.ref groupKind_) := (ga_15 45 (by decide)).trans g_groupKind
      have g_45 : fs_11[46]? = some (.ref groupPhrase_) := (ga_15 46 (by decide)).trans g_groupPhrase
      have g_46 : fs_11[47]? = some (.ref groupSize_) := (ga_15 47 (by decide)).trans g_groupSize
      have g_47 : fs_11[49]? = some (.ref groupFar_) := (ga_15 49 (by decide)).trans g_groupFar
      have g_48 : fs_11[48]? = some (.ref groupMask_) := (ga_15 48 (by decide)).trans g_groupMask
      have g_49 : fs_11[8]? = some (.ref sizes_) := (ga_15 8 (by decide)).trans g_sizes
      have ga_50 : ∀ i, i ∉ [55] → fs_11[i]? = fs[i]? := fun i hi => (ga_15 i (fun z => hi (by simp only [List.mem_cons, List.not_mem_nil, or_false] at z ⊢; omega))).trans (ga0 i hi)
      have r_51 := r0.trans (fr_20.mono (by simp))
      refine s_Model_holds_27 ?_
      have hk24_52 : k_8 ≤ 24 := by have q9 := (tokN_half (fun j => ft (96 * r + 48 * 1 + j)) n1).1; rw [← hk_19] at q9; omega
      refine x_callV (As := [.int (nI g)]) (b := m) (rest := []) (F1 := 6) (L1 := 136) (mc := 0) (ms := 0) d_Model_holds_29 cV_Model_322 (f_holdsHere l_12 e_13 g_14 g_36 eb_16 g_37 el_17 g_38 e_24 g_39 e_25 g_40 e_26 g_41 e_27 g_42 e_28 g_43 e_29 g_44 e_30 g_45 e_31 g_46 e_32 g_47 e_33 hP PH ht TK TW_18 hk24_52 (by omega) hg h6 h7 hq haq (by omega) (by omega)) e_13 ⟨by decide, rfl⟩ ⟨by omega, by show 8 + (6 + 11) + 136 ≤ _; omega⟩ ⟨by omega, by omega⟩ (Nat.le_of_ble_eq_true rfl) (fun v_56 h_55 p_57 => ?_)
      obtain ⟨⟨y_53, rfl, hy_54⟩, rfl⟩ := p_57
      refine s_Model_holds_32 (fun z_58 => ?_) (fun z_59 => ?_)
      · skip
        refine s_Model_holds_37 ?_
        rw [show (1 : Int32) + 1 = 2 from rfl]
        refine s_Model_holds_2 (fun z_60 => ?_) (fun z => absurd z (by decide))
        refine s_Model_holds_43 ?_
        exact ⟨⟨_, rfl, by simp⟩, ⟨_, _, _, _, l_12, e_13, g_14, ga_50, eb_16, el_17, r_51⟩⟩
      · skip
        refine s_Model_holds_35 ?_
        exact ⟨⟨_, rfl, by simp⟩, ⟨_, _, _, _, l_12, e_13, g_14, ga_50, eb_16, el_17, r_51⟩⟩
  · skip
    refine s_Model_holds_21 ?_
    refine x_callV (As := [.int (nI r), .int (nI 0)]) (b := m) (rest := []) (F1 := 3) (L1 := 62) (mc := 0) (ms := 0) d_Model_holds_24 cV_Model_153 (f_opens l e g_column g_texts e_texts g_sizes e_sizes g_begins e_begins g_lasts e_lasts (nd_ne ND (i := 30) (j := 31) rfl rfl (by decide)) (show r < 24 by omega) (show 0 < 2 by omega) hz0 hz0b (by omega) (by omega)) e ⟨by decide, rfl⟩ ⟨by omega, by show 8 + (6 + 11) + 62 ≤ _; omega⟩ ⟨by omega, by omega⟩ (Nat.le_of_ble_eq_true rfl) (fun v_75 h_74 p_76 => ?_)
    obtain ⟨rfl, k_61, fb_62, fl_63, fs_64, l_65, e_66, g_67, ga_68, eb_69, el_70, TW_71, hk_72, fr_73⟩ := p_76
    have e_77 := fr_73 tokenAt_ _ (by simp only [List.mem_cons, List.not_mem_nil, or_false, not_or]; exact ⟨(Ne.symm (nd_ne ND (i := 0) (j := 20) rfl rfl (by decide))), (Ne.symm (nd_ne ND (i := 30) (j := 20) rfl rfl (by decide))), (Ne.symm (nd_ne ND (i := 31) (j := 20) rfl rfl (by decide)))⟩) e_tokenAt
    have e_78 := fr_73 tokenSize_ _ (by simp only [List.mem_cons, List.not_mem_nil, or_false, not_or]; exact ⟨(Ne.symm (nd_ne ND (i := 0) (j := 21) rfl rfl (by decide))), (Ne.symm (nd_ne ND (i := 30) (j := 21) rfl rfl (by decide))), (Ne.symm (nd_ne ND (i := 31) (j := 21) rfl rfl (by decide)))⟩) e_tokenSize
    have e_79 := fr_73 texts_ _ (by simp only [List.mem_cons, List.not_mem_nil, or_false, not_or]; exact ⟨(Ne.symm (nd_ne ND (i := 0) (j := 5) rfl rfl (by decide))), (Ne.symm (nd_ne ND (i := 30) (j := 5) rfl rfl (by decide))), (Ne.symm (nd_ne ND (i := 31) (j := 5) rfl rfl (by decide)))⟩) e_texts
    have e_80 := fr_73 asked_ _ (by simp only [List.mem_cons, List.not_mem_nil, or_false, not_or]; exact ⟨(Ne.symm (nd_ne ND (i := 0) (j := 2) rfl rfl (by decide))), (Ne.symm (nd_ne ND (i := 30) (j := 2) rfl rfl (by decide))), (Ne.symm (nd_ne ND (i := 31) (j := 2) rfl rfl (by decide)))⟩) e_asked
    have e_81 := fr_73 firstToken_ _ (by simp only [List.mem_cons, List.not_mem_nil, or_false, not_or]; exact ⟨(Ne.symm (nd_ne ND (i := 0) (j := 18) rfl rfl (by decide))), (Ne.symm (nd_ne ND (i := 30) (j := 18) rfl rfl (by decide))), (Ne.symm (nd_ne ND (i := 31) (j := 18) rfl rfl (by decide)))⟩) e_firstToken
    have e_82 := fr_73 starred_ _ (by simp only [List.mem_cons, List.not_mem_nil, or_false, not_or]; exact ⟨(Ne.symm (nd_ne ND (i := 0) (j := 19) rfl rfl (by decide))), (Ne.symm (nd_ne ND (i := 30) (j := 19) rfl rfl (by decide))), (Ne.symm (nd_ne ND (i := 31) (j := 19) rfl rfl (by decide)))⟩) e_starred
    have e_83 := fr_73 groupKind_ _ (by simp only [List.mem_cons, List.not_mem_nil, or_false, not_or]; exact ⟨(Ne.symm (nd_ne ND (i := 0) (j := 22) rfl rfl (by decide))), (Ne.symm (nd_ne ND (i := 30) (j := 22) rfl rfl (by decide))), (Ne.symm (nd_ne ND (i := 31) (j := 22) rfl rfl (by decide)))⟩) e_groupKind
    have e_84 := fr_73 groupPhrase_ _ (by simp only [List.mem_cons, List.not_mem_nil, or_false, not_or]; exact ⟨(Ne.symm (nd_ne ND (i := 0) (j := 23) rfl rfl (by decide))), (Ne.symm (nd_ne ND (i := 30) (j := 23) rfl rfl (by decide))), (Ne.symm (nd_ne ND (i := 31) (j := 23) rfl rfl (by decide)))⟩) e_groupPhrase
    have e_85 := fr_73 groupSize_ _ (by simp only [List.mem_cons, List.not_mem_nil, or_false, not_or]; exact ⟨(Ne.symm (nd_ne ND (i := 0) (j := 24) rfl rfl (by decide))), (Ne.symm (nd_ne ND (i := 30) (j := 24) rfl rfl (by decide))), (Ne.symm (nd_ne ND (i := 31) (j := 24) rfl rfl (by decide)))⟩) e_groupSize
    have e_86 := fr_73 groupFar_ _ (by simp only [List.mem_cons, List.not_mem_nil, or_false, not_or]; exact ⟨(Ne.symm (nd_ne ND (i := 0) (j := 26) rfl rfl (by decide))), (Ne.symm (nd_ne ND (i := 30) (j := 26) rfl rfl (by decide))), (Ne.symm (nd_ne ND (i := 31) (j := 26) rfl rfl (by decide)))⟩) e_groupFar
    have e_87 := fr_73 groupMask_ _ (by simp only [List.mem_cons, List.not_mem_nil, or_false, not_or]; exact ⟨(Ne.symm (nd_ne ND (i := 0) (j := 25) rfl rfl (by decide))), (Ne.symm (nd_ne ND (i := 30) (j := 25) rfl rfl (by decide))), (Ne.symm (nd_ne ND (i := 31) (j := 25) rfl rfl (by decide)))⟩) e_groupMask
    have e_88 := fr_73 sizes_ _ (by simp only [List.mem_cons, List.not_mem_nil, or_false, not_or]; exact ⟨(Ne.symm (nd_ne ND (i := 0) (j := 6) rfl rfl (by decide))), (Ne.symm (nd_ne ND (i := 30) (j := 6) rfl rfl (by decide))), (Ne.symm (nd_ne ND (i := 31) (j := 6) rfl rfl (by decide)))⟩) e_sizes
    have g_89 : fs_64[53]? = some (.ref begins_) := (ga_68 53 (by decide)).trans g_begins
    have g_90 : fs_64[54]? = some (.ref lasts_) := (ga_68 54 (by decide)).trans g_lasts
    have g_91 : fs_64[43]? = some (.ref tokenAt_) := (ga_68 43 (by decide)).trans g_tokenAt
    have g_92 : fs_64[44]? = some (.ref tokenSize_) := (ga_68 44 (by decide)).trans g_tokenSize
    have g_93 : fs_64[7]? = some (.ref texts_) := (ga_68 7 (by decide)).trans g_texts
    have g_94 : fs_64[4]? = some (.ref asked_) := (ga_68 4 (by decide)).trans g_asked
    have g_95 : fs_64[41]? = some (.ref firstToken_) := (ga_68 41 (by decide)).trans g_firstToken
    have g_96 : fs_64[42]? = some (.ref starred_) := (ga_68 42 (by decide)).trans g_starred
    have g_97 : fs_64[45]? = some (.ref groupKind_) := (ga_68 45 (by decide)).trans g_groupKind
    have g_98 : fs_64[46]? = some (.ref groupPhrase_) := (ga_68 46 (by decide)).trans g_groupPhrase
    have g_99 : fs_64[47]? = some (.ref groupSize_) := (ga_68 47 (by decide)).trans g_groupSize
    have g_100 : fs_64[49]? = some (.ref groupFar_) := (ga_68 49 (by decide)).trans g_groupFar
    have g_101 : fs_64[48]? = some (.ref groupMask_) := (ga_68 48 (by decide)).trans g_groupMask
    have g_102 : fs_64[8]? = some (.ref sizes_) := (ga_68 8 (by decide)).trans g_sizes
    have ga_103 : ∀ i, i ∉ [55] → fs_64[i]? = fs[i]? := fun i hi => (ga_68 i (fun z => hi (by simp only [List.mem_cons, List.not_mem_nil, or_false] at z ⊢; omega))).trans (ga0 i hi)
    have r_104 := r0.trans (fr_73.mono (by simp))
    refine s_Model_holds_27 ?_
    have hk24_105 : k_61 ≤ 24 := by have q9 := (tokN_half (fun j => ft (96 * r + 48 * 0 + j)) n0).1; rw [← hk_72] at q9; omega
    refine x_callV (As := [.int (nI g)]) (b := m) (rest := []) (F1 := 6) (L1 := 136) (mc := 0) (ms := 0) d_Model_holds_29 cV_Model_322 (f_holdsHere l_65 e_66 g_67 g_89 eb_69 g_90 el_70 g_91 e_77 g_92 e_78 g_93 e_79 g_94 e_80 g_95 e_81 g_96 e_82 g_97 e_83 g_98 e_84 g_99 e_85 g_100 e_86 hP PH ht TK TW_71 hk24_105 (by omega) hg h6 h7 hq haq (by omega) (by omega)) e_66 ⟨by decide, rfl⟩ ⟨by omega, by show 8 + (6 + 11) + 136 ≤ _; omega⟩ ⟨by omega, by omega⟩ (Nat.le_of_ble_eq_true rfl) (fun v_109 h_108 p_110 => ?_)
    obtain ⟨⟨y_106, rfl, hy_107⟩, rfl⟩ := p_110
    refine s_Model_holds_32 (fun z_111 => ?_) (fun z_112 => ?_)
    · skip
      refine s_Model_holds_37 ?_
      rw [show (0 : Int32) + 1 = 1 from rfl]
      refine s_Model_holds_2 (fun z => absurd z (by decide)) (fun z_113 => ?_)
      refine s_Model_holds_7 l_65 e_66 g_101 e_87 (vp_in_nI (by omega) (by omega)) (fun z_114 => ?_) (fun z_115 => ?_)
      · skip
        refine s_Model_holds_37 ?_
        rw [show (1 : Int32) + 1 = 2 from rfl]
        refine s_Model_holds_2 (fun z_116 => ?_) (fun z => absurd z (by decide))
        refine s_Model_holds_43 ?_
        exact ⟨⟨_, rfl, by simp⟩, ⟨_, _, _, _, l_65, e_66, g_67, ga_103, eb_69, el_70, r_104⟩⟩
      · skip
        refine s_Model_holds_21 ?_
        refine x_callV (As := [.int (nI r), .int (nI 1)]) (b := m) (rest := []) (F1 := 3) (L1 := 62) (mc := 0) (ms := 0) d_Model_holds_24 cV_Model_153 (f_opens l_65 e_66 g_67 g_93 e_79 g_102 e_88 g_89 eb_69 g_90 el_70 (nd_ne ND (i := 30) (j := 31) rfl rfl (by decide)) (show r < 24 by omega) (show 1 < 2 by omega) hz1 hz1b (by omega) (by omega)) e_66 ⟨by decide, rfl⟩ ⟨by omega, by show 8 + (6 + 11) + 62 ≤ _; omega⟩ ⟨by omega, by omega⟩ (Nat.le_of_ble_eq_true rfl) (fun v_131 h_130 p_132 => ?_)
        obtain ⟨rfl, k_117, fb_118, fl_119, fs_120, l_121, e_122, g_123, ga_124, eb_125, el_126, TW_127, hk_128, fr_129⟩ := p_132
        have e_133 := fr_129 tokenAt_ _ (by simp only [List.mem_cons, List.not_mem_nil, or_false, not_or]; exact ⟨(Ne.symm (nd_ne ND (i := 0) (j := 20) rfl rfl (by decide))), (Ne.symm (nd_ne ND (i := 30) (j := 20) rfl rfl (by decide))), (Ne.symm (nd_ne ND (i := 31) (j := 20) rfl rfl (by decide)))⟩) e_77
        have e_134 := fr_129 tokenSize_ _ (by simp only [List.mem_cons, List.not_mem_nil, or_false, not_or]; exact ⟨(Ne.symm (nd_ne ND (i := 0) (j := 21) rfl rfl (by decide))), (Ne.symm (nd_ne ND (i := 30) (j := 21) rfl rfl (by decide))), (Ne.symm (nd_ne ND (i := 31) (j := 21) rfl rfl (by decide)))⟩) e_78
        have e_135 := fr_129 texts_ _ (by simp only [List.mem_cons, List.not_mem_nil, or_false, not_or]; exact ⟨(Ne.symm (nd_ne ND (i := 0) (j := 5) rfl rfl (by decide))), (Ne.symm (nd_ne ND (i := 30) (j := 5) rfl rfl (by decide))), (Ne.symm (nd_ne ND (i := 31) (j := 5) rfl rfl (by decide)))⟩) e_79
        have e_136 := fr_129 asked_ _ (by simp only [List.mem_cons, List.not_mem_nil, or_false, not_or]; exact ⟨(Ne.symm (nd_ne ND (i := 0) (j := 2) rfl rfl (by decide))), (Ne.symm (nd_ne ND (i := 30) (j := 2) rfl rfl (by decide))), (Ne.symm (nd_ne ND (i := 31) (j := 2) rfl rfl (by decide)))⟩) e_80
        have e_137 := fr_129 firstToken_ _ (by simp only [List.mem_cons, List.not_mem_nil, or_false, not_or]; exact ⟨(Ne.symm (nd_ne ND (i := 0) (j := 18) rfl rfl (by decide))), (Ne.symm (nd_ne ND (i := 30) (j := 18) rfl rfl (by decide))), (Ne.symm (nd_ne ND (i := 31) (j := 18) rfl rfl (by decide)))⟩) e_81
        have e_138 := fr_129 starred_ _ (by simp only [List.mem_cons, List.not_mem_nil, or_false, not_or]; exact ⟨(Ne.symm (nd_ne ND (i := 0) (j := 19) rfl rfl (by decide))), (Ne.symm (nd_ne ND (i := 30) (j := 19) rfl rfl (by decide))), (Ne.symm (nd_ne ND (i := 31) (j := 19) rfl rfl (by decide)))⟩) e_82
        have e_139 := fr_129 groupKind_ _ (by simp only [List.mem_cons, List.not_mem_nil, or_false, not_or]; exact ⟨(Ne.symm (nd_ne ND (i := 0) (j := 22) rfl rfl (by decide))), (Ne.symm (nd_ne ND (i := 30) (j := 22) rfl rfl (by decide))), (Ne.symm (nd_ne ND (i := 31) (j := 22) rfl rfl (by decide)))⟩) e_83
        have e_140 := fr_129 groupPhrase_ _ (by simp only [List.mem_cons, List.not_mem_nil, or_false, not_or]; exact ⟨(Ne.symm (nd_ne ND (i := 0) (j := 23) rfl rfl (by decide))), (Ne.symm (nd_ne ND (i := 30) (j := 23) rfl rfl (by decide))), (Ne.symm (nd_ne ND (i := 31) (j := 23) rfl rfl (by decide)))⟩) e_84
        have e_141 := fr_129 groupSize_ _ (by simp only [List.mem_cons, List.not_mem_nil, or_false, not_or]; exact ⟨(Ne.symm (nd_ne ND (i := 0) (j := 24) rfl rfl (by decide))), (Ne.symm (nd_ne ND (i := 30) (j := 24) rfl rfl (by decide))), (Ne.symm (nd_ne ND (i := 31) (j := 24) rfl rfl (by decide)))⟩) e_85
        have e_142 := fr_129 groupFar_ _ (by simp only [List.mem_cons, List.not_mem_nil, or_false, not_or]; exact ⟨(Ne.symm (nd_ne ND (i := 0) (j := 26) rfl rfl (by decide))), (Ne.symm (nd_ne ND (i := 30) (j := 26) rfl rfl (by decide))), (Ne.symm (nd_ne ND (i := 31) (j := 26) rfl rfl (by decide)))⟩) e_86
        have e_143 := fr_129 groupMask_ _ (by simp only [List.mem_cons, List.not_mem_nil, or_false, not_or]; exact ⟨(Ne.symm (nd_ne ND (i := 0) (j := 25) rfl rfl (by decide))), (Ne.symm (nd_ne ND (i := 30) (j := 25) rfl rfl (by decide))), (Ne.symm (nd_ne ND (i := 31) (j := 25) rfl rfl (by decide)))⟩) e_87
        have e_144 := fr_129 sizes_ _ (by simp only [List.mem_cons, List.not_mem_nil, or_false, not_or]; exact ⟨(Ne.symm (nd_ne ND (i := 0) (j := 6) rfl rfl (by decide))), (Ne.symm (nd_ne ND (i := 30) (j := 6) rfl rfl (by decide))), (Ne.symm (nd_ne ND (i := 31) (j := 6) rfl rfl (by decide)))⟩) e_88
        have g_145 : fs_120[53]? = some (.ref begins_) := (ga_124 53 (by decide)).trans g_89
        have g_146 : fs_120[54]? = some (.ref lasts_) := (ga_124 54 (by decide)).trans g_90
        have g_147 : fs_120[43]? = some (.ref tokenAt_) := (ga_124 43 (by decide)).trans g_91
        have g_148 : fs_120[44]? = some (.ref tokenSize_) := (ga_124 44 (by decide)).trans g_92
        have g_149 : fs_120[7]? = some (.ref texts_) := (ga_124 7 (by decide)).trans g_93
        have g_150 : fs_120[4]? = some (.ref asked_) := (ga_124 4 (by decide)).trans g_94
        have g_151 : fs_120[41]? = some (.ref firstToken_) := (ga_124 41 (by decide)).trans g_95
        have g_152 : fs_120[42]? = some (.ref starred_) := (ga_124 42 (by decide)).trans g_96
        have g_153 : fs_120[45]? = some (.ref groupKind_) := (ga_124 45 (by decide)).trans g_97
        have g_154 : fs_120[46]? = some (.ref groupPhrase_) := (ga_124 46 (by decide)).trans g_98
        have g_155 : fs_120[47]? = some (.ref groupSize_) := (ga_124 47 (by decide)).trans g_99
        have g_156 : fs_120[49]? = some (.ref groupFar_) := (ga_124 49 (by decide)).trans g_100
        have g_157 : fs_120[48]? = some (.ref groupMask_) := (ga_124 48 (by decide)).trans g_101
        have g_158 : fs_120[8]? = some (.ref sizes_) := (ga_124 8 (by decide)).trans g_102
        have ga_159 : ∀ i, i ∉ [55] → fs_120[i]? = fs[i]? := fun i hi => (ga_124 i (fun z => hi (by simp only [List.mem_cons, List.not_mem_nil, or_false] at z ⊢; omega))).trans (ga_103 i hi)
        have r_160 := r_104.trans (fr_129.mono (by simp))
        refine s_Model_holds_27 ?_
        have hk24_161 : k_117 ≤ 24 := by have q9 := (tokN_half (fun j => ft (96 * r + 48 * 1 + j)) n1).1; rw [← hk_128] at q9; omega
        refine x_callV (As := [.int (nI g)]) (b := m) (rest := []) (F1 := 6) (L1 := 136) (mc := 0) (ms := 0) d_Model_holds_29 cV_Model_322 (f_holdsHere l_121 e_122 g_123 g_145 eb_125 g_146 el_126 g_147 e_133 g_148 e_134 g_149 e_135 g_150 e_136 g_151 e_137 g_152 e_138 g_153 e_139 g_154 e_140 g_155 e_141 g_156 e_142 hP PH ht TK TW_127 hk24_161 (by omega) hg h6 h7 hq haq (by omega) (by omega)) e_122 ⟨by decide, rfl⟩ ⟨by omega, by show 8 + (6 + 11) + 136 ≤ _; omega⟩ ⟨by omega, by omega⟩ (Nat.le_of_ble_eq_true rfl) (fun v_165 h_164 p_166 => ?_)
        obtain ⟨⟨y_162, rfl, hy_163⟩, rfl⟩ := p_166
        refine s_Model_holds_32 (fun z_167 => ?_) (fun z_168 => ?_)
        · skip
          refine s_Model_holds_37 ?_
          rw [show (1 : Int32) + 1 = 2 from rfl]
          refine s_Model_holds_2 (fun z_169 => ?_) (fun z => absurd z (by decide))
          refine s_Model_holds_43 ?_
          exact ⟨⟨_, rfl, by simp⟩, ⟨_, _, _, _, l_121, e_122, g_123, ga_159, eb_125, el_126, r_160⟩⟩
        · skip
          refine s_Model_holds_35 ?_
          exact ⟨⟨_, rfl, by simp⟩, ⟨_, _, _, _, l_121, e_122, g_123, ga_159, eb_125, el_126, r_160⟩⟩
    · skip
      refine s_Model_holds_35 ?_
      exact ⟨⟨_, rfl, by simp⟩, ⟨_, _, _, _, l_65, e_66, g_67, ga_103, eb_69, el_70, r_104⟩⟩
