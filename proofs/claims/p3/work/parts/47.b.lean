/-! the reference in general states: by program (wip/tools/gen5.py, gen6.py, gen7.py) -/
def EvP (m begins_ lasts_ : Nat) (gs : List Value) (h0 h : xw_A) : Prop := ∃ (cl : Int32) (fb fl : Nat → Int32) (fs : List Value), fs.length = 62 ∧ h m = some (.inr (11, fs)) ∧ fs[(55 : Nat)]? = some (.int cl) ∧ (∀ i : Nat, i ∉ [55] → fs[i]? = gs[i]?) ∧ h begins_ = some (.inl (0, 24, .inl fb)) ∧ h lasts_ = some (.inl (0, 24, .inl fl)) ∧ FrO [m, begins_, lasts_] h0 h
theorem hgt_pre {f : Nat → Int32} : ∀ n a, hgt f n = some a → ∀ i, i ≤ n → ∃ b, hgt f i = some b := by
  intro n
  induction n with
  | zero => intro a h i hi; obtain rfl : i = 0 := (by omega); exact ⟨_, h⟩
  | succ n ih =>
    intro a h i hi
    rcases Nat.eq_or_lt_of_le hi with q | q
    · subst q; exact ⟨a, h⟩
    · cases q2 : hgt f n with
      | none => rw [hgt, q2] at h; cases h
      | some b => exact ih b q2 i (by omega)
theorem hgt_two {f : Nat → Int32} {o a i n : Nat} (h : hgt f o = some a) (hi : i < o) (hn : hgt f i = some n) (hf : f i < 0) : 2 ≤ n ∧ hgt f (i + 1) = some (n - 1) := by
  obtain ⟨b, hb⟩ := hgt_pre o a h (i + 1) (by omega)
  have hb2 := hb
  rw [hgt, hn, Option.bind_some, if_pos hf] at hb2
  split at hb2
  · rename_i q
    exact ⟨q, by rw [hb, ← hb2]⟩
  · cases hb2
theorem hgt_one {f : Nat → Int32} {i n : Nat} (hn : hgt f i = some n) (hf : ¬ f i < 0) : hgt f (i + 1) = some (n + 1) := by
  rw [hgt, hn, Option.bind_some, if_neg hf]
theorem vnb {y : Int32} (h : y = 0 ∨ y = 1) : vp_nar .boolean y = 0 ∨ vp_nar .boolean y = 1 := by
  rcases h with rfl | rfl
  · exact Or.inl rfl
  · exact Or.inr rfl
theorem nI_m1 (n : Nat) : nI (n + 1) + (-1) = nI n := by rw [← Int32.sub_eq_add_neg, nI_pred]
set_option maxHeartbeats 2000000 in
theorem f_holds {G : xw_G} {F L : Nat} {h : xw_A} {m draft_ asked_ prepared_ preparedSize_ texts_ sizes_ weights_ entries_ lies_ live_ row_ level_ oldTexts_ oldSizes_ oldLies_ oldLive_ oldRow_ firstToken_ starred_ tokenAt_ tokenSize_ groupKind_ groupPhrase_ groupSize_ groupMask_ groupFar_ out_ top_ masks_ begins_ lasts_ truth_ answers_ order_ scores_ : Nat} {fb fl ca cs ft fa c1 c2 c5 c6 c7 c9 c8 fz : Nat → Int32} {cl : Int32} {fs : List Value} (l : fs.length = 62) (e : h m = some (.inr (11, fs))) (g_column : fs[(55 : Nat)]? = some (.int cl)) (g_begins : fs[(53 : Nat)]? = some (.ref begins_)) (e_begins : h begins_ = some (.inl (0, 24, .inl fb))) (g_lasts : fs[(54 : Nat)]? = some (.ref lasts_)) (e_lasts : h lasts_ = some (.inl (0, 24, .inl fl))) (g_tokenAt : fs[(43 : Nat)]? = some (.ref tokenAt_)) (e_tokenAt : h tokenAt_ = some (.inl (0, 60, .inl ca))) (g_tokenSize : fs[(44 : Nat)]? = some (.ref tokenSize_)) (e_tokenSize : h tokenSize_ = some (.inl (0, 60, .inl cs))) (g_texts : fs[(7 : Nat)]? = some (.ref texts_)) (e_texts : h texts_ = some (.inl (0, 2304, .inl ft))) (g_asked : fs[(4 : Nat)]? = some (.ref asked_)) (e_asked : h asked_ = some (.inl (0, 96, .inl fa))) (g_firstToken : fs[(41 : Nat)]? = some (.ref firstToken_)) (e_firstToken : h firstToken_ = some (.inl (0, 13, .inl c1))) (g_starred : fs[(42 : Nat)]? = some (.ref starred_)) (e_starred : h starred_ = some (.inl (0, 13, .inl c2))) (g_groupKind : fs[(45 : Nat)]? = some (.ref groupKind_)) (e_groupKind : h groupKind_ = some (.inl (0, 13, .inl c5))) (g_groupPhrase : fs[(46 : Nat)]? = some (.ref groupPhrase_)) (e_groupPhrase : h groupPhrase_ = some (.inl (0, 13, .inl c6))) (g_groupSize : fs[(47 : Nat)]? = some (.ref groupSize_)) (e_groupSize : h groupSize_ = some (.inl (0, 13, .inl c7))) (g_groupFar : fs[(49 : Nat)]? = some (.ref groupFar_)) (e_groupFar : h groupFar_ = some (.inl (0, 13, .inl c9))) (g_groupMask : fs[(48 : Nat)]? = some (.ref groupMask_)) (e_groupMask : h groupMask_ = some (.inl (0, 13, .inl c8))) (g_sizes : fs[(8 : Nat)]? = some (.ref sizes_)) (e_sizes : h sizes_ = some (.inl (0, 48, .inl fz))) (ND : NDl [m, draft_, asked_, prepared_, preparedSize_, texts_, sizes_, weights_, entries_, lies_, live_, row_, level_, oldTexts_, oldSizes_, oldLies_, oldLive_, oldRow_, firstToken_, starred_, tokenAt_, tokenSize_, groupKind_, groupPhrase_, groupSize_, groupMask_, groupFar_, out_, top_, masks_, begins_, lasts_, truth_, answers_, order_, scores_]) {P t : Nat} (hP : P ≤ 12) (PH : PhO c1 P t) (ht : t ≤ 49) (TK : TkO ca cs t 97) {g a q r : Nat} (hg : g < 13) (h6 : c6 g = nI a) (h7 : c7 g = nI q) (hq : 1 ≤ q) (haq : a + q ≤ P) (hr : r < 24) (hz : SZo fz 48) (hF : 7 ≤ F) (hL : 161 ≤ L) :
    xw_Met G m_Model_holds F L 0 0 [.ref m, .int (nI g), .int (nI r)] h (fun v h' => (∃ y : Int32, v = some (.int y) ∧ (y = 0 ∨ y = 1)) ∧ EvP m begins_ lasts_ fs h h') (fun _ _ => False) := by
  refine xw_Met.of rfl (by decide) (Nat.le_of_ble_eq_true rfl) ?_
  obtain ⟨n0, hz0, hz0b⟩ := hz (2 * r + 0) (by omega)
  obtain ⟨n1, hz1, hz1b⟩ := hz (2 * r + 1) (by omega)
  have ga0 : ∀ i : Nat, i ∉ [55] → fs[i]? = fs[i]? := fun _ _ => rfl
  have r0 : FrO [m, begins_, lasts_] h h := FrO.rf
  refine s_Model_holds_0 ?_
  refine s_Model_holds_2 (fun z => absurd z (by decide)) (fun z_1 => ?_)
  refine s_Model_holds_7 l e g_groupMask e_groupMask (vp_in_nI (by omega) (by omega)) (fun z_2 => ?_) (fun z_3 => ?_)
  · skip
    refine s_Model_holds_37 ?_
    rw [show (0 : Int32) + 1 = 1 from rfl]
    refine s_Model_holds_2 (fun z => absurd z (by decide)) (fun z_4 => ?_)
    refine s_Model_holds_7 l e g_groupMask e_groupMask (vp_in_nI (by omega) (by omega)) (fun z_5 => ?_) (fun z_6 => ?_)
    · skip
      refine s_Model_holds_37 ?_
      rw [show (1 : Int32) + 1 = 2 from rfl]
      refine s_Model_holds_2 (fun z_7 => ?_) (fun z => absurd z (by decide))
      refine s_Model_holds_43 ?_
      exact ⟨⟨_, rfl, by simp⟩, ⟨_, _, _, _, l, e, g_column, ga0, e_begins, e_lasts, r0⟩⟩
    · skip
      refine s_Model_holds_21 ?_
      refine x_callV (As := [.int (nI r), .int (nI 1)]) (b := m) (rest := []) (F1 := 3) (L1 := 62) (mc := 0) (ms := 0) d_Model_holds_24 cV_Model_153 (f_opens l e g_column g_texts e_texts g_sizes e_sizes g_begins e_begins g_lasts e_lasts (nd_ne ND (i := 30) (j := 31) rfl rfl (by decide)) (show r < 24 by omega) (show 1 < 2 by omega) hz1 hz1b (by omega) (by omega)) e ⟨by decide, rfl⟩ ⟨by omega, by show 8 + (6 + 11) + 62 ≤ _; omega⟩ ⟨by omega, by omega⟩ (Nat.le_of_ble_eq_true rfl) (fun v_23 h_22 p_24 => ?_)
      obtain ⟨rfl, k_8, fb_9, fl_10, fs_11, l_12, e_13, g_14, ga_15, eb_16, el_17, TW_18, hk_19, TX_20, fr_21⟩ := p_24
      have e_25 := fr_21 tokenAt_ _ (by simp only [List.mem_cons, List.not_mem_nil, or_false, not_or]; exact ⟨(Ne.symm (nd_ne ND (i := 0) (j := 20) rfl rfl (by decide))), (Ne.symm (nd_ne ND (i := 30) (j := 20) rfl rfl (by decide))), (Ne.symm (nd_ne ND (i := 31) (j := 20) rfl rfl (by decide)))⟩) e_tokenAt
      have e_26 := fr_21 tokenSize_ _ (by simp only [List.mem_cons, List.not_mem_nil, or_false, not_or]; exact ⟨(Ne.symm (nd_ne ND (i := 0) (j := 21) rfl rfl (by decide))), (Ne.symm (nd_ne ND (i := 30) (j := 21) rfl rfl (by decide))), (Ne.symm (nd_ne ND (i := 31) (j := 21) rfl rfl (by decide)))⟩) e_tokenSize
      have e_27 := fr_21 texts_ _ (by simp only [List.mem_cons, List.not_mem_nil, or_false, not_or]; exact ⟨(Ne.symm (nd_ne ND (i := 0) (j := 5) rfl rfl (by decide))), (Ne.symm (nd_ne ND (i := 30) (j := 5) rfl rfl (by decide))), (Ne.symm (nd_ne ND (i := 31) (j := 5) rfl rfl (by decide)))⟩) e_texts
      have e_28 := fr_21 asked_ _ (by simp only [List.mem_cons, List.not_mem_nil, or_false, not_or]; exact ⟨(Ne.symm (nd_ne ND (i := 0) (j := 2) rfl rfl (by decide))), (Ne.symm (nd_ne ND (i := 30) (j := 2) rfl rfl (by decide))), (Ne.symm (nd_ne ND (i := 31) (j := 2) rfl rfl (by decide)))⟩) e_asked
      have e_29 := fr_21 firstToken_ _ (by simp only [List.mem_cons, List.not_mem_nil, or_false, not_or]; exact ⟨(Ne.symm (nd_ne ND (i := 0) (j := 18) rfl rfl (by decide))), (Ne.symm (nd_ne ND (i := 30) (j := 18) rfl rfl (by decide))), (Ne.symm (nd_ne ND (i := 31) (j := 18) rfl rfl (by decide)))⟩) e_firstToken
      have e_30 := fr_21 starred_ _ (by simp only [List.mem_cons, List.not_mem_nil, or_false, not_or]; exact ⟨(Ne.symm (nd_ne ND (i := 0) (j := 19) rfl rfl (by decide))), (Ne.symm (nd_ne ND (i := 30) (j := 19) rfl rfl (by decide))), (Ne.symm (nd_ne ND (i := 31) (j := 19) rfl rfl (by decide)))⟩) e_starred
      have e_31 := fr_21 groupKind_ _ (by simp only [List.mem_cons, List.not_mem_nil, or_false, not_or]; exact ⟨(Ne.symm (nd_ne ND (i := 0) (j := 22) rfl rfl (by decide))), (Ne.symm (nd_ne ND (i := 30) (j := 22) rfl rfl (by decide))), (Ne.symm (nd_ne ND (i := 31) (j := 22) rfl rfl (by decide)))⟩) e_groupKind
      have e_32 := fr_21 groupPhrase_ _ (by simp only [List.mem_cons, List.not_mem_nil, or_false, not_or]; exact ⟨(Ne.symm (nd_ne ND (i := 0) (j := 23) rfl rfl (by decide))), (Ne.symm (nd_ne ND (i := 30) (j := 23) rfl rfl (by decide))), (Ne.symm (nd_ne ND (i := 31) (j := 23) rfl rfl (by decide)))⟩) e_groupPhrase
      have e_33 := fr_21 groupSize_ _ (by simp only [List.mem_cons, List.not_mem_nil, or_false, not_or]; exact ⟨(Ne.symm (nd_ne ND (i := 0) (j := 24) rfl rfl (by decide))), (Ne.symm (nd_ne ND (i := 30) (j := 24) rfl rfl (by decide))), (Ne.symm (nd_ne ND (i := 31) (j := 24) rfl rfl (by decide)))⟩) e_groupSize
      have e_34 := fr_21 groupFar_ _ (by simp only [List.mem_cons, List.not_mem_nil, or_false, not_or]; exact ⟨(Ne.symm (nd_ne ND (i := 0) (j := 26) rfl rfl (by decide))), (Ne.symm (nd_ne ND (i := 30) (j := 26) rfl rfl (by decide))), (Ne.symm (nd_ne ND (i := 31) (j := 26) rfl rfl (by decide)))⟩) e_groupFar
      have e_35 := fr_21 groupMask_ _ (by simp only [List.mem_cons, List.not_mem_nil, or_false, not_or]; exact ⟨(Ne.symm (nd_ne ND (i := 0) (j := 25) rfl rfl (by decide))), (Ne.symm (nd_ne ND (i := 30) (j := 25) rfl rfl (by decide))), (Ne.symm (nd_ne ND (i := 31) (j := 25) rfl rfl (by decide)))⟩) e_groupMask
      have e_36 := fr_21 sizes_ _ (by simp only [List.mem_cons, List.not_mem_nil, or_false, not_or]; exact ⟨(Ne.symm (nd_ne ND (i := 0) (j := 6) rfl rfl (by decide))), (Ne.symm (nd_ne ND (i := 30) (j := 6) rfl rfl (by decide))), (Ne.symm (nd_ne ND (i := 31) (j := 6) rfl rfl (by decide)))⟩) e_sizes
      have g_37 : fs_11[(53 : Nat)]? = some (.ref begins_) := (ga_15 53 (by decide)).trans g_begins
      have g_38 : fs_11[(54 : Nat)]? = some (.ref lasts_) := (ga_15 54 (by decide)).trans g_lasts
      have g_39 : fs_11[(43 : Nat)]? = some (.ref tokenAt_) := (ga_15 43 (by decide)).trans g_tokenAt
      have g_40 : fs_11[(44 : Nat)]? = some (.ref tokenSize_) := (ga_15 44 (by decide)).trans g_tokenSize
      have g_41 : fs_11[(7 : Nat)]? = some (.ref texts_) := (ga_15 7 (by decide)).trans g_texts
      have g_42 : fs_11[(4 : Nat)]? = some (.ref asked_) := (ga_15 4 (by decide)).trans g_asked
      have g_43 : fs_11[(41 : Nat)]? = some (.ref firstToken_) := (ga_15 41 (by decide)).trans g_firstToken
      have g_44 : fs_11[(42 : Nat)]? = some (.ref starred_) := (ga_15 42 (by decide)).trans g_starred
      have g_45 : fs_11[(45 : Nat)]? = some (.ref groupKind_) := (ga_15 45 (by decide)).trans g_groupKind
      have g_46 : fs_11[(46 : Nat)]? = some (.ref groupPhrase_) := (ga_15 46 (by decide)).trans g_groupPhrase
      have g_47 : fs_11[(47 : Nat)]? = some (.ref groupSize_) := (ga_15 47 (by decide)).trans g_groupSize
      have g_48 : fs_11[(49 : Nat)]? = some (.ref groupFar_) := (ga_15 49 (by decide)).trans g_groupFar
      have g_49 : fs_11[(48 : Nat)]? = some (.ref groupMask_) := (ga_15 48 (by decide)).trans g_groupMask
      have g_50 : fs_11[(8 : Nat)]? = some (.ref sizes_) := (ga_15 8 (by decide)).trans g_sizes
      have ga_51 : ∀ i : Nat, i ∉ [55] → fs_11[i]? = fs[i]? := fun i hi => (ga_15 i (fun z => hi (by simp only [List.mem_cons, List.not_mem_nil, or_false] at z ⊢; omega))).trans (ga0 i hi)
      have r_52 := r0.trans (fr_21.mono (by simp))
      refine s_Model_holds_27 ?_
      have hk24_53 : k_8 ≤ 24 := by have q9 := (tokN_half (fun j => ft (96 * r + 48 * 1 + j)) n1).1; rw [← hk_19] at q9; omega
      refine x_callV (As := [.int (nI g)]) (b := m) (rest := []) (F1 := 6) (L1 := 136) (mc := 0) (ms := 0) d_Model_holds_29 cV_Model_322 (f_holdsHere l_12 e_13 g_14 g_37 eb_16 g_38 el_17 g_39 e_25 g_40 e_26 g_41 e_27 g_42 e_28 g_43 e_29 g_44 e_30 g_45 e_31 g_46 e_32 g_47 e_33 g_48 e_34 hP PH ht TK TW_18 hk24_53 (by omega) hg h6 h7 hq haq (by omega) (by omega)) e_13 ⟨by decide, rfl⟩ ⟨by omega, by show 8 + (6 + 11) + 136 ≤ _; omega⟩ ⟨by omega, by omega⟩ (Nat.le_of_ble_eq_true rfl) (fun v_57 h_56 p_58 => ?_)
      obtain ⟨⟨y_54, rfl, hy_55⟩, rfl⟩ := p_58
      refine s_Model_holds_32 (fun z_59 => ?_) (fun z_60 => ?_)
      · skip
        refine s_Model_holds_37 ?_
        rw [show (1 : Int32) + 1 = 2 from rfl]
        refine s_Model_holds_2 (fun z_61 => ?_) (fun z => absurd z (by decide))
        refine s_Model_holds_43 ?_
        exact ⟨⟨_, rfl, by simp⟩, ⟨_, _, _, _, l_12, e_13, g_14, ga_51, eb_16, el_17, r_52⟩⟩
      · skip
        refine s_Model_holds_35 ?_
        exact ⟨⟨_, rfl, by simp⟩, ⟨_, _, _, _, l_12, e_13, g_14, ga_51, eb_16, el_17, r_52⟩⟩
  · skip
    refine s_Model_holds_21 ?_
    refine x_callV (As := [.int (nI r), .int (nI 0)]) (b := m) (rest := []) (F1 := 3) (L1 := 62) (mc := 0) (ms := 0) d_Model_holds_24 cV_Model_153 (f_opens l e g_column g_texts e_texts g_sizes e_sizes g_begins e_begins g_lasts e_lasts (nd_ne ND (i := 30) (j := 31) rfl rfl (by decide)) (show r < 24 by omega) (show 0 < 2 by omega) hz0 hz0b (by omega) (by omega)) e ⟨by decide, rfl⟩ ⟨by omega, by show 8 + (6 + 11) + 62 ≤ _; omega⟩ ⟨by omega, by omega⟩ (Nat.le_of_ble_eq_true rfl) (fun v_77 h_76 p_78 => ?_)
    obtain ⟨rfl, k_62, fb_63, fl_64, fs_65, l_66, e_67, g_68, ga_69, eb_70, el_71, TW_72, hk_73, TX_74, fr_75⟩ := p_78
    have e_79 := fr_75 tokenAt_ _ (by simp only [List.mem_cons, List.not_mem_nil, or_false, not_or]; exact ⟨(Ne.symm (nd_ne ND (i := 0) (j := 20) rfl rfl (by decide))), (Ne.symm (nd_ne ND (i := 30) (j := 20) rfl rfl (by decide))), (Ne.symm (nd_ne ND (i := 31) (j := 20) rfl rfl (by decide)))⟩) e_tokenAt
    have e_80 := fr_75 tokenSize_ _ (by simp only [List.mem_cons, List.not_mem_nil, or_false, not_or]; exact ⟨(Ne.symm (nd_ne ND (i := 0) (j := 21) rfl rfl (by decide))), (Ne.symm (nd_ne ND (i := 30) (j := 21) rfl rfl (by decide))), (Ne.symm (nd_ne ND (i := 31) (j := 21) rfl rfl (by decide)))⟩) e_tokenSize
    have e_81 := fr_75 texts_ _ (by simp only [List.mem_cons, List.not_mem_nil, or_false, not_or]; exact ⟨(Ne.symm (nd_ne ND (i := 0) (j := 5) rfl rfl (by decide))), (Ne.symm (nd_ne ND (i := 30) (j := 5) rfl rfl (by decide))), (Ne.symm (nd_ne ND (i := 31) (j := 5) rfl rfl (by decide)))⟩) e_texts
    have e_82 := fr_75 asked_ _ (by simp only [List.mem_cons, List.not_mem_nil, or_false, not_or]; exact ⟨(Ne.symm (nd_ne ND (i := 0) (j := 2) rfl rfl (by decide))), (Ne.symm (nd_ne ND (i := 30) (j := 2) rfl rfl (by decide))), (Ne.symm (nd_ne ND (i := 31) (j := 2) rfl rfl (by decide)))⟩) e_asked
    have e_83 := fr_75 firstToken_ _ (by simp only [List.mem_cons, List.not_mem_nil, or_false, not_or]; exact ⟨(Ne.symm (nd_ne ND (i := 0) (j := 18) rfl rfl (by decide))), (Ne.symm (nd_ne ND (i := 30) (j := 18) rfl rfl (by decide))), (Ne.symm (nd_ne ND (i := 31) (j := 18) rfl rfl (by decide)))⟩) e_firstToken
    have e_84 := fr_75 starred_ _ (by simp only [List.mem_cons, List.not_mem_nil, or_false, not_or]; exact ⟨(Ne.symm (nd_ne ND (i := 0) (j := 19) rfl rfl (by decide))), (Ne.symm (nd_ne ND (i := 30) (j := 19) rfl rfl (by decide))), (Ne.symm (nd_ne ND (i := 31) (j := 19) rfl rfl (by decide)))⟩) e_starred
    have e_85 := fr_75 groupKind_ _ (by simp only [List.mem_cons, List.not_mem_nil, or_false, not_or]; exact ⟨(Ne.symm (nd_ne ND (i := 0) (j := 22) rfl rfl (by decide))), (Ne.symm (nd_ne ND (i := 30) (j := 22) rfl rfl (by decide))), (Ne.symm (nd_ne ND (i := 31) (j := 22) rfl rfl (by decide)))⟩) e_groupKind
    have e_86 := fr_75 groupPhrase_ _ (by simp only [List.mem_cons, List.not_mem_nil, or_false, not_or]; exact ⟨(Ne.symm (nd_ne ND (i := 0) (j := 23) rfl rfl (by decide))), (Ne.symm (nd_ne ND (i := 30) (j := 23) rfl rfl (by decide))), (Ne.symm (nd_ne ND (i := 31) (j := 23) rfl rfl (by decide)))⟩) e_groupPhrase
    have e_87 := fr_75 groupSize_ _ (by simp only [List.mem_cons, List.not_mem_nil, or_false, not_or]; exact ⟨(Ne.symm (nd_ne ND (i := 0) (j := 24) rfl rfl (by decide))), (Ne.symm (nd_ne ND (i := 30) (j := 24) rfl rfl (by decide))), (Ne.symm (nd_ne ND (i := 31) (j := 24) rfl rfl (by decide)))⟩) e_groupSize
    have e_88 := fr_75 groupFar_ _ (by simp only [List.mem_cons, List.not_mem_nil, or_false, not_or]; exact ⟨(Ne.symm (nd_ne ND (i := 0) (j := 26) rfl rfl (by decide))), (Ne.symm (nd_ne ND (i := 30) (j := 26) rfl rfl (by decide))), (Ne.symm (nd_ne ND (i := 31) (j := 26) rfl rfl (by decide)))⟩) e_groupFar
    have e_89 := fr_75 groupMask_ _ (by simp only [List.mem_cons, List.not_mem_nil, or_false, not_or]; exact ⟨(Ne.symm (nd_ne ND (i := 0) (j := 25) rfl rfl (by decide))), (Ne.symm (nd_ne ND (i := 30) (j := 25) rfl rfl (by decide))), (Ne.symm (nd_ne ND (i := 31) (j := 25) rfl rfl (by decide)))⟩) e_groupMask
    have e_90 := fr_75 sizes_ _ (by simp only [List.mem_cons, List.not_mem_nil, or_false, not_or]; exact ⟨(Ne.symm (nd_ne ND (i := 0) (j := 6) rfl rfl (by decide))), (Ne.symm (nd_ne ND (i := 30) (j := 6) rfl rfl (by decide))), (Ne.symm (nd_ne ND (i := 31) (j := 6) rfl rfl (by decide)))⟩) e_sizes
    have g_91 : fs_65[(53 : Nat)]? = some (.ref begins_) := (ga_69 53 (by decide)).trans g_begins
    have g_92 : fs_65[(54 : Nat)]? = some (.ref lasts_) := (ga_69 54 (by decide)).trans g_lasts
    have g_93 : fs_65[(43 : Nat)]? = some (.ref tokenAt_) := (ga_69 43 (by decide)).trans g_tokenAt
    have g_94 : fs_65[(44 : Nat)]? = some (.ref tokenSize_) := (ga_69 44 (by decide)).trans g_tokenSize
    have g_95 : fs_65[(7 : Nat)]? = some (.ref texts_) := (ga_69 7 (by decide)).trans g_texts
    have g_96 : fs_65[(4 : Nat)]? = some (.ref asked_) := (ga_69 4 (by decide)).trans g_asked
    have g_97 : fs_65[(41 : Nat)]? = some (.ref firstToken_) := (ga_69 41 (by decide)).trans g_firstToken
    have g_98 : fs_65[(42 : Nat)]? = some (.ref starred_) := (ga_69 42 (by decide)).trans g_starred
    have g_99 : fs_65[(45 : Nat)]? = some (.ref groupKind_) := (ga_69 45 (by decide)).trans g_groupKind
    have g_100 : fs_65[(46 : Nat)]? = some (.ref groupPhrase_) := (ga_69 46 (by decide)).trans g_groupPhrase
    have g_101 : fs_65[(47 : Nat)]? = some (.ref groupSize_) := (ga_69 47 (by decide)).trans g_groupSize
    have g_102 : fs_65[(49 : Nat)]? = some (.ref groupFar_) := (ga_69 49 (by decide)).trans g_groupFar
    have g_103 : fs_65[(48 : Nat)]? = some (.ref groupMask_) := (ga_69 48 (by decide)).trans g_groupMask
    have g_104 : fs_65[(8 : Nat)]? = some (.ref sizes_) := (ga_69 8 (by decide)).trans g_sizes
    have ga_105 : ∀ i : Nat, i ∉ [55] → fs_65[i]? = fs[i]? := fun i hi => (ga_69 i (fun z => hi (by simp only [List.mem_cons, List.not_mem_nil, or_false] at z ⊢; omega))).trans (ga0 i hi)
    have r_106 := r0.trans (fr_75.mono (by simp))
    refine s_Model_holds_27 ?_
    have hk24_107 : k_62 ≤ 24 := by have q9 := (tokN_half (fun j => ft (96 * r + 48 * 0 + j)) n0).1; rw [← hk_73] at q9; omega
    refine x_callV (As := [.int (nI g)]) (b := m) (rest := []) (F1 := 6) (L1 := 136) (mc := 0) (ms := 0) d_Model_holds_29 cV_Model_322 (f_holdsHere l_66 e_67 g_68 g_91 eb_70 g_92 el_71 g_93 e_79 g_94 e_80 g_95 e_81 g_96 e_82 g_97 e_83 g_98 e_84 g_99 e_85 g_100 e_86 g_101 e_87 g_102 e_88 hP PH ht TK TW_72 hk24_107 (by omega) hg h6 h7 hq haq (by omega) (by omega)) e_67 ⟨by decide, rfl⟩ ⟨by omega, by show 8 + (6 + 11) + 136 ≤ _; omega⟩ ⟨by omega, by omega⟩ (Nat.le_of_ble_eq_true rfl) (fun v_111 h_110 p_112 => ?_)
    obtain ⟨⟨y_108, rfl, hy_109⟩, rfl⟩ := p_112
    refine s_Model_holds_32 (fun z_113 => ?_) (fun z_114 => ?_)
    · skip
      refine s_Model_holds_37 ?_
      rw [show (0 : Int32) + 1 = 1 from rfl]
      refine s_Model_holds_2 (fun z => absurd z (by decide)) (fun z_115 => ?_)
      refine s_Model_holds_7 l_66 e_67 g_103 e_89 (vp_in_nI (by omega) (by omega)) (fun z_116 => ?_) (fun z_117 => ?_)
      · skip
        refine s_Model_holds_37 ?_
        rw [show (1 : Int32) + 1 = 2 from rfl]
        refine s_Model_holds_2 (fun z_118 => ?_) (fun z => absurd z (by decide))
        refine s_Model_holds_43 ?_
        exact ⟨⟨_, rfl, by simp⟩, ⟨_, _, _, _, l_66, e_67, g_68, ga_105, eb_70, el_71, r_106⟩⟩
      · skip
        refine s_Model_holds_21 ?_
        refine x_callV (As := [.int (nI r), .int (nI 1)]) (b := m) (rest := []) (F1 := 3) (L1 := 62) (mc := 0) (ms := 0) d_Model_holds_24 cV_Model_153 (f_opens l_66 e_67 g_68 g_95 e_81 g_104 e_90 g_91 eb_70 g_92 el_71 (nd_ne ND (i := 30) (j := 31) rfl rfl (by decide)) (show r < 24 by omega) (show 1 < 2 by omega) hz1 hz1b (by omega) (by omega)) e_67 ⟨by decide, rfl⟩ ⟨by omega, by show 8 + (6 + 11) + 62 ≤ _; omega⟩ ⟨by omega, by omega⟩ (Nat.le_of_ble_eq_true rfl) (fun v_134 h_133 p_135 => ?_)
        obtain ⟨rfl, k_119, fb_120, fl_121, fs_122, l_123, e_124, g_125, ga_126, eb_127, el_128, TW_129, hk_130, TX_131, fr_132⟩ := p_135
        have e_136 := fr_132 tokenAt_ _ (by simp only [List.mem_cons, List.not_mem_nil, or_false, not_or]; exact ⟨(Ne.symm (nd_ne ND (i := 0) (j := 20) rfl rfl (by decide))), (Ne.symm (nd_ne ND (i := 30) (j := 20) rfl rfl (by decide))), (Ne.symm (nd_ne ND (i := 31) (j := 20) rfl rfl (by decide)))⟩) e_79
        have e_137 := fr_132 tokenSize_ _ (by simp only [List.mem_cons, List.not_mem_nil, or_false, not_or]; exact ⟨(Ne.symm (nd_ne ND (i := 0) (j := 21) rfl rfl (by decide))), (Ne.symm (nd_ne ND (i := 30) (j := 21) rfl rfl (by decide))), (Ne.symm (nd_ne ND (i := 31) (j := 21) rfl rfl (by decide)))⟩) e_80
        have e_138 := fr_132 texts_ _ (by simp only [List.mem_cons, List.not_mem_nil, or_false, not_or]; exact ⟨(Ne.symm (nd_ne ND (i := 0) (j := 5) rfl rfl (by decide))), (Ne.symm (nd_ne ND (i := 30) (j := 5) rfl rfl (by decide))), (Ne.symm (nd_ne ND (i := 31) (j := 5) rfl rfl (by decide)))⟩) e_81
        have e_139 := fr_132 asked_ _ (by simp only [List.mem_cons, List.not_mem_nil, or_false, not_or]; exact ⟨(Ne.symm (nd_ne ND (i := 0) (j := 2) rfl rfl (by decide))), (Ne.symm (nd_ne ND (i := 30) (j := 2) rfl rfl (by decide))), (Ne.symm (nd_ne ND (i := 31) (j := 2) rfl rfl (by decide)))⟩) e_82
        have e_140 := fr_132 firstToken_ _ (by simp only [List.mem_cons, List.not_mem_nil, or_false, not_or]; exact ⟨(Ne.symm (nd_ne ND (i := 0) (j := 18) rfl rfl (by decide))), (Ne.symm (nd_ne ND (i := 30) (j := 18) rfl rfl (by decide))), (Ne.symm (nd_ne ND (i := 31) (j := 18) rfl rfl (by decide)))⟩) e_83
        have e_141 := fr_132 starred_ _ (by simp only [List.mem_cons, List.not_mem_nil, or_false, not_or]; exact ⟨(Ne.symm (nd_ne ND (i := 0) (j := 19) rfl rfl (by decide))), (Ne.symm (nd_ne ND (i := 30) (j := 19) rfl rfl (by decide))), (Ne.symm (nd_ne ND (i := 31) (j := 19) rfl rfl (by decide)))⟩) e_84
        have e_142 := fr_132 groupKind_ _ (by simp only [List.mem_cons, List.not_mem_nil, or_false, not_or]; exact ⟨(Ne.symm (nd_ne ND (i := 0) (j := 22) rfl rfl (by decide))), (Ne.symm (nd_ne ND (i := 30) (j := 22) rfl rfl (by decide))), (Ne.symm (nd_ne ND (i := 31) (j := 22) rfl rfl (by decide)))⟩) e_85
        have e_143 := fr_132 groupPhrase_ _ (by simp only [List.mem_cons, List.not_mem_nil, or_false, not_or]; exact ⟨(Ne.symm (nd_ne ND (i := 0) (j := 23) rfl rfl (by decide))), (Ne.symm (nd_ne ND (i := 30) (j := 23) rfl rfl (by decide))), (Ne.symm (nd_ne ND (i := 31) (j := 23) rfl rfl (by decide)))⟩) e_86
        have e_144 := fr_132 groupSize_ _ (by simp only [List.mem_cons, List.not_mem_nil, or_false, not_or]; exact ⟨(Ne.symm (nd_ne ND (i := 0) (j := 24) rfl rfl (by decide))), (Ne.symm (nd_ne ND (i := 30) (j := 24) rfl rfl (by decide))), (Ne.symm (nd_ne ND (i := 31) (j := 24) rfl rfl (by decide)))⟩) e_87
        have e_145 := fr_132 groupFar_ _ (by simp only [List.mem_cons, List.not_mem_nil, or_false, not_or]; exact ⟨(Ne.symm (nd_ne ND (i := 0) (j := 26) rfl rfl (by decide))), (Ne.symm (nd_ne ND (i := 30) (j := 26) rfl rfl (by decide))), (Ne.symm (nd_ne ND (i := 31) (j := 26) rfl rfl (by decide)))⟩) e_88
        have e_146 := fr_132 groupMask_ _ (by simp only [List.mem_cons, List.not_mem_nil, or_false, not_or]; exact ⟨(Ne.symm (nd_ne ND (i := 0) (j := 25) rfl rfl (by decide))), (Ne.symm (nd_ne ND (i := 30) (j := 25) rfl rfl (by decide))), (Ne.symm (nd_ne ND (i := 31) (j := 25) rfl rfl (by decide)))⟩) e_89
        have e_147 := fr_132 sizes_ _ (by simp only [List.mem_cons, List.not_mem_nil, or_false, not_or]; exact ⟨(Ne.symm (nd_ne ND (i := 0) (j := 6) rfl rfl (by decide))), (Ne.symm (nd_ne ND (i := 30) (j := 6) rfl rfl (by decide))), (Ne.symm (nd_ne ND (i := 31) (j := 6) rfl rfl (by decide)))⟩) e_90
        have g_148 : fs_122[(53 : Nat)]? = some (.ref begins_) := (ga_126 53 (by decide)).trans g_91
        have g_149 : fs_122[(54 : Nat)]? = some (.ref lasts_) := (ga_126 54 (by decide)).trans g_92
        have g_150 : fs_122[(43 : Nat)]? = some (.ref tokenAt_) := (ga_126 43 (by decide)).trans g_93
        have g_151 : fs_122[(44 : Nat)]? = some (.ref tokenSize_) := (ga_126 44 (by decide)).trans g_94
        have g_152 : fs_122[(7 : Nat)]? = some (.ref texts_) := (ga_126 7 (by decide)).trans g_95
        have g_153 : fs_122[(4 : Nat)]? = some (.ref asked_) := (ga_126 4 (by decide)).trans g_96
        have g_154 : fs_122[(41 : Nat)]? = some (.ref firstToken_) := (ga_126 41 (by decide)).trans g_97
        have g_155 : fs_122[(42 : Nat)]? = some (.ref starred_) := (ga_126 42 (by decide)).trans g_98
        have g_156 : fs_122[(45 : Nat)]? = some (.ref groupKind_) := (ga_126 45 (by decide)).trans g_99
        have g_157 : fs_122[(46 : Nat)]? = some (.ref groupPhrase_) := (ga_126 46 (by decide)).trans g_100
        have g_158 : fs_122[(47 : Nat)]? = some (.ref groupSize_) := (ga_126 47 (by decide)).trans g_101
        have g_159 : fs_122[(49 : Nat)]? = some (.ref groupFar_) := (ga_126 49 (by decide)).trans g_102
        have g_160 : fs_122[(48 : Nat)]? = some (.ref groupMask_) := (ga_126 48 (by decide)).trans g_103
        have g_161 : fs_122[(8 : Nat)]? = some (.ref sizes_) := (ga_126 8 (by decide)).trans g_104
        have ga_162 : ∀ i : Nat, i ∉ [55] → fs_122[i]? = fs[i]? := fun i hi => (ga_126 i (fun z => hi (by simp only [List.mem_cons, List.not_mem_nil, or_false] at z ⊢; omega))).trans (ga_105 i hi)
        have r_163 := r_106.trans (fr_132.mono (by simp))
        refine s_Model_holds_27 ?_
        have hk24_164 : k_119 ≤ 24 := by have q9 := (tokN_half (fun j => ft (96 * r + 48 * 1 + j)) n1).1; rw [← hk_130] at q9; omega
        refine x_callV (As := [.int (nI g)]) (b := m) (rest := []) (F1 := 6) (L1 := 136) (mc := 0) (ms := 0) d_Model_holds_29 cV_Model_322 (f_holdsHere l_123 e_124 g_125 g_148 eb_127 g_149 el_128 g_150 e_136 g_151 e_137 g_152 e_138 g_153 e_139 g_154 e_140 g_155 e_141 g_156 e_142 g_157 e_143 g_158 e_144 g_159 e_145 hP PH ht TK TW_129 hk24_164 (by omega) hg h6 h7 hq haq (by omega) (by omega)) e_124 ⟨by decide, rfl⟩ ⟨by omega, by show 8 + (6 + 11) + 136 ≤ _; omega⟩ ⟨by omega, by omega⟩ (Nat.le_of_ble_eq_true rfl) (fun v_168 h_167 p_169 => ?_)
        obtain ⟨⟨y_165, rfl, hy_166⟩, rfl⟩ := p_169
        refine s_Model_holds_32 (fun z_170 => ?_) (fun z_171 => ?_)
        · skip
          refine s_Model_holds_37 ?_
          rw [show (1 : Int32) + 1 = 2 from rfl]
          refine s_Model_holds_2 (fun z_172 => ?_) (fun z => absurd z (by decide))
          refine s_Model_holds_43 ?_
          exact ⟨⟨_, rfl, by simp⟩, ⟨_, _, _, _, l_123, e_124, g_125, ga_162, eb_127, el_128, r_163⟩⟩
        · skip
          refine s_Model_holds_35 ?_
          exact ⟨⟨_, rfl, by simp⟩, ⟨_, _, _, _, l_123, e_124, g_125, ga_162, eb_127, el_128, r_163⟩⟩
    · skip
      refine s_Model_holds_35 ?_
      exact ⟨⟨_, rfl, by simp⟩, ⟨_, _, _, _, l_66, e_67, g_68, ga_105, eb_70, el_71, r_106⟩⟩
