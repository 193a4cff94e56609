/-! the reference in general states: by program (wip/tools/gen5.py, gen6.py, gen7.py) -/
set_option maxHeartbeats 4000000 in
theorem lp_fi {G : xw_G} {F L bc bs : Nat} {pr : Option Value → xw_A → Prop} {px : String → xw_A → Prop} {m draft_ asked_ prepared_ preparedSize_ texts_ sizes_ weights_ entries_ lies_ live_ row_ level_ oldTexts_ oldSizes_ oldLies_ oldLive_ oldRow_ firstToken_ starred_ tokenAt_ tokenSize_ groupKind_ groupPhrase_ groupSize_ groupMask_ groupFar_ out_ top_ masks_ begins_ lasts_ truth_ answers_ order_ scores_ : Nat} {o g0 r : Nat} {gs : List Value} {h0 : xw_A} {ca cs ft fa c1 c2 c5 c6 c7 c9 c8 fz co : Nat → Int32} (q_outs : gs[(37 : Nat)]? = some (.int (nI o))) (q_begins : gs[(53 : Nat)]? = some (.ref begins_)) (q_lasts : gs[(54 : Nat)]? = some (.ref lasts_)) (q_tokenAt : gs[(43 : Nat)]? = some (.ref tokenAt_)) (q_tokenSize : gs[(44 : Nat)]? = some (.ref tokenSize_)) (q_texts : gs[(7 : Nat)]? = some (.ref texts_)) (q_asked : gs[(4 : Nat)]? = some (.ref asked_)) (q_firstToken : gs[(41 : Nat)]? = some (.ref firstToken_)) (q_starred : gs[(42 : Nat)]? = some (.ref starred_)) (q_groupKind : gs[(45 : Nat)]? = some (.ref groupKind_)) (q_groupPhrase : gs[(46 : Nat)]? = some (.ref groupPhrase_)) (q_groupSize : gs[(47 : Nat)]? = some (.ref groupSize_)) (q_groupFar : gs[(49 : Nat)]? = some (.ref groupFar_)) (q_groupMask : gs[(48 : Nat)]? = some (.ref groupMask_)) (q_sizes : gs[(8 : Nat)]? = some (.ref sizes_)) (q_out : gs[(50 : Nat)]? = some (.ref out_)) (q_truth : gs[(57 : Nat)]? = some (.ref truth_)) (p_tokenAt : h0 tokenAt_ = some (.inl (0, 60, .inl ca))) (p_tokenSize : h0 tokenSize_ = some (.inl (0, 60, .inl cs))) (p_texts : h0 texts_ = some (.inl (0, 2304, .inl ft))) (p_asked : h0 asked_ = some (.inl (0, 96, .inl fa))) (p_firstToken : h0 firstToken_ = some (.inl (0, 13, .inl c1))) (p_starred : h0 starred_ = some (.inl (0, 13, .inl c2))) (p_groupKind : h0 groupKind_ = some (.inl (0, 13, .inl c5))) (p_groupPhrase : h0 groupPhrase_ = some (.inl (0, 13, .inl c6))) (p_groupSize : h0 groupSize_ = some (.inl (0, 13, .inl c7))) (p_groupFar : h0 groupFar_ = some (.inl (0, 13, .inl c9))) (p_groupMask : h0 groupMask_ = some (.inl (0, 13, .inl c8))) (p_sizes : h0 sizes_ = some (.inl (0, 48, .inl fz))) (p_out : h0 out_ = some (.inl (0, 60, .inl co))) (ND : NDl [m, draft_, asked_, prepared_, preparedSize_, texts_, sizes_, weights_, entries_, lies_, live_, row_, level_, oldTexts_, oldSizes_, oldLies_, oldLive_, oldRow_, firstToken_, starred_, tokenAt_, tokenSize_, groupKind_, groupPhrase_, groupSize_, groupMask_, groupFar_, out_, top_, masks_, begins_, lasts_, truth_, answers_, order_, scores_]) {P t : Nat} (hP : P ≤ 12) (PH : PhO c1 P t) (ht : t ≤ 49) (TK : TkO ca cs t 97) (GR : GrO c6 c7 g0 P) (hg0 : g0 ≤ P) (hr : r < 24) (hz : SZo fz 48) (ho : o ≤ 60) (hO : hgt co o = some 1) (hC : ∀ k, k < o → co k < 0 ∨ ∃ j, j < g0 ∧ co k = nI j) (hF : 8 ≤ F) (hL : 184 ≤ L) (kk : ∀ (h : xw_A) (y : Int32) (c13 : Nat → Int32) (cl : Int32) (fb : Nat → Int32) (fl : Nat → Int32) (fs : List Value), (y = 0 ∨ y = 1) → fs.length = 62 → h m = some (.inr (11, fs)) → fs[(55 : Nat)]? = some (.int cl) → (∀ i : Nat, i ∉ [55] → fs[i]? = gs[i]?) → h begins_ = some (.inl (0, 24, .inl fb)) → h lasts_ = some (.inl (0, 24, .inl fl)) → h truth_ = some (.inl (4, 60, .inl c13)) → FrO [m, begins_, lasts_, truth_] h0 h → pr (some (.int y)) h) :
    ∀ (dd i : Nat) (h : xw_A) (n : Nat) (c13 : Nat → Int32) (cl : Int32) (fb : Nat → Int32) (fl : Nat → Int32) (fs : List Value), i + dd = o → fs.length = 62 → h m = some (.inr (11, fs)) → fs[(55 : Nat)]? = some (.int cl) → (∀ i : Nat, i ∉ [55] → fs[i]? = gs[i]?) → h begins_ = some (.inl (0, 24, .inl fb)) → h lasts_ = some (.inl (0, 24, .inl fl)) → h truth_ = some (.inl (4, 60, .inl c13)) → hgt co i = some n → (∀ j, j < n → c13 j = 0 ∨ c13 j = 1) → FrO [m, begins_, lasts_, truth_] h0 h → xw G m_Model_finds F L bc bs pr px 4 [some (.ref m), some (.int (nI r)), some (.int (nI n)), some (.int (nI i)), none, none] [] h := by
  intro dd
  induction dd with
  | zero =>
    intro i h n c13 cl fb fl fs hi l e g_column ga0 e_begins e_lasts e_truth hH TR r0
    obtain rfl : i = o := by omega
    have g_outs := (ga0 37 (by decide)).trans q_outs
    have g_begins := (ga0 53 (by decide)).trans q_begins
    have g_lasts := (ga0 54 (by decide)).trans q_lasts
    have g_tokenAt := (ga0 43 (by decide)).trans q_tokenAt
    have g_tokenSize := (ga0 44 (by decide)).trans q_tokenSize
    have g_texts := (ga0 7 (by decide)).trans q_texts
    have g_asked := (ga0 4 (by decide)).trans q_asked
    have g_firstToken := (ga0 41 (by decide)).trans q_firstToken
    have g_starred := (ga0 42 (by decide)).trans q_starred
    have g_groupKind := (ga0 45 (by decide)).trans q_groupKind
    have g_groupPhrase := (ga0 46 (by decide)).trans q_groupPhrase
    have g_groupSize := (ga0 47 (by decide)).trans q_groupSize
    have g_groupFar := (ga0 49 (by decide)).trans q_groupFar
    have g_groupMask := (ga0 48 (by decide)).trans q_groupMask
    have g_sizes := (ga0 8 (by decide)).trans q_sizes
    have g_out := (ga0 50 (by decide)).trans q_out
    have g_truth := (ga0 57 (by decide)).trans q_truth
    have e_tokenAt := r0 tokenAt_ _ (by simp only [List.mem_cons, List.not_mem_nil, or_false, not_or]; exact ⟨(nd_ne ND (i := 20) (j := 0) rfl rfl (by decide)), (nd_ne ND (i := 20) (j := 30) rfl rfl (by decide)), (nd_ne ND (i := 20) (j := 31) rfl rfl (by decide)), (nd_ne ND (i := 20) (j := 32) rfl rfl (by decide))⟩) p_tokenAt
    have e_tokenSize := r0 tokenSize_ _ (by simp only [List.mem_cons, List.not_mem_nil, or_false, not_or]; exact ⟨(nd_ne ND (i := 21) (j := 0) rfl rfl (by decide)), (nd_ne ND (i := 21) (j := 30) rfl rfl (by decide)), (nd_ne ND (i := 21) (j := 31) rfl rfl (by decide)), (nd_ne ND (i := 21) (j := 32) rfl rfl (by decide))⟩) p_tokenSize
    have e_texts := r0 texts_ _ (by simp only [List.mem_cons, List.not_mem_nil, or_false, not_or]; exact ⟨(nd_ne ND (i := 5) (j := 0) rfl rfl (by decide)), (nd_ne ND (i := 5) (j := 30) rfl rfl (by decide)), (nd_ne ND (i := 5) (j := 31) rfl rfl (by decide)), (nd_ne ND (i := 5) (j := 32) rfl rfl (by decide))⟩) p_texts
    have e_asked := r0 asked_ _ (by simp only [List.mem_cons, List.not_mem_nil, or_false, not_or]; exact ⟨(nd_ne ND (i := 2) (j := 0) rfl rfl (by decide)), (nd_ne ND (i := 2) (j := 30) rfl rfl (by decide)), (nd_ne ND (i := 2) (j := 31) rfl rfl (by decide)), (nd_ne ND (i := 2) (j := 32) rfl rfl (by decide))⟩) p_asked
    have e_firstToken := r0 firstToken_ _ (by simp only [List.mem_cons, List.not_mem_nil, or_false, not_or]; exact ⟨(nd_ne ND (i := 18) (j := 0) rfl rfl (by decide)), (nd_ne ND (i := 18) (j := 30) rfl rfl (by decide)), (nd_ne ND (i := 18) (j := 31) rfl rfl (by decide)), (nd_ne ND (i := 18) (j := 32) rfl rfl (by decide))⟩) p_firstToken
    have e_starred := r0 starred_ _ (by simp only [List.mem_cons, List.not_mem_nil, or_false, not_or]; exact ⟨(nd_ne ND (i := 19) (j := 0) rfl rfl (by decide)), (nd_ne ND (i := 19) (j := 30) rfl rfl (by decide)), (nd_ne ND (i := 19) (j := 31) rfl rfl (by decide)), (nd_ne ND (i := 19) (j := 32) rfl rfl (by decide))⟩) p_starred
    have e_groupKind := r0 groupKind_ _ (by simp only [List.mem_cons, List.not_mem_nil, or_false, not_or]; exact ⟨(nd_ne ND (i := 22) (j := 0) rfl rfl (by decide)), (nd_ne ND (i := 22) (j := 30) rfl rfl (by decide)), (nd_ne ND (i := 22) (j := 31) rfl rfl (by decide)), (nd_ne ND (i := 22) (j := 32) rfl rfl (by decide))⟩) p_groupKind
    have e_groupPhrase := r0 groupPhrase_ _ (by simp only [List.mem_cons, List.not_mem_nil, or_false, not_or]; exact ⟨(nd_ne ND (i := 23) (j := 0) rfl rfl (by decide)), (nd_ne ND (i := 23) (j := 30) rfl rfl (by decide)), (nd_ne ND (i := 23) (j := 31) rfl rfl (by decide)), (nd_ne ND (i := 23) (j := 32) rfl rfl (by decide))⟩) p_groupPhrase
    have e_groupSize := r0 groupSize_ _ (by simp only [List.mem_cons, List.not_mem_nil, or_false, not_or]; exact ⟨(nd_ne ND (i := 24) (j := 0) rfl rfl (by decide)), (nd_ne ND (i := 24) (j := 30) rfl rfl (by decide)), (nd_ne ND (i := 24) (j := 31) rfl rfl (by decide)), (nd_ne ND (i := 24) (j := 32) rfl rfl (by decide))⟩) p_groupSize
    have e_groupFar := r0 groupFar_ _ (by simp only [List.mem_cons, List.not_mem_nil, or_false, not_or]; exact ⟨(nd_ne ND (i := 26) (j := 0) rfl rfl (by decide)), (nd_ne ND (i := 26) (j := 30) rfl rfl (by decide)), (nd_ne ND (i := 26) (j := 31) rfl rfl (by decide)), (nd_ne ND (i := 26) (j := 32) rfl rfl (by decide))⟩) p_groupFar
    have e_groupMask := r0 groupMask_ _ (by simp only [List.mem_cons, List.not_mem_nil, or_false, not_or]; exact ⟨(nd_ne ND (i := 25) (j := 0) rfl rfl (by decide)), (nd_ne ND (i := 25) (j := 30) rfl rfl (by decide)), (nd_ne ND (i := 25) (j := 31) rfl rfl (by decide)), (nd_ne ND (i := 25) (j := 32) rfl rfl (by decide))⟩) p_groupMask
    have e_sizes := r0 sizes_ _ (by simp only [List.mem_cons, List.not_mem_nil, or_false, not_or]; exact ⟨(nd_ne ND (i := 6) (j := 0) rfl rfl (by decide)), (nd_ne ND (i := 6) (j := 30) rfl rfl (by decide)), (nd_ne ND (i := 6) (j := 31) rfl rfl (by decide)), (nd_ne ND (i := 6) (j := 32) rfl rfl (by decide))⟩) p_sizes
    have e_out := r0 out_ _ (by simp only [List.mem_cons, List.not_mem_nil, or_false, not_or]; exact ⟨(nd_ne ND (i := 27) (j := 0) rfl rfl (by decide)), (nd_ne ND (i := 27) (j := 30) rfl rfl (by decide)), (nd_ne ND (i := 27) (j := 31) rfl rfl (by decide)), (nd_ne ND (i := 27) (j := 32) rfl rfl (by decide))⟩) p_out
    have hni := hgt_le i n hH
    refine s_Model_finds_4 l e g_outs (fun z_1 => ?_) (fun z => absurd (nI_le (Nat.le_refl _) (by omega)) z)
    have hn1 : n = 1 := Option.some.inj (hH.symm.trans hO)
    refine s_Model_finds_151 l e g_truth e_truth (by unfold vp_in; decide) (nb01 (TR 0 (by omega))) ?_
    exact kk _ _ _ _ _ _ _ (TR 0 (by omega)) l e g_column ga0 e_begins e_lasts e_truth r0
  | succ dd ih =>
    intro i h n c13 cl fb fl fs hi l e g_column ga0 e_begins e_lasts e_truth hH TR r0
    have g_outs := (ga0 37 (by decide)).trans q_outs
    have g_begins := (ga0 53 (by decide)).trans q_begins
    have g_lasts := (ga0 54 (by decide)).trans q_lasts
    have g_tokenAt := (ga0 43 (by decide)).trans q_tokenAt
    have g_tokenSize := (ga0 44 (by decide)).trans q_tokenSize
    have g_texts := (ga0 7 (by decide)).trans q_texts
    have g_asked := (ga0 4 (by decide)).trans q_asked
    have g_firstToken := (ga0 41 (by decide)).trans q_firstToken
    have g_starred := (ga0 42 (by decide)).trans q_starred
    have g_groupKind := (ga0 45 (by decide)).trans q_groupKind
    have g_groupPhrase := (ga0 46 (by decide)).trans q_groupPhrase
    have g_groupSize := (ga0 47 (by decide)).trans q_groupSize
    have g_groupFar := (ga0 49 (by decide)).trans q_groupFar
    have g_groupMask := (ga0 48 (by decide)).trans q_groupMask
    have g_sizes := (ga0 8 (by decide)).trans q_sizes
    have g_out := (ga0 50 (by decide)).trans q_out
    have g_truth := (ga0 57 (by decide)).trans q_truth
    have e_tokenAt := r0 tokenAt_ _ (by simp only [List.mem_cons, List.not_mem_nil, or_false, not_or]; exact ⟨(nd_ne ND (i := 20) (j := 0) rfl rfl (by decide)), (nd_ne ND (i := 20) (j := 30) rfl rfl (by decide)), (nd_ne ND (i := 20) (j := 31) rfl rfl (by decide)), (nd_ne ND (i := 20) (j := 32) rfl rfl (by decide))⟩) p_tokenAt
    have e_tokenSize := r0 tokenSize_ _ (by simp only [List.mem_cons, List.not_mem_nil, or_false, not_or]; exact ⟨(nd_ne ND (i := 21) (j := 0) rfl rfl (by decide)), (nd_ne ND (i := 21) (j := 30) rfl rfl (by decide)), (nd_ne ND (i := 21) (j := 31) rfl rfl (by decide)), (nd_ne ND (i := 21) (j := 32) rfl rfl (by decide))⟩) p_tokenSize
    have e_texts := r0 texts_ _ (by simp only [List.mem_cons, List.not_mem_nil, or_false, not_or]; exact ⟨(nd_ne ND (i := 5) (j := 0) rfl rfl (by decide)), (nd_ne ND (i := 5) (j := 30) rfl rfl (by decide)), (nd_ne ND (i := 5) (j := 31) rfl rfl (by decide)), (nd_ne ND (i := 5) (j := 32) rfl rfl (by decide))⟩) p_texts
    have e_asked := r0 asked_ _ (by simp only [List.mem_cons, List.not_mem_nil, or_false, not_or]; exact ⟨(nd_ne ND (i := 2) (j := 0) rfl rfl (by decide)), (nd_ne ND (i := 2) (j := 30) rfl rfl (by decide)), (nd_ne ND (i := 2) (j := 31) rfl rfl (by decide)), (nd_ne ND (i := 2) (j := 32) rfl rfl (by decide))⟩) p_asked
    have e_firstToken := r0 firstToken_ _ (by simp only [List.mem_cons, List.not_mem_nil, or_false, not_or]; exact ⟨(nd_ne ND (i := 18) (j := 0) rfl rfl (by decide)), (nd_ne ND (i := 18) (j := 30) rfl rfl (by decide)), (nd_ne ND (i := 18) (j := 31) rfl rfl (by decide)), (nd_ne ND (i := 18) (j := 32) rfl rfl (by decide))⟩) p_firstToken
    have e_starred := r0 starred_ _ (by simp only [List.mem_cons, List.not_mem_nil, or_false, not_or]; exact ⟨(nd_ne ND (i := 19) (j := 0) rfl rfl (by decide)), (nd_ne ND (i := 19) (j := 30) rfl rfl (by decide)), (nd_ne ND (i := 19) (j := 31) rfl rfl (by decide)), (nd_ne ND (i := 19) (j := 32) rfl rfl (by decide))⟩) p_starred
    have e_groupKind := r0 groupKind_ _ (by simp only [List.mem_cons, List.not_mem_nil, or_false, not_or]; exact ⟨(nd_ne ND (i := 22) (j := 0) rfl rfl (by decide)), (nd_ne ND (i := 22) (j := 30) rfl rfl (by decide)), (nd_ne ND (i := 22) (j := 31) rfl rfl (by decide)), (nd_ne ND (i := 22) (j := 32) rfl rfl (by decide))⟩) p_groupKind
    have e_groupPhrase := r0 groupPhrase_ _ (by simp only [List.mem_cons, List.not_mem_nil, or_false, not_or]; exact ⟨(nd_ne ND (i := 23) (j := 0) rfl rfl (by decide)), (nd_ne ND (i := 23) (j := 30) rfl rfl (by decide)), (nd_ne ND (i := 23) (j := 31) rfl rfl (by decide)), (nd_ne ND (i := 23) (j := 32) rfl rfl (by decide))⟩) p_groupPhrase
    have e_groupSize := r0 groupSize_ _ (by simp only [List.mem_cons, List.not_mem_nil, or_false, not_or]; exact ⟨(nd_ne ND (i := 24) (j := 0) rfl rfl (by decide)), (nd_ne ND (i := 24) (j := 30) rfl rfl (by decide)), (nd_ne ND (i := 24) (j := 31) rfl rfl (by decide)), (nd_ne ND (i := 24) (j := 32) rfl rfl (by decide))⟩) p_groupSize
    have e_groupFar := r0 groupFar_ _ (by simp only [List.mem_cons, List.not_mem_nil, or_false, not_or]; exact ⟨(nd_ne ND (i := 26) (j := 0) rfl rfl (by decide)), (nd_ne ND (i := 26) (j := 30) rfl rfl (by decide)), (nd_ne ND (i := 26) (j := 31) rfl rfl (by decide)), (nd_ne ND (i := 26) (j := 32) rfl rfl (by decide))⟩) p_groupFar
    have e_groupMask := r0 groupMask_ _ (by simp only [List.mem_cons, List.not_mem_nil, or_false, not_or]; exact ⟨(nd_ne ND (i := 25) (j := 0) rfl rfl (by decide)), (nd_ne ND (i := 25) (j := 30) rfl rfl (by decide)), (nd_ne ND (i := 25) (j := 31) rfl rfl (by decide)), (nd_ne ND (i := 25) (j := 32) rfl rfl (by decide))⟩) p_groupMask
    have e_sizes := r0 sizes_ _ (by simp only [List.mem_cons, List.not_mem_nil, or_false, not_or]; exact ⟨(nd_ne ND (i := 6) (j := 0) rfl rfl (by decide)), (nd_ne ND (i := 6) (j := 30) rfl rfl (by decide)), (nd_ne ND (i := 6) (j := 31) rfl rfl (by decide)), (nd_ne ND (i := 6) (j := 32) rfl rfl (by decide))⟩) p_sizes
    have e_out := r0 out_ _ (by simp only [List.mem_cons, List.not_mem_nil, or_false, not_or]; exact ⟨(nd_ne ND (i := 27) (j := 0) rfl rfl (by decide)), (nd_ne ND (i := 27) (j := 30) rfl rfl (by decide)), (nd_ne ND (i := 27) (j := 31) rfl rfl (by decide)), (nd_ne ND (i := 27) (j := 32) rfl rfl (by decide))⟩) p_out
    have hni := hgt_le i n hH
    refine s_Model_finds_4 l e g_outs (fun z => absurd z (nI_ge (b := o) (show i < o by omega) (by omega))) (fun z_1 => ?_)
    refine s_Model_finds_12 l e g_out e_out (vp_in_nI (by omega) (by omega)) (fun z_2 => ?_) (fun z_3 => ?_)
    · skip
      rw [nI_clamp (show i < 2 ^ 31 by omega)] at z_2
      obtain ⟨hn2, hH2⟩ := hgt_two hO (show i < o by omega) hH z_2
      obtain ⟨n2, rfl⟩ : ∃ n2, n = n2 + 2 := ⟨n - 2, by omega⟩
      refine s_Model_finds_44 l e g_truth e_truth (by rw [show nI (n2 + 2) + (-1) = nI (n2 + 1) from nI_m1 (n2 + 1), nI_pred]; exact vp_in_nI (by omega) (by decide)) (by rw [show nI (n2 + 2) + (-1) = nI (n2 + 1) from nI_m1 (n2 + 1)]; exact vp_in_nI (by omega) (by decide)) g_out e_out (vp_in_nI (by omega) (by omega)) (fun z_4 => ?_) (fun z_5 => ?_)
      · skip
        refine s_Model_finds_100 l e g_out e_out (vp_in_nI (by omega) (by omega)) (fun z_6 => ?_) (fun z_7 => ?_)
        · skip
          refine s_Model_finds_129 (fun z_8 => ?_) (fun z_9 => ?_)
          · skip
            refine s_Model_finds_143 ?_
            refine s_Model_finds_144 e_truth (by rw [show nI (n2 + 2) + (-1) = nI (n2 + 1) from nI_m1 (n2 + 1), nI_pred]; exact vp_in_nI (by omega) (by decide)) ?_
            refine x_u1 (fun h_10 e_11 f_12 => ?_)
            have e_13 := (f_12 m (nd_ne ND (i := 0) (j := 32) rfl rfl (by decide))).trans e
            have e_14 := (f_12 begins_ (nd_ne ND (i := 30) (j := 32) rfl rfl (by decide))).trans e_begins
            have e_15 := (f_12 lasts_ (nd_ne ND (i := 31) (j := 32) rfl rfl (by decide))).trans e_lasts
            have e_16 := (f_12 tokenAt_ (nd_ne ND (i := 20) (j := 32) rfl rfl (by decide))).trans e_tokenAt
            have e_17 := (f_12 tokenSize_ (nd_ne ND (i := 21) (j := 32) rfl rfl (by decide))).trans e_tokenSize
            have e_18 := (f_12 texts_ (nd_ne ND (i := 5) (j := 32) rfl rfl (by decide))).trans e_texts
            have e_19 := (f_12 asked_ (nd_ne ND (i := 2) (j := 32) rfl rfl (by decide))).trans e_asked
            have e_20 := (f_12 firstToken_ (nd_ne ND (i := 18) (j := 32) rfl rfl (by decide))).trans e_firstToken
            have e_21 := (f_12 starred_ (nd_ne ND (i := 19) (j := 32) rfl rfl (by decide))).trans e_starred
            have e_22 := (f_12 groupKind_ (nd_ne ND (i := 22) (j := 32) rfl rfl (by decide))).trans e_groupKind
            have e_23 := (f_12 groupPhrase_ (nd_ne ND (i := 23) (j := 32) rfl rfl (by decide))).trans e_groupPhrase
            have e_24 := (f_12 groupSize_ (nd_ne ND (i := 24) (j := 32) rfl rfl (by decide))).trans e_groupSize
            have e_25 := (f_12 groupFar_ (nd_ne ND (i := 26) (j := 32) rfl rfl (by decide))).trans e_groupFar
            have e_26 := (f_12 groupMask_ (nd_ne ND (i := 25) (j := 32) rfl rfl (by decide))).trans e_groupMask
            have e_27 := (f_12 sizes_ (nd_ne ND (i := 6) (j := 32) rfl rfl (by decide))).trans e_sizes
            have e_28 := (f_12 out_ (nd_ne ND (i := 27) (j := 32) rfl rfl (by decide))).trans e_out
            have r_29 := r0.up (by simp) f_12
            refine s_Model_finds_145 ?_
            rw [show nI (n2 + 2) + (-1) = nI (n2 + 1) from nI_m1 (n2 + 1), nI_1]
            rw [show nI (n2 + 2) + (-1) = nI (n2 + 1) from nI_m1 (n2 + 1), nI_pred, nI_clamp (show n2 < 2 ^ 31 by omega)] at e_11
            exact ih (i + 1) _ (n2 + 1) _ _ _ _ _ (by omega) l e_13 g_column ga0 e_14 e_15 e_11 (by rw [hH2]; rfl) (fun j hj => by by_cases q : j = n2; (subst q; rw [pk_us]; exact vnb (by simp)); (rw [pk_un q]; exact TR j (by omega))) r_29
          · skip
            refine s_Model_finds_134 (fun z_30 => ?_) (fun z_31 => ?_)
            · skip
              refine s_Model_finds_143 ?_
              refine s_Model_finds_144 e_truth (by rw [show nI (n2 + 2) + (-1) = nI (n2 + 1) from nI_m1 (n2 + 1), nI_pred]; exact vp_in_nI (by omega) (by decide)) ?_
              refine x_u1 (fun h_32 e_33 f_34 => ?_)
              have e_35 := (f_34 m (nd_ne ND (i := 0) (j := 32) rfl rfl (by decide))).trans e
              have e_36 := (f_34 begins_ (nd_ne ND (i := 30) (j := 32) rfl rfl (by decide))).trans e_begins
              have e_37 := (f_34 lasts_ (nd_ne ND (i := 31) (j := 32) rfl rfl (by decide))).trans e_lasts
              have e_38 := (f_34 tokenAt_ (nd_ne ND (i := 20) (j := 32) rfl rfl (by decide))).trans e_tokenAt
              have e_39 := (f_34 tokenSize_ (nd_ne ND (i := 21) (j := 32) rfl rfl (by decide))).trans e_tokenSize
              have e_40 := (f_34 texts_ (nd_ne ND (i := 5) (j := 32) rfl rfl (by decide))).trans e_texts
              have e_41 := (f_34 asked_ (nd_ne ND (i := 2) (j := 32) rfl rfl (by decide))).trans e_asked
              have e_42 := (f_34 firstToken_ (nd_ne ND (i := 18) (j := 32) rfl rfl (by decide))).trans e_firstToken
              have e_43 := (f_34 starred_ (nd_ne ND (i := 19) (j := 32) rfl rfl (by decide))).trans e_starred
              have e_44 := (f_34 groupKind_ (nd_ne ND (i := 22) (j := 32) rfl rfl (by decide))).trans e_groupKind
              have e_45 := (f_34 groupPhrase_ (nd_ne ND (i := 23) (j := 32) rfl rfl (by decide))).trans e_groupPhrase
              have e_46 := (f_34 groupSize_ (nd_ne ND (i := 24) (j := 32) rfl rfl (by decide))).trans e_groupSize
              have e_47 := (f_34 groupFar_ (nd_ne ND (i := 26) (j := 32) rfl rfl (by decide))).trans e_groupFar
              have e_48 := (f_34 groupMask_ (nd_ne ND (i := 25) (j := 32) rfl rfl (by decide))).trans e_groupMask
              have e_49 := (f_34 sizes_ (nd_ne ND (i := 6) (j := 32) rfl rfl (by decide))).trans e_sizes
              have e_50 := (f_34 out_ (nd_ne ND (i := 27) (j := 32) rfl rfl (by decide))).trans e_out
              have r_51 := r0.up (by simp) f_34
              refine s_Model_finds_145 ?_
              rw [show nI (n2 + 2) + (-1) = nI (n2 + 1) from nI_m1 (n2 + 1), nI_1]
              rw [show nI (n2 + 2) + (-1) = nI (n2 + 1) from nI_m1 (n2 + 1), nI_pred, nI_clamp (show n2 < 2 ^ 31 by omega)] at e_33
              exact ih (i + 1) _ (n2 + 1) _ _ _ _ _ (by omega) l e_35 g_column ga0 e_36 e_37 e_33 (by rw [hH2]; rfl) (fun j hj => by by_cases q : j = n2; (subst q; rw [pk_us]; exact vnb (by simp)); (rw [pk_un q]; exact TR j (by omega))) r_51
            · skip
              refine s_Model_finds_139 ?_
              refine s_Model_finds_144 e_truth (by rw [show nI (n2 + 2) + (-1) = nI (n2 + 1) from nI_m1 (n2 + 1), nI_pred]; exact vp_in_nI (by omega) (by decide)) ?_
              refine x_u1 (fun h_52 e_53 f_54 => ?_)
              have e_55 := (f_54 m (nd_ne ND (i := 0) (j := 32) rfl rfl (by decide))).trans e
              have e_56 := (f_54 begins_ (nd_ne ND (i := 30) (j := 32) rfl rfl (by decide))).trans e_begins
              have e_57 := (f_54 lasts_ (nd_ne ND (i := 31) (j := 32) rfl rfl (by decide))).trans e_lasts
              have e_58 := (f_54 tokenAt_ (nd_ne ND (i := 20) (j := 32) rfl rfl (by decide))).trans e_tokenAt
              have e_59 := (f_54 tokenSize_ (nd_ne ND (i := 21) (j := 32) rfl rfl (by decide))).trans e_tokenSize
              have e_60 := (f_54 texts_ (nd_ne ND (i := 5) (j := 32) rfl rfl (by decide))).trans e_texts
              have e_61 := (f_54 asked_ (nd_ne ND (i := 2) (j := 32) rfl rfl (by decide))).trans e_asked
              have e_62 := (f_54 firstToken_ (nd_ne ND (i := 18) (j := 32) rfl rfl (by decide))).trans e_firstToken
              have e_63 := (f_54 starred_ (nd_ne ND (i := 19) (j := 32) rfl rfl (by decide))).trans e_starred
              have e_64 := (f_54 groupKind_ (nd_ne ND (i := 22) (j := 32) rfl rfl (by decide))).trans e_groupKind
              have e_65 := (f_54 groupPhrase_ (nd_ne ND (i := 23) (j := 32) rfl rfl (by decide))).trans e_groupPhrase
              have e_66 := (f_54 groupSize_ (nd_ne ND (i := 24) (j := 32) rfl rfl (by decide))).trans e_groupSize
              have e_67 := (f_54 groupFar_ (nd_ne ND (i := 26) (j := 32) rfl rfl (by decide))).trans e_groupFar
              have e_68 := (f_54 groupMask_ (nd_ne ND (i := 25) (j := 32) rfl rfl (by decide))).trans e_groupMask
              have e_69 := (f_54 sizes_ (nd_ne ND (i := 6) (j := 32) rfl rfl (by decide))).trans e_sizes
              have e_70 := (f_54 out_ (nd_ne ND (i := 27) (j := 32) rfl rfl (by decide))).trans e_out
              have r_71 := r0.up (by simp) f_54
              refine s_Model_finds_145 ?_
              rw [show nI (n2 + 2) + (-1) = nI (n2 + 1) from nI_m1 (n2 + 1), nI_1]
              rw [show nI (n2 + 2) + (-1) = nI (n2 + 1) from nI_m1 (n2 + 1), nI_pred, nI_clamp (show n2 < 2 ^ 31 by omega)] at e_53
              exact ih (i + 1) _ (n2 + 1) _ _ _ _ _ (by omega) l e_55 g_column ga0 e_56 e_57 e_53 (by rw [hH2]; rfl) (fun j hj => by by_cases q : j = n2; (subst q; rw [pk_us]; exact vnb (by simp)); (rw [pk_un q]; exact TR j (by omega))) r_71
        · skip
          refine s_Model_finds_111 (fun z_72 => ?_) (fun z_73 => ?_)
          · skip
            refine s_Model_finds_125 ?_
            refine s_Model_finds_144 e_truth (by rw [show nI (n2 + 2) + (-1) = nI (n2 + 1) from nI_m1 (n2 + 1), nI_pred]; exact vp_in_nI (by omega) (by decide)) ?_
            refine x_u1 (fun h_74 e_75 f_76 => ?_)
            have e_77 := (f_76 m (nd_ne ND (i := 0) (j := 32) rfl rfl (by decide))).trans e
            have e_78 := (f_76 begins_ (nd_ne ND (i := 30) (j := 32) rfl rfl (by decide))).trans e_begins
            have e_79 := (f_76 lasts_ (nd_ne ND (i := 31) (j := 32) rfl rfl (by decide))).trans e_lasts
            have e_80 := (f_76 tokenAt_ (nd_ne ND (i := 20) (j := 32) rfl rfl (by decide))).trans e_tokenAt
            have e_81 := (f_76 tokenSize_ (nd_ne ND (i := 21) (j := 32) rfl rfl (by decide))).trans e_tokenSize
            have e_82 := (f_76 texts_ (nd_ne ND (i := 5) (j := 32) rfl rfl (by decide))).trans e_texts
            have e_83 := (f_76 asked_ (nd_ne ND (i := 2) (j := 32) rfl rfl (by decide))).trans e_asked
            have e_84 := (f_76 firstToken_ (nd_ne ND (i := 18) (j := 32) rfl rfl (by decide))).trans e_firstToken
            have e_85 := (f_76 starred_ (nd_ne ND (i := 19) (j := 32) rfl rfl (by decide))).trans e_starred
            have e_86 := (f_76 groupKind_ (nd_ne ND (i := 22) (j := 32) rfl rfl (by decide))).trans e_groupKind
            have e_87 := (f_76 groupPhrase_ (nd_ne ND (i := 23) (j := 32) rfl rfl (by decide))).trans e_groupPhrase
            have e_88 := (f_76 groupSize_ (nd_ne ND (i := 24) (j := 32) rfl rfl (by decide))).trans e_groupSize
            have e_89 := (f_76 groupFar_ (nd_ne ND (i := 26) (j := 32) rfl rfl (by decide))).trans e_groupFar
            have e_90 := (f_76 groupMask_ (nd_ne ND (i := 25) (j := 32) rfl rfl (by decide))).trans e_groupMask
            have e_91 := (f_76 sizes_ (nd_ne ND (i := 6) (j := 32) rfl rfl (by decide))).trans e_sizes
            have e_92 := (f_76 out_ (nd_ne ND (i := 27) (j := 32) rfl rfl (by decide))).trans e_out
            have r_93 := r0.up (by simp) f_76
            refine s_Model_finds_145 ?_
            rw [show nI (n2 + 2) + (-1) = nI (n2 + 1) from nI_m1 (n2 + 1), nI_1]
            rw [show nI (n2 + 2) + (-1) = nI (n2 + 1) from nI_m1 (n2 + 1), nI_pred, nI_clamp (show n2 < 2 ^ 31 by omega)] at e_75
            exact ih (i + 1) _ (n2 + 1) _ _ _ _ _ (by omega) l e_77 g_column ga0 e_78 e_79 e_75 (by rw [hH2]; rfl) (fun j hj => by by_cases q : j = n2; (subst q; rw [pk_us]; exact vnb (by simp)); (rw [pk_un q]; exact TR j (by omega))) r_93
          · skip
            refine s_Model_finds_116 (fun z_94 => ?_) (fun z_95 => ?_)
            · skip
              refine s_Model_finds_125 ?_
              refine s_Model_finds_144 e_truth (by rw [show nI (n2 + 2) + (-1) = nI (n2 + 1) from nI_m1 (n2 + 1), nI_pred]; exact vp_in_nI (by omega) (by decide)) ?_
              refine x_u1 (fun h_96 e_97 f_98 => ?_)
              have e_99 := (f_98 m (nd_ne ND (i := 0) (j := 32) rfl rfl (by decide))).trans e
              have e_100 := (f_98 begins_ (nd_ne ND (i := 30) (j := 32) rfl rfl (by decide))).trans e_begins
              have e_101 := (f_98 lasts_ (nd_ne ND (i := 31) (j := 32) rfl rfl (by decide))).trans e_lasts
              have e_102 := (f_98 tokenAt_ (nd_ne ND (i := 20) (j := 32) rfl rfl (by decide))).trans e_tokenAt
              have e_103 := (f_98 tokenSize_ (nd_ne ND (i := 21) (j := 32) rfl rfl (by decide))).trans e_tokenSize
              have e_104 := (f_98 texts_ (nd_ne ND (i := 5) (j := 32) rfl rfl (by decide))).trans e_texts
              have e_105 := (f_98 asked_ (nd_ne ND (i := 2) (j := 32) rfl rfl (by decide))).trans e_asked
              have e_106 := (f_98 firstToken_ (nd_ne ND (i := 18) (j := 32) rfl rfl (by decide))).trans e_firstToken
              have e_107 := (f_98 starred_ (nd_ne ND (i := 19) (j := 32) rfl rfl (by decide))).trans e_starred
              have e_108 := (f_98 groupKind_ (nd_ne ND (i := 22) (j := 32) rfl rfl (by decide))).trans e_groupKind
              have e_109 := (f_98 groupPhrase_ (nd_ne ND (i := 23) (j := 32) rfl rfl (by decide))).trans e_groupPhrase
              have e_110 := (f_98 groupSize_ (nd_ne ND (i := 24) (j := 32) rfl rfl (by decide))).trans e_groupSize
              have e_111 := (f_98 groupFar_ (nd_ne ND (i := 26) (j := 32) rfl rfl (by decide))).trans e_groupFar
              have e_112 := (f_98 groupMask_ (nd_ne ND (i := 25) (j := 32) rfl rfl (by decide))).trans e_groupMask
              have e_113 := (f_98 sizes_ (nd_ne ND (i := 6) (j := 32) rfl rfl (by decide))).trans e_sizes
              have e_114 := (f_98 out_ (nd_ne ND (i := 27) (j := 32) rfl rfl (by decide))).trans e_out
              have r_115 := r0.up (by simp) f_98
              refine s_Model_finds_145 ?_
              rw [show nI (n2 + 2) + (-1) = nI (n2 + 1) from nI_m1 (n2 + 1), nI_1]
              rw [show nI (n2 + 2) + (-1) = nI (n2 + 1) from nI_m1 (n2 + 1), nI_pred, nI_clamp (show n2 < 2 ^ 31 by omega)] at e_97
              exact ih (i + 1) _ (n2 + 1) _ _ _ _ _ (by omega) l e_99 g_column ga0 e_100 e_101 e_97 (by rw [hH2]; rfl) (fun j hj => by by_cases q : j = n2; (subst q; rw [pk_us]; exact vnb (by simp)); (rw [pk_un q]; exact TR j (by omega))) r_115
            · skip
              refine s_Model_finds_121 ?_
              refine s_Model_finds_144 e_truth (by rw [show nI (n2 + 2) + (-1) = nI (n2 + 1) from nI_m1 (n2 + 1), nI_pred]; exact vp_in_nI (by omega) (by decide)) ?_
              refine x_u1 (fun h_116 e_117 f_118 => ?_)
              have e_119 := (f_118 m (nd_ne ND (i := 0) (j := 32) rfl rfl (by decide))).trans e
              have e_120 := (f_118 begins_ (nd_ne ND (i := 30) (j := 32) rfl rfl (by decide))).trans e_begins
              have e_121 := (f_118 lasts_ (nd_ne ND (i := 31) (j := 32) rfl rfl (by decide))).trans e_lasts
              have e_122 := (f_118 tokenAt_ (nd_ne ND (i := 20) (j := 32) rfl rfl (by decide))).trans e_tokenAt
              have e_123 := (f_118 tokenSize_ (nd_ne ND (i := 21) (j := 32) rfl rfl (by decide))).trans e_tokenSize
              have e_124 := (f_118 texts_ (nd_ne ND (i := 5) (j := 32) rfl rfl (by decide))).trans e_texts
              have e_125 := (f_118 asked_ (nd_ne ND (i := 2) (j := 32) rfl rfl (by decide))).trans e_asked
              have e_126 := (f_118 firstToken_ (nd_ne ND (i := 18) (j := 32) rfl rfl (by decide))).trans e_firstToken
              have e_127 := (f_118 starred_ (nd_ne ND (i := 19) (j := 32) rfl rfl (by decide))).trans e_starred
              have e_128 := (f_118 groupKind_ (nd_ne ND (i := 22) (j := 32) rfl rfl (by decide))).trans e_groupKind
              have e_129 := (f_118 groupPhrase_ (nd_ne ND (i := 23) (j := 32) rfl rfl (by decide))).trans e_groupPhrase
              have e_130 := (f_118 groupSize_ (nd_ne ND (i := 24) (j := 32) rfl rfl (by decide))).trans e_groupSize
              have e_131 := (f_118 groupFar_ (nd_ne ND (i := 26) (j := 32) rfl rfl (by decide))).trans e_groupFar
              have e_132 := (f_118 groupMask_ (nd_ne ND (i := 25) (j := 32) rfl rfl (by decide))).trans e_groupMask
              have e_133 := (f_118 sizes_ (nd_ne ND (i := 6) (j := 32) rfl rfl (by decide))).trans e_sizes
              have e_134 := (f_118 out_ (nd_ne ND (i := 27) (j := 32) rfl rfl (by decide))).trans e_out
              have r_135 := r0.up (by simp) f_118
              refine s_Model_finds_145 ?_
              rw [show nI (n2 + 2) + (-1) = nI (n2 + 1) from nI_m1 (n2 + 1), nI_1]
              rw [show nI (n2 + 2) + (-1) = nI (n2 + 1) from nI_m1 (n2 + 1), nI_pred, nI_clamp (show n2 < 2 ^ 31 by omega)] at e_117
              exact ih (i + 1) _ (n2 + 1) _ _ _ _ _ (by omega) l e_119 g_column ga0 e_120 e_121 e_117 (by rw [hH2]; rfl) (fun j hj => by by_cases q : j = n2; (subst q; rw [pk_us]; exact vnb (by simp)); (rw [pk_un q]; exact TR j (by omega))) r_135
      · skip
        refine s_Model_finds_82 (fun z_136 => ?_) (fun z_137 => ?_)
        · skip
          refine s_Model_finds_92 ?_
          refine s_Model_finds_144 e_truth (by rw [show nI (n2 + 2) + (-1) = nI (n2 + 1) from nI_m1 (n2 + 1), nI_pred]; exact vp_in_nI (by omega) (by decide)) ?_
          refine x_u1 (fun h_138 e_139 f_140 => ?_)
          have e_141 := (f_140 m (nd_ne ND (i := 0) (j := 32) rfl rfl (by decide))).trans e
          have e_142 := (f_140 begins_ (nd_ne ND (i := 30) (j := 32) rfl rfl (by decide))).trans e_begins
          have e_143 := (f_140 lasts_ (nd_ne ND (i := 31) (j := 32) rfl rfl (by decide))).trans e_lasts
          have e_144 := (f_140 tokenAt_ (nd_ne ND (i := 20) (j := 32) rfl rfl (by decide))).trans e_tokenAt
          have e_145 := (f_140 tokenSize_ (nd_ne ND (i := 21) (j := 32) rfl rfl (by decide))).trans e_tokenSize
          have e_146 := (f_140 texts_ (nd_ne ND (i := 5) (j := 32) rfl rfl (by decide))).trans e_texts
          have e_147 := (f_140 asked_ (nd_ne ND (i := 2) (j := 32) rfl rfl (by decide))).trans e_asked
          have e_148 := (f_140 firstToken_ (nd_ne ND (i := 18) (j := 32) rfl rfl (by decide))).trans e_firstToken
          have e_149 := (f_140 starred_ (nd_ne ND (i := 19) (j := 32) rfl rfl (by decide))).trans e_starred
          have e_150 := (f_140 groupKind_ (nd_ne ND (i := 22) (j := 32) rfl rfl (by decide))).trans e_groupKind
          have e_151 := (f_140 groupPhrase_ (nd_ne ND (i := 23) (j := 32) rfl rfl (by decide))).trans e_groupPhrase
          have e_152 := (f_140 groupSize_ (nd_ne ND (i := 24) (j := 32) rfl rfl (by decide))).trans e_groupSize
          have e_153 := (f_140 groupFar_ (nd_ne ND (i := 26) (j := 32) rfl rfl (by decide))).trans e_groupFar
          have e_154 := (f_140 groupMask_ (nd_ne ND (i := 25) (j := 32) rfl rfl (by decide))).trans e_groupMask
          have e_155 := (f_140 sizes_ (nd_ne ND (i := 6) (j := 32) rfl rfl (by decide))).trans e_sizes
          have e_156 := (f_140 out_ (nd_ne ND (i := 27) (j := 32) rfl rfl (by decide))).trans e_out
          have r_157 := r0.up (by simp) f_140
          refine s_Model_finds_145 ?_
          rw [show nI (n2 + 2) + (-1) = nI (n2 + 1) from nI_m1 (n2 + 1), nI_1]
          rw [show nI (n2 + 2) + (-1) = nI (n2 + 1) from nI_m1 (n2 + 1), nI_pred, nI_clamp (show n2 < 2 ^ 31 by omega)] at e_139
          exact ih (i + 1) _ (n2 + 1) _ _ _ _ _ (by omega) l e_141 g_column ga0 e_142 e_143 e_139 (by rw [hH2]; rfl) (fun j hj => by by_cases q : j = n2; (subst q; rw [pk_us]; exact vnb (by simp)); (rw [pk_un q]; exact TR j (by omega))) r_157
        · skip
          refine s_Model_finds_87 (fun z_158 => ?_) (fun z_159 => ?_)
          · skip
            refine s_Model_finds_96 ?_
            refine s_Model_finds_144 e_truth (by rw [show nI (n2 + 2) + (-1) = nI (n2 + 1) from nI_m1 (n2 + 1), nI_pred]; exact vp_in_nI (by omega) (by decide)) ?_
            refine x_u1 (fun h_160 e_161 f_162 => ?_)
            have e_163 := (f_162 m (nd_ne ND (i := 0) (j := 32) rfl rfl (by decide))).trans e
            have e_164 := (f_162 begins_ (nd_ne ND (i := 30) (j := 32) rfl rfl (by decide))).trans e_begins
            have e_165 := (f_162 lasts_ (nd_ne ND (i := 31) (j := 32) rfl rfl (by decide))).trans e_lasts
            have e_166 := (f_162 tokenAt_ (nd_ne ND (i := 20) (j := 32) rfl rfl (by decide))).trans e_tokenAt
            have e_167 := (f_162 tokenSize_ (nd_ne ND (i := 21) (j := 32) rfl rfl (by decide))).trans e_tokenSize
            have e_168 := (f_162 texts_ (nd_ne ND (i := 5) (j := 32) rfl rfl (by decide))).trans e_texts
            have e_169 := (f_162 asked_ (nd_ne ND (i := 2) (j := 32) rfl rfl (by decide))).trans e_asked
            have e_170 := (f_162 firstToken_ (nd_ne ND (i := 18) (j := 32) rfl rfl (by decide))).trans e_firstToken
            have e_171 := (f_162 starred_ (nd_ne ND (i := 19) (j := 32) rfl rfl (by decide))).trans e_starred
            have e_172 := (f_162 groupKind_ (nd_ne ND (i := 22) (j := 32) rfl rfl (by decide))).trans e_groupKind
            have e_173 := (f_162 groupPhrase_ (nd_ne ND (i := 23) (j := 32) rfl rfl (by decide))).trans e_groupPhrase
            have e_174 := (f_162 groupSize_ (nd_ne ND (i := 24) (j := 32) rfl rfl (by decide))).trans e_groupSize
            have e_175 := (f_162 groupFar_ (nd_ne ND (i := 26) (j := 32) rfl rfl (by decide))).trans e_groupFar
            have e_176 := (f_162 groupMask_ (nd_ne ND (i := 25) (j := 32) rfl rfl (by decide))).trans e_groupMask
            have e_177 := (f_162 sizes_ (nd_ne ND (i := 6) (j := 32) rfl rfl (by decide))).trans e_sizes
            have e_178 := (f_162 out_ (nd_ne ND (i := 27) (j := 32) rfl rfl (by decide))).trans e_out
            have r_179 := r0.up (by simp) f_162
            refine s_Model_finds_145 ?_
            rw [show nI (n2 + 2) + (-1) = nI (n2 + 1) from nI_m1 (n2 + 1), nI_1]
            rw [show nI (n2 + 2) + (-1) = nI (n2 + 1) from nI_m1 (n2 + 1), nI_pred, nI_clamp (show n2 < 2 ^ 31 by omega)] at e_161
            exact ih (i + 1) _ (n2 + 1) _ _ _ _ _ (by omega) l e_163 g_column ga0 e_164 e_165 e_161 (by rw [hH2]; rfl) (fun j hj => by by_cases q : j = n2; (subst q; rw [pk_us]; exact vnb (by simp)); (rw [pk_un q]; exact TR j (by omega))) r_179
          · skip
            refine s_Model_finds_92 ?_
            refine s_Model_finds_144 e_truth (by rw [show nI (n2 + 2) + (-1) = nI (n2 + 1) from nI_m1 (n2 + 1), nI_pred]; exact vp_in_nI (by omega) (by decide)) ?_
            refine x_u1 (fun h_180 e_181 f_182 => ?_)
            have e_183 := (f_182 m (nd_ne ND (i := 0) (j := 32) rfl rfl (by decide))).trans e
            have e_184 := (f_182 begins_ (nd_ne ND (i := 30) (j := 32) rfl rfl (by decide))).trans e_begins
            have e_185 := (f_182 lasts_ (nd_ne ND (i := 31) (j := 32) rfl rfl (by decide))).trans e_lasts
            have e_186 := (f_182 tokenAt_ (nd_ne ND (i := 20) (j := 32) rfl rfl (by decide))).trans e_tokenAt
            have e_187 := (f_182 tokenSize_ (nd_ne ND (i := 21) (j := 32) rfl rfl (by decide))).trans e_tokenSize
            have e_188 := (f_182 texts_ (nd_ne ND (i := 5) (j := 32) rfl rfl (by decide))).trans e_texts
            have e_189 := (f_182 asked_ (nd_ne ND (i := 2) (j := 32) rfl rfl (by decide))).trans e_asked
            have e_190 := (f_182 firstToken_ (nd_ne ND (i := 18) (j := 32) rfl rfl (by decide))).trans e_firstToken
            have e_191 := (f_182 starred_ (nd_ne ND (i := 19) (j := 32) rfl rfl (by decide))).trans e_starred
            have e_192 := (f_182 groupKind_ (nd_ne ND (i := 22) (j := 32) rfl rfl (by decide))).trans e_groupKind
            have e_193 := (f_182 groupPhrase_ (nd_ne ND (i := 23) (j := 32) rfl rfl (by decide))).trans e_groupPhrase
            have e_194 := (f_182 groupSize_ (nd_ne ND (i := 24) (j := 32) rfl rfl (by decide))).trans e_groupSize
            have e_195 := (f_182 groupFar_ (nd_ne ND (i := 26) (j := 32) rfl rfl (by decide))).trans e_groupFar
            have e_196 := (f_182 groupMask_ (nd_ne ND (i := 25) (j := 32) rfl rfl (by decide))).trans e_groupMask
            have e_197 := (f_182 sizes_ (nd_ne ND (i := 6) (j := 32) rfl rfl (by decide))).trans e_sizes
            have e_198 := (f_182 out_ (nd_ne ND (i := 27) (j := 32) rfl rfl (by decide))).trans e_out
            have r_199 := r0.up (by simp) f_182
            refine s_Model_finds_145 ?_
            rw [show nI (n2 + 2) + (-1) = nI (n2 + 1) from nI_m1 (n2 + 1), nI_1]
            rw [show nI (n2 + 2) + (-1) = nI (n2 + 1) from nI_m1 (n2 + 1), nI_pred, nI_clamp (show n2 < 2 ^ 31 by omega)] at e_181
            exact ih (i + 1) _ (n2 + 1) _ _ _ _ _ (by omega) l e_183 g_column ga0 e_184 e_185 e_181 (by rw [hH2]; rfl) (fun j hj => by by_cases q : j = n2; (subst q; rw [pk_us]; exact vnb (by simp)); (rw [pk_un q]; exact TR j (by omega))) r_199
    · skip
      refine s_Model_finds_21 (truth_a0 := some truth_) l e g_truth g_out e_out (vp_in_nI (by omega) (by omega)) ?_
      have hnn : ¬ co i < 0 := by rw [nI_clamp (show i < 2 ^ 31 by omega)] at z_3; exact z_3
      obtain ⟨j, hj, hcj⟩ := (hC i (by omega)).resolve_left hnn
      rw [show co (nI i).toNatClampNeg = nI j by rw [nI_clamp (by omega)]; exact hcj]
      obtain ⟨a8, q8, h68, h78, hq8, haq8⟩ := GR j hj
      refine x_callV (As := [.int (nI j), .int (nI r)]) (b := m) (rest := [.int (nI n), .ref truth_]) (F1 := 7) (L1 := 161) (mc := 0) (ms := 0) d_Model_finds_34 cV_Model_325 (f_holds l e g_column g_begins e_begins g_lasts e_lasts g_tokenAt e_tokenAt g_tokenSize e_tokenSize g_texts e_texts g_asked e_asked g_firstToken e_firstToken g_starred e_starred g_groupKind e_groupKind g_groupPhrase e_groupPhrase g_groupSize e_groupSize g_groupFar e_groupFar g_groupMask e_groupMask g_sizes e_sizes ND hP PH ht TK (show j < 13 by omega) h68 h78 hq8 haq8 hr hz (by omega) (by omega)) e ⟨by decide, rfl⟩ ⟨by omega, by show 8 + (4 + 11) + 161 ≤ _; omega⟩ ⟨by omega, by omega⟩ (Nat.le_of_ble_eq_true rfl) (fun v_214 h_213 p_215 => ?_)
      obtain ⟨⟨y_200, rfl, hy_201⟩, cl_202, fb_203, fl_204, fs_205, l_206, e_207, g_208, ga_209, eb_210, el_211, r_212⟩ := p_215
      have e_216 := r_212 tokenAt_ _ (by simp only [List.mem_cons, List.not_mem_nil, or_false, not_or]; exact ⟨(Ne.symm (nd_ne ND (i := 0) (j := 20) rfl rfl (by decide))), (Ne.symm (nd_ne ND (i := 30) (j := 20) rfl rfl (by decide))), (Ne.symm (nd_ne ND (i := 31) (j := 20) rfl rfl (by decide)))⟩) e_tokenAt
      have e_217 := r_212 tokenSize_ _ (by simp only [List.mem_cons, List.not_mem_nil, or_false, not_or]; exact ⟨(Ne.symm (nd_ne ND (i := 0) (j := 21) rfl rfl (by decide))), (Ne.symm (nd_ne ND (i := 30) (j := 21) rfl rfl (by decide))), (Ne.symm (nd_ne ND (i := 31) (j := 21) rfl rfl (by decide)))⟩) e_tokenSize
      have e_218 := r_212 texts_ _ (by simp only [List.mem_cons, List.not_mem_nil, or_false, not_or]; exact ⟨(Ne.symm (nd_ne ND (i := 0) (j := 5) rfl rfl (by decide))), (Ne.symm (nd_ne ND (i := 30) (j := 5) rfl rfl (by decide))), (Ne.symm (nd_ne ND (i := 31) (j := 5) rfl rfl (by decide)))⟩) e_texts
      have e_219 := r_212 asked_ _ (by simp only [List.mem_cons, List.not_mem_nil, or_false, not_or]; exact ⟨(Ne.symm (nd_ne ND (i := 0) (j := 2) rfl rfl (by decide))), (Ne.symm (nd_ne ND (i := 30) (j := 2) rfl rfl (by decide))), (Ne.symm (nd_ne ND (i := 31) (j := 2) rfl rfl (by decide)))⟩) e_asked
      have e_220 := r_212 firstToken_ _ (by simp only [List.mem_cons, List.not_mem_nil, or_false, not_or]; exact ⟨(Ne.symm (nd_ne ND (i := 0) (j := 18) rfl rfl (by decide))), (Ne.symm (nd_ne ND (i := 30) (j := 18) rfl rfl (by decide))), (Ne.symm (nd_ne ND (i := 31) (j := 18) rfl rfl (by decide)))⟩) e_firstToken
      have e_221 := r_212 starred_ _ (by simp only [List.mem_cons, List.not_mem_nil, or_false, not_or]; exact ⟨(Ne.symm (nd_ne ND (i := 0) (j := 19) rfl rfl (by decide))), (Ne.symm (nd_ne ND (i := 30) (j := 19) rfl rfl (by decide))), (Ne.symm (nd_ne ND (i := 31) (j := 19) rfl rfl (by decide)))⟩) e_starred
      have e_222 := r_212 groupKind_ _ (by simp only [List.mem_cons, List.not_mem_nil, or_false, not_or]; exact ⟨(Ne.symm (nd_ne ND (i := 0) (j := 22) rfl rfl (by decide))), (Ne.symm (nd_ne ND (i := 30) (j := 22) rfl rfl (by decide))), (Ne.symm (nd_ne ND (i := 31) (j := 22) rfl rfl (by decide)))⟩) e_groupKind
      have e_223 := r_212 groupPhrase_ _ (by simp only [List.mem_cons, List.not_mem_nil, or_false, not_or]; exact ⟨(Ne.symm (nd_ne ND (i := 0) (j := 23) rfl rfl (by decide))), (Ne.symm (nd_ne ND (i := 30) (j := 23) rfl rfl (by decide))), (Ne.symm (nd_ne ND (i := 31) (j := 23) rfl rfl (by decide)))⟩) e_groupPhrase
      have e_224 := r_212 groupSize_ _ (by simp only [List.mem_cons, List.not_mem_nil, or_false, not_or]; exact ⟨(Ne.symm (nd_ne ND (i := 0) (j := 24) rfl rfl (by decide))), (Ne.symm (nd_ne ND (i := 30) (j := 24) rfl rfl (by decide))), (Ne.symm (nd_ne ND (i := 31) (j := 24) rfl rfl (by decide)))⟩) e_groupSize
      have e_225 := r_212 groupFar_ _ (by simp only [List.mem_cons, List.not_mem_nil, or_false, not_or]; exact ⟨(Ne.symm (nd_ne ND (i := 0) (j := 26) rfl rfl (by decide))), (Ne.symm (nd_ne ND (i := 30) (j := 26) rfl rfl (by decide))), (Ne.symm (nd_ne ND (i := 31) (j := 26) rfl rfl (by decide)))⟩) e_groupFar
      have e_226 := r_212 groupMask_ _ (by simp only [List.mem_cons, List.not_mem_nil, or_false, not_or]; exact ⟨(Ne.symm (nd_ne ND (i := 0) (j := 25) rfl rfl (by decide))), (Ne.symm (nd_ne ND (i := 30) (j := 25) rfl rfl (by decide))), (Ne.symm (nd_ne ND (i := 31) (j := 25) rfl rfl (by decide)))⟩) e_groupMask
      have e_227 := r_212 sizes_ _ (by simp only [List.mem_cons, List.not_mem_nil, or_false, not_or]; exact ⟨(Ne.symm (nd_ne ND (i := 0) (j := 6) rfl rfl (by decide))), (Ne.symm (nd_ne ND (i := 30) (j := 6) rfl rfl (by decide))), (Ne.symm (nd_ne ND (i := 31) (j := 6) rfl rfl (by decide)))⟩) e_sizes
      have e_228 := r_212 out_ _ (by simp only [List.mem_cons, List.not_mem_nil, or_false, not_or]; exact ⟨(Ne.symm (nd_ne ND (i := 0) (j := 27) rfl rfl (by decide))), (Ne.symm (nd_ne ND (i := 30) (j := 27) rfl rfl (by decide))), (Ne.symm (nd_ne ND (i := 31) (j := 27) rfl rfl (by decide)))⟩) e_out
      have e_229 := r_212 truth_ _ (by simp only [List.mem_cons, List.not_mem_nil, or_false, not_or]; exact ⟨(Ne.symm (nd_ne ND (i := 0) (j := 32) rfl rfl (by decide))), (Ne.symm (nd_ne ND (i := 30) (j := 32) rfl rfl (by decide))), (Ne.symm (nd_ne ND (i := 31) (j := 32) rfl rfl (by decide)))⟩) e_truth
      have r_230 := r0.trans (r_212.mono (by simp))
      have g_231 : fs_205[(37 : Nat)]? = some (.int (nI o)) := (ga_209 37 (by decide)).trans g_outs
      have g_232 : fs_205[(53 : Nat)]? = some (.ref begins_) := (ga_209 53 (by decide)).trans g_begins
      have g_233 : fs_205[(54 : Nat)]? = some (.ref lasts_) := (ga_209 54 (by decide)).trans g_lasts
      have g_234 : fs_205[(43 : Nat)]? = some (.ref tokenAt_) := (ga_209 43 (by decide)).trans g_tokenAt
      have g_235 : fs_205[(44 : Nat)]? = some (.ref tokenSize_) := (ga_209 44 (by decide)).trans g_tokenSize
      have g_236 : fs_205[(7 : Nat)]? = some (.ref texts_) := (ga_209 7 (by decide)).trans g_texts
      have g_237 : fs_205[(4 : Nat)]? = some (.ref asked_) := (ga_209 4 (by decide)).trans g_asked
      have g_238 : fs_205[(41 : Nat)]? = some (.ref firstToken_) := (ga_209 41 (by decide)).trans g_firstToken
      have g_239 : fs_205[(42 : Nat)]? = some (.ref starred_) := (ga_209 42 (by decide)).trans g_starred
      have g_240 : fs_205[(45 : Nat)]? = some (.ref groupKind_) := (ga_209 45 (by decide)).trans g_groupKind
      have g_241 : fs_205[(46 : Nat)]? = some (.ref groupPhrase_) := (ga_209 46 (by decide)).trans g_groupPhrase
      have g_242 : fs_205[(47 : Nat)]? = some (.ref groupSize_) := (ga_209 47 (by decide)).trans g_groupSize
      have g_243 : fs_205[(49 : Nat)]? = some (.ref groupFar_) := (ga_209 49 (by decide)).trans g_groupFar
      have g_244 : fs_205[(48 : Nat)]? = some (.ref groupMask_) := (ga_209 48 (by decide)).trans g_groupMask
      have g_245 : fs_205[(8 : Nat)]? = some (.ref sizes_) := (ga_209 8 (by decide)).trans g_sizes
      have g_246 : fs_205[(50 : Nat)]? = some (.ref out_) := (ga_209 50 (by decide)).trans g_out
      have g_247 : fs_205[(57 : Nat)]? = some (.ref truth_) := (ga_209 57 (by decide)).trans g_truth
      have ga_248 : ∀ i : Nat, i ∉ [55] → fs_205[i]? = gs[i]? := fun i hi => (ga_209 i (fun z => hi (by simp only [List.mem_cons, List.not_mem_nil, or_false] at z ⊢; omega))).trans (ga0 i hi)
      refine s_Model_finds_37 e_229 (vp_in_nI (by omega) (by omega)) ?_
      refine x_u1 (fun h_249 e_250 f_251 => ?_)
      have e_252 := (f_251 m (nd_ne ND (i := 0) (j := 32) rfl rfl (by decide))).trans e_207
      have e_253 := (f_251 begins_ (nd_ne ND (i := 30) (j := 32) rfl rfl (by decide))).trans eb_210
      have e_254 := (f_251 lasts_ (nd_ne ND (i := 31) (j := 32) rfl rfl (by decide))).trans el_211
      have e_255 := (f_251 tokenAt_ (nd_ne ND (i := 20) (j := 32) rfl rfl (by decide))).trans e_216
      have e_256 := (f_251 tokenSize_ (nd_ne ND (i := 21) (j := 32) rfl rfl (by decide))).trans e_217
      have e_257 := (f_251 texts_ (nd_ne ND (i := 5) (j := 32) rfl rfl (by decide))).trans e_218
      have e_258 := (f_251 asked_ (nd_ne ND (i := 2) (j := 32) rfl rfl (by decide))).trans e_219
      have e_259 := (f_251 firstToken_ (nd_ne ND (i := 18) (j := 32) rfl rfl (by decide))).trans e_220
      have e_260 := (f_251 starred_ (nd_ne ND (i := 19) (j := 32) rfl rfl (by decide))).trans e_221
      have e_261 := (f_251 groupKind_ (nd_ne ND (i := 22) (j := 32) rfl rfl (by decide))).trans e_222
      have e_262 := (f_251 groupPhrase_ (nd_ne ND (i := 23) (j := 32) rfl rfl (by decide))).trans e_223
      have e_263 := (f_251 groupSize_ (nd_ne ND (i := 24) (j := 32) rfl rfl (by decide))).trans e_224
      have e_264 := (f_251 groupFar_ (nd_ne ND (i := 26) (j := 32) rfl rfl (by decide))).trans e_225
      have e_265 := (f_251 groupMask_ (nd_ne ND (i := 25) (j := 32) rfl rfl (by decide))).trans e_226
      have e_266 := (f_251 sizes_ (nd_ne ND (i := 6) (j := 32) rfl rfl (by decide))).trans e_227
      have e_267 := (f_251 out_ (nd_ne ND (i := 27) (j := 32) rfl rfl (by decide))).trans e_228
      have r_268 := r_230.up (by simp) f_251
      refine s_Model_finds_145 ?_
      rw [nI_1]
      rw [nI_1]
      rw [nI_clamp (show n < 2 ^ 31 by omega)] at e_250
      exact ih (i + 1) _ (n + 1) _ _ _ _ _ (by omega) l_206 e_252 g_208 ga_248 e_253 e_254 e_250 (hgt_one hH hnn) (fun j hj => by by_cases q : j = n; (subst q; rw [pk_us]; exact vnb hy_201); (rw [pk_un q]; exact TR j (by omega))) r_268
set_option maxHeartbeats 2000000 in
theorem f_finds {G : xw_G} {F L : Nat} {h : xw_A} {m draft_ asked_ prepared_ preparedSize_ texts_ sizes_ weights_ entries_ lies_ live_ row_ level_ oldTexts_ oldSizes_ oldLies_ oldLive_ oldRow_ firstToken_ starred_ tokenAt_ tokenSize_ groupKind_ groupPhrase_ groupSize_ groupMask_ groupFar_ out_ top_ masks_ begins_ lasts_ truth_ answers_ order_ scores_ : Nat} {fb fl ca cs ft fa c1 c2 c5 c6 c7 c9 c8 fz co c13 : Nat → Int32} {cl : Int32} {o g0 r : Nat} {fs : List Value} (l : fs.length = 62) (e : h m = some (.inr (11, fs))) (g_outs : fs[(37 : Nat)]? = some (.int (nI o))) (g_column : fs[(55 : Nat)]? = some (.int cl)) (g_begins : fs[(53 : Nat)]? = some (.ref begins_)) (e_begins : h begins_ = some (.inl (0, 24, .inl fb))) (g_lasts : fs[(54 : Nat)]? = some (.ref lasts_)) (e_lasts : h lasts_ = some (.inl (0, 24, .inl fl))) (g_tokenAt : fs[(43 : Nat)]? = some (.ref tokenAt_)) (e_tokenAt : h tokenAt_ = some (.inl (0, 60, .inl ca))) (g_tokenSize : fs[(44 : Nat)]? = some (.ref tokenSize_)) (e_tokenSize : h tokenSize_ = some (.inl (0, 60, .inl cs))) (g_texts : fs[(7 : Nat)]? = some (.ref texts_)) (e_texts : h texts_ = some (.inl (0, 2304, .inl ft))) (g_asked : fs[(4 : Nat)]? = some (.ref asked_)) (e_asked : h asked_ = some (.inl (0, 96, .inl fa))) (g_firstToken : fs[(41 : Nat)]? = some (.ref firstToken_)) (e_firstToken : h firstToken_ = some (.inl (0, 13, .inl c1))) (g_starred : fs[(42 : Nat)]? = some (.ref starred_)) (e_starred : h starred_ = some (.inl (0, 13, .inl c2))) (g_groupKind : fs[(45 : Nat)]? = some (.ref groupKind_)) (e_groupKind : h groupKind_ = some (.inl (0, 13, .inl c5))) (g_groupPhrase : fs[(46 : Nat)]? = some (.ref groupPhrase_)) (e_groupPhrase : h groupPhrase_ = some (.inl (0, 13, .inl c6))) (g_groupSize : fs[(47 : Nat)]? = some (.ref groupSize_)) (e_groupSize : h groupSize_ = some (.inl (0, 13, .inl c7))) (g_groupFar : fs[(49 : Nat)]? = some (.ref groupFar_)) (e_groupFar : h groupFar_ = some (.inl (0, 13, .inl c9))) (g_groupMask : fs[(48 : Nat)]? = some (.ref groupMask_)) (e_groupMask : h groupMask_ = some (.inl (0, 13, .inl c8))) (g_sizes : fs[(8 : Nat)]? = some (.ref sizes_)) (e_sizes : h sizes_ = some (.inl (0, 48, .inl fz))) (g_out : fs[(50 : Nat)]? = some (.ref out_)) (e_out : h out_ = some (.inl (0, 60, .inl co))) (g_truth : fs[(57 : Nat)]? = some (.ref truth_)) (e_truth : h truth_ = some (.inl (4, 60, .inl c13))) (ND : NDl [m, draft_, asked_, prepared_, preparedSize_, texts_, sizes_, weights_, entries_, lies_, live_, row_, level_, oldTexts_, oldSizes_, oldLies_, oldLive_, oldRow_, firstToken_, starred_, tokenAt_, tokenSize_, groupKind_, groupPhrase_, groupSize_, groupMask_, groupFar_, out_, top_, masks_, begins_, lasts_, truth_, answers_, order_, scores_]) {P t : Nat} (hP : P ≤ 12) (PH : PhO c1 P t) (ht : t ≤ 49) (TK : TkO ca cs t 97) (GR : GrO c6 c7 g0 P) (hg0 : g0 ≤ P) (hr : r < 24) (hz : SZo fz 48) (ho : o ≤ 60) (hO : hgt co o = some 1) (hC : ∀ k, k < o → co k < 0 ∨ ∃ j, j < g0 ∧ co k = nI j) (hF : 8 ≤ F) (hL : 184 ≤ L) :
    xw_Met G m_Model_finds F L 0 0 [.ref m, .int (nI r)] h (fun v h' => (∃ y : Int32, v = some (.int y) ∧ (y = 0 ∨ y = 1)) ∧ ∃ (c13' : Nat → Int32) (cl : Int32) (fb fl : Nat → Int32) (fs' : List Value), fs'.length = 62 ∧ h' m = some (.inr (11, fs')) ∧ fs'[(55 : Nat)]? = some (.int cl) ∧ (∀ i : Nat, i ∉ [55] → fs'[i]? = fs[i]?) ∧ h' begins_ = some (.inl (0, 24, .inl fb)) ∧ h' lasts_ = some (.inl (0, 24, .inl fl)) ∧ h' truth_ = some (.inl (4, 60, .inl c13')) ∧ FrO [m, begins_, lasts_, truth_] h h') (fun _ _ => False) := by
  refine xw_Met.of rfl (by decide) (Nat.le_of_ble_eq_true rfl) ?_
  have ga0 : ∀ i : Nat, i ∉ [55] → fs[i]? = fs[i]? := fun _ _ => rfl
  have r0 : FrO [m, begins_, lasts_, truth_] h h := FrO.rf
  refine s_Model_finds_0 ?_
  exact lp_fi (gs := fs) (h0 := h) g_outs g_begins g_lasts g_tokenAt g_tokenSize g_texts g_asked g_firstToken g_starred g_groupKind g_groupPhrase g_groupSize g_groupFar g_groupMask g_sizes g_out g_truth e_tokenAt e_tokenSize e_texts e_asked e_firstToken e_starred e_groupKind e_groupPhrase e_groupSize e_groupFar e_groupMask e_sizes e_out ND hP PH ht TK GR hg0 hr hz ho hO hC (by omega) (by omega) (fun h9 y9 c9_ cl9 fb9 fl9 fs9 a0 a1 a2 a3 a4 a5 a6 a7 a8 => ⟨⟨y9, rfl, a0⟩, c9_, cl9, fb9, fl9, fs9, a1, a2, a3, a4, a5, a6, a7, a8⟩) o 0 _ 0 _ _ _ _ _ (Nat.zero_add _) l e g_column (fun _ _ => rfl) e_begins e_lasts e_truth rfl (fun _ q => absurd q (Nat.not_lt_zero _)) FrO.rf
