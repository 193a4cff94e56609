set_option maxHeartbeats 4000000 in
theorem lp_fiH {G : xw_G} {F L bc bs : Nat} {pr : Option Value → xw_A → Prop} {px : String → xw_A → Prop} {m draft_ asked_ prepared_ preparedSize_ texts_ sizes_ weights_ entries_ lies_ live_ row_ level_ oldTexts_ oldSizes_ oldLies_ oldLive_ oldRow_ firstToken_ starred_ tokenAt_ tokenSize_ groupKind_ groupPhrase_ groupSize_ groupMask_ groupFar_ out_ top_ masks_ begins_ lasts_ truth_ answers_ order_ scores_ : Nat} {gs : List Value} {h0 : xw_A} {ca cs ft fa c1 c2 c5 c6 c7 c9 c8 fz co : Nat → Int32} (ND : NDl [m, draft_, asked_, prepared_, preparedSize_, texts_, sizes_, weights_, entries_, lies_, live_, row_, level_, oldTexts_, oldSizes_, oldLies_, oldLive_, oldRow_, firstToken_, starred_, tokenAt_, tokenSize_, groupKind_, groupPhrase_, groupSize_, groupMask_, groupFar_, out_, top_, masks_, begins_, lasts_, truth_, answers_, order_, scores_]) {ws : List (List Int32)} {t P : Nat} {A N : Nat → Nat} {Bb : Nat → Bool} (hP : P ≤ 12) (PH : PhA ws c1 c2 P A N Bb) (hws : ws.length ≤ 49) (TR : TkR ws t ca cs fa) {gr : List GRt} {e9 : List EV} {r : Nat} (GR : GrR gr c5 c6 c7 c8 c9) (OK : ∀ (g : Nat) (y : GRt), gr[g]? = some y → OKg y P) (hg0 : gr.length ≤ P) (OU : OuR e9 co) (OG : OgR e9 gr.length) (ho : e9.length ≤ 60) (hr : r < 24) (hz : SZo fz 48) (q_outs : gs[(37 : Nat)]? = some (.int (nI e9.length))) (q_begins : gs[(53 : Nat)]? = some (.ref begins_)) (q_lasts : gs[(54 : Nat)]? = some (.ref lasts_)) (q_tokenAt : gs[(43 : Nat)]? = some (.ref tokenAt_)) (q_tokenSize : gs[(44 : Nat)]? = some (.ref tokenSize_)) (q_texts : gs[(7 : Nat)]? = some (.ref texts_)) (q_asked : gs[(4 : Nat)]? = some (.ref asked_)) (q_firstToken : gs[(41 : Nat)]? = some (.ref firstToken_)) (q_starred : gs[(42 : Nat)]? = some (.ref starred_)) (q_groupKind : gs[(45 : Nat)]? = some (.ref groupKind_)) (q_groupPhrase : gs[(46 : Nat)]? = some (.ref groupPhrase_)) (q_groupSize : gs[(47 : Nat)]? = some (.ref groupSize_)) (q_groupFar : gs[(49 : Nat)]? = some (.ref groupFar_)) (q_groupMask : gs[(48 : Nat)]? = some (.ref groupMask_)) (q_sizes : gs[(8 : Nat)]? = some (.ref sizes_)) (q_out : gs[(50 : Nat)]? = some (.ref out_)) (q_truth : gs[(57 : Nat)]? = some (.ref truth_)) (p_tokenAt : h0 tokenAt_ = some (.inl (0, 60, .inl ca))) (p_tokenSize : h0 tokenSize_ = some (.inl (0, 60, .inl cs))) (p_texts : h0 texts_ = some (.inl (0, 2304, .inl ft))) (p_asked : h0 asked_ = some (.inl (0, 96, .inl fa))) (p_firstToken : h0 firstToken_ = some (.inl (0, 13, .inl c1))) (p_starred : h0 starred_ = some (.inl (0, 13, .inl c2))) (p_groupKind : h0 groupKind_ = some (.inl (0, 13, .inl c5))) (p_groupPhrase : h0 groupPhrase_ = some (.inl (0, 13, .inl c6))) (p_groupSize : h0 groupSize_ = some (.inl (0, 13, .inl c7))) (p_groupFar : h0 groupFar_ = some (.inl (0, 13, .inl c9))) (p_groupMask : h0 groupMask_ = some (.inl (0, 13, .inl c8))) (p_sizes : h0 sizes_ = some (.inl (0, 48, .inl fz))) (p_out : h0 out_ = some (.inl (0, 60, .inl co))) {R : List Bool} (hF : 8 ≤ F) (hL : 184 ≤ L) (kk : ∀ (h : xw_A) (st : List Bool) (c13 : Nat → Int32) (cl : Int32) (fb : Nat → Int32) (fl : Nat → Int32) (fs : List Value), R = st → TrR st c13 → fs.length = 62 → h m = some (.inr (11, fs)) → fs[(55 : Nat)]? = some (.int cl) → (∀ i : Nat, i ∉ [55] → fs[i]? = gs[i]?) → h begins_ = some (.inl (0, 24, .inl fb)) → h lasts_ = some (.inl (0, 24, .inl fl)) → h truth_ = some (.inl (4, 60, .inl c13)) → FrO [m, begins_, lasts_, truth_] h0 h → xw G m_Model_finds F L bc bs pr px 151 [some (.ref m), none, none, none, none, none] [] h) :
    ∀ (dd i : Nat) (h : xw_A) (st : List Bool) (c13 : Nat → Int32) (cl : Int32) (fb : Nat → Int32) (fl : Nat → Int32) (fs : List Value), i + dd = e9.length → fs.length = 62 → h m = some (.inr (11, fs)) → fs[(55 : Nat)]? = some (.int cl) → (∀ i : Nat, i ∉ [55] → fs[i]? = gs[i]?) → h begins_ = some (.inl (0, 24, .inl fb)) → h lasts_ = some (.inl (0, 24, .inl fl)) → h truth_ = some (.inl (4, 60, .inl c13)) → evE (grB ws A N Bb ft fz gr r) (e9.drop i) st = R → dpE (e9.drop i) st.length → st.length ≤ i → TrR st c13 → FrO [m, begins_, lasts_, truth_] h0 h → xw G m_Model_finds F L bc bs pr px 4 [some (.ref m), some (.int (nI r)), some (.int (nI st.length)), some (.int (nI i)), none, none] [] h := by
  intro dd
  induction dd with
  | zero =>
    intro i h st c13 cl fb fl fs hi l e g_column ga0 e_begins e_lasts e_truth hE hD hni TRR r0
    obtain rfl : i = e9.length := by omega
    have g_outs := (ga0 37 (by decide)).trans q_outs
    have g_begins := (ga0 53 (by decide)).trans q_begins
    have g_lasts := (ga0 54 (by decide)).trans q_lasts
    have g_tokenAt := (ga0 43 (by decide)).trans q_tokenAt
    have g_tokenSize := (ga0 44 (by decide)).trans q_tokenSize
    have g_texts := (ga0 7 (by decide)).trans q_texts
    have g_asked := (ga0 4 (by decide)).trans q_asked
    have g_firstToken := (ga0 41 (by decide)).trans q_firstToken
    have g_starred := (ga0 42 (by decide)).trans q_starred
    have g_groupKind := (ga0 45 (by decide)).trans q_groupKind
    have g_groupPhrase := (ga0 46 (by decide)).trans q_groupPhrase
    have g_groupSize := (ga0 47 (by decide)).trans q_groupSize
    have g_groupFar := (ga0 49 (by decide)).trans q_groupFar
    have g_groupMask := (ga0 48 (by decide)).trans q_groupMask
    have g_sizes := (ga0 8 (by decide)).trans q_sizes
    have g_out := (ga0 50 (by decide)).trans q_out
    have g_truth := (ga0 57 (by decide)).trans q_truth
    have e_tokenAt := r0 tokenAt_ _ (by simp only [List.mem_cons, List.not_mem_nil, or_false, not_or]; exact ⟨(nd_ne ND (i := 20) (j := 0) rfl rfl (by decide)), (nd_ne ND (i := 20) (j := 30) rfl rfl (by decide)), (nd_ne ND (i := 20) (j := 31) rfl rfl (by decide)), (nd_ne ND (i := 20) (j := 32) rfl rfl (by decide))⟩) p_tokenAt
    have e_tokenSize := r0 tokenSize_ _ (by simp only [List.mem_cons, List.not_mem_nil, or_false, not_or]; exact ⟨(nd_ne ND (i := 21) (j := 0) rfl rfl (by decide)), (nd_ne ND (i := 21) (j := 30) rfl rfl (by decide)), (nd_ne ND (i := 21) (j := 31) rfl rfl (by decide)), (nd_ne ND (i := 21) (j := 32) rfl rfl (by decide))⟩) p_tokenSize
    have e_texts := r0 texts_ _ (by simp only [List.mem_cons, List.not_mem_nil, or_false, not_or]; exact ⟨(nd_ne ND (i := 5) (j := 0) rfl rfl (by decide)), (nd_ne ND (i := 5) (j := 30) rfl rfl (by decide)), (nd_ne ND (i := 5) (j := 31) rfl rfl (by decide)), (nd_ne ND (i := 5) (j := 32) rfl rfl (by decide))⟩) p_texts
    have e_asked := r0 asked_ _ (by simp only [List.mem_cons, List.not_mem_nil, or_false, not_or]; exact ⟨(nd_ne ND (i := 2) (j := 0) rfl rfl (by decide)), (nd_ne ND (i := 2) (j := 30) rfl rfl (by decide)), (nd_ne ND (i := 2) (j := 31) rfl rfl (by decide)), (nd_ne ND (i := 2) (j := 32) rfl rfl (by decide))⟩) p_asked
    have e_firstToken := r0 firstToken_ _ (by simp only [List.mem_cons, List.not_mem_nil, or_false, not_or]; exact ⟨(nd_ne ND (i := 18) (j := 0) rfl rfl (by decide)), (nd_ne ND (i := 18) (j := 30) rfl rfl (by decide)), (nd_ne ND (i := 18) (j := 31) rfl rfl (by decide)), (nd_ne ND (i := 18) (j := 32) rfl rfl (by decide))⟩) p_firstToken
    have e_starred := r0 starred_ _ (by simp only [List.mem_cons, List.not_mem_nil, or_false, not_or]; exact ⟨(nd_ne ND (i := 19) (j := 0) rfl rfl (by decide)), (nd_ne ND (i := 19) (j := 30) rfl rfl (by decide)), (nd_ne ND (i := 19) (j := 31) rfl rfl (by decide)), (nd_ne ND (i := 19) (j := 32) rfl rfl (by decide))⟩) p_starred
    have e_groupKind := r0 groupKind_ _ (by simp only [List.mem_cons, List.not_mem_nil, or_false, not_or]; exact ⟨(nd_ne ND (i := 22) (j := 0) rfl rfl (by decide)), (nd_ne ND (i := 22) (j := 30) rfl rfl (by decide)), (nd_ne ND (i := 22) (j := 31) rfl rfl (by decide)), (nd_ne ND (i := 22) (j := 32) rfl rfl (by decide))⟩) p_groupKind
    have e_groupPhrase := r0 groupPhrase_ _ (by simp only [List.mem_cons, List.not_mem_nil, or_false, not_or]; exact ⟨(nd_ne ND (i := 23) (j := 0) rfl rfl (by decide)), (nd_ne ND (i := 23) (j := 30) rfl rfl (by decide)), (nd_ne ND (i := 23) (j := 31) rfl rfl (by decide)), (nd_ne ND (i := 23) (j := 32) rfl rfl (by decide))⟩) p_groupPhrase
    have e_groupSize := r0 groupSize_ _ (by simp only [List.mem_cons, List.not_mem_nil, or_false, not_or]; exact ⟨(nd_ne ND (i := 24) (j := 0) rfl rfl (by decide)), (nd_ne ND (i := 24) (j := 30) rfl rfl (by decide)), (nd_ne ND (i := 24) (j := 31) rfl rfl (by decide)), (nd_ne ND (i := 24) (j := 32) rfl rfl (by decide))⟩) p_groupSize
    have e_groupFar := r0 groupFar_ _ (by simp only [List.mem_cons, List.not_mem_nil, or_false, not_or]; exact ⟨(nd_ne ND (i := 26) (j := 0) rfl rfl (by decide)), (nd_ne ND (i := 26) (j := 30) rfl rfl (by decide)), (nd_ne ND (i := 26) (j := 31) rfl rfl (by decide)), (nd_ne ND (i := 26) (j := 32) rfl rfl (by decide))⟩) p_groupFar
    have e_groupMask := r0 groupMask_ _ (by simp only [List.mem_cons, List.not_mem_nil, or_false, not_or]; exact ⟨(nd_ne ND (i := 25) (j := 0) rfl rfl (by decide)), (nd_ne ND (i := 25) (j := 30) rfl rfl (by decide)), (nd_ne ND (i := 25) (j := 31) rfl rfl (by decide)), (nd_ne ND (i := 25) (j := 32) rfl rfl (by decide))⟩) p_groupMask
    have e_sizes := r0 sizes_ _ (by simp only [List.mem_cons, List.not_mem_nil, or_false, not_or]; exact ⟨(nd_ne ND (i := 6) (j := 0) rfl rfl (by decide)), (nd_ne ND (i := 6) (j := 30) rfl rfl (by decide)), (nd_ne ND (i := 6) (j := 31) rfl rfl (by decide)), (nd_ne ND (i := 6) (j := 32) rfl rfl (by decide))⟩) p_sizes
    have e_out := r0 out_ _ (by simp only [List.mem_cons, List.not_mem_nil, or_false, not_or]; exact ⟨(nd_ne ND (i := 27) (j := 0) rfl rfl (by decide)), (nd_ne ND (i := 27) (j := 30) rfl rfl (by decide)), (nd_ne ND (i := 27) (j := 31) rfl rfl (by decide)), (nd_ne ND (i := 27) (j := 32) rfl rfl (by decide))⟩) p_out
    refine s_Model_finds_4 l e g_outs (fun z_1 => ?_) (fun z => absurd (nI_le (Nat.le_refl _) (by omega)) z)
    rw [List.drop_length] at hE
    exact kk _ st _ _ _ _ _ hE.symm TRR l e g_column ga0 e_begins e_lasts e_truth r0
  | succ dd ih =>
    intro i h st c13 cl fb fl fs hi l e g_column ga0 e_begins e_lasts e_truth hE hD hni TRR r0
    have g_outs := (ga0 37 (by decide)).trans q_outs
    have g_begins := (ga0 53 (by decide)).trans q_begins
    have g_lasts := (ga0 54 (by decide)).trans q_lasts
    have g_tokenAt := (ga0 43 (by decide)).trans q_tokenAt
    have g_tokenSize := (ga0 44 (by decide)).trans q_tokenSize
    have g_texts := (ga0 7 (by decide)).trans q_texts
    have g_asked := (ga0 4 (by decide)).trans q_asked
    have g_firstToken := (ga0 41 (by decide)).trans q_firstToken
    have g_starred := (ga0 42 (by decide)).trans q_starred
    have g_groupKind := (ga0 45 (by decide)).trans q_groupKind
    have g_groupPhrase := (ga0 46 (by decide)).trans q_groupPhrase
    have g_groupSize := (ga0 47 (by decide)).trans q_groupSize
    have g_groupFar := (ga0 49 (by decide)).trans q_groupFar
    have g_groupMask := (ga0 48 (by decide)).trans q_groupMask
    have g_sizes := (ga0 8 (by decide)).trans q_sizes
    have g_out := (ga0 50 (by decide)).trans q_out
    have g_truth := (ga0 57 (by decide)).trans q_truth
    have e_tokenAt := r0 tokenAt_ _ (by simp only [List.mem_cons, List.not_mem_nil, or_false, not_or]; exact ⟨(nd_ne ND (i := 20) (j := 0) rfl rfl (by decide)), (nd_ne ND (i := 20) (j := 30) rfl rfl (by decide)), (nd_ne ND (i := 20) (j := 31) rfl rfl (by decide)), (nd_ne ND (i := 20) (j := 32) rfl rfl (by decide))⟩) p_tokenAt
    have e_tokenSize := r0 tokenSize_ _ (by simp only [List.mem_cons, List.not_mem_nil, or_false, not_or]; exact ⟨(nd_ne ND (i := 21) (j := 0) rfl rfl (by decide)), (nd_ne ND (i := 21) (j := 30) rfl rfl (by decide)), (nd_ne ND (i := 21) (j := 31) rfl rfl (by decide)), (nd_ne ND (i := 21) (j := 32) rfl rfl (by decide))⟩) p_tokenSize
    have e_texts := r0 texts_ _ (by simp only [List.mem_cons, List.not_mem_nil, or_false, not_or]; exact ⟨(nd_ne ND (i := 5) (j := 0) rfl rfl (by decide)), (nd_ne ND (i := 5) (j := 30) rfl rfl (by decide)), (nd_ne ND (i := 5) (j := 31) rfl rfl (by decide)), (nd_ne ND (i := 5) (j := 32) rfl rfl (by decide))⟩) p_texts
    have e_asked := r0 asked_ _ (by simp only [List.mem_cons, List.not_mem_nil, or_false, not_or]; exact ⟨(nd_ne ND (i := 2) (j := 0) rfl rfl (by decide)), (nd_ne ND (i := 2) (j := 30) rfl rfl (by decide)), (nd_ne ND (i := 2) (j := 31) rfl rfl (by decide)), (nd_ne ND (i := 2) (j := 32) rfl rfl (by decide))⟩) p_asked
    have e_firstToken := r0 firstToken_ _ (by simp only [List.mem_cons, List.not_mem_nil, or_false, not_or]; exact ⟨(nd_ne ND (i := 18) (j := 0) rfl rfl (by decide)), (nd_ne ND (i := 18) (j := 30) rfl rfl (by decide)), (nd_ne ND (i := 18) (j := 31) rfl rfl (by decide)), (nd_ne ND (i := 18) (j := 32) rfl rfl (by decide))⟩) p_firstToken
    have e_starred := r0 starred_ _ (by simp only [List.mem_cons, List.not_mem_nil, or_false, not_or]; exact ⟨(nd_ne ND (i := 19) (j := 0) rfl rfl (by decide)), (nd_ne ND (i := 19) (j := 30) rfl rfl (by decide)), (nd_ne ND (i := 19) (j := 31) rfl rfl (by decide)), (nd_ne ND (i := 19) (j := 32) rfl rfl (by decide))⟩) p_starred
    have e_groupKind := r0 groupKind_ _ (by simp only [List.mem_cons, List.not_mem_nil, or_false, not_or]; exact ⟨(nd_ne ND (i := 22) (j := 0) rfl rfl (by decide)), (nd_ne ND (i := 22) (j := 30) rfl rfl (by decide)), (nd_ne ND (i := 22) (j := 31) rfl rfl (by decide)), (nd_ne ND (i := 22) (j := 32) rfl rfl (by decide))⟩) p_groupKind
    have e_groupPhrase := r0 groupPhrase_ _ (by simp only [List.mem_cons, List.not_mem_nil, or_false, not_or]; exact ⟨(nd_ne ND (i := 23) (j := 0) rfl rfl (by decide)), (nd_ne ND (i := 23) (j := 30) rfl rfl (by decide)), (nd_ne ND (i := 23) (j := 31) rfl rfl (by decide)), (nd_ne ND (i := 23) (j := 32) rfl rfl (by decide))⟩) p_groupPhrase
    have e_groupSize := r0 groupSize_ _ (by simp only [List.mem_cons, List.not_mem_nil, or_false, not_or]; exact ⟨(nd_ne ND (i := 24) (j := 0) rfl rfl (by decide)), (nd_ne ND (i := 24) (j := 30) rfl rfl (by decide)), (nd_ne ND (i := 24) (j := 31) rfl rfl (by decide)), (nd_ne ND (i := 24) (j := 32) rfl rfl (by decide))⟩) p_groupSize
    have e_groupFar := r0 groupFar_ _ (by simp only [List.mem_cons, List.not_mem_nil, or_false, not_or]; exact ⟨(nd_ne ND (i := 26) (j := 0) rfl rfl (by decide)), (nd_ne ND (i := 26) (j := 30) rfl rfl (by decide)), (nd_ne ND (i := 26) (j := 31) rfl rfl (by decide)), (nd_ne ND (i := 26) (j := 32) rfl rfl (by decide))⟩) p_groupFar
    have e_groupMask := r0 groupMask_ _ (by simp only [List.mem_cons, List.not_mem_nil, or_false, not_or]; exact ⟨(nd_ne ND (i := 25) (j := 0) rfl rfl (by decide)), (nd_ne ND (i := 25) (j := 30) rfl rfl (by decide)), (nd_ne ND (i := 25) (j := 31) rfl rfl (by decide)), (nd_ne ND (i := 25) (j := 32) rfl rfl (by decide))⟩) p_groupMask
    have e_sizes := r0 sizes_ _ (by simp only [List.mem_cons, List.not_mem_nil, or_false, not_or]; exact ⟨(nd_ne ND (i := 6) (j := 0) rfl rfl (by decide)), (nd_ne ND (i := 6) (j := 30) rfl rfl (by decide)), (nd_ne ND (i := 6) (j := 31) rfl rfl (by decide)), (nd_ne ND (i := 6) (j := 32) rfl rfl (by decide))⟩) p_sizes
    have e_out := r0 out_ _ (by simp only [List.mem_cons, List.not_mem_nil, or_false, not_or]; exact ⟨(nd_ne ND (i := 27) (j := 0) rfl rfl (by decide)), (nd_ne ND (i := 27) (j := 30) rfl rfl (by decide)), (nd_ne ND (i := 27) (j := 31) rfl rfl (by decide)), (nd_ne ND (i := 27) (j := 32) rfl rfl (by decide))⟩) p_out
    refine s_Model_finds_4 l e g_outs (fun z => absurd z (nI_ge (b := e9.length) (show i < e9.length by omega) (by omega))) (fun z_1 => ?_)
    refine s_Model_finds_12 l e g_out e_out (vp_in_nI (by omega) (by omega)) (fun z_2 => ?_) (fun z_3 => ?_)
    · skip
      obtain ⟨v9, hv9, hd9⟩ := drop_c (e := e9) (i := i) (by omega)
      rw [hd9] at hE hD
      obtain ⟨o1, o2, o3⟩ := OU i v9 hv9
      have hnn : co i < 0 := by have q := z_2; rw [nI_clamp (show i < 2 ^ 31 by omega)] at q; exact q
      have h0v : ¬ v9.1 = 0 := fun q => by rw [o1, if_pos q] at hnn; exact absurd hnn (show ¬ nI v9.2 < 0 from nI_nlt (a := v9.2) (b := 0) (Nat.zero_le _) (by omega))
      rw [if_neg h0v] at o1
      obtain ⟨hn2, hD2⟩ := dp_j h0v hD
      obtain ⟨b2, a2, st2, rfl⟩ : ∃ b2 a2 st2, st = b2 :: a2 :: st2 := by match st, hn2 with | b2 :: a2 :: st2, _ => exact ⟨b2, a2, st2, rfl⟩
      have hsl : (b2 :: a2 :: st2).length = st2.length + 2 := rfl
      rw [hsl] at hni hD2
      rw [hsl]
      rw [ev_j h0v] at hE
      obtain ⟨t1, t2, t3⟩ := TRR
      rw [List.length_cons] at t1
      refine s_Model_finds_44 l e g_truth e_truth (by rw [show nI (st2.length + 2) + (-1) = nI (st2.length + 1) from nI_m1 (st2.length + 1), nI_pred]; exact vp_in_nI (by omega) (by decide)) (by rw [show nI (st2.length + 2) + (-1) = nI (st2.length + 1) from nI_m1 (st2.length + 1)]; exact vp_in_nI (by omega) (by decide)) g_out e_out (vp_in_nI (by omega) (by omega)) (fun z_4 => ?_) (fun z_5 => ?_)
      · skip
        refine s_Model_finds_100 l e g_out e_out (vp_in_nI (by omega) (by omega)) (fun z_6 => ?_) (fun z_7 => ?_)
        · skip
          refine s_Model_finds_129 (fun z_8 => ?_) (fun z_9 => ?_)
          · skip
            refine s_Model_finds_143 ?_
            refine s_Model_finds_144 e_truth (by rw [show nI (st2.length + 2) + (-1) = nI (st2.length + 1) from nI_m1 (st2.length + 1), nI_pred]; exact vp_in_nI (by omega) (by decide)) ?_
            refine x_u1 (fun h_10 e_11 f_12 => ?_)
            have e_13 := (f_12 m (nd_ne ND (i := 0) (j := 32) rfl rfl (by decide))).trans e
            have e_14 := (f_12 begins_ (nd_ne ND (i := 30) (j := 32) rfl rfl (by decide))).trans e_begins
            have e_15 := (f_12 lasts_ (nd_ne ND (i := 31) (j := 32) rfl rfl (by decide))).trans e_lasts
            have e_16 := (f_12 tokenAt_ (nd_ne ND (i := 20) (j := 32) rfl rfl (by decide))).trans e_tokenAt
            have e_17 := (f_12 tokenSize_ (nd_ne ND (i := 21) (j := 32) rfl rfl (by decide))).trans e_tokenSize
            have e_18 := (f_12 texts_ (nd_ne ND (i := 5) (j := 32) rfl rfl (by decide))).trans e_texts
            have e_19 := (f_12 asked_ (nd_ne ND (i := 2) (j := 32) rfl rfl (by decide))).trans e_asked
            have e_20 := (f_12 firstToken_ (nd_ne ND (i := 18) (j := 32) rfl rfl (by decide))).trans e_firstToken
            have e_21 := (f_12 starred_ (nd_ne ND (i := 19) (j := 32) rfl rfl (by decide))).trans e_starred
            have e_22 := (f_12 groupKind_ (nd_ne ND (i := 22) (j := 32) rfl rfl (by decide))).trans e_groupKind
            have e_23 := (f_12 groupPhrase_ (nd_ne ND (i := 23) (j := 32) rfl rfl (by decide))).trans e_groupPhrase
            have e_24 := (f_12 groupSize_ (nd_ne ND (i := 24) (j := 32) rfl rfl (by decide))).trans e_groupSize
            have e_25 := (f_12 groupFar_ (nd_ne ND (i := 26) (j := 32) rfl rfl (by decide))).trans e_groupFar
            have e_26 := (f_12 groupMask_ (nd_ne ND (i := 25) (j := 32) rfl rfl (by decide))).trans e_groupMask
            have e_27 := (f_12 sizes_ (nd_ne ND (i := 6) (j := 32) rfl rfl (by decide))).trans e_sizes
            have e_28 := (f_12 out_ (nd_ne ND (i := 27) (j := 32) rfl rfl (by decide))).trans e_out
            have r_29 := r0.up (by simp) f_12
            refine s_Model_finds_145 ?_
            have hq_30 := z_4
            rw [nI_clamp (show i < 2 ^ 31 by omega), o1] at hq_30
            have hj_31 : ¬ v9.1 = 1 := fun x => hq_30 ((neg_1 _ (by omega) o2).mpr x)
            have hq_32 := z_6
            rw [nI_clamp (show i < 2 ^ 31 by omega), o1] at hq_32
            have hj_33 : ¬ v9.1 = 3 := fun x => hq_32 ((neg_3 _ (by omega) o2).mpr x)
            have hq_34 := z_8
            rw [show nI (st2.length + 2) + (-1) = nI (st2.length + 1) from nI_m1 (st2.length + 1), nI_pred, nI_clamp (by omega), t2] at hq_34
            have hv_35 : a2 = false := b01_f hq_34
            rw [show nI (st2.length + 2) + (-1) = nI (st2.length + 1) from nI_m1 (st2.length + 1), nI_1]
            rw [show nI (st2.length + 2) + (-1) = nI (st2.length + 1) from nI_m1 (st2.length + 1), nI_pred, nI_clamp (show st2.length < 2 ^ 31 by omega)] at e_11
            have hop : vp_nar .boolean 0 = b01 (opB v9.1 a2 b2) := by unfold opB; rw [if_neg hj_31, if_neg hj_33, hv_35]; cases b2 <;> rfl
            exact ih (i + 1) _ (opB v9.1 a2 b2 :: st2) _ _ _ _ _ (by omega) l e_13 g_column ga0 e_14 e_15 e_11 hE hD2 (by rw [List.length_cons]; omega) (t3.push hop) r_29
          · skip
            refine s_Model_finds_134 (fun z_36 => ?_) (fun z_37 => ?_)
            · skip
              refine s_Model_finds_143 ?_
              refine s_Model_finds_144 e_truth (by rw [show nI (st2.length + 2) + (-1) = nI (st2.length + 1) from nI_m1 (st2.length + 1), nI_pred]; exact vp_in_nI (by omega) (by decide)) ?_
              refine x_u1 (fun h_38 e_39 f_40 => ?_)
              have e_41 := (f_40 m (nd_ne ND (i := 0) (j := 32) rfl rfl (by decide))).trans e
              have e_42 := (f_40 begins_ (nd_ne ND (i := 30) (j := 32) rfl rfl (by decide))).trans e_begins
              have e_43 := (f_40 lasts_ (nd_ne ND (i := 31) (j := 32) rfl rfl (by decide))).trans e_lasts
              have e_44 := (f_40 tokenAt_ (nd_ne ND (i := 20) (j := 32) rfl rfl (by decide))).trans e_tokenAt
              have e_45 := (f_40 tokenSize_ (nd_ne ND (i := 21) (j := 32) rfl rfl (by decide))).trans e_tokenSize
              have e_46 := (f_40 texts_ (nd_ne ND (i := 5) (j := 32) rfl rfl (by decide))).trans e_texts
              have e_47 := (f_40 asked_ (nd_ne ND (i := 2) (j := 32) rfl rfl (by decide))).trans e_asked
              have e_48 := (f_40 firstToken_ (nd_ne ND (i := 18) (j := 32) rfl rfl (by decide))).trans e_firstToken
              have e_49 := (f_40 starred_ (nd_ne ND (i := 19) (j := 32) rfl rfl (by decide))).trans e_starred
              have e_50 := (f_40 groupKind_ (nd_ne ND (i := 22) (j := 32) rfl rfl (by decide))).trans e_groupKind
              have e_51 := (f_40 groupPhrase_ (nd_ne ND (i := 23) (j := 32) rfl rfl (by decide))).trans e_groupPhrase
              have e_52 := (f_40 groupSize_ (nd_ne ND (i := 24) (j := 32) rfl rfl (by decide))).trans e_groupSize
              have e_53 := (f_40 groupFar_ (nd_ne ND (i := 26) (j := 32) rfl rfl (by decide))).trans e_groupFar
              have e_54 := (f_40 groupMask_ (nd_ne ND (i := 25) (j := 32) rfl rfl (by decide))).trans e_groupMask
              have e_55 := (f_40 sizes_ (nd_ne ND (i := 6) (j := 32) rfl rfl (by decide))).trans e_sizes
              have e_56 := (f_40 out_ (nd_ne ND (i := 27) (j := 32) rfl rfl (by decide))).trans e_out
              have r_57 := r0.up (by simp) f_40
              refine s_Model_finds_145 ?_
              have hq_58 := z_4
              rw [nI_clamp (show i < 2 ^ 31 by omega), o1] at hq_58
              have hj_59 : ¬ v9.1 = 1 := fun x => hq_58 ((neg_1 _ (by omega) o2).mpr x)
              have hq_60 := z_6
              rw [nI_clamp (show i < 2 ^ 31 by omega), o1] at hq_60
              have hj_61 : ¬ v9.1 = 3 := fun x => hq_60 ((neg_3 _ (by omega) o2).mpr x)
              have hq_62 := z_9
              rw [show nI (st2.length + 2) + (-1) = nI (st2.length + 1) from nI_m1 (st2.length + 1), nI_pred, nI_clamp (by omega), t2] at hq_62
              have hv_63 : a2 = true := b01_t hq_62
              have hq_64 := z_36
              rw [show nI (st2.length + 2) + (-1) = nI (st2.length + 1) from nI_m1 (st2.length + 1), nI_clamp (by omega), t1] at hq_64
              have hv_65 : b2 = false := b01_f hq_64
              rw [show nI (st2.length + 2) + (-1) = nI (st2.length + 1) from nI_m1 (st2.length + 1), nI_1]
              rw [show nI (st2.length + 2) + (-1) = nI (st2.length + 1) from nI_m1 (st2.length + 1), nI_pred, nI_clamp (show st2.length < 2 ^ 31 by omega)] at e_39
              have hop : vp_nar .boolean 0 = b01 (opB v9.1 a2 b2) := by unfold opB; rw [if_neg hj_59, if_neg hj_61, hv_63, hv_65]; rfl
              exact ih (i + 1) _ (opB v9.1 a2 b2 :: st2) _ _ _ _ _ (by omega) l e_41 g_column ga0 e_42 e_43 e_39 hE hD2 (by rw [List.length_cons]; omega) (t3.push hop) r_57
            · skip
              refine s_Model_finds_139 ?_
              refine s_Model_finds_144 e_truth (by rw [show nI (st2.length + 2) + (-1) = nI (st2.length + 1) from nI_m1 (st2.length + 1), nI_pred]; exact vp_in_nI (by omega) (by decide)) ?_
              refine x_u1 (fun h_66 e_67 f_68 => ?_)
              have e_69 := (f_68 m (nd_ne ND (i := 0) (j := 32) rfl rfl (by decide))).trans e
              have e_70 := (f_68 begins_ (nd_ne ND (i := 30) (j := 32) rfl rfl (by decide))).trans e_begins
              have e_71 := (f_68 lasts_ (nd_ne ND (i := 31) (j := 32) rfl rfl (by decide))).trans e_lasts
              have e_72 := (f_68 tokenAt_ (nd_ne ND (i := 20) (j := 32) rfl rfl (by decide))).trans e_tokenAt
              have e_73 := (f_68 tokenSize_ (nd_ne ND (i := 21) (j := 32) rfl rfl (by decide))).trans e_tokenSize
              have e_74 := (f_68 texts_ (nd_ne ND (i := 5) (j := 32) rfl rfl (by decide))).trans e_texts
              have e_75 := (f_68 asked_ (nd_ne ND (i := 2) (j := 32) rfl rfl (by decide))).trans e_asked
              have e_76 := (f_68 firstToken_ (nd_ne ND (i := 18) (j := 32) rfl rfl (by decide))).trans e_firstToken
              have e_77 := (f_68 starred_ (nd_ne ND (i := 19) (j := 32) rfl rfl (by decide))).trans e_starred
              have e_78 := (f_68 groupKind_ (nd_ne ND (i := 22) (j := 32) rfl rfl (by decide))).trans e_groupKind
              have e_79 := (f_68 groupPhrase_ (nd_ne ND (i := 23) (j := 32) rfl rfl (by decide))).trans e_groupPhrase
              have e_80 := (f_68 groupSize_ (nd_ne ND (i := 24) (j := 32) rfl rfl (by decide))).trans e_groupSize
              have e_81 := (f_68 groupFar_ (nd_ne ND (i := 26) (j := 32) rfl rfl (by decide))).trans e_groupFar
              have e_82 := (f_68 groupMask_ (nd_ne ND (i := 25) (j := 32) rfl rfl (by decide))).trans e_groupMask
              have e_83 := (f_68 sizes_ (nd_ne ND (i := 6) (j := 32) rfl rfl (by decide))).trans e_sizes
              have e_84 := (f_68 out_ (nd_ne ND (i := 27) (j := 32) rfl rfl (by decide))).trans e_out
              have r_85 := r0.up (by simp) f_68
              refine s_Model_finds_145 ?_
              have hq_86 := z_4
              rw [nI_clamp (show i < 2 ^ 31 by omega), o1] at hq_86
              have hj_87 : ¬ v9.1 = 1 := fun x => hq_86 ((neg_1 _ (by omega) o2).mpr x)
              have hq_88 := z_6
              rw [nI_clamp (show i < 2 ^ 31 by omega), o1] at hq_88
              have hj_89 : ¬ v9.1 = 3 := fun x => hq_88 ((neg_3 _ (by omega) o2).mpr x)
              have hq_90 := z_9
              rw [show nI (st2.length + 2) + (-1) = nI (st2.length + 1) from nI_m1 (st2.length + 1), nI_pred, nI_clamp (by omega), t2] at hq_90
              have hv_91 : a2 = true := b01_t hq_90
              have hq_92 := z_37
              rw [show nI (st2.length + 2) + (-1) = nI (st2.length + 1) from nI_m1 (st2.length + 1), nI_clamp (by omega), t1] at hq_92
              have hv_93 : b2 = true := b01_t hq_92
              rw [show nI (st2.length + 2) + (-1) = nI (st2.length + 1) from nI_m1 (st2.length + 1), nI_1]
              rw [show nI (st2.length + 2) + (-1) = nI (st2.length + 1) from nI_m1 (st2.length + 1), nI_pred, nI_clamp (show st2.length < 2 ^ 31 by omega)] at e_67
              have hop : vp_nar .boolean 1 = b01 (opB v9.1 a2 b2) := by unfold opB; rw [if_neg hj_87, if_neg hj_89, hv_91, hv_93]; rfl
              exact ih (i + 1) _ (opB v9.1 a2 b2 :: st2) _ _ _ _ _ (by omega) l e_69 g_column ga0 e_70 e_71 e_67 hE hD2 (by rw [List.length_cons]; omega) (t3.push hop) r_85
        · skip
          refine s_Model_finds_111 (fun z_94 => ?_) (fun z_95 => ?_)
          · skip
            refine s_Model_finds_125 ?_
            refine s_Model_finds_144 e_truth (by rw [show nI (st2.length + 2) + (-1) = nI (st2.length + 1) from nI_m1 (st2.length + 1), nI_pred]; exact vp_in_nI (by omega) (by decide)) ?_
            refine x_u1 (fun h_96 e_97 f_98 => ?_)
            have e_99 := (f_98 m (nd_ne ND (i := 0) (j := 32) rfl rfl (by decide))).trans e
            have e_100 := (f_98 begins_ (nd_ne ND (i := 30) (j := 32) rfl rfl (by decide))).trans e_begins
            have e_101 := (f_98 lasts_ (nd_ne ND (i := 31) (j := 32) rfl rfl (by decide))).trans e_lasts
            have e_102 := (f_98 tokenAt_ (nd_ne ND (i := 20) (j := 32) rfl rfl (by decide))).trans e_tokenAt
            have e_103 := (f_98 tokenSize_ (nd_ne ND (i := 21) (j := 32) rfl rfl (by decide))).trans e_tokenSize
            have e_104 := (f_98 texts_ (nd_ne ND (i := 5) (j := 32) rfl rfl (by decide))).trans e_texts
            have e_105 := (f_98 asked_ (nd_ne ND (i := 2) (j := 32) rfl rfl (by decide))).trans e_asked
            have e_106 := (f_98 firstToken_ (nd_ne ND (i := 18) (j := 32) rfl rfl (by decide))).trans e_firstToken
            have e_107 := (f_98 starred_ (nd_ne ND (i := 19) (j := 32) rfl rfl (by decide))).trans e_starred
            have e_108 := (f_98 groupKind_ (nd_ne ND (i := 22) (j := 32) rfl rfl (by decide))).trans e_groupKind
            have e_109 := (f_98 groupPhrase_ (nd_ne ND (i := 23) (j := 32) rfl rfl (by decide))).trans e_groupPhrase
            have e_110 := (f_98 groupSize_ (nd_ne ND (i := 24) (j := 32) rfl rfl (by decide))).trans e_groupSize
            have e_111 := (f_98 groupFar_ (nd_ne ND (i := 26) (j := 32) rfl rfl (by decide))).trans e_groupFar
            have e_112 := (f_98 groupMask_ (nd_ne ND (i := 25) (j := 32) rfl rfl (by decide))).trans e_groupMask
            have e_113 := (f_98 sizes_ (nd_ne ND (i := 6) (j := 32) rfl rfl (by decide))).trans e_sizes
            have e_114 := (f_98 out_ (nd_ne ND (i := 27) (j := 32) rfl rfl (by decide))).trans e_out
            have r_115 := r0.up (by simp) f_98
            refine s_Model_finds_145 ?_
            have hq_116 := z_4
            rw [nI_clamp (show i < 2 ^ 31 by omega), o1] at hq_116
            have hj_117 : ¬ v9.1 = 1 := fun x => hq_116 ((neg_1 _ (by omega) o2).mpr x)
            have hq_118 := z_7
            rw [nI_clamp (show i < 2 ^ 31 by omega), o1] at hq_118
            have hj_119 : v9.1 = 3 := (neg_3 _ (by omega) o2).mp hq_118
            have hq_120 := z_94
            rw [show nI (st2.length + 2) + (-1) = nI (st2.length + 1) from nI_m1 (st2.length + 1), nI_pred, nI_clamp (by omega), t2] at hq_120
            have hv_121 : a2 = false := b01_f hq_120
            rw [show nI (st2.length + 2) + (-1) = nI (st2.length + 1) from nI_m1 (st2.length + 1), nI_1]
            rw [show nI (st2.length + 2) + (-1) = nI (st2.length + 1) from nI_m1 (st2.length + 1), nI_pred, nI_clamp (show st2.length < 2 ^ 31 by omega)] at e_97
            have hop : vp_nar .boolean 0 = b01 (opB v9.1 a2 b2) := by unfold opB; rw [if_neg hj_117, if_pos hj_119, hv_121]; cases b2 <;> rfl
            exact ih (i + 1) _ (opB v9.1 a2 b2 :: st2) _ _ _ _ _ (by omega) l e_99 g_column ga0 e_100 e_101 e_97 hE hD2 (by rw [List.length_cons]; omega) (t3.push hop) r_115
          · skip
            refine s_Model_finds_116 (fun z_122 => ?_) (fun z_123 => ?_)
            · skip
              refine s_Model_finds_125 ?_
              refine s_Model_finds_144 e_truth (by rw [show nI (st2.length + 2) + (-1) = nI (st2.length + 1) from nI_m1 (st2.length + 1), nI_pred]; exact vp_in_nI (by omega) (by decide)) ?_
              refine x_u1 (fun h_124 e_125 f_126 => ?_)
              have e_127 := (f_126 m (nd_ne ND (i := 0) (j := 32) rfl rfl (by decide))).trans e
              have e_128 := (f_126 begins_ (nd_ne ND (i := 30) (j := 32) rfl rfl (by decide))).trans e_begins
              have e_129 := (f_126 lasts_ (nd_ne ND (i := 31) (j := 32) rfl rfl (by decide))).trans e_lasts
              have e_130 := (f_126 tokenAt_ (nd_ne ND (i := 20) (j := 32) rfl rfl (by decide))).trans e_tokenAt
              have e_131 := (f_126 tokenSize_ (nd_ne ND (i := 21) (j := 32) rfl rfl (by decide))).trans e_tokenSize
              have e_132 := (f_126 texts_ (nd_ne ND (i := 5) (j := 32) rfl rfl (by decide))).trans e_texts
              have e_133 := (f_126 asked_ (nd_ne ND (i := 2) (j := 32) rfl rfl (by decide))).trans e_asked
              have e_134 := (f_126 firstToken_ (nd_ne ND (i := 18) (j := 32) rfl rfl (by decide))).trans e_firstToken
              have e_135 := (f_126 starred_ (nd_ne ND (i := 19) (j := 32) rfl rfl (by decide))).trans e_starred
              have e_136 := (f_126 groupKind_ (nd_ne ND (i := 22) (j := 32) rfl rfl (by decide))).trans e_groupKind
              have e_137 := (f_126 groupPhrase_ (nd_ne ND (i := 23) (j := 32) rfl rfl (by decide))).trans e_groupPhrase
              have e_138 := (f_126 groupSize_ (nd_ne ND (i := 24) (j := 32) rfl rfl (by decide))).trans e_groupSize
              have e_139 := (f_126 groupFar_ (nd_ne ND (i := 26) (j := 32) rfl rfl (by decide))).trans e_groupFar
              have e_140 := (f_126 groupMask_ (nd_ne ND (i := 25) (j := 32) rfl rfl (by decide))).trans e_groupMask
              have e_141 := (f_126 sizes_ (nd_ne ND (i := 6) (j := 32) rfl rfl (by decide))).trans e_sizes
              have e_142 := (f_126 out_ (nd_ne ND (i := 27) (j := 32) rfl rfl (by decide))).trans e_out
              have r_143 := r0.up (by simp) f_126
              refine s_Model_finds_145 ?_
              have hq_144 := z_4
              rw [nI_clamp (show i < 2 ^ 31 by omega), o1] at hq_144
              have hj_145 : ¬ v9.1 = 1 := fun x => hq_144 ((neg_1 _ (by omega) o2).mpr x)
              have hq_146 := z_7
              rw [nI_clamp (show i < 2 ^ 31 by omega), o1] at hq_146
              have hj_147 : v9.1 = 3 := (neg_3 _ (by omega) o2).mp hq_146
              have hq_148 := z_95
              rw [show nI (st2.length + 2) + (-1) = nI (st2.length + 1) from nI_m1 (st2.length + 1), nI_pred, nI_clamp (by omega), t2] at hq_148
              have hv_149 : a2 = true := b01_t hq_148
              have hq_150 := z_122
              rw [show nI (st2.length + 2) + (-1) = nI (st2.length + 1) from nI_m1 (st2.length + 1), nI_clamp (by omega), t1] at hq_150
              have hv_151 : b2 = true := b01_t hq_150
              rw [show nI (st2.length + 2) + (-1) = nI (st2.length + 1) from nI_m1 (st2.length + 1), nI_1]
              rw [show nI (st2.length + 2) + (-1) = nI (st2.length + 1) from nI_m1 (st2.length + 1), nI_pred, nI_clamp (show st2.length < 2 ^ 31 by omega)] at e_125
              have hop : vp_nar .boolean 0 = b01 (opB v9.1 a2 b2) := by unfold opB; rw [if_neg hj_145, if_pos hj_147, hv_149, hv_151]; rfl
              exact ih (i + 1) _ (opB v9.1 a2 b2 :: st2) _ _ _ _ _ (by omega) l e_127 g_column ga0 e_128 e_129 e_125 hE hD2 (by rw [List.length_cons]; omega) (t3.push hop) r_143
            · skip
              refine s_Model_finds_121 ?_
              refine s_Model_finds_144 e_truth (by rw [show nI (st2.length + 2) + (-1) = nI (st2.length + 1) from nI_m1 (st2.length + 1), nI_pred]; exact vp_in_nI (by omega) (by decide)) ?_
              refine x_u1 (fun h_152 e_153 f_154 => ?_)
              have e_155 := (f_154 m (nd_ne ND (i := 0) (j := 32) rfl rfl (by decide))).trans e
              have e_156 := (f_154 begins_ (nd_ne ND (i := 30) (j := 32) rfl rfl (by decide))).trans e_begins
              have e_157 := (f_154 lasts_ (nd_ne ND (i := 31) (j := 32) rfl rfl (by decide))).trans e_lasts
              have e_158 := (f_154 tokenAt_ (nd_ne ND (i := 20) (j := 32) rfl rfl (by decide))).trans e_tokenAt
              have e_159 := (f_154 tokenSize_ (nd_ne ND (i := 21) (j := 32) rfl rfl (by decide))).trans e_tokenSize
              have e_160 := (f_154 texts_ (nd_ne ND (i := 5) (j := 32) rfl rfl (by decide))).trans e_texts
              have e_161 := (f_154 asked_ (nd_ne ND (i := 2) (j := 32) rfl rfl (by decide))).trans e_asked
              have e_162 := (f_154 firstToken_ (nd_ne ND (i := 18) (j := 32) rfl rfl (by decide))).trans e_firstToken
              have e_163 := (f_154 starred_ (nd_ne ND (i := 19) (j := 32) rfl rfl (by decide))).trans e_starred
              have e_164 := (f_154 groupKind_ (nd_ne ND (i := 22) (j := 32) rfl rfl (by decide))).trans e_groupKind
              have e_165 := (f_154 groupPhrase_ (nd_ne ND (i := 23) (j := 32) rfl rfl (by decide))).trans e_groupPhrase
              have e_166 := (f_154 groupSize_ (nd_ne ND (i := 24) (j := 32) rfl rfl (by decide))).trans e_groupSize
              have e_167 := (f_154 groupFar_ (nd_ne ND (i := 26) (j := 32) rfl rfl (by decide))).trans e_groupFar
              have e_168 := (f_154 groupMask_ (nd_ne ND (i := 25) (j := 32) rfl rfl (by decide))).trans e_groupMask
              have e_169 := (f_154 sizes_ (nd_ne ND (i := 6) (j := 32) rfl rfl (by decide))).trans e_sizes
              have e_170 := (f_154 out_ (nd_ne ND (i := 27) (j := 32) rfl rfl (by decide))).trans e_out
              have r_171 := r0.up (by simp) f_154
              refine s_Model_finds_145 ?_
              have hq_172 := z_4
              rw [nI_clamp (show i < 2 ^ 31 by omega), o1] at hq_172
              have hj_173 : ¬ v9.1 = 1 := fun x => hq_172 ((neg_1 _ (by omega) o2).mpr x)
              have hq_174 := z_7
              rw [nI_clamp (show i < 2 ^ 31 by omega), o1] at hq_174
              have hj_175 : v9.1 = 3 := (neg_3 _ (by omega) o2).mp hq_174
              have hq_176 := z_95
              rw [show nI (st2.length + 2) + (-1) = nI (st2.length + 1) from nI_m1 (st2.length + 1), nI_pred, nI_clamp (by omega), t2] at hq_176
              have hv_177 : a2 = true := b01_t hq_176
              have hq_178 := z_123
              rw [show nI (st2.length + 2) + (-1) = nI (st2.length + 1) from nI_m1 (st2.length + 1), nI_clamp (by omega), t1] at hq_178
              have hv_179 : b2 = false := b01_f hq_178
              rw [show nI (st2.length + 2) + (-1) = nI (st2.length + 1) from nI_m1 (st2.length + 1), nI_1]
              rw [show nI (st2.length + 2) + (-1) = nI (st2.length + 1) from nI_m1 (st2.length + 1), nI_pred, nI_clamp (show st2.length < 2 ^ 31 by omega)] at e_153
              have hop : vp_nar .boolean 1 = b01 (opB v9.1 a2 b2) := by unfold opB; rw [if_neg hj_173, if_pos hj_175, hv_177, hv_179]; rfl
              exact ih (i + 1) _ (opB v9.1 a2 b2 :: st2) _ _ _ _ _ (by omega) l e_155 g_column ga0 e_156 e_157 e_153 hE hD2 (by rw [List.length_cons]; omega) (t3.push hop) r_171
      · skip
        refine s_Model_finds_82 (fun z_180 => ?_) (fun z_181 => ?_)
        · skip
          refine s_Model_finds_92 ?_
          refine s_Model_finds_144 e_truth (by rw [show nI (st2.length + 2) + (-1) = nI (st2.length + 1) from nI_m1 (st2.length + 1), nI_pred]; exact vp_in_nI (by omega) (by decide)) ?_
          refine x_u1 (fun h_182 e_183 f_184 => ?_)
          have e_185 := (f_184 m (nd_ne ND (i := 0) (j := 32) rfl rfl (by decide))).trans e
          have e_186 := (f_184 begins_ (nd_ne ND (i := 30) (j := 32) rfl rfl (by decide))).trans e_begins
          have e_187 := (f_184 lasts_ (nd_ne ND (i := 31) (j := 32) rfl rfl (by decide))).trans e_lasts
          have e_188 := (f_184 tokenAt_ (nd_ne ND (i := 20) (j := 32) rfl rfl (by decide))).trans e_tokenAt
          have e_189 := (f_184 tokenSize_ (nd_ne ND (i := 21) (j := 32) rfl rfl (by decide))).trans e_tokenSize
          have e_190 := (f_184 texts_ (nd_ne ND (i := 5) (j := 32) rfl rfl (by decide))).trans e_texts
          have e_191 := (f_184 asked_ (nd_ne ND (i := 2) (j := 32) rfl rfl (by decide))).trans e_asked
          have e_192 := (f_184 firstToken_ (nd_ne ND (i := 18) (j := 32) rfl rfl (by decide))).trans e_firstToken
          have e_193 := (f_184 starred_ (nd_ne ND (i := 19) (j := 32) rfl rfl (by decide))).trans e_starred
          have e_194 := (f_184 groupKind_ (nd_ne ND (i := 22) (j := 32) rfl rfl (by decide))).trans e_groupKind
          have e_195 := (f_184 groupPhrase_ (nd_ne ND (i := 23) (j := 32) rfl rfl (by decide))).trans e_groupPhrase
          have e_196 := (f_184 groupSize_ (nd_ne ND (i := 24) (j := 32) rfl rfl (by decide))).trans e_groupSize
          have e_197 := (f_184 groupFar_ (nd_ne ND (i := 26) (j := 32) rfl rfl (by decide))).trans e_groupFar
          have e_198 := (f_184 groupMask_ (nd_ne ND (i := 25) (j := 32) rfl rfl (by decide))).trans e_groupMask
          have e_199 := (f_184 sizes_ (nd_ne ND (i := 6) (j := 32) rfl rfl (by decide))).trans e_sizes
          have e_200 := (f_184 out_ (nd_ne ND (i := 27) (j := 32) rfl rfl (by decide))).trans e_out
          have r_201 := r0.up (by simp) f_184
          refine s_Model_finds_145 ?_
          have hq_202 := z_5
          rw [nI_clamp (show i < 2 ^ 31 by omega), o1] at hq_202
          have hj_203 : v9.1 = 1 := (neg_1 _ (by omega) o2).mp hq_202
          have hq_204 := z_180
          rw [show nI (st2.length + 2) + (-1) = nI (st2.length + 1) from nI_m1 (st2.length + 1), nI_pred, nI_clamp (by omega), t2] at hq_204
          have hv_205 : a2 = true := b01_t hq_204
          rw [show nI (st2.length + 2) + (-1) = nI (st2.length + 1) from nI_m1 (st2.length + 1), nI_1]
          rw [show nI (st2.length + 2) + (-1) = nI (st2.length + 1) from nI_m1 (st2.length + 1), nI_pred, nI_clamp (show st2.length < 2 ^ 31 by omega)] at e_183
          have hop : vp_nar .boolean 1 = b01 (opB v9.1 a2 b2) := by unfold opB; rw [if_pos hj_203, hv_205]; cases b2 <;> rfl
          exact ih (i + 1) _ (opB v9.1 a2 b2 :: st2) _ _ _ _ _ (by omega) l e_185 g_column ga0 e_186 e_187 e_183 hE hD2 (by rw [List.length_cons]; omega) (t3.push hop) r_201
        · skip
          refine s_Model_finds_87 (fun z_206 => ?_) (fun z_207 => ?_)
          · skip
            refine s_Model_finds_96 ?_
            refine s_Model_finds_144 e_truth (by rw [show nI (st2.length + 2) + (-1) = nI (st2.length + 1) from nI_m1 (st2.length + 1), nI_pred]; exact vp_in_nI (by omega) (by decide)) ?_
            refine x_u1 (fun h_208 e_209 f_210 => ?_)
            have e_211 := (f_210 m (nd_ne ND (i := 0) (j := 32) rfl rfl (by decide))).trans e
            have e_212 := (f_210 begins_ (nd_ne ND (i := 30) (j := 32) rfl rfl (by decide))).trans e_begins
            have e_213 := (f_210 lasts_ (nd_ne ND (i := 31) (j := 32) rfl rfl (by decide))).trans e_lasts
            have e_214 := (f_210 tokenAt_ (nd_ne ND (i := 20) (j := 32) rfl rfl (by decide))).trans e_tokenAt
            have e_215 := (f_210 tokenSize_ (nd_ne ND (i := 21) (j := 32) rfl rfl (by decide))).trans e_tokenSize
            have e_216 := (f_210 texts_ (nd_ne ND (i := 5) (j := 32) rfl rfl (by decide))).trans e_texts
            have e_217 := (f_210 asked_ (nd_ne ND (i := 2) (j := 32) rfl rfl (by decide))).trans e_asked
            have e_218 := (f_210 firstToken_ (nd_ne ND (i := 18) (j := 32) rfl rfl (by decide))).trans e_firstToken
            have e_219 := (f_210 starred_ (nd_ne ND (i := 19) (j := 32) rfl rfl (by decide))).trans e_starred
            have e_220 := (f_210 groupKind_ (nd_ne ND (i := 22) (j := 32) rfl rfl (by decide))).trans e_groupKind
            have e_221 := (f_210 groupPhrase_ (nd_ne ND (i := 23) (j := 32) rfl rfl (by decide))).trans e_groupPhrase
            have e_222 := (f_210 groupSize_ (nd_ne ND (i := 24) (j := 32) rfl rfl (by decide))).trans e_groupSize
            have e_223 := (f_210 groupFar_ (nd_ne ND (i := 26) (j := 32) rfl rfl (by decide))).trans e_groupFar
            have e_224 := (f_210 groupMask_ (nd_ne ND (i := 25) (j := 32) rfl rfl (by decide))).trans e_groupMask
            have e_225 := (f_210 sizes_ (nd_ne ND (i := 6) (j := 32) rfl rfl (by decide))).trans e_sizes
            have e_226 := (f_210 out_ (nd_ne ND (i := 27) (j := 32) rfl rfl (by decide))).trans e_out
            have r_227 := r0.up (by simp) f_210
            refine s_Model_finds_145 ?_
            have hq_228 := z_5
            rw [nI_clamp (show i < 2 ^ 31 by omega), o1] at hq_228
            have hj_229 : v9.1 = 1 := (neg_1 _ (by omega) o2).mp hq_228
            have hq_230 := z_181
            rw [show nI (st2.length + 2) + (-1) = nI (st2.length + 1) from nI_m1 (st2.length + 1), nI_pred, nI_clamp (by omega), t2] at hq_230
            have hv_231 : a2 = false := b01_f hq_230
            have hq_232 := z_206
            rw [show nI (st2.length + 2) + (-1) = nI (st2.length + 1) from nI_m1 (st2.length + 1), nI_clamp (by omega), t1] at hq_232
            have hv_233 : b2 = false := b01_f hq_232
            rw [show nI (st2.length + 2) + (-1) = nI (st2.length + 1) from nI_m1 (st2.length + 1), nI_1]
            rw [show nI (st2.length + 2) + (-1) = nI (st2.length + 1) from nI_m1 (st2.length + 1), nI_pred, nI_clamp (show st2.length < 2 ^ 31 by omega)] at e_209
            have hop : vp_nar .boolean 0 = b01 (opB v9.1 a2 b2) := by unfold opB; rw [if_pos hj_229, hv_231, hv_233]; rfl
            exact ih (i + 1) _ (opB v9.1 a2 b2 :: st2) _ _ _ _ _ (by omega) l e_211 g_column ga0 e_212 e_213 e_209 hE hD2 (by rw [List.length_cons]; omega) (t3.push hop) r_227
          · skip
            refine s_Model_finds_92 ?_
            refine s_Model_finds_144 e_truth (by rw [show nI (st2.length + 2) + (-1) = nI (st2.length + 1) from nI_m1 (st2.length + 1), nI_pred]; exact vp_in_nI (by omega) (by decide)) ?_
            refine x_u1 (fun h_234 e_235 f_236 => ?_)
            have e_237 := (f_236 m (nd_ne ND (i := 0) (j := 32) rfl rfl (by decide))).trans e
            have e_238 := (f_236 begins_ (nd_ne ND (i := 30) (j := 32) rfl rfl (by decide))).trans e_begins
            have e_239 := (f_236 lasts_ (nd_ne ND (i := 31) (j := 32) rfl rfl (by decide))).trans e_lasts
            have e_240 := (f_236 tokenAt_ (nd_ne ND (i := 20) (j := 32) rfl rfl (by decide))).trans e_tokenAt
            have e_241 := (f_236 tokenSize_ (nd_ne ND (i := 21) (j := 32) rfl rfl (by decide))).trans e_tokenSize
            have e_242 := (f_236 texts_ (nd_ne ND (i := 5) (j := 32) rfl rfl (by decide))).trans e_texts
            have e_243 := (f_236 asked_ (nd_ne ND (i := 2) (j := 32) rfl rfl (by decide))).trans e_asked
            have e_244 := (f_236 firstToken_ (nd_ne ND (i := 18) (j := 32) rfl rfl (by decide))).trans e_firstToken
            have e_245 := (f_236 starred_ (nd_ne ND (i := 19) (j := 32) rfl rfl (by decide))).trans e_starred
            have e_246 := (f_236 groupKind_ (nd_ne ND (i := 22) (j := 32) rfl rfl (by decide))).trans e_groupKind
            have e_247 := (f_236 groupPhrase_ (nd_ne ND (i := 23) (j := 32) rfl rfl (by decide))).trans e_groupPhrase
            have e_248 := (f_236 groupSize_ (nd_ne ND (i := 24) (j := 32) rfl rfl (by decide))).trans e_groupSize
            have e_249 := (f_236 groupFar_ (nd_ne ND (i := 26) (j := 32) rfl rfl (by decide))).trans e_groupFar
            have e_250 := (f_236 groupMask_ (nd_ne ND (i := 25) (j := 32) rfl rfl (by decide))).trans e_groupMask
            have e_251 := (f_236 sizes_ (nd_ne ND (i := 6) (j := 32) rfl rfl (by decide))).trans e_sizes
            have e_252 := (f_236 out_ (nd_ne ND (i := 27) (j := 32) rfl rfl (by decide))).trans e_out
            have r_253 := r0.up (by simp) f_236
            refine s_Model_finds_145 ?_
            have hq_254 := z_5
            rw [nI_clamp (show i < 2 ^ 31 by omega), o1] at hq_254
            have hj_255 : v9.1 = 1 := (neg_1 _ (by omega) o2).mp hq_254
            have hq_256 := z_181
            rw [show nI (st2.length + 2) + (-1) = nI (st2.length + 1) from nI_m1 (st2.length + 1), nI_pred, nI_clamp (by omega), t2] at hq_256
            have hv_257 : a2 = false := b01_f hq_256
            have hq_258 := z_207
            rw [show nI (st2.length + 2) + (-1) = nI (st2.length + 1) from nI_m1 (st2.length + 1), nI_clamp (by omega), t1] at hq_258
            have hv_259 : b2 = true := b01_t hq_258
            rw [show nI (st2.length + 2) + (-1) = nI (st2.length + 1) from nI_m1 (st2.length + 1), nI_1]
            rw [show nI (st2.length + 2) + (-1) = nI (st2.length + 1) from nI_m1 (st2.length + 1), nI_pred, nI_clamp (show st2.length < 2 ^ 31 by omega)] at e_235
            have hop : vp_nar .boolean 1 = b01 (opB v9.1 a2 b2) := by unfold opB; rw [if_pos hj_255, hv_257, hv_259]; rfl
            exact ih (i + 1) _ (opB v9.1 a2 b2 :: st2) _ _ _ _ _ (by omega) l e_237 g_column ga0 e_238 e_239 e_235 hE hD2 (by rw [List.length_cons]; omega) (t3.push hop) r_253
    · skip
      refine s_Model_finds_21 (truth_a0 := some truth_) l e g_truth g_out e_out (vp_in_nI (by omega) (by omega)) ?_
      obtain ⟨v9, hv9, hd9⟩ := drop_c (e := e9) (i := i) (by omega)
      rw [hd9] at hE hD
      obtain ⟨o1, o2, o3⟩ := OU i v9 hv9
      have hnn : ¬ co i < 0 := by have q := z_3; rw [nI_clamp (show i < 2 ^ 31 by omega)] at q; exact q
      have h0v : v9.1 = 0 := by rcases Nat.eq_zero_or_pos v9.1 with q | q; (exact q); (exact absurd (by rw [o1, if_neg (by omega)]; exact neg_j _ q o2) hnn)
      rw [if_pos h0v] at o1
      have hj := OG v9 (List.mem_of_getElem? hv9) h0v
      obtain ⟨y9, hy9⟩ : ∃ y, gr[v9.2]? = some y := ⟨_, List.getElem?_eq_getElem hj⟩
      obtain ⟨u5, u6, u7, u8, u9⟩ := GR v9.2 y9 hy9
      obtain ⟨k1, k2, k3, k4, k5⟩ := OK v9.2 y9 hy9
      rw [show co (nI i).toNatClampNeg = nI v9.2 by rw [nI_clamp (by omega)]; exact o1]
      refine x_callV (As := [.int (nI v9.2), .int (nI r)]) (b := m) (rest := [.int (nI st.length), .ref truth_]) (F1 := 7) (L1 := 161) (mc := 0) (ms := 0) d_Model_finds_34 cV_Model_325 (f_holdsH l e g_column g_begins e_begins g_lasts e_lasts g_tokenAt e_tokenAt g_tokenSize e_tokenSize g_texts e_texts g_asked e_asked g_firstToken e_firstToken g_starred e_starred g_groupKind e_groupKind g_groupPhrase e_groupPhrase g_groupSize e_groupSize g_groupFar e_groupFar g_groupMask e_groupMask g_sizes e_sizes ND hP PH hws TR (show v9.2 < 13 by omega) u5 u6 u7 u9 (by omega) (by omega) (by omega) k4 u8 k3 hr hz (by omega) (by omega)) e ⟨by decide, rfl⟩ ⟨by omega, by show 8 + (4 + 11) + 161 ≤ _; omega⟩ ⟨by omega, by omega⟩ (Nat.le_of_ble_eq_true rfl) (fun v_274 h_273 p_275 => ?_)
      obtain ⟨⟨y_260, rfl, hy_261⟩, cl_262, fb_263, fl_264, fs_265, l_266, e_267, g_268, ga_269, eb_270, el_271, r_272⟩ := p_275
      have e_276 := r_272 tokenAt_ _ (by simp only [List.mem_cons, List.not_mem_nil, or_false, not_or]; exact ⟨(Ne.symm (nd_ne ND (i := 0) (j := 20) rfl rfl (by decide))), (Ne.symm (nd_ne ND (i := 30) (j := 20) rfl rfl (by decide))), (Ne.symm (nd_ne ND (i := 31) (j := 20) rfl rfl (by decide)))⟩) e_tokenAt
      have e_277 := r_272 tokenSize_ _ (by simp only [List.mem_cons, List.not_mem_nil, or_false, not_or]; exact ⟨(Ne.symm (nd_ne ND (i := 0) (j := 21) rfl rfl (by decide))), (Ne.symm (nd_ne ND (i := 30) (j := 21) rfl rfl (by decide))), (Ne.symm (nd_ne ND (i := 31) (j := 21) rfl rfl (by decide)))⟩) e_tokenSize
      have e_278 := r_272 texts_ _ (by simp only [List.mem_cons, List.not_mem_nil, or_false, not_or]; exact ⟨(Ne.symm (nd_ne ND (i := 0) (j := 5) rfl rfl (by decide))), (Ne.symm (nd_ne ND (i := 30) (j := 5) rfl rfl (by decide))), (Ne.symm (nd_ne ND (i := 31) (j := 5) rfl rfl (by decide)))⟩) e_texts
      have e_279 := r_272 asked_ _ (by simp only [List.mem_cons, List.not_mem_nil, or_false, not_or]; exact ⟨(Ne.symm (nd_ne ND (i := 0) (j := 2) rfl rfl (by decide))), (Ne.symm (nd_ne ND (i := 30) (j := 2) rfl rfl (by decide))), (Ne.symm (nd_ne ND (i := 31) (j := 2) rfl rfl (by decide)))⟩) e_asked
      have e_280 := r_272 firstToken_ _ (by simp only [List.mem_cons, List.not_mem_nil, or_false, not_or]; exact ⟨(Ne.symm (nd_ne ND (i := 0) (j := 18) rfl rfl (by decide))), (Ne.symm (nd_ne ND (i := 30) (j := 18) rfl rfl (by decide))), (Ne.symm (nd_ne ND (i := 31) (j := 18) rfl rfl (by decide)))⟩) e_firstToken
      have e_281 := r_272 starred_ _ (by simp only [List.mem_cons, List.not_mem_nil, or_false, not_or]; exact ⟨(Ne.symm (nd_ne ND (i := 0) (j := 19) rfl rfl (by decide))), (Ne.symm (nd_ne ND (i := 30) (j := 19) rfl rfl (by decide))), (Ne.symm (nd_ne ND (i := 31) (j := 19) rfl rfl (by decide)))⟩) e_starred
      have e_282 := r_272 groupKind_ _ (by simp only [List.mem_cons, List.not_mem_nil, or_false, not_or]; exact ⟨(Ne.symm (nd_ne ND (i := 0) (j := 22) rfl rfl (by decide))), (Ne.symm (nd_ne ND (i := 30) (j := 22) rfl rfl (by decide))), (Ne.symm (nd_ne ND (i := 31) (j := 22) rfl rfl (by decide)))⟩) e_groupKind
      have e_283 := r_272 groupPhrase_ _ (by simp only [List.mem_cons, List.not_mem_nil, or_false, not_or]; exact ⟨(Ne.symm (nd_ne ND (i := 0) (j := 23) rfl rfl (by decide))), (Ne.symm (nd_ne ND (i := 30) (j := 23) rfl rfl (by decide))), (Ne.symm (nd_ne ND (i := 31) (j := 23) rfl rfl (by decide)))⟩) e_groupPhrase
      have e_284 := r_272 groupSize_ _ (by simp only [List.mem_cons, List.not_mem_nil, or_false, not_or]; exact ⟨(Ne.symm (nd_ne ND (i := 0) (j := 24) rfl rfl (by decide))), (Ne.symm (nd_ne ND (i := 30) (j := 24) rfl rfl (by decide))), (Ne.symm (nd_ne ND (i := 31) (j := 24) rfl rfl (by decide)))⟩) e_groupSize
      have e_285 := r_272 groupFar_ _ (by simp only [List.mem_cons, List.not_mem_nil, or_false, not_or]; exact ⟨(Ne.symm (nd_ne ND (i := 0) (j := 26) rfl rfl (by decide))), (Ne.symm (nd_ne ND (i := 30) (j := 26) rfl rfl (by decide))), (Ne.symm (nd_ne ND (i := 31) (j := 26) rfl rfl (by decide)))⟩) e_groupFar
      have e_286 := r_272 groupMask_ _ (by simp only [List.mem_cons, List.not_mem_nil, or_false, not_or]; exact ⟨(Ne.symm (nd_ne ND (i := 0) (j := 25) rfl rfl (by decide))), (Ne.symm (nd_ne ND (i := 30) (j := 25) rfl rfl (by decide))), (Ne.symm (nd_ne ND (i := 31) (j := 25) rfl rfl (by decide)))⟩) e_groupMask
      have e_287 := r_272 sizes_ _ (by simp only [List.mem_cons, List.not_mem_nil, or_false, not_or]; exact ⟨(Ne.symm (nd_ne ND (i := 0) (j := 6) rfl rfl (by decide))), (Ne.symm (nd_ne ND (i := 30) (j := 6) rfl rfl (by decide))), (Ne.symm (nd_ne ND (i := 31) (j := 6) rfl rfl (by decide)))⟩) e_sizes
      have e_288 := r_272 out_ _ (by simp only [List.mem_cons, List.not_mem_nil, or_false, not_or]; exact ⟨(Ne.symm (nd_ne ND (i := 0) (j := 27) rfl rfl (by decide))), (Ne.symm (nd_ne ND (i := 30) (j := 27) rfl rfl (by decide))), (Ne.symm (nd_ne ND (i := 31) (j := 27) rfl rfl (by decide)))⟩) e_out
      have e_289 := r_272 truth_ _ (by simp only [List.mem_cons, List.not_mem_nil, or_false, not_or]; exact ⟨(Ne.symm (nd_ne ND (i := 0) (j := 32) rfl rfl (by decide))), (Ne.symm (nd_ne ND (i := 30) (j := 32) rfl rfl (by decide))), (Ne.symm (nd_ne ND (i := 31) (j := 32) rfl rfl (by decide)))⟩) e_truth
      have r_290 := r0.trans (r_272.mono (by simp))
      have g_291 : fs_265[(37 : Nat)]? = some (.int (nI e9.length)) := (ga_269 37 (by decide)).trans g_outs
      have g_292 : fs_265[(53 : Nat)]? = some (.ref begins_) := (ga_269 53 (by decide)).trans g_begins
      have g_293 : fs_265[(54 : Nat)]? = some (.ref lasts_) := (ga_269 54 (by decide)).trans g_lasts
      have g_294 : fs_265[(43 : Nat)]? = some (.ref tokenAt_) := (ga_269 43 (by decide)).trans g_tokenAt
      have g_295 : fs_265[(44 : Nat)]? = some (.ref tokenSize_) := (ga_269 44 (by decide)).trans g_tokenSize
      have g_296 : fs_265[(7 : Nat)]? = some (.ref texts_) := (ga_269 7 (by decide)).trans g_texts
      have g_297 : fs_265[(4 : Nat)]? = some (.ref asked_) := (ga_269 4 (by decide)).trans g_asked
      have g_298 : fs_265[(41 : Nat)]? = some (.ref firstToken_) := (ga_269 41 (by decide)).trans g_firstToken
      have g_299 : fs_265[(42 : Nat)]? = some (.ref starred_) := (ga_269 42 (by decide)).trans g_starred
      have g_300 : fs_265[(45 : Nat)]? = some (.ref groupKind_) := (ga_269 45 (by decide)).trans g_groupKind
      have g_301 : fs_265[(46 : Nat)]? = some (.ref groupPhrase_) := (ga_269 46 (by decide)).trans g_groupPhrase
      have g_302 : fs_265[(47 : Nat)]? = some (.ref groupSize_) := (ga_269 47 (by decide)).trans g_groupSize
      have g_303 : fs_265[(49 : Nat)]? = some (.ref groupFar_) := (ga_269 49 (by decide)).trans g_groupFar
      have g_304 : fs_265[(48 : Nat)]? = some (.ref groupMask_) := (ga_269 48 (by decide)).trans g_groupMask
      have g_305 : fs_265[(8 : Nat)]? = some (.ref sizes_) := (ga_269 8 (by decide)).trans g_sizes
      have g_306 : fs_265[(50 : Nat)]? = some (.ref out_) := (ga_269 50 (by decide)).trans g_out
      have g_307 : fs_265[(57 : Nat)]? = some (.ref truth_) := (ga_269 57 (by decide)).trans g_truth
      have ga_308 : ∀ i : Nat, i ∉ [55] → fs_265[i]? = gs[i]? := fun i hi => (ga_269 i (fun z => hi (by simp only [List.mem_cons, List.not_mem_nil, or_false] at z ⊢; omega))).trans (ga0 i hi)
      refine s_Model_finds_37 e_289 (vp_in_nI (by omega) (by omega)) ?_
      refine x_u1 (fun h_309 e_310 f_311 => ?_)
      have e_312 := (f_311 m (nd_ne ND (i := 0) (j := 32) rfl rfl (by decide))).trans e_267
      have e_313 := (f_311 begins_ (nd_ne ND (i := 30) (j := 32) rfl rfl (by decide))).trans eb_270
      have e_314 := (f_311 lasts_ (nd_ne ND (i := 31) (j := 32) rfl rfl (by decide))).trans el_271
      have e_315 := (f_311 tokenAt_ (nd_ne ND (i := 20) (j := 32) rfl rfl (by decide))).trans e_276
      have e_316 := (f_311 tokenSize_ (nd_ne ND (i := 21) (j := 32) rfl rfl (by decide))).trans e_277
      have e_317 := (f_311 texts_ (nd_ne ND (i := 5) (j := 32) rfl rfl (by decide))).trans e_278
      have e_318 := (f_311 asked_ (nd_ne ND (i := 2) (j := 32) rfl rfl (by decide))).trans e_279
      have e_319 := (f_311 firstToken_ (nd_ne ND (i := 18) (j := 32) rfl rfl (by decide))).trans e_280
      have e_320 := (f_311 starred_ (nd_ne ND (i := 19) (j := 32) rfl rfl (by decide))).trans e_281
      have e_321 := (f_311 groupKind_ (nd_ne ND (i := 22) (j := 32) rfl rfl (by decide))).trans e_282
      have e_322 := (f_311 groupPhrase_ (nd_ne ND (i := 23) (j := 32) rfl rfl (by decide))).trans e_283
      have e_323 := (f_311 groupSize_ (nd_ne ND (i := 24) (j := 32) rfl rfl (by decide))).trans e_284
      have e_324 := (f_311 groupFar_ (nd_ne ND (i := 26) (j := 32) rfl rfl (by decide))).trans e_285
      have e_325 := (f_311 groupMask_ (nd_ne ND (i := 25) (j := 32) rfl rfl (by decide))).trans e_286
      have e_326 := (f_311 sizes_ (nd_ne ND (i := 6) (j := 32) rfl rfl (by decide))).trans e_287
      have e_327 := (f_311 out_ (nd_ne ND (i := 27) (j := 32) rfl rfl (by decide))).trans e_288
      have r_328 := r_290.up (by simp) f_311
      refine s_Model_finds_145 ?_
      rw [nI_1, nI_1]
      rw [nI_clamp (show st.length < 2 ^ 31 by omega)] at e_310
      have hyb : vp_nar .boolean y_260 = b01 ((grB ws A N Bb ft fz gr r) v9.2) := by rw [yn_01 hy_261 (grB_at hy9), vn_b]
      exact ih (i + 1) _ ((grB ws A N Bb ft fz gr r) v9.2 :: st) _ _ _ _ _ (by omega) l_266 e_312 g_268 ga_308 e_313 e_314 e_310 ((ev_g h0v).symm.trans hE) (dp_g h0v hD) (by rw [List.length_cons]; omega) (TRR.push hyb) r_328
set_option maxHeartbeats 2000000 in
theorem f_findsH {G : xw_G} {F L : Nat} {h : xw_A} {m draft_ asked_ prepared_ preparedSize_ texts_ sizes_ weights_ entries_ lies_ live_ row_ level_ oldTexts_ oldSizes_ oldLies_ oldLive_ oldRow_ firstToken_ starred_ tokenAt_ tokenSize_ groupKind_ groupPhrase_ groupSize_ groupMask_ groupFar_ out_ top_ masks_ begins_ lasts_ truth_ answers_ order_ scores_ : Nat} {fb fl ca cs ft fa c1 c2 c5 c6 c7 c9 c8 fz co c13 : Nat → Int32} {cl : Int32} {ws : List (List Int32)} {t P : Nat} {A N : Nat → Nat} {Bb : Nat → Bool} (hP : P ≤ 12) (PH : PhA ws c1 c2 P A N Bb) (hws : ws.length ≤ 49) (TR : TkR ws t ca cs fa) {gr : List GRt} {e9 : List EV} {r : Nat} (GR : GrR gr c5 c6 c7 c8 c9) (OK : ∀ (g : Nat) (y : GRt), gr[g]? = some y → OKg y P) (hg0 : gr.length ≤ P) (OU : OuR e9 co) (OG : OgR e9 gr.length) (ho : e9.length ≤ 60) (hr : r < 24) (hz : SZo fz 48) {fs : List Value} (l : fs.length = 62) (e : h m = some (.inr (11, fs))) (g_outs : fs[(37 : Nat)]? = some (.int (nI e9.length))) (g_column : fs[(55 : Nat)]? = some (.int cl)) (g_begins : fs[(53 : Nat)]? = some (.ref begins_)) (e_begins : h begins_ = some (.inl (0, 24, .inl fb))) (g_lasts : fs[(54 : Nat)]? = some (.ref lasts_)) (e_lasts : h lasts_ = some (.inl (0, 24, .inl fl))) (g_tokenAt : fs[(43 : Nat)]? = some (.ref tokenAt_)) (e_tokenAt : h tokenAt_ = some (.inl (0, 60, .inl ca))) (g_tokenSize : fs[(44 : Nat)]? = some (.ref tokenSize_)) (e_tokenSize : h tokenSize_ = some (.inl (0, 60, .inl cs))) (g_texts : fs[(7 : Nat)]? = some (.ref texts_)) (e_texts : h texts_ = some (.inl (0, 2304, .inl ft))) (g_asked : fs[(4 : Nat)]? = some (.ref asked_)) (e_asked : h asked_ = some (.inl (0, 96, .inl fa))) (g_firstToken : fs[(41 : Nat)]? = some (.ref firstToken_)) (e_firstToken : h firstToken_ = some (.inl (0, 13, .inl c1))) (g_starred : fs[(42 : Nat)]? = some (.ref starred_)) (e_starred : h starred_ = some (.inl (0, 13, .inl c2))) (g_groupKind : fs[(45 : Nat)]? = some (.ref groupKind_)) (e_groupKind : h groupKind_ = some (.inl (0, 13, .inl c5))) (g_groupPhrase : fs[(46 : Nat)]? = some (.ref groupPhrase_)) (e_groupPhrase : h groupPhrase_ = some (.inl (0, 13, .inl c6))) (g_groupSize : fs[(47 : Nat)]? = some (.ref groupSize_)) (e_groupSize : h groupSize_ = some (.inl (0, 13, .inl c7))) (g_groupFar : fs[(49 : Nat)]? = some (.ref groupFar_)) (e_groupFar : h groupFar_ = some (.inl (0, 13, .inl c9))) (g_groupMask : fs[(48 : Nat)]? = some (.ref groupMask_)) (e_groupMask : h groupMask_ = some (.inl (0, 13, .inl c8))) (g_sizes : fs[(8 : Nat)]? = some (.ref sizes_)) (e_sizes : h sizes_ = some (.inl (0, 48, .inl fz))) (g_out : fs[(50 : Nat)]? = some (.ref out_)) (e_out : h out_ = some (.inl (0, 60, .inl co))) (g_truth : fs[(57 : Nat)]? = some (.ref truth_)) (e_truth : h truth_ = some (.inl (4, 60, .inl c13))) (ND : NDl [m, draft_, asked_, prepared_, preparedSize_, texts_, sizes_, weights_, entries_, lies_, live_, row_, level_, oldTexts_, oldSizes_, oldLies_, oldLive_, oldRow_, firstToken_, starred_, tokenAt_, tokenSize_, groupKind_, groupPhrase_, groupSize_, groupMask_, groupFar_, out_, top_, masks_, begins_, lasts_, truth_, answers_, order_, scores_]) {tv : Bool} (hev : evE (grB ws A N Bb ft fz gr r) e9 [] = [tv]) (hdp : dpE e9 0) (hF : 8 ≤ F) (hL : 184 ≤ L) :
    xw_Met G m_Model_finds F L 0 0 [.ref m, .int (nI r)] h (fun v h' => v = some (.int (b01 tv)) ∧ ∃ (c13' : Nat → Int32) (cl : Int32) (fb fl : Nat → Int32) (fs' : List Value), fs'.length = 62 ∧ h' m = some (.inr (11, fs')) ∧ fs'[(55 : Nat)]? = some (.int cl) ∧ (∀ i : Nat, i ∉ [55] → fs'[i]? = fs[i]?) ∧ h' begins_ = some (.inl (0, 24, .inl fb)) ∧ h' lasts_ = some (.inl (0, 24, .inl fl)) ∧ h' truth_ = some (.inl (4, 60, .inl c13')) ∧ FrO [m, begins_, lasts_, truth_] h h') (fun _ _ => False) := by
  refine xw_Met.of rfl (by decide) (Nat.le_of_ble_eq_true rfl) ?_
  have ga0 : ∀ i : Nat, i ∉ [55] → fs[i]? = fs[i]? := fun _ _ => rfl
  have r0 : FrO [m, begins_, lasts_, truth_] h h := FrO.rf
  refine s_Model_finds_0 ?_
  refine lp_fiH (gs := fs) (h0 := h) (R := [tv]) ND hP PH hws TR GR OK hg0 OU OG ho hr hz g_outs g_begins g_lasts g_tokenAt g_tokenSize g_texts g_asked g_firstToken g_starred g_groupKind g_groupPhrase g_groupSize g_groupFar g_groupMask g_sizes g_out g_truth e_tokenAt e_tokenSize e_texts e_asked e_firstToken e_starred e_groupKind e_groupPhrase e_groupSize e_groupFar e_groupMask e_sizes e_out (by omega) (by omega) (fun h9 st9 c9_ cl9 fb9 fl9 fs9 aR aT a1 a2 a3 a4 a5 a6 a7 a8 => ?_) e9.length 0 _ [] _ _ _ _ _ (Nat.zero_add _) l e g_column (fun _ _ => rfl) e_begins e_lasts e_truth (by rw [List.drop_zero]; exact hev) (by rw [List.drop_zero]; exact hdp) (Nat.le_refl _) trivial FrO.rf
  subst aR
  have ht0 : c9_ 0 = b01 tv := aT.1
  have e_1 := a8 tokenAt_ _ (by simp only [List.mem_cons, List.not_mem_nil, or_false, not_or]; exact ⟨(Ne.symm (nd_ne ND (i := 0) (j := 20) rfl rfl (by decide))), (Ne.symm (nd_ne ND (i := 30) (j := 20) rfl rfl (by decide))), (Ne.symm (nd_ne ND (i := 31) (j := 20) rfl rfl (by decide))), (nd_ne ND (i := 20) (j := 32) rfl rfl (by decide))⟩) e_tokenAt
  have e_2 := a8 tokenSize_ _ (by simp only [List.mem_cons, List.not_mem_nil, or_false, not_or]; exact ⟨(Ne.symm (nd_ne ND (i := 0) (j := 21) rfl rfl (by decide))), (Ne.symm (nd_ne ND (i := 30) (j := 21) rfl rfl (by decide))), (Ne.symm (nd_ne ND (i := 31) (j := 21) rfl rfl (by decide))), (nd_ne ND (i := 21) (j := 32) rfl rfl (by decide))⟩) e_tokenSize
  have e_3 := a8 texts_ _ (by simp only [List.mem_cons, List.not_mem_nil, or_false, not_or]; exact ⟨(Ne.symm (nd_ne ND (i := 0) (j := 5) rfl rfl (by decide))), (Ne.symm (nd_ne ND (i := 30) (j := 5) rfl rfl (by decide))), (Ne.symm (nd_ne ND (i := 31) (j := 5) rfl rfl (by decide))), (nd_ne ND (i := 5) (j := 32) rfl rfl (by decide))⟩) e_texts
  have e_4 := a8 asked_ _ (by simp only [List.mem_cons, List.not_mem_nil, or_false, not_or]; exact ⟨(Ne.symm (nd_ne ND (i := 0) (j := 2) rfl rfl (by decide))), (Ne.symm (nd_ne ND (i := 30) (j := 2) rfl rfl (by decide))), (Ne.symm (nd_ne ND (i := 31) (j := 2) rfl rfl (by decide))), (nd_ne ND (i := 2) (j := 32) rfl rfl (by decide))⟩) e_asked
  have e_5 := a8 firstToken_ _ (by simp only [List.mem_cons, List.not_mem_nil, or_false, not_or]; exact ⟨(Ne.symm (nd_ne ND (i := 0) (j := 18) rfl rfl (by decide))), (Ne.symm (nd_ne ND (i := 30) (j := 18) rfl rfl (by decide))), (Ne.symm (nd_ne ND (i := 31) (j := 18) rfl rfl (by decide))), (nd_ne ND (i := 18) (j := 32) rfl rfl (by decide))⟩) e_firstToken
  have e_6 := a8 starred_ _ (by simp only [List.mem_cons, List.not_mem_nil, or_false, not_or]; exact ⟨(Ne.symm (nd_ne ND (i := 0) (j := 19) rfl rfl (by decide))), (Ne.symm (nd_ne ND (i := 30) (j := 19) rfl rfl (by decide))), (Ne.symm (nd_ne ND (i := 31) (j := 19) rfl rfl (by decide))), (nd_ne ND (i := 19) (j := 32) rfl rfl (by decide))⟩) e_starred
  have e_7 := a8 groupKind_ _ (by simp only [List.mem_cons, List.not_mem_nil, or_false, not_or]; exact ⟨(Ne.symm (nd_ne ND (i := 0) (j := 22) rfl rfl (by decide))), (Ne.symm (nd_ne ND (i := 30) (j := 22) rfl rfl (by decide))), (Ne.symm (nd_ne ND (i := 31) (j := 22) rfl rfl (by decide))), (nd_ne ND (i := 22) (j := 32) rfl rfl (by decide))⟩) e_groupKind
  have e_8 := a8 groupPhrase_ _ (by simp only [List.mem_cons, List.not_mem_nil, or_false, not_or]; exact ⟨(Ne.symm (nd_ne ND (i := 0) (j := 23) rfl rfl (by decide))), (Ne.symm (nd_ne ND (i := 30) (j := 23) rfl rfl (by decide))), (Ne.symm (nd_ne ND (i := 31) (j := 23) rfl rfl (by decide))), (nd_ne ND (i := 23) (j := 32) rfl rfl (by decide))⟩) e_groupPhrase
  have e_9 := a8 groupSize_ _ (by simp only [List.mem_cons, List.not_mem_nil, or_false, not_or]; exact ⟨(Ne.symm (nd_ne ND (i := 0) (j := 24) rfl rfl (by decide))), (Ne.symm (nd_ne ND (i := 30) (j := 24) rfl rfl (by decide))), (Ne.symm (nd_ne ND (i := 31) (j := 24) rfl rfl (by decide))), (nd_ne ND (i := 24) (j := 32) rfl rfl (by decide))⟩) e_groupSize
  have e_10 := a8 groupFar_ _ (by simp only [List.mem_cons, List.not_mem_nil, or_false, not_or]; exact ⟨(Ne.symm (nd_ne ND (i := 0) (j := 26) rfl rfl (by decide))), (Ne.symm (nd_ne ND (i := 30) (j := 26) rfl rfl (by decide))), (Ne.symm (nd_ne ND (i := 31) (j := 26) rfl rfl (by decide))), (nd_ne ND (i := 26) (j := 32) rfl rfl (by decide))⟩) e_groupFar
  have e_11 := a8 groupMask_ _ (by simp only [List.mem_cons, List.not_mem_nil, or_false, not_or]; exact ⟨(Ne.symm (nd_ne ND (i := 0) (j := 25) rfl rfl (by decide))), (Ne.symm (nd_ne ND (i := 30) (j := 25) rfl rfl (by decide))), (Ne.symm (nd_ne ND (i := 31) (j := 25) rfl rfl (by decide))), (nd_ne ND (i := 25) (j := 32) rfl rfl (by decide))⟩) e_groupMask
  have e_12 := a8 sizes_ _ (by simp only [List.mem_cons, List.not_mem_nil, or_false, not_or]; exact ⟨(Ne.symm (nd_ne ND (i := 0) (j := 6) rfl rfl (by decide))), (Ne.symm (nd_ne ND (i := 30) (j := 6) rfl rfl (by decide))), (Ne.symm (nd_ne ND (i := 31) (j := 6) rfl rfl (by decide))), (nd_ne ND (i := 6) (j := 32) rfl rfl (by decide))⟩) e_sizes
  have e_13 := a8 out_ _ (by simp only [List.mem_cons, List.not_mem_nil, or_false, not_or]; exact ⟨(Ne.symm (nd_ne ND (i := 0) (j := 27) rfl rfl (by decide))), (Ne.symm (nd_ne ND (i := 30) (j := 27) rfl rfl (by decide))), (Ne.symm (nd_ne ND (i := 31) (j := 27) rfl rfl (by decide))), (nd_ne ND (i := 27) (j := 32) rfl rfl (by decide))⟩) e_out
  have r_14 := r0.trans (a8.mono (by simp))
  have g_15 : fs9[(37 : Nat)]? = some (.int (nI e9.length)) := (a4 37 (by decide)).trans g_outs
  have g_16 : fs9[(53 : Nat)]? = some (.ref begins_) := (a4 53 (by decide)).trans g_begins
  have g_17 : fs9[(54 : Nat)]? = some (.ref lasts_) := (a4 54 (by decide)).trans g_lasts
  have g_18 : fs9[(43 : Nat)]? = some (.ref tokenAt_) := (a4 43 (by decide)).trans g_tokenAt
  have g_19 : fs9[(44 : Nat)]? = some (.ref tokenSize_) := (a4 44 (by decide)).trans g_tokenSize
  have g_20 : fs9[(7 : Nat)]? = some (.ref texts_) := (a4 7 (by decide)).trans g_texts
  have g_21 : fs9[(4 : Nat)]? = some (.ref asked_) := (a4 4 (by decide)).trans g_asked
  have g_22 : fs9[(41 : Nat)]? = some (.ref firstToken_) := (a4 41 (by decide)).trans g_firstToken
  have g_23 : fs9[(42 : Nat)]? = some (.ref starred_) := (a4 42 (by decide)).trans g_starred
  have g_24 : fs9[(45 : Nat)]? = some (.ref groupKind_) := (a4 45 (by decide)).trans g_groupKind
  have g_25 : fs9[(46 : Nat)]? = some (.ref groupPhrase_) := (a4 46 (by decide)).trans g_groupPhrase
  have g_26 : fs9[(47 : Nat)]? = some (.ref groupSize_) := (a4 47 (by decide)).trans g_groupSize
  have g_27 : fs9[(49 : Nat)]? = some (.ref groupFar_) := (a4 49 (by decide)).trans g_groupFar
  have g_28 : fs9[(48 : Nat)]? = some (.ref groupMask_) := (a4 48 (by decide)).trans g_groupMask
  have g_29 : fs9[(8 : Nat)]? = some (.ref sizes_) := (a4 8 (by decide)).trans g_sizes
  have g_30 : fs9[(50 : Nat)]? = some (.ref out_) := (a4 50 (by decide)).trans g_out
  have g_31 : fs9[(57 : Nat)]? = some (.ref truth_) := (a4 57 (by decide)).trans g_truth
  have ga_32 : ∀ i : Nat, i ∉ [55] → fs9[i]? = fs[i]? := fun i hi => (a4 i (fun z => hi (by simp only [List.mem_cons, List.not_mem_nil, or_false] at z ⊢; omega))).trans (ga0 i hi)
  refine s_Model_finds_151 a1 a2 g_31 a7 (by unfold vp_in; decide) (nb01 (by rw [show c9_ (Int32.toNatClampNeg 0) = b01 tv from ht0]; cases tv; (exact Or.inl rfl); (exact Or.inr rfl))) ?_
  exact ⟨congrArg (fun z => some (Value.int z)) ht0, _, _, _, _, _, a1, a2, a3, ga_32, a5, a6, a7, r_14⟩
