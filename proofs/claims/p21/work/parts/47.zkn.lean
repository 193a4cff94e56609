set_option maxHeartbeats 2000000 in
theorem lp_a1H {G : xw_G} {F L bc bs : Nat} {pr : Option Value → xw_A → Prop} {px : String → xw_A → Prop} {m asked_ draft_ dl : Nat} {gs : List Value} {fd : Nat → Int32} {h0 : xw_A} (l : gs.length = 62) (q_m : h0 m = some (.inr (11, gs))) (g_drafted : gs[(10 : Nat)]? = some (.int (nI dl))) (g_draft : gs[(3 : Nat)]? = some (.ref draft_)) (g_asked : gs[(4 : Nat)]? = some (.ref asked_)) (q_d : h0 draft_ = some (.inl (0, 96, .inl fd))) (q_a : ∃ f, h0 asked_ = some (.inl (0, 96, .inl f))) (nda : draft_ ≠ asked_) (hdl : dl ≤ 96) (kk : ∀ (h : xw_A) (fa : Nat → Int32), h asked_ = some (.inl (0, 96, .inl fa)) → (∀ j, j < dl → fa j = fd j) → FrO [asked_] h0 h → xw G m_Model_ask F L bc bs pr px 33 [some (.ref m), none, none] [] h) :
    ∀ (dd i : Nat) (h : xw_A) (fa : Nat → Int32), i + dd = dl → h asked_ = some (.inl (0, 96, .inl fa)) → (∀ j, j < i → fa j = fd j) → FrO [asked_] h0 h → xw G m_Model_ask F L bc bs pr px 7 [some (.ref m), some (.int (nI i)), none] [] h := by
  intro dd
  induction dd with
  | zero =>
    intro i h fa hi e_asked hfa r0
    obtain rfl : i = dl := by omega
    have e := r0 m _ (by obtain ⟨f, o⟩ := q_a; simp only [List.mem_cons, List.not_mem_nil, or_false, not_or]; exact xw_neC q_m o (by simp)) q_m
    have e_draft := r0 draft_ _ (by simp only [List.mem_cons, List.not_mem_nil, or_false, not_or]; exact nda) q_d
    refine s_Model_ask_7 l e g_drafted (fun z_1 => ?_) (fun z => absurd (nI_le (Nat.le_refl _) (by omega)) z)
    exact kk _ _ e_asked (fun j hj => hfa j (by omega)) r0
  | succ dd ih =>
    intro i h fa hi e_asked hfa r0
    have e := r0 m _ (by obtain ⟨f, o⟩ := q_a; simp only [List.mem_cons, List.not_mem_nil, or_false, not_or]; exact xw_neC q_m o (by simp)) q_m
    have e_draft := r0 draft_ _ (by simp only [List.mem_cons, List.not_mem_nil, or_false, not_or]; exact nda) q_d
    refine s_Model_ask_7 l e g_drafted (fun z => absurd z (nI_ge (b := dl) (show i < dl by omega) (by omega))) (fun z_1 => ?_)
    refine s_Model_ask_15 l e g_asked g_draft e_draft (vp_in_nI (by omega) (by omega)) e_asked (vp_in_nI (by omega) (by omega)) ?_
    refine x_u1 (fun h_2 e_3 f_4 => ?_)
    have e_5 := (f_4 m (xw_neC e e_asked (by simp))).trans e
    have e_6 := (f_4 draft_ nda).trans e_draft
    have r_7 := r0.up (by simp) f_4
    rw [nI_1]
    rw [nI_clamp (show i < 2 ^ 31 by omega)] at e_3
    exact ih (i + 1) _ _ (by omega) e_3 (fun j hj => by by_cases q : j = i; (rw [q, pk_us]); (rw [pk_un q]; exact hfa j (by omega))) r_7
set_option maxHeartbeats 8000000 in
theorem lp_a2H {G : xw_G} {F L bc bs : Nat} {pr : Option Value → xw_A → Prop} {px : String → xw_A → Prop} {m draft_ asked_ prepared_ preparedSize_ texts_ sizes_ weights_ entries_ lies_ live_ row_ level_ oldTexts_ oldSizes_ oldLies_ oldLive_ oldRow_ firstToken_ starred_ tokenAt_ tokenSize_ groupKind_ groupPhrase_ groupSize_ groupMask_ groupFar_ out_ top_ masks_ begins_ lasts_ truth_ answers_ order_ scores_ : Nat} {gs : List Value} {h0 : xw_A} {ca cs ft fa c1 c2 c5 c6 c7 c9 c8 fz co fv fw : Nat → Int32} (ND : NDl [m, draft_, asked_, prepared_, preparedSize_, texts_, sizes_, weights_, entries_, lies_, live_, row_, level_, oldTexts_, oldSizes_, oldLies_, oldLive_, oldRow_, firstToken_, starred_, tokenAt_, tokenSize_, groupKind_, groupPhrase_, groupSize_, groupMask_, groupFar_, out_, top_, masks_, begins_, lasts_, truth_, answers_, order_, scores_]) {ws : List (List Int32)} {t P : Nat} {A N : Nat → Nat} {Bb : Nat → Bool} (hP : P ≤ 12) (PH : PhA ws c1 c2 P A N Bb) (hws : ws.length ≤ 49) (TR : TkR ws t ca cs fa) {gr : List GRt} {e9 : List EV} (GR : GrR gr c5 c6 c7 c8 c9) (OK : ∀ (g : Nat) (y : GRt), gr[g]? = some y → OKg y P) (hg0 : gr.length ≤ P) (OU : OuR e9 co) (OG : OgR e9 gr.length) (ho : e9.length ≤ 60) (hz : SZo fz 48) (LK9 : LkE e9) (PO : PhO c1 P t) (ht : t ≤ 49) (TO : TkO ca cs t 97) (hwe : ∀ c, c < 2 → ∃ n, fw c = nI n ∧ n ≤ 9) (q_outs : gs[(37 : Nat)]? = some (.int (nI e9.length))) (q_phrases : gs[(34 : Nat)]? = some (.int (nI P))) (q_begins : gs[(53 : Nat)]? = some (.ref begins_)) (q_lasts : gs[(54 : Nat)]? = some (.ref lasts_)) (q_tokenAt : gs[(43 : Nat)]? = some (.ref tokenAt_)) (q_tokenSize : gs[(44 : Nat)]? = some (.ref tokenSize_)) (q_texts : gs[(7 : Nat)]? = some (.ref texts_)) (q_asked : gs[(4 : Nat)]? = some (.ref asked_)) (q_firstToken : gs[(41 : Nat)]? = some (.ref firstToken_)) (q_starred : gs[(42 : Nat)]? = some (.ref starred_)) (q_groupKind : gs[(45 : Nat)]? = some (.ref groupKind_)) (q_groupPhrase : gs[(46 : Nat)]? = some (.ref groupPhrase_)) (q_groupSize : gs[(47 : Nat)]? = some (.ref groupSize_)) (q_groupFar : gs[(49 : Nat)]? = some (.ref groupFar_)) (q_groupMask : gs[(48 : Nat)]? = some (.ref groupMask_)) (q_sizes : gs[(8 : Nat)]? = some (.ref sizes_)) (q_out : gs[(50 : Nat)]? = some (.ref out_)) (q_truth : gs[(57 : Nat)]? = some (.ref truth_)) (q_live : gs[(14 : Nat)]? = some (.ref live_)) (q_weights : gs[(9 : Nat)]? = some (.ref weights_)) (q_answers : gs[(58 : Nat)]? = some (.ref answers_)) (q_order : gs[(59 : Nat)]? = some (.ref order_)) (q_scores : gs[(60 : Nat)]? = some (.ref scores_)) (p_tokenAt : h0 tokenAt_ = some (.inl (0, 60, .inl ca))) (p_tokenSize : h0 tokenSize_ = some (.inl (0, 60, .inl cs))) (p_texts : h0 texts_ = some (.inl (0, 2304, .inl ft))) (p_asked : h0 asked_ = some (.inl (0, 96, .inl fa))) (p_firstToken : h0 firstToken_ = some (.inl (0, 13, .inl c1))) (p_starred : h0 starred_ = some (.inl (0, 13, .inl c2))) (p_groupKind : h0 groupKind_ = some (.inl (0, 13, .inl c5))) (p_groupPhrase : h0 groupPhrase_ = some (.inl (0, 13, .inl c6))) (p_groupSize : h0 groupSize_ = some (.inl (0, 13, .inl c7))) (p_groupFar : h0 groupFar_ = some (.inl (0, 13, .inl c9))) (p_groupMask : h0 groupMask_ = some (.inl (0, 13, .inl c8))) (p_sizes : h0 sizes_ = some (.inl (0, 48, .inl fz))) (p_out : h0 out_ = some (.inl (0, 60, .inl co))) (p_live : h0 live_ = some (.inl (0, 24, .inl fv))) (p_weights : h0 weights_ = some (.inl (0, 2, .inl fw))) (hF : 9 ≤ F) (hL : 209 ≤ L) (kk : ∀ (h : xw_A) (fn : Nat) (fan : Nat → Int32) (fo : Nat → Int32) (fsc : Nat → UInt64) (c13 : Nat → Int32) (cl : Int32) (fb : Nat → Int32) (fl : Nat → Int32) (fs : List Value), fs.length = 62 → h m = some (.inr (11, fs)) → fs[(55 : Nat)]? = some (.int cl) → fs[(56 : Nat)]? = some (.int (nI fn)) → (∀ i : Nat, i ∉ [55, 56] → fs[i]? = gs[i]?) → h begins_ = some (.inl (0, 24, .inl fb)) → h lasts_ = some (.inl (0, 24, .inl fl)) → h truth_ = some (.inl (4, 60, .inl c13)) → h answers_ = some (.inl (0, 24, .inl fan)) → h order_ = some (.inl (0, 24, .inl fo)) → h scores_ = some (.inl (3, 24, .inr (.inr (.inr (.inl fsc))))) → fn ≤ 24 → (∀ i, i < fn → ∃ j, fo i = nI j ∧ j < fn) → FnA (RfP ws A N Bb ft fz fv gr e9) 24 fn fan → FrO [m, begins_, lasts_, truth_, answers_, order_, scores_] h0 h → xw G m_Model_ask F L bc bs pr px 225 [some (.ref m), none, none] [] h) :
    ∀ (dd i : Nat) (h : xw_A) (fn : Nat) (fan : Nat → Int32) (fo : Nat → Int32) (fsc : Nat → UInt64) (c13 : Nat → Int32) (cl : Int32) (fb : Nat → Int32) (fl : Nat → Int32) (fs : List Value), i + dd = 24 → fs.length = 62 → h m = some (.inr (11, fs)) → fs[(55 : Nat)]? = some (.int cl) → fs[(56 : Nat)]? = some (.int (nI fn)) → (∀ i : Nat, i ∉ [55, 56] → fs[i]? = gs[i]?) → h begins_ = some (.inl (0, 24, .inl fb)) → h lasts_ = some (.inl (0, 24, .inl fl)) → h truth_ = some (.inl (4, 60, .inl c13)) → h answers_ = some (.inl (0, 24, .inl fan)) → h order_ = some (.inl (0, 24, .inl fo)) → h scores_ = some (.inl (3, 24, .inr (.inr (.inr (.inl fsc))))) → fn ≤ i → (∀ i, i < fn → ∃ j, fo i = nI j ∧ j < fn) → FnA (RfP ws A N Bb ft fz fv gr e9) i fn fan → FrO [m, begins_, lasts_, truth_, answers_, order_, scores_] h0 h → xw G m_Model_ask F L bc bs pr px 95 [some (.ref m), some (.int (nI i)), none] [] h := by
  intro dd
  induction dd with
  | zero =>
    intro i h fn fan fo fsc c13 cl fb fl fs hi l e g_column g_found ga0 e_begins e_lasts e_truth e_answers e_order e_scores hfn hord hFN r0
    obtain rfl : i = 24 := by omega
    have g_outs := (ga0 37 (by decide)).trans q_outs
    have g_phrases := (ga0 34 (by decide)).trans q_phrases
    have g_begins := (ga0 53 (by decide)).trans q_begins
    have g_lasts := (ga0 54 (by decide)).trans q_lasts
    have g_tokenAt := (ga0 43 (by decide)).trans q_tokenAt
    have g_tokenSize := (ga0 44 (by decide)).trans q_tokenSize
    have g_texts := (ga0 7 (by decide)).trans q_texts
    have g_asked := (ga0 4 (by decide)).trans q_asked
    have g_firstToken := (ga0 41 (by decide)).trans q_firstToken
    have g_starred := (ga0 42 (by decide)).trans q_starred
    have g_groupKind := (ga0 45 (by decide)).trans q_groupKind
    have g_groupPhrase := (ga0 46 (by decide)).trans q_groupPhrase
    have g_groupSize := (ga0 47 (by decide)).trans q_groupSize
    have g_groupFar := (ga0 49 (by decide)).trans q_groupFar
    have g_groupMask := (ga0 48 (by decide)).trans q_groupMask
    have g_sizes := (ga0 8 (by decide)).trans q_sizes
    have g_out := (ga0 50 (by decide)).trans q_out
    have g_truth := (ga0 57 (by decide)).trans q_truth
    have g_live := (ga0 14 (by decide)).trans q_live
    have g_weights := (ga0 9 (by decide)).trans q_weights
    have g_answers := (ga0 58 (by decide)).trans q_answers
    have g_order := (ga0 59 (by decide)).trans q_order
    have g_scores := (ga0 60 (by decide)).trans q_scores
    have e_tokenAt := r0 tokenAt_ _ (by simp only [List.mem_cons, List.not_mem_nil, or_false, not_or]; exact ⟨(nd_ne ND (i := 20) (j := 0) rfl rfl (by decide)), (nd_ne ND (i := 20) (j := 30) rfl rfl (by decide)), (nd_ne ND (i := 20) (j := 31) rfl rfl (by decide)), (nd_ne ND (i := 20) (j := 32) rfl rfl (by decide)), (nd_ne ND (i := 20) (j := 33) rfl rfl (by decide)), (nd_ne ND (i := 20) (j := 34) rfl rfl (by decide)), (nd_ne ND (i := 20) (j := 35) rfl rfl (by decide))⟩) p_tokenAt
    have e_tokenSize := r0 tokenSize_ _ (by simp only [List.mem_cons, List.not_mem_nil, or_false, not_or]; exact ⟨(nd_ne ND (i := 21) (j := 0) rfl rfl (by decide)), (nd_ne ND (i := 21) (j := 30) rfl rfl (by decide)), (nd_ne ND (i := 21) (j := 31) rfl rfl (by decide)), (nd_ne ND (i := 21) (j := 32) rfl rfl (by decide)), (nd_ne ND (i := 21) (j := 33) rfl rfl (by decide)), (nd_ne ND (i := 21) (j := 34) rfl rfl (by decide)), (nd_ne ND (i := 21) (j := 35) rfl rfl (by decide))⟩) p_tokenSize
    have e_texts := r0 texts_ _ (by simp only [List.mem_cons, List.not_mem_nil, or_false, not_or]; exact ⟨(nd_ne ND (i := 5) (j := 0) rfl rfl (by decide)), (nd_ne ND (i := 5) (j := 30) rfl rfl (by decide)), (nd_ne ND (i := 5) (j := 31) rfl rfl (by decide)), (nd_ne ND (i := 5) (j := 32) rfl rfl (by decide)), (nd_ne ND (i := 5) (j := 33) rfl rfl (by decide)), (nd_ne ND (i := 5) (j := 34) rfl rfl (by decide)), (nd_ne ND (i := 5) (j := 35) rfl rfl (by decide))⟩) p_texts
    have e_asked := r0 asked_ _ (by simp only [List.mem_cons, List.not_mem_nil, or_false, not_or]; exact ⟨(nd_ne ND (i := 2) (j := 0) rfl rfl (by decide)), (nd_ne ND (i := 2) (j := 30) rfl rfl (by decide)), (nd_ne ND (i := 2) (j := 31) rfl rfl (by decide)), (nd_ne ND (i := 2) (j := 32) rfl rfl (by decide)), (nd_ne ND (i := 2) (j := 33) rfl rfl (by decide)), (nd_ne ND (i := 2) (j := 34) rfl rfl (by decide)), (nd_ne ND (i := 2) (j := 35) rfl rfl (by decide))⟩) p_asked
    have e_firstToken := r0 firstToken_ _ (by simp only [List.mem_cons, List.not_mem_nil, or_false, not_or]; exact ⟨(nd_ne ND (i := 18) (j := 0) rfl rfl (by decide)), (nd_ne ND (i := 18) (j := 30) rfl rfl (by decide)), (nd_ne ND (i := 18) (j := 31) rfl rfl (by decide)), (nd_ne ND (i := 18) (j := 32) rfl rfl (by decide)), (nd_ne ND (i := 18) (j := 33) rfl rfl (by decide)), (nd_ne ND (i := 18) (j := 34) rfl rfl (by decide)), (nd_ne ND (i := 18) (j := 35) rfl rfl (by decide))⟩) p_firstToken
    have e_starred := r0 starred_ _ (by simp only [List.mem_cons, List.not_mem_nil, or_false, not_or]; exact ⟨(nd_ne ND (i := 19) (j := 0) rfl rfl (by decide)), (nd_ne ND (i := 19) (j := 30) rfl rfl (by decide)), (nd_ne ND (i := 19) (j := 31) rfl rfl (by decide)), (nd_ne ND (i := 19) (j := 32) rfl rfl (by decide)), (nd_ne ND (i := 19) (j := 33) rfl rfl (by decide)), (nd_ne ND (i := 19) (j := 34) rfl rfl (by decide)), (nd_ne ND (i := 19) (j := 35) rfl rfl (by decide))⟩) p_starred
    have e_groupKind := r0 groupKind_ _ (by simp only [List.mem_cons, List.not_mem_nil, or_false, not_or]; exact ⟨(nd_ne ND (i := 22) (j := 0) rfl rfl (by decide)), (nd_ne ND (i := 22) (j := 30) rfl rfl (by decide)), (nd_ne ND (i := 22) (j := 31) rfl rfl (by decide)), (nd_ne ND (i := 22) (j := 32) rfl rfl (by decide)), (nd_ne ND (i := 22) (j := 33) rfl rfl (by decide)), (nd_ne ND (i := 22) (j := 34) rfl rfl (by decide)), (nd_ne ND (i := 22) (j := 35) rfl rfl (by decide))⟩) p_groupKind
    have e_groupPhrase := r0 groupPhrase_ _ (by simp only [List.mem_cons, List.not_mem_nil, or_false, not_or]; exact ⟨(nd_ne ND (i := 23) (j := 0) rfl rfl (by decide)), (nd_ne ND (i := 23) (j := 30) rfl rfl (by decide)), (nd_ne ND (i := 23) (j := 31) rfl rfl (by decide)), (nd_ne ND (i := 23) (j := 32) rfl rfl (by decide)), (nd_ne ND (i := 23) (j := 33) rfl rfl (by decide)), (nd_ne ND (i := 23) (j := 34) rfl rfl (by decide)), (nd_ne ND (i := 23) (j := 35) rfl rfl (by decide))⟩) p_groupPhrase
    have e_groupSize := r0 groupSize_ _ (by simp only [List.mem_cons, List.not_mem_nil, or_false, not_or]; exact ⟨(nd_ne ND (i := 24) (j := 0) rfl rfl (by decide)), (nd_ne ND (i := 24) (j := 30) rfl rfl (by decide)), (nd_ne ND (i := 24) (j := 31) rfl rfl (by decide)), (nd_ne ND (i := 24) (j := 32) rfl rfl (by decide)), (nd_ne ND (i := 24) (j := 33) rfl rfl (by decide)), (nd_ne ND (i := 24) (j := 34) rfl rfl (by decide)), (nd_ne ND (i := 24) (j := 35) rfl rfl (by decide))⟩) p_groupSize
    have e_groupFar := r0 groupFar_ _ (by simp only [List.mem_cons, List.not_mem_nil, or_false, not_or]; exact ⟨(nd_ne ND (i := 26) (j := 0) rfl rfl (by decide)), (nd_ne ND (i := 26) (j := 30) rfl rfl (by decide)), (nd_ne ND (i := 26) (j := 31) rfl rfl (by decide)), (nd_ne ND (i := 26) (j := 32) rfl rfl (by decide)), (nd_ne ND (i := 26) (j := 33) rfl rfl (by decide)), (nd_ne ND (i := 26) (j := 34) rfl rfl (by decide)), (nd_ne ND (i := 26) (j := 35) rfl rfl (by decide))⟩) p_groupFar
    have e_groupMask := r0 groupMask_ _ (by simp only [List.mem_cons, List.not_mem_nil, or_false, not_or]; exact ⟨(nd_ne ND (i := 25) (j := 0) rfl rfl (by decide)), (nd_ne ND (i := 25) (j := 30) rfl rfl (by decide)), (nd_ne ND (i := 25) (j := 31) rfl rfl (by decide)), (nd_ne ND (i := 25) (j := 32) rfl rfl (by decide)), (nd_ne ND (i := 25) (j := 33) rfl rfl (by decide)), (nd_ne ND (i := 25) (j := 34) rfl rfl (by decide)), (nd_ne ND (i := 25) (j := 35) rfl rfl (by decide))⟩) p_groupMask
    have e_sizes := r0 sizes_ _ (by simp only [List.mem_cons, List.not_mem_nil, or_false, not_or]; exact ⟨(nd_ne ND (i := 6) (j := 0) rfl rfl (by decide)), (nd_ne ND (i := 6) (j := 30) rfl rfl (by decide)), (nd_ne ND (i := 6) (j := 31) rfl rfl (by decide)), (nd_ne ND (i := 6) (j := 32) rfl rfl (by decide)), (nd_ne ND (i := 6) (j := 33) rfl rfl (by decide)), (nd_ne ND (i := 6) (j := 34) rfl rfl (by decide)), (nd_ne ND (i := 6) (j := 35) rfl rfl (by decide))⟩) p_sizes
    have e_out := r0 out_ _ (by simp only [List.mem_cons, List.not_mem_nil, or_false, not_or]; exact ⟨(nd_ne ND (i := 27) (j := 0) rfl rfl (by decide)), (nd_ne ND (i := 27) (j := 30) rfl rfl (by decide)), (nd_ne ND (i := 27) (j := 31) rfl rfl (by decide)), (nd_ne ND (i := 27) (j := 32) rfl rfl (by decide)), (nd_ne ND (i := 27) (j := 33) rfl rfl (by decide)), (nd_ne ND (i := 27) (j := 34) rfl rfl (by decide)), (nd_ne ND (i := 27) (j := 35) rfl rfl (by decide))⟩) p_out
    have e_live := r0 live_ _ (by simp only [List.mem_cons, List.not_mem_nil, or_false, not_or]; exact ⟨(nd_ne ND (i := 10) (j := 0) rfl rfl (by decide)), (nd_ne ND (i := 10) (j := 30) rfl rfl (by decide)), (nd_ne ND (i := 10) (j := 31) rfl rfl (by decide)), (nd_ne ND (i := 10) (j := 32) rfl rfl (by decide)), (nd_ne ND (i := 10) (j := 33) rfl rfl (by decide)), (nd_ne ND (i := 10) (j := 34) rfl rfl (by decide)), (nd_ne ND (i := 10) (j := 35) rfl rfl (by decide))⟩) p_live
    have e_weights := r0 weights_ _ (by simp only [List.mem_cons, List.not_mem_nil, or_false, not_or]; exact ⟨(nd_ne ND (i := 7) (j := 0) rfl rfl (by decide)), (nd_ne ND (i := 7) (j := 30) rfl rfl (by decide)), (nd_ne ND (i := 7) (j := 31) rfl rfl (by decide)), (nd_ne ND (i := 7) (j := 32) rfl rfl (by decide)), (nd_ne ND (i := 7) (j := 33) rfl rfl (by decide)), (nd_ne ND (i := 7) (j := 34) rfl rfl (by decide)), (nd_ne ND (i := 7) (j := 35) rfl rfl (by decide))⟩) p_weights
    refine s_Model_ask_95 (fun z_1 => ?_) (fun z => absurd z (by decide))
    exact kk _ _ _ _ _ _ _ _ _ _ l e g_column g_found ga0 e_begins e_lasts e_truth e_answers e_order e_scores hfn hord hFN r0
  | succ dd ih =>
    intro i h fn fan fo fsc c13 cl fb fl fs hi l e g_column g_found ga0 e_begins e_lasts e_truth e_answers e_order e_scores hfn hord hFN r0
    have g_outs := (ga0 37 (by decide)).trans q_outs
    have g_phrases := (ga0 34 (by decide)).trans q_phrases
    have g_begins := (ga0 53 (by decide)).trans q_begins
    have g_lasts := (ga0 54 (by decide)).trans q_lasts
    have g_tokenAt := (ga0 43 (by decide)).trans q_tokenAt
    have g_tokenSize := (ga0 44 (by decide)).trans q_tokenSize
    have g_texts := (ga0 7 (by decide)).trans q_texts
    have g_asked := (ga0 4 (by decide)).trans q_asked
    have g_firstToken := (ga0 41 (by decide)).trans q_firstToken
    have g_starred := (ga0 42 (by decide)).trans q_starred
    have g_groupKind := (ga0 45 (by decide)).trans q_groupKind
    have g_groupPhrase := (ga0 46 (by decide)).trans q_groupPhrase
    have g_groupSize := (ga0 47 (by decide)).trans q_groupSize
    have g_groupFar := (ga0 49 (by decide)).trans q_groupFar
    have g_groupMask := (ga0 48 (by decide)).trans q_groupMask
    have g_sizes := (ga0 8 (by decide)).trans q_sizes
    have g_out := (ga0 50 (by decide)).trans q_out
    have g_truth := (ga0 57 (by decide)).trans q_truth
    have g_live := (ga0 14 (by decide)).trans q_live
    have g_weights := (ga0 9 (by decide)).trans q_weights
    have g_answers := (ga0 58 (by decide)).trans q_answers
    have g_order := (ga0 59 (by decide)).trans q_order
    have g_scores := (ga0 60 (by decide)).trans q_scores
    have e_tokenAt := r0 tokenAt_ _ (by simp only [List.mem_cons, List.not_mem_nil, or_false, not_or]; exact ⟨(nd_ne ND (i := 20) (j := 0) rfl rfl (by decide)), (nd_ne ND (i := 20) (j := 30) rfl rfl (by decide)), (nd_ne ND (i := 20) (j := 31) rfl rfl (by decide)), (nd_ne ND (i := 20) (j := 32) rfl rfl (by decide)), (nd_ne ND (i := 20) (j := 33) rfl rfl (by decide)), (nd_ne ND (i := 20) (j := 34) rfl rfl (by decide)), (nd_ne ND (i := 20) (j := 35) rfl rfl (by decide))⟩) p_tokenAt
    have e_tokenSize := r0 tokenSize_ _ (by simp only [List.mem_cons, List.not_mem_nil, or_false, not_or]; exact ⟨(nd_ne ND (i := 21) (j := 0) rfl rfl (by decide)), (nd_ne ND (i := 21) (j := 30) rfl rfl (by decide)), (nd_ne ND (i := 21) (j := 31) rfl rfl (by decide)), (nd_ne ND (i := 21) (j := 32) rfl rfl (by decide)), (nd_ne ND (i := 21) (j := 33) rfl rfl (by decide)), (nd_ne ND (i := 21) (j := 34) rfl rfl (by decide)), (nd_ne ND (i := 21) (j := 35) rfl rfl (by decide))⟩) p_tokenSize
    have e_texts := r0 texts_ _ (by simp only [List.mem_cons, List.not_mem_nil, or_false, not_or]; exact ⟨(nd_ne ND (i := 5) (j := 0) rfl rfl (by decide)), (nd_ne ND (i := 5) (j := 30) rfl rfl (by decide)), (nd_ne ND (i := 5) (j := 31) rfl rfl (by decide)), (nd_ne ND (i := 5) (j := 32) rfl rfl (by decide)), (nd_ne ND (i := 5) (j := 33) rfl rfl (by decide)), (nd_ne ND (i := 5) (j := 34) rfl rfl (by decide)), (nd_ne ND (i := 5) (j := 35) rfl rfl (by decide))⟩) p_texts
    have e_asked := r0 asked_ _ (by simp only [List.mem_cons, List.not_mem_nil, or_false, not_or]; exact ⟨(nd_ne ND (i := 2) (j := 0) rfl rfl (by decide)), (nd_ne ND (i := 2) (j := 30) rfl rfl (by decide)), (nd_ne ND (i := 2) (j := 31) rfl rfl (by decide)), (nd_ne ND (i := 2) (j := 32) rfl rfl (by decide)), (nd_ne ND (i := 2) (j := 33) rfl rfl (by decide)), (nd_ne ND (i := 2) (j := 34) rfl rfl (by decide)), (nd_ne ND (i := 2) (j := 35) rfl rfl (by decide))⟩) p_asked
    have e_firstToken := r0 firstToken_ _ (by simp only [List.mem_cons, List.not_mem_nil, or_false, not_or]; exact ⟨(nd_ne ND (i := 18) (j := 0) rfl rfl (by decide)), (nd_ne ND (i := 18) (j := 30) rfl rfl (by decide)), (nd_ne ND (i := 18) (j := 31) rfl rfl (by decide)), (nd_ne ND (i := 18) (j := 32) rfl rfl (by decide)), (nd_ne ND (i := 18) (j := 33) rfl rfl (by decide)), (nd_ne ND (i := 18) (j := 34) rfl rfl (by decide)), (nd_ne ND (i := 18) (j := 35) rfl rfl (by decide))⟩) p_firstToken
    have e_starred := r0 starred_ _ (by simp only [List.mem_cons, List.not_mem_nil, or_false, not_or]; exact ⟨(nd_ne ND (i := 19) (j := 0) rfl rfl (by decide)), (nd_ne ND (i := 19) (j := 30) rfl rfl (by decide)), (nd_ne ND (i := 19) (j := 31) rfl rfl (by decide)), (nd_ne ND (i := 19) (j := 32) rfl rfl (by decide)), (nd_ne ND (i := 19) (j := 33) rfl rfl (by decide)), (nd_ne ND (i := 19) (j := 34) rfl rfl (by decide)), (nd_ne ND (i := 19) (j := 35) rfl rfl (by decide))⟩) p_starred
    have e_groupKind := r0 groupKind_ _ (by simp only [List.mem_cons, List.not_mem_nil, or_false, not_or]; exact ⟨(nd_ne ND (i := 22) (j := 0) rfl rfl (by decide)), (nd_ne ND (i := 22) (j := 30) rfl rfl (by decide)), (nd_ne ND (i := 22) (j := 31) rfl rfl (by decide)), (nd_ne ND (i := 22) (j := 32) rfl rfl (by decide)), (nd_ne ND (i := 22) (j := 33) rfl rfl (by decide)), (nd_ne ND (i := 22) (j := 34) rfl rfl (by decide)), (nd_ne ND (i := 22) (j := 35) rfl rfl (by decide))⟩) p_groupKind
    have e_groupPhrase := r0 groupPhrase_ _ (by simp only [List.mem_cons, List.not_mem_nil, or_false, not_or]; exact ⟨(nd_ne ND (i := 23) (j := 0) rfl rfl (by decide)), (nd_ne ND (i := 23) (j := 30) rfl rfl (by decide)), (nd_ne ND (i := 23) (j := 31) rfl rfl (by decide)), (nd_ne ND (i := 23) (j := 32) rfl rfl (by decide)), (nd_ne ND (i := 23) (j := 33) rfl rfl (by decide)), (nd_ne ND (i := 23) (j := 34) rfl rfl (by decide)), (nd_ne ND (i := 23) (j := 35) rfl rfl (by decide))⟩) p_groupPhrase
    have e_groupSize := r0 groupSize_ _ (by simp only [List.mem_cons, List.not_mem_nil, or_false, not_or]; exact ⟨(nd_ne ND (i := 24) (j := 0) rfl rfl (by decide)), (nd_ne ND (i := 24) (j := 30) rfl rfl (by decide)), (nd_ne ND (i := 24) (j := 31) rfl rfl (by decide)), (nd_ne ND (i := 24) (j := 32) rfl rfl (by decide)), (nd_ne ND (i := 24) (j := 33) rfl rfl (by decide)), (nd_ne ND (i := 24) (j := 34) rfl rfl (by decide)), (nd_ne ND (i := 24) (j := 35) rfl rfl (by decide))⟩) p_groupSize
    have e_groupFar := r0 groupFar_ _ (by simp only [List.mem_cons, List.not_mem_nil, or_false, not_or]; exact ⟨(nd_ne ND (i := 26) (j := 0) rfl rfl (by decide)), (nd_ne ND (i := 26) (j := 30) rfl rfl (by decide)), (nd_ne ND (i := 26) (j := 31) rfl rfl (by decide)), (nd_ne ND (i := 26) (j := 32) rfl rfl (by decide)), (nd_ne ND (i := 26) (j := 33) rfl rfl (by decide)), (nd_ne ND (i := 26) (j := 34) rfl rfl (by decide)), (nd_ne ND (i := 26) (j := 35) rfl rfl (by decide))⟩) p_groupFar
    have e_groupMask := r0 groupMask_ _ (by simp only [List.mem_cons, List.not_mem_nil, or_false, not_or]; exact ⟨(nd_ne ND (i := 25) (j := 0) rfl rfl (by decide)), (nd_ne ND (i := 25) (j := 30) rfl rfl (by decide)), (nd_ne ND (i := 25) (j := 31) rfl rfl (by decide)), (nd_ne ND (i := 25) (j := 32) rfl rfl (by decide)), (nd_ne ND (i := 25) (j := 33) rfl rfl (by decide)), (nd_ne ND (i := 25) (j := 34) rfl rfl (by decide)), (nd_ne ND (i := 25) (j := 35) rfl rfl (by decide))⟩) p_groupMask
    have e_sizes := r0 sizes_ _ (by simp only [List.mem_cons, List.not_mem_nil, or_false, not_or]; exact ⟨(nd_ne ND (i := 6) (j := 0) rfl rfl (by decide)), (nd_ne ND (i := 6) (j := 30) rfl rfl (by decide)), (nd_ne ND (i := 6) (j := 31) rfl rfl (by decide)), (nd_ne ND (i := 6) (j := 32) rfl rfl (by decide)), (nd_ne ND (i := 6) (j := 33) rfl rfl (by decide)), (nd_ne ND (i := 6) (j := 34) rfl rfl (by decide)), (nd_ne ND (i := 6) (j := 35) rfl rfl (by decide))⟩) p_sizes
    have e_out := r0 out_ _ (by simp only [List.mem_cons, List.not_mem_nil, or_false, not_or]; exact ⟨(nd_ne ND (i := 27) (j := 0) rfl rfl (by decide)), (nd_ne ND (i := 27) (j := 30) rfl rfl (by decide)), (nd_ne ND (i := 27) (j := 31) rfl rfl (by decide)), (nd_ne ND (i := 27) (j := 32) rfl rfl (by decide)), (nd_ne ND (i := 27) (j := 33) rfl rfl (by decide)), (nd_ne ND (i := 27) (j := 34) rfl rfl (by decide)), (nd_ne ND (i := 27) (j := 35) rfl rfl (by decide))⟩) p_out
    have e_live := r0 live_ _ (by simp only [List.mem_cons, List.not_mem_nil, or_false, not_or]; exact ⟨(nd_ne ND (i := 10) (j := 0) rfl rfl (by decide)), (nd_ne ND (i := 10) (j := 30) rfl rfl (by decide)), (nd_ne ND (i := 10) (j := 31) rfl rfl (by decide)), (nd_ne ND (i := 10) (j := 32) rfl rfl (by decide)), (nd_ne ND (i := 10) (j := 33) rfl rfl (by decide)), (nd_ne ND (i := 10) (j := 34) rfl rfl (by decide)), (nd_ne ND (i := 10) (j := 35) rfl rfl (by decide))⟩) p_live
    have e_weights := r0 weights_ _ (by simp only [List.mem_cons, List.not_mem_nil, or_false, not_or]; exact ⟨(nd_ne ND (i := 7) (j := 0) rfl rfl (by decide)), (nd_ne ND (i := 7) (j := 30) rfl rfl (by decide)), (nd_ne ND (i := 7) (j := 31) rfl rfl (by decide)), (nd_ne ND (i := 7) (j := 32) rfl rfl (by decide)), (nd_ne ND (i := 7) (j := 33) rfl rfl (by decide)), (nd_ne ND (i := 7) (j := 34) rfl rfl (by decide)), (nd_ne ND (i := 7) (j := 35) rfl rfl (by decide))⟩) p_weights
    refine s_Model_ask_95 (fun z => absurd z (nI_ge (b := 24) (show i < 24 by omega) (by decide))) (fun z_1 => ?_)
    refine s_Model_ask_101 l e g_live e_live (vp_in_nI (by omega) (by omega)) (fun z_2 => ?_) (fun z_3 => ?_)
    · skip
      refine s_Model_ask_219 ?_
      rw [nI_1]
      exact ih (i + 1) _ fn _ _ _ _ _ _ _ _ (by omega) l e g_column g_found ga0 e_begins e_lasts e_truth e_answers e_order e_scores (by omega) hord (hFN.no (fun q => absurd (show fv i < 0 from by have q9 := z_2; rw [nI_clamp (show i < 2 ^ 31 by omega)] at q9; exact q9) q.1)) r0
    · skip
      refine s_Model_ask_110 ?_
      have hlv : ¬ fv i < 0 := by have q9 := z_3; rw [nI_clamp (show i < 2 ^ 31 by omega)] at q9; exact q9
      refine x_callV (As := [.int (nI i)]) (b := m) (rest := []) (F1 := 8) (L1 := 184) (mc := 0) (ms := 0) d_Model_ask_112 cV_Model_363 (f_findsH (tv := (rfB ws A N Bb ft fz gr e9 i)) hP PH hws TR GR OK hg0 OU OG ho (show i < 24 by omega) hz l e g_outs g_column g_begins e_begins g_lasts e_lasts g_tokenAt e_tokenAt g_tokenSize e_tokenSize g_texts e_texts g_asked e_asked g_firstToken e_firstToken g_starred e_starred g_groupKind e_groupKind g_groupPhrase e_groupPhrase g_groupSize e_groupSize g_groupFar e_groupFar g_groupMask e_groupMask g_sizes e_sizes g_out e_out g_truth e_truth ND (rf_ev LK9 i) (rf_dp LK9) (by omega) (by omega)) e ⟨by decide, rfl⟩ ⟨by omega, by show 8 + (6 + 11) + 184 ≤ _; omega⟩ ⟨by omega, by omega⟩ (Nat.le_of_ble_eq_true rfl) (fun v_18 h_17 p_19 => ?_)
      obtain ⟨rfl, c13_4, cl_5, fb_6, fl_7, fs_8, l_9, e_10, g_11, ga_12, eb_13, el_14, et_15, r_16⟩ := p_19
      have e_20 := r_16 tokenAt_ _ (by simp only [List.mem_cons, List.not_mem_nil, or_false, not_or]; exact ⟨(Ne.symm (nd_ne ND (i := 0) (j := 20) rfl rfl (by decide))), (Ne.symm (nd_ne ND (i := 30) (j := 20) rfl rfl (by decide))), (Ne.symm (nd_ne ND (i := 31) (j := 20) rfl rfl (by decide))), (nd_ne ND (i := 20) (j := 32) rfl rfl (by decide))⟩) e_tokenAt
      have e_21 := r_16 tokenSize_ _ (by simp only [List.mem_cons, List.not_mem_nil, or_false, not_or]; exact ⟨(Ne.symm (nd_ne ND (i := 0) (j := 21) rfl rfl (by decide))), (Ne.symm (nd_ne ND (i := 30) (j := 21) rfl rfl (by decide))), (Ne.symm (nd_ne ND (i := 31) (j := 21) rfl rfl (by decide))), (nd_ne ND (i := 21) (j := 32) rfl rfl (by decide))⟩) e_tokenSize
      have e_22 := r_16 texts_ _ (by simp only [List.mem_cons, List.not_mem_nil, or_false, not_or]; exact ⟨(Ne.symm (nd_ne ND (i := 0) (j := 5) rfl rfl (by decide))), (Ne.symm (nd_ne ND (i := 30) (j := 5) rfl rfl (by decide))), (Ne.symm (nd_ne ND (i := 31) (j := 5) rfl rfl (by decide))), (nd_ne ND (i := 5) (j := 32) rfl rfl (by decide))⟩) e_texts
      have e_23 := r_16 asked_ _ (by simp only [List.mem_cons, List.not_mem_nil, or_false, not_or]; exact ⟨(Ne.symm (nd_ne ND (i := 0) (j := 2) rfl rfl (by decide))), (Ne.symm (nd_ne ND (i := 30) (j := 2) rfl rfl (by decide))), (Ne.symm (nd_ne ND (i := 31) (j := 2) rfl rfl (by decide))), (nd_ne ND (i := 2) (j := 32) rfl rfl (by decide))⟩) e_asked
      have e_24 := r_16 firstToken_ _ (by simp only [List.mem_cons, List.not_mem_nil, or_false, not_or]; exact ⟨(Ne.symm (nd_ne ND (i := 0) (j := 18) rfl rfl (by decide))), (Ne.symm (nd_ne ND (i := 30) (j := 18) rfl rfl (by decide))), (Ne.symm (nd_ne ND (i := 31) (j := 18) rfl rfl (by decide))), (nd_ne ND (i := 18) (j := 32) rfl rfl (by decide))⟩) e_firstToken
      have e_25 := r_16 starred_ _ (by simp only [List.mem_cons, List.not_mem_nil, or_false, not_or]; exact ⟨(Ne.symm (nd_ne ND (i := 0) (j := 19) rfl rfl (by decide))), (Ne.symm (nd_ne ND (i := 30) (j := 19) rfl rfl (by decide))), (Ne.symm (nd_ne ND (i := 31) (j := 19) rfl rfl (by decide))), (nd_ne ND (i := 19) (j := 32) rfl rfl (by decide))⟩) e_starred
      have e_26 := r_16 groupKind_ _ (by simp only [List.mem_cons, List.not_mem_nil, or_false, not_or]; exact ⟨(Ne.symm (nd_ne ND (i := 0) (j := 22) rfl rfl (by decide))), (Ne.symm (nd_ne ND (i := 30) (j := 22) rfl rfl (by decide))), (Ne.symm (nd_ne ND (i := 31) (j := 22) rfl rfl (by decide))), (nd_ne ND (i := 22) (j := 32) rfl rfl (by decide))⟩) e_groupKind
      have e_27 := r_16 groupPhrase_ _ (by simp only [List.mem_cons, List.not_mem_nil, or_false, not_or]; exact ⟨(Ne.symm (nd_ne ND (i := 0) (j := 23) rfl rfl (by decide))), (Ne.symm (nd_ne ND (i := 30) (j := 23) rfl rfl (by decide))), (Ne.symm (nd_ne ND (i := 31) (j := 23) rfl rfl (by decide))), (nd_ne ND (i := 23) (j := 32) rfl rfl (by decide))⟩) e_groupPhrase
      have e_28 := r_16 groupSize_ _ (by simp only [List.mem_cons, List.not_mem_nil, or_false, not_or]; exact ⟨(Ne.symm (nd_ne ND (i := 0) (j := 24) rfl rfl (by decide))), (Ne.symm (nd_ne ND (i := 30) (j := 24) rfl rfl (by decide))), (Ne.symm (nd_ne ND (i := 31) (j := 24) rfl rfl (by decide))), (nd_ne ND (i := 24) (j := 32) rfl rfl (by decide))⟩) e_groupSize
      have e_29 := r_16 groupFar_ _ (by simp only [List.mem_cons, List.not_mem_nil, or_false, not_or]; exact ⟨(Ne.symm (nd_ne ND (i := 0) (j := 26) rfl rfl (by decide))), (Ne.symm (nd_ne ND (i := 30) (j := 26) rfl rfl (by decide))), (Ne.symm (nd_ne ND (i := 31) (j := 26) rfl rfl (by decide))), (nd_ne ND (i := 26) (j := 32) rfl rfl (by decide))⟩) e_groupFar
      have e_30 := r_16 groupMask_ _ (by simp only [List.mem_cons, List.not_mem_nil, or_false, not_or]; exact ⟨(Ne.symm (nd_ne ND (i := 0) (j := 25) rfl rfl (by decide))), (Ne.symm (nd_ne ND (i := 30) (j := 25) rfl rfl (by decide))), (Ne.symm (nd_ne ND (i := 31) (j := 25) rfl rfl (by decide))), (nd_ne ND (i := 25) (j := 32) rfl rfl (by decide))⟩) e_groupMask
      have e_31 := r_16 sizes_ _ (by simp only [List.mem_cons, List.not_mem_nil, or_false, not_or]; exact ⟨(Ne.symm (nd_ne ND (i := 0) (j := 6) rfl rfl (by decide))), (Ne.symm (nd_ne ND (i := 30) (j := 6) rfl rfl (by decide))), (Ne.symm (nd_ne ND (i := 31) (j := 6) rfl rfl (by decide))), (nd_ne ND (i := 6) (j := 32) rfl rfl (by decide))⟩) e_sizes
      have e_32 := r_16 out_ _ (by simp only [List.mem_cons, List.not_mem_nil, or_false, not_or]; exact ⟨(Ne.symm (nd_ne ND (i := 0) (j := 27) rfl rfl (by decide))), (Ne.symm (nd_ne ND (i := 30) (j := 27) rfl rfl (by decide))), (Ne.symm (nd_ne ND (i := 31) (j := 27) rfl rfl (by decide))), (nd_ne ND (i := 27) (j := 32) rfl rfl (by decide))⟩) e_out
      have e_33 := r_16 live_ _ (by simp only [List.mem_cons, List.not_mem_nil, or_false, not_or]; exact ⟨(Ne.symm (nd_ne ND (i := 0) (j := 10) rfl rfl (by decide))), (Ne.symm (nd_ne ND (i := 30) (j := 10) rfl rfl (by decide))), (Ne.symm (nd_ne ND (i := 31) (j := 10) rfl rfl (by decide))), (Ne.symm (nd_ne ND (i := 32) (j := 10) rfl rfl (by decide)))⟩) e_live
      have e_34 := r_16 weights_ _ (by simp only [List.mem_cons, List.not_mem_nil, or_false, not_or]; exact ⟨(Ne.symm (nd_ne ND (i := 0) (j := 7) rfl rfl (by decide))), (Ne.symm (nd_ne ND (i := 30) (j := 7) rfl rfl (by decide))), (Ne.symm (nd_ne ND (i := 31) (j := 7) rfl rfl (by decide))), (Ne.symm (nd_ne ND (i := 32) (j := 7) rfl rfl (by decide)))⟩) e_weights
      have e_35 := r_16 answers_ _ (by simp only [List.mem_cons, List.not_mem_nil, or_false, not_or]; exact ⟨(Ne.symm (nd_ne ND (i := 0) (j := 33) rfl rfl (by decide))), (Ne.symm (nd_ne ND (i := 30) (j := 33) rfl rfl (by decide))), (Ne.symm (nd_ne ND (i := 31) (j := 33) rfl rfl (by decide))), (Ne.symm (nd_ne ND (i := 32) (j := 33) rfl rfl (by decide)))⟩) e_answers
      have e_36 := r_16 order_ _ (by simp only [List.mem_cons, List.not_mem_nil, or_false, not_or]; exact ⟨(Ne.symm (nd_ne ND (i := 0) (j := 34) rfl rfl (by decide))), (Ne.symm (nd_ne ND (i := 30) (j := 34) rfl rfl (by decide))), (Ne.symm (nd_ne ND (i := 31) (j := 34) rfl rfl (by decide))), (Ne.symm (nd_ne ND (i := 32) (j := 34) rfl rfl (by decide)))⟩) e_order
      have e_37 := r_16 scores_ _ (by simp only [List.mem_cons, List.not_mem_nil, or_false, not_or]; exact ⟨(Ne.symm (nd_ne ND (i := 0) (j := 35) rfl rfl (by decide))), (Ne.symm (nd_ne ND (i := 30) (j := 35) rfl rfl (by decide))), (Ne.symm (nd_ne ND (i := 31) (j := 35) rfl rfl (by decide))), (Ne.symm (nd_ne ND (i := 32) (j := 35) rfl rfl (by decide)))⟩) e_scores
      have r_38 := r0.trans (r_16.mono (by simp))
      have g_39 : fs_8[(37 : Nat)]? = some (.int (nI e9.length)) := (ga_12 37 (by decide)).trans g_outs
      have g_40 : fs_8[(34 : Nat)]? = some (.int (nI P)) := (ga_12 34 (by decide)).trans g_phrases
      have g_41 : fs_8[(56 : Nat)]? = some (.int (nI fn)) := (ga_12 56 (by decide)).trans g_found
      have g_42 : fs_8[(53 : Nat)]? = some (.ref begins_) := (ga_12 53 (by decide)).trans g_begins
      have g_43 : fs_8[(54 : Nat)]? = some (.ref lasts_) := (ga_12 54 (by decide)).trans g_lasts
      have g_44 : fs_8[(43 : Nat)]? = some (.ref tokenAt_) := (ga_12 43 (by decide)).trans g_tokenAt
      have g_45 : fs_8[(44 : Nat)]? = some (.ref tokenSize_) := (ga_12 44 (by decide)).trans g_tokenSize
      have g_46 : fs_8[(7 : Nat)]? = some (.ref texts_) := (ga_12 7 (by decide)).trans g_texts
      have g_47 : fs_8[(4 : Nat)]? = some (.ref asked_) := (ga_12 4 (by decide)).trans g_asked
      have g_48 : fs_8[(41 : Nat)]? = some (.ref firstToken_) := (ga_12 41 (by decide)).trans g_firstToken
      have g_49 : fs_8[(42 : Nat)]? = some (.ref starred_) := (ga_12 42 (by decide)).trans g_starred
      have g_50 : fs_8[(45 : Nat)]? = some (.ref groupKind_) := (ga_12 45 (by decide)).trans g_groupKind
      have g_51 : fs_8[(46 : Nat)]? = some (.ref groupPhrase_) := (ga_12 46 (by decide)).trans g_groupPhrase
      have g_52 : fs_8[(47 : Nat)]? = some (.ref groupSize_) := (ga_12 47 (by decide)).trans g_groupSize
      have g_53 : fs_8[(49 : Nat)]? = some (.ref groupFar_) := (ga_12 49 (by decide)).trans g_groupFar
      have g_54 : fs_8[(48 : Nat)]? = some (.ref groupMask_) := (ga_12 48 (by decide)).trans g_groupMask
      have g_55 : fs_8[(8 : Nat)]? = some (.ref sizes_) := (ga_12 8 (by decide)).trans g_sizes
      have g_56 : fs_8[(50 : Nat)]? = some (.ref out_) := (ga_12 50 (by decide)).trans g_out
      have g_57 : fs_8[(57 : Nat)]? = some (.ref truth_) := (ga_12 57 (by decide)).trans g_truth
      have g_58 : fs_8[(14 : Nat)]? = some (.ref live_) := (ga_12 14 (by decide)).trans g_live
      have g_59 : fs_8[(9 : Nat)]? = some (.ref weights_) := (ga_12 9 (by decide)).trans g_weights
      have g_60 : fs_8[(58 : Nat)]? = some (.ref answers_) := (ga_12 58 (by decide)).trans g_answers
      have g_61 : fs_8[(59 : Nat)]? = some (.ref order_) := (ga_12 59 (by decide)).trans g_order
      have g_62 : fs_8[(60 : Nat)]? = some (.ref scores_) := (ga_12 60 (by decide)).trans g_scores
      have ga_63 : ∀ i : Nat, i ∉ [55, 56] → fs_8[i]? = gs[i]? := fun i hi => (ga_12 i (fun z => hi (by simp only [List.mem_cons, List.not_mem_nil, or_false] at z ⊢; omega))).trans (ga0 i hi)
      refine s_Model_ask_115 (fun z_64 => ?_) (fun z_65 => ?_)
      · skip
        refine s_Model_ask_219 ?_
        rw [nI_1]
        exact ih (i + 1) _ fn _ _ _ _ _ _ _ _ (by omega) l_9 e_10 g_11 g_41 ga_63 eb_13 el_14 et_15 e_35 e_36 e_37 (by omega) hord (hFN.no (fun q => absurd (show (rfB ws A N Bb ft fz gr e9 i) = true from q.2) (by rw [b01_f z_64]; decide))) r_38
      · skip
        refine s_Model_ask_118 (scores_a0 := some scores_) l_9 e_10 g_60 g_41 e_35 (vp_in_nI (by omega) (by omega)) g_62 ?_
        refine x_u1 (fun h_66 e_67 f_68 => ?_)
        have e_69 := (f_68 m (nd_ne ND (i := 0) (j := 33) rfl rfl (by decide))).trans e_10
        have e_70 := (f_68 begins_ (nd_ne ND (i := 30) (j := 33) rfl rfl (by decide))).trans eb_13
        have e_71 := (f_68 lasts_ (nd_ne ND (i := 31) (j := 33) rfl rfl (by decide))).trans el_14
        have e_72 := (f_68 tokenAt_ (nd_ne ND (i := 20) (j := 33) rfl rfl (by decide))).trans e_20
        have e_73 := (f_68 tokenSize_ (nd_ne ND (i := 21) (j := 33) rfl rfl (by decide))).trans e_21
        have e_74 := (f_68 texts_ (nd_ne ND (i := 5) (j := 33) rfl rfl (by decide))).trans e_22
        have e_75 := (f_68 asked_ (nd_ne ND (i := 2) (j := 33) rfl rfl (by decide))).trans e_23
        have e_76 := (f_68 firstToken_ (nd_ne ND (i := 18) (j := 33) rfl rfl (by decide))).trans e_24
        have e_77 := (f_68 starred_ (nd_ne ND (i := 19) (j := 33) rfl rfl (by decide))).trans e_25
        have e_78 := (f_68 groupKind_ (nd_ne ND (i := 22) (j := 33) rfl rfl (by decide))).trans e_26
        have e_79 := (f_68 groupPhrase_ (nd_ne ND (i := 23) (j := 33) rfl rfl (by decide))).trans e_27
        have e_80 := (f_68 groupSize_ (nd_ne ND (i := 24) (j := 33) rfl rfl (by decide))).trans e_28
        have e_81 := (f_68 groupFar_ (nd_ne ND (i := 26) (j := 33) rfl rfl (by decide))).trans e_29
        have e_82 := (f_68 groupMask_ (nd_ne ND (i := 25) (j := 33) rfl rfl (by decide))).trans e_30
        have e_83 := (f_68 sizes_ (nd_ne ND (i := 6) (j := 33) rfl rfl (by decide))).trans e_31
        have e_84 := (f_68 out_ (nd_ne ND (i := 27) (j := 33) rfl rfl (by decide))).trans e_32
        have e_85 := (f_68 truth_ (nd_ne ND (i := 32) (j := 33) rfl rfl (by decide))).trans et_15
        have e_86 := (f_68 live_ (nd_ne ND (i := 10) (j := 33) rfl rfl (by decide))).trans e_33
        have e_87 := (f_68 weights_ (nd_ne ND (i := 7) (j := 33) rfl rfl (by decide))).trans e_34
        have e_88 := (f_68 order_ (Ne.symm (nd_ne ND (i := 33) (j := 34) rfl rfl (by decide)))).trans e_36
        have e_89 := (f_68 scores_ (Ne.symm (nd_ne ND (i := 33) (j := 35) rfl rfl (by decide)))).trans e_37
        have r_90 := r_38.up (by simp) f_68
        refine x_callV (As := [.int (nI i)]) (b := m) (rest := [.int (nI fn), .ref scores_]) (F1 := 6) (L1 := 137) (mc := 0) (ms := 0) d_Model_ask_140 cV_Model_366 (f_scoreOf hP PO ht TO l_9 e_69 g_11 g_40 g_42 e_70 g_43 e_71 g_44 e_72 g_45 e_73 g_46 e_74 g_47 e_75 g_48 e_76 g_49 e_77 g_55 e_83 g_58 e_86 g_59 e_87 ND (show i < 24 by omega) hz hlv hwe (by omega) (by omega)) e_69 ⟨by decide, rfl⟩ ⟨by omega, by show 8 + (16 + 11) + 137 ≤ _; omega⟩ ⟨by omega, by omega⟩ (Nat.le_of_ble_eq_true rfl) (fun v_104 h_103 p_105 => ?_)
        obtain ⟨⟨y_91, rfl⟩, cl_92, fb_93, fl_94, fs_95, l_96, e_97, g_98, ga_99, eb_100, el_101, r_102⟩ := p_105
        have e_106 := r_102 tokenAt_ _ (by simp only [List.mem_cons, List.not_mem_nil, or_false, not_or]; exact ⟨(Ne.symm (nd_ne ND (i := 0) (j := 20) rfl rfl (by decide))), (Ne.symm (nd_ne ND (i := 30) (j := 20) rfl rfl (by decide))), (Ne.symm (nd_ne ND (i := 31) (j := 20) rfl rfl (by decide)))⟩) e_72
        have e_107 := r_102 tokenSize_ _ (by simp only [List.mem_cons, List.not_mem_nil, or_false, not_or]; exact ⟨(Ne.symm (nd_ne ND (i := 0) (j := 21) rfl rfl (by decide))), (Ne.symm (nd_ne ND (i := 30) (j := 21) rfl rfl (by decide))), (Ne.symm (nd_ne ND (i := 31) (j := 21) rfl rfl (by decide)))⟩) e_73
        have e_108 := r_102 texts_ _ (by simp only [List.mem_cons, List.not_mem_nil, or_false, not_or]; exact ⟨(Ne.symm (nd_ne ND (i := 0) (j := 5) rfl rfl (by decide))), (Ne.symm (nd_ne ND (i := 30) (j := 5) rfl rfl (by decide))), (Ne.symm (nd_ne ND (i := 31) (j := 5) rfl rfl (by decide)))⟩) e_74
        have e_109 := r_102 asked_ _ (by simp only [List.mem_cons, List.not_mem_nil, or_false, not_or]; exact ⟨(Ne.symm (nd_ne ND (i := 0) (j := 2) rfl rfl (by decide))), (Ne.symm (nd_ne ND (i := 30) (j := 2) rfl rfl (by decide))), (Ne.symm (nd_ne ND (i := 31) (j := 2) rfl rfl (by decide)))⟩) e_75
        have e_110 := r_102 firstToken_ _ (by simp only [List.mem_cons, List.not_mem_nil, or_false, not_or]; exact ⟨(Ne.symm (nd_ne ND (i := 0) (j := 18) rfl rfl (by decide))), (Ne.symm (nd_ne ND (i := 30) (j := 18) rfl rfl (by decide))), (Ne.symm (nd_ne ND (i := 31) (j := 18) rfl rfl (by decide)))⟩) e_76
        have e_111 := r_102 starred_ _ (by simp only [List.mem_cons, List.not_mem_nil, or_false, not_or]; exact ⟨(Ne.symm (nd_ne ND (i := 0) (j := 19) rfl rfl (by decide))), (Ne.symm (nd_ne ND (i := 30) (j := 19) rfl rfl (by decide))), (Ne.symm (nd_ne ND (i := 31) (j := 19) rfl rfl (by decide)))⟩) e_77
        have e_112 := r_102 groupKind_ _ (by simp only [List.mem_cons, List.not_mem_nil, or_false, not_or]; exact ⟨(Ne.symm (nd_ne ND (i := 0) (j := 22) rfl rfl (by decide))), (Ne.symm (nd_ne ND (i := 30) (j := 22) rfl rfl (by decide))), (Ne.symm (nd_ne ND (i := 31) (j := 22) rfl rfl (by decide)))⟩) e_78
        have e_113 := r_102 groupPhrase_ _ (by simp only [List.mem_cons, List.not_mem_nil, or_false, not_or]; exact ⟨(Ne.symm (nd_ne ND (i := 0) (j := 23) rfl rfl (by decide))), (Ne.symm (nd_ne ND (i := 30) (j := 23) rfl rfl (by decide))), (Ne.symm (nd_ne ND (i := 31) (j := 23) rfl rfl (by decide)))⟩) e_79
        have e_114 := r_102 groupSize_ _ (by simp only [List.mem_cons, List.not_mem_nil, or_false, not_or]; exact ⟨(Ne.symm (nd_ne ND (i := 0) (j := 24) rfl rfl (by decide))), (Ne.symm (nd_ne ND (i := 30) (j := 24) rfl rfl (by decide))), (Ne.symm (nd_ne ND (i := 31) (j := 24) rfl rfl (by decide)))⟩) e_80
        have e_115 := r_102 groupFar_ _ (by simp only [List.mem_cons, List.not_mem_nil, or_false, not_or]; exact ⟨(Ne.symm (nd_ne ND (i := 0) (j := 26) rfl rfl (by decide))), (Ne.symm (nd_ne ND (i := 30) (j := 26) rfl rfl (by decide))), (Ne.symm (nd_ne ND (i := 31) (j := 26) rfl rfl (by decide)))⟩) e_81
        have e_116 := r_102 groupMask_ _ (by simp only [List.mem_cons, List.not_mem_nil, or_false, not_or]; exact ⟨(Ne.symm (nd_ne ND (i := 0) (j := 25) rfl rfl (by decide))), (Ne.symm (nd_ne ND (i := 30) (j := 25) rfl rfl (by decide))), (Ne.symm (nd_ne ND (i := 31) (j := 25) rfl rfl (by decide)))⟩) e_82
        have e_117 := r_102 sizes_ _ (by simp only [List.mem_cons, List.not_mem_nil, or_false, not_or]; exact ⟨(Ne.symm (nd_ne ND (i := 0) (j := 6) rfl rfl (by decide))), (Ne.symm (nd_ne ND (i := 30) (j := 6) rfl rfl (by decide))), (Ne.symm (nd_ne ND (i := 31) (j := 6) rfl rfl (by decide)))⟩) e_83
        have e_118 := r_102 out_ _ (by simp only [List.mem_cons, List.not_mem_nil, or_false, not_or]; exact ⟨(Ne.symm (nd_ne ND (i := 0) (j := 27) rfl rfl (by decide))), (Ne.symm (nd_ne ND (i := 30) (j := 27) rfl rfl (by decide))), (Ne.symm (nd_ne ND (i := 31) (j := 27) rfl rfl (by decide)))⟩) e_84
        have e_119 := r_102 truth_ _ (by simp only [List.mem_cons, List.not_mem_nil, or_false, not_or]; exact ⟨(Ne.symm (nd_ne ND (i := 0) (j := 32) rfl rfl (by decide))), (Ne.symm (nd_ne ND (i := 30) (j := 32) rfl rfl (by decide))), (Ne.symm (nd_ne ND (i := 31) (j := 32) rfl rfl (by decide)))⟩) e_85
        have e_120 := r_102 live_ _ (by simp only [List.mem_cons, List.not_mem_nil, or_false, not_or]; exact ⟨(Ne.symm (nd_ne ND (i := 0) (j := 10) rfl rfl (by decide))), (Ne.symm (nd_ne ND (i := 30) (j := 10) rfl rfl (by decide))), (Ne.symm (nd_ne ND (i := 31) (j := 10) rfl rfl (by decide)))⟩) e_86
        have e_121 := r_102 weights_ _ (by simp only [List.mem_cons, List.not_mem_nil, or_false, not_or]; exact ⟨(Ne.symm (nd_ne ND (i := 0) (j := 7) rfl rfl (by decide))), (Ne.symm (nd_ne ND (i := 30) (j := 7) rfl rfl (by decide))), (Ne.symm (nd_ne ND (i := 31) (j := 7) rfl rfl (by decide)))⟩) e_87
        have e_122 := r_102 answers_ _ (by simp only [List.mem_cons, List.not_mem_nil, or_false, not_or]; exact ⟨(Ne.symm (nd_ne ND (i := 0) (j := 33) rfl rfl (by decide))), (Ne.symm (nd_ne ND (i := 30) (j := 33) rfl rfl (by decide))), (Ne.symm (nd_ne ND (i := 31) (j := 33) rfl rfl (by decide)))⟩) e_67
        have e_123 := r_102 order_ _ (by simp only [List.mem_cons, List.not_mem_nil, or_false, not_or]; exact ⟨(Ne.symm (nd_ne ND (i := 0) (j := 34) rfl rfl (by decide))), (Ne.symm (nd_ne ND (i := 30) (j := 34) rfl rfl (by decide))), (Ne.symm (nd_ne ND (i := 31) (j := 34) rfl rfl (by decide)))⟩) e_88
        have e_124 := r_102 scores_ _ (by simp only [List.mem_cons, List.not_mem_nil, or_false, not_or]; exact ⟨(Ne.symm (nd_ne ND (i := 0) (j := 35) rfl rfl (by decide))), (Ne.symm (nd_ne ND (i := 30) (j := 35) rfl rfl (by decide))), (Ne.symm (nd_ne ND (i := 31) (j := 35) rfl rfl (by decide)))⟩) e_89
        have r_125 := r_90.trans (r_102.mono (by simp))
        have g_126 : fs_95[(37 : Nat)]? = some (.int (nI e9.length)) := (ga_99 37 (by decide)).trans g_39
        have g_127 : fs_95[(34 : Nat)]? = some (.int (nI P)) := (ga_99 34 (by decide)).trans g_40
        have g_128 : fs_95[(56 : Nat)]? = some (.int (nI fn)) := (ga_99 56 (by decide)).trans g_41
        have g_129 : fs_95[(53 : Nat)]? = some (.ref begins_) := (ga_99 53 (by decide)).trans g_42
        have g_130 : fs_95[(54 : Nat)]? = some (.ref lasts_) := (ga_99 54 (by decide)).trans g_43
        have g_131 : fs_95[(43 : Nat)]? = some (.ref tokenAt_) := (ga_99 43 (by decide)).trans g_44
        have g_132 : fs_95[(44 : Nat)]? = some (.ref tokenSize_) := (ga_99 44 (by decide)).trans g_45
        have g_133 : fs_95[(7 : Nat)]? = some (.ref texts_) := (ga_99 7 (by decide)).trans g_46
        have g_134 : fs_95[(4 : Nat)]? = some (.ref asked_) := (ga_99 4 (by decide)).trans g_47
        have g_135 : fs_95[(41 : Nat)]? = some (.ref firstToken_) := (ga_99 41 (by decide)).trans g_48
        have g_136 : fs_95[(42 : Nat)]? = some (.ref starred_) := (ga_99 42 (by decide)).trans g_49
        have g_137 : fs_95[(45 : Nat)]? = some (.ref groupKind_) := (ga_99 45 (by decide)).trans g_50
        have g_138 : fs_95[(46 : Nat)]? = some (.ref groupPhrase_) := (ga_99 46 (by decide)).trans g_51
        have g_139 : fs_95[(47 : Nat)]? = some (.ref groupSize_) := (ga_99 47 (by decide)).trans g_52
        have g_140 : fs_95[(49 : Nat)]? = some (.ref groupFar_) := (ga_99 49 (by decide)).trans g_53
        have g_141 : fs_95[(48 : Nat)]? = some (.ref groupMask_) := (ga_99 48 (by decide)).trans g_54
        have g_142 : fs_95[(8 : Nat)]? = some (.ref sizes_) := (ga_99 8 (by decide)).trans g_55
        have g_143 : fs_95[(50 : Nat)]? = some (.ref out_) := (ga_99 50 (by decide)).trans g_56
        have g_144 : fs_95[(57 : Nat)]? = some (.ref truth_) := (ga_99 57 (by decide)).trans g_57
        have g_145 : fs_95[(14 : Nat)]? = some (.ref live_) := (ga_99 14 (by decide)).trans g_58
        have g_146 : fs_95[(9 : Nat)]? = some (.ref weights_) := (ga_99 9 (by decide)).trans g_59
        have g_147 : fs_95[(58 : Nat)]? = some (.ref answers_) := (ga_99 58 (by decide)).trans g_60
        have g_148 : fs_95[(59 : Nat)]? = some (.ref order_) := (ga_99 59 (by decide)).trans g_61
        have g_149 : fs_95[(60 : Nat)]? = some (.ref scores_) := (ga_99 60 (by decide)).trans g_62
        have ga_150 : ∀ i : Nat, i ∉ [55, 56] → fs_95[i]? = gs[i]? := fun i hi => (ga_99 i (fun z => hi (by simp only [List.mem_cons, List.not_mem_nil, or_false] at z ⊢; omega))).trans (ga_63 i hi)
        refine s_Model_ask_143 e_124 (vp_in_nI (by omega) (by omega)) l_96 e_97 g_128 ?_
        refine x_u1 (fun h_151 e_152 f_153 => ?_)
        have e_154 := (f_153 m (nd_ne ND (i := 0) (j := 35) rfl rfl (by decide))).trans e_97
        have e_155 := (f_153 begins_ (nd_ne ND (i := 30) (j := 35) rfl rfl (by decide))).trans eb_100
        have e_156 := (f_153 lasts_ (nd_ne ND (i := 31) (j := 35) rfl rfl (by decide))).trans el_101
        have e_157 := (f_153 tokenAt_ (nd_ne ND (i := 20) (j := 35) rfl rfl (by decide))).trans e_106
        have e_158 := (f_153 tokenSize_ (nd_ne ND (i := 21) (j := 35) rfl rfl (by decide))).trans e_107
        have e_159 := (f_153 texts_ (nd_ne ND (i := 5) (j := 35) rfl rfl (by decide))).trans e_108
        have e_160 := (f_153 asked_ (nd_ne ND (i := 2) (j := 35) rfl rfl (by decide))).trans e_109
        have e_161 := (f_153 firstToken_ (nd_ne ND (i := 18) (j := 35) rfl rfl (by decide))).trans e_110
        have e_162 := (f_153 starred_ (nd_ne ND (i := 19) (j := 35) rfl rfl (by decide))).trans e_111
        have e_163 := (f_153 groupKind_ (nd_ne ND (i := 22) (j := 35) rfl rfl (by decide))).trans e_112
        have e_164 := (f_153 groupPhrase_ (nd_ne ND (i := 23) (j := 35) rfl rfl (by decide))).trans e_113
        have e_165 := (f_153 groupSize_ (nd_ne ND (i := 24) (j := 35) rfl rfl (by decide))).trans e_114
        have e_166 := (f_153 groupFar_ (nd_ne ND (i := 26) (j := 35) rfl rfl (by decide))).trans e_115
        have e_167 := (f_153 groupMask_ (nd_ne ND (i := 25) (j := 35) rfl rfl (by decide))).trans e_116
        have e_168 := (f_153 sizes_ (nd_ne ND (i := 6) (j := 35) rfl rfl (by decide))).trans e_117
        have e_169 := (f_153 out_ (nd_ne ND (i := 27) (j := 35) rfl rfl (by decide))).trans e_118
        have e_170 := (f_153 truth_ (nd_ne ND (i := 32) (j := 35) rfl rfl (by decide))).trans e_119
        have e_171 := (f_153 live_ (nd_ne ND (i := 10) (j := 35) rfl rfl (by decide))).trans e_120
        have e_172 := (f_153 weights_ (nd_ne ND (i := 7) (j := 35) rfl rfl (by decide))).trans e_121
        have e_173 := (f_153 answers_ (nd_ne ND (i := 33) (j := 35) rfl rfl (by decide))).trans e_122
        have e_174 := (f_153 order_ (nd_ne ND (i := 34) (j := 35) rfl rfl (by decide))).trans e_123
        have r_175 := r_125.up (by simp) f_153
        refine lp_so (gs := fs_95) (h0 := h_151) l_96 e_154 g_128 g_148 g_149 e_152 ⟨_, e_174⟩ (by omega) (fun h7 n7 fo7 eo7 hN7 hO7 r7 => ?_) fn _ _ e_174 (Nat.le_refl _) (fun j hj hne => hord j (by omega)) FrO.rf
        have e_176 := r7 m _ (by simp only [List.mem_cons, List.not_mem_nil, or_false, not_or]; exact (nd_ne ND (i := 0) (j := 34) rfl rfl (by decide))) e_154
        have e_177 := r7 begins_ _ (by simp only [List.mem_cons, List.not_mem_nil, or_false, not_or]; exact (nd_ne ND (i := 30) (j := 34) rfl rfl (by decide))) e_155
        have e_178 := r7 lasts_ _ (by simp only [List.mem_cons, List.not_mem_nil, or_false, not_or]; exact (nd_ne ND (i := 31) (j := 34) rfl rfl (by decide))) e_156
        have e_179 := r7 tokenAt_ _ (by simp only [List.mem_cons, List.not_mem_nil, or_false, not_or]; exact (nd_ne ND (i := 20) (j := 34) rfl rfl (by decide))) e_157
        have e_180 := r7 tokenSize_ _ (by simp only [List.mem_cons, List.not_mem_nil, or_false, not_or]; exact (nd_ne ND (i := 21) (j := 34) rfl rfl (by decide))) e_158
        have e_181 := r7 texts_ _ (by simp only [List.mem_cons, List.not_mem_nil, or_false, not_or]; exact (nd_ne ND (i := 5) (j := 34) rfl rfl (by decide))) e_159
        have e_182 := r7 asked_ _ (by simp only [List.mem_cons, List.not_mem_nil, or_false, not_or]; exact (nd_ne ND (i := 2) (j := 34) rfl rfl (by decide))) e_160
        have e_183 := r7 firstToken_ _ (by simp only [List.mem_cons, List.not_mem_nil, or_false, not_or]; exact (nd_ne ND (i := 18) (j := 34) rfl rfl (by decide))) e_161
        have e_184 := r7 starred_ _ (by simp only [List.mem_cons, List.not_mem_nil, or_false, not_or]; exact (nd_ne ND (i := 19) (j := 34) rfl rfl (by decide))) e_162
        have e_185 := r7 groupKind_ _ (by simp only [List.mem_cons, List.not_mem_nil, or_false, not_or]; exact (nd_ne ND (i := 22) (j := 34) rfl rfl (by decide))) e_163
        have e_186 := r7 groupPhrase_ _ (by simp only [List.mem_cons, List.not_mem_nil, or_false, not_or]; exact (nd_ne ND (i := 23) (j := 34) rfl rfl (by decide))) e_164
        have e_187 := r7 groupSize_ _ (by simp only [List.mem_cons, List.not_mem_nil, or_false, not_or]; exact (nd_ne ND (i := 24) (j := 34) rfl rfl (by decide))) e_165
        have e_188 := r7 groupFar_ _ (by simp only [List.mem_cons, List.not_mem_nil, or_false, not_or]; exact (nd_ne ND (i := 26) (j := 34) rfl rfl (by decide))) e_166
        have e_189 := r7 groupMask_ _ (by simp only [List.mem_cons, List.not_mem_nil, or_false, not_or]; exact (nd_ne ND (i := 25) (j := 34) rfl rfl (by decide))) e_167
        have e_190 := r7 sizes_ _ (by simp only [List.mem_cons, List.not_mem_nil, or_false, not_or]; exact (nd_ne ND (i := 6) (j := 34) rfl rfl (by decide))) e_168
        have e_191 := r7 out_ _ (by simp only [List.mem_cons, List.not_mem_nil, or_false, not_or]; exact (nd_ne ND (i := 27) (j := 34) rfl rfl (by decide))) e_169
        have e_192 := r7 truth_ _ (by simp only [List.mem_cons, List.not_mem_nil, or_false, not_or]; exact (nd_ne ND (i := 32) (j := 34) rfl rfl (by decide))) e_170
        have e_193 := r7 live_ _ (by simp only [List.mem_cons, List.not_mem_nil, or_false, not_or]; exact (nd_ne ND (i := 10) (j := 34) rfl rfl (by decide))) e_171
        have e_194 := r7 weights_ _ (by simp only [List.mem_cons, List.not_mem_nil, or_false, not_or]; exact (nd_ne ND (i := 7) (j := 34) rfl rfl (by decide))) e_172
        have e_195 := r7 answers_ _ (by simp only [List.mem_cons, List.not_mem_nil, or_false, not_or]; exact (nd_ne ND (i := 33) (j := 34) rfl rfl (by decide))) e_173
        have e_196 := r7 scores_ _ (by simp only [List.mem_cons, List.not_mem_nil, or_false, not_or]; exact (Ne.symm (nd_ne ND (i := 34) (j := 35) rfl rfl (by decide)))) e_152
        have r_197 := r_175.trans (r7.mono (by simp))
        refine s_Model_ask_199 l_96 e_176 g_148 g_128 eo7 (vp_in_nI (by omega) (by omega)) ?_
        refine x_u2 (fun h_198 e_199 f_200 h_201 e_202 f_203 => ?_)
        have e_204 := (f_200 m (nd_ne ND (i := 0) (j := 34) rfl rfl (by decide))).trans e_176
        have e_205 := (f_200 begins_ (nd_ne ND (i := 30) (j := 34) rfl rfl (by decide))).trans e_177
        have e_206 := (f_200 lasts_ (nd_ne ND (i := 31) (j := 34) rfl rfl (by decide))).trans e_178
        have e_207 := (f_200 tokenAt_ (nd_ne ND (i := 20) (j := 34) rfl rfl (by decide))).trans e_179
        have e_208 := (f_200 tokenSize_ (nd_ne ND (i := 21) (j := 34) rfl rfl (by decide))).trans e_180
        have e_209 := (f_200 texts_ (nd_ne ND (i := 5) (j := 34) rfl rfl (by decide))).trans e_181
        have e_210 := (f_200 asked_ (nd_ne ND (i := 2) (j := 34) rfl rfl (by decide))).trans e_182
        have e_211 := (f_200 firstToken_ (nd_ne ND (i := 18) (j := 34) rfl rfl (by decide))).trans e_183
        have e_212 := (f_200 starred_ (nd_ne ND (i := 19) (j := 34) rfl rfl (by decide))).trans e_184
        have e_213 := (f_200 groupKind_ (nd_ne ND (i := 22) (j := 34) rfl rfl (by decide))).trans e_185
        have e_214 := (f_200 groupPhrase_ (nd_ne ND (i := 23) (j := 34) rfl rfl (by decide))).trans e_186
        have e_215 := (f_200 groupSize_ (nd_ne ND (i := 24) (j := 34) rfl rfl (by decide))).trans e_187
        have e_216 := (f_200 groupFar_ (nd_ne ND (i := 26) (j := 34) rfl rfl (by decide))).trans e_188
        have e_217 := (f_200 groupMask_ (nd_ne ND (i := 25) (j := 34) rfl rfl (by decide))).trans e_189
        have e_218 := (f_200 sizes_ (nd_ne ND (i := 6) (j := 34) rfl rfl (by decide))).trans e_190
        have e_219 := (f_200 out_ (nd_ne ND (i := 27) (j := 34) rfl rfl (by decide))).trans e_191
        have e_220 := (f_200 truth_ (nd_ne ND (i := 32) (j := 34) rfl rfl (by decide))).trans e_192
        have e_221 := (f_200 live_ (nd_ne ND (i := 10) (j := 34) rfl rfl (by decide))).trans e_193
        have e_222 := (f_200 weights_ (nd_ne ND (i := 7) (j := 34) rfl rfl (by decide))).trans e_194
        have e_223 := (f_200 answers_ (nd_ne ND (i := 33) (j := 34) rfl rfl (by decide))).trans e_195
        have e_224 := (f_200 scores_ (Ne.symm (nd_ne ND (i := 34) (j := 35) rfl rfl (by decide)))).trans e_196
        have r_225 := r_197.up (by simp) f_200
        have e_226 := (f_203 begins_ (Ne.symm (nd_ne ND (i := 0) (j := 30) rfl rfl (by decide)))).trans e_205
        have e_227 := (f_203 lasts_ (Ne.symm (nd_ne ND (i := 0) (j := 31) rfl rfl (by decide)))).trans e_206
        have e_228 := (f_203 tokenAt_ (Ne.symm (nd_ne ND (i := 0) (j := 20) rfl rfl (by decide)))).trans e_207
        have e_229 := (f_203 tokenSize_ (Ne.symm (nd_ne ND (i := 0) (j := 21) rfl rfl (by decide)))).trans e_208
        have e_230 := (f_203 texts_ (Ne.symm (nd_ne ND (i := 0) (j := 5) rfl rfl (by decide)))).trans e_209
        have e_231 := (f_203 asked_ (Ne.symm (nd_ne ND (i := 0) (j := 2) rfl rfl (by decide)))).trans e_210
        have e_232 := (f_203 firstToken_ (Ne.symm (nd_ne ND (i := 0) (j := 18) rfl rfl (by decide)))).trans e_211
        have e_233 := (f_203 starred_ (Ne.symm (nd_ne ND (i := 0) (j := 19) rfl rfl (by decide)))).trans e_212
        have e_234 := (f_203 groupKind_ (Ne.symm (nd_ne ND (i := 0) (j := 22) rfl rfl (by decide)))).trans e_213
        have e_235 := (f_203 groupPhrase_ (Ne.symm (nd_ne ND (i := 0) (j := 23) rfl rfl (by decide)))).trans e_214
        have e_236 := (f_203 groupSize_ (Ne.symm (nd_ne ND (i := 0) (j := 24) rfl rfl (by decide)))).trans e_215
        have e_237 := (f_203 groupFar_ (Ne.symm (nd_ne ND (i := 0) (j := 26) rfl rfl (by decide)))).trans e_216
        have e_238 := (f_203 groupMask_ (Ne.symm (nd_ne ND (i := 0) (j := 25) rfl rfl (by decide)))).trans e_217
        have e_239 := (f_203 sizes_ (Ne.symm (nd_ne ND (i := 0) (j := 6) rfl rfl (by decide)))).trans e_218
        have e_240 := (f_203 out_ (Ne.symm (nd_ne ND (i := 0) (j := 27) rfl rfl (by decide)))).trans e_219
        have e_241 := (f_203 truth_ (Ne.symm (nd_ne ND (i := 0) (j := 32) rfl rfl (by decide)))).trans e_220
        have e_242 := (f_203 live_ (Ne.symm (nd_ne ND (i := 0) (j := 10) rfl rfl (by decide)))).trans e_221
        have e_243 := (f_203 weights_ (Ne.symm (nd_ne ND (i := 0) (j := 7) rfl rfl (by decide)))).trans e_222
        have e_244 := (f_203 answers_ (Ne.symm (nd_ne ND (i := 0) (j := 33) rfl rfl (by decide)))).trans e_223
        have e_245 := (f_203 order_ (Ne.symm (nd_ne ND (i := 0) (j := 34) rfl rfl (by decide)))).trans e_199
        have e_246 := (f_203 scores_ (Ne.symm (nd_ne ND (i := 0) (j := 35) rfl rfl (by decide)))).trans e_224
        have r_247 := r_225.up (by simp) f_203
        obtain ⟨fs_248, z_249⟩ : ∃ z, z = fs_95.set 56 (.int ((nI fn) + 1)) := ⟨_, rfl⟩
        rw [← z_249] at e_202
        have l_250 : fs_248.length = 62 := by rw [z_249]; simp only [List.length_set]; exact l_96
        have g_251 : fs_248[(4 : Nat)]? = some (.ref asked_) := by rw [z_249]; exact (xw_gn (by decide) g_134)
        have g_252 : fs_248[(7 : Nat)]? = some (.ref texts_) := by rw [z_249]; exact (xw_gn (by decide) g_133)
        have g_253 : fs_248[(8 : Nat)]? = some (.ref sizes_) := by rw [z_249]; exact (xw_gn (by decide) g_142)
        have g_254 : fs_248[(9 : Nat)]? = some (.ref weights_) := by rw [z_249]; exact (xw_gn (by decide) g_146)
        have g_255 : fs_248[(14 : Nat)]? = some (.ref live_) := by rw [z_249]; exact (xw_gn (by decide) g_145)
        have g_256 : fs_248[(34 : Nat)]? = some (.int (nI P)) := by rw [z_249]; exact (xw_gn (by decide) g_127)
        have g_257 : fs_248[(37 : Nat)]? = some (.int (nI e9.length)) := by rw [z_249]; exact (xw_gn (by decide) g_126)
        have g_258 : fs_248[(41 : Nat)]? = some (.ref firstToken_) := by rw [z_249]; exact (xw_gn (by decide) g_135)
        have g_259 : fs_248[(42 : Nat)]? = some (.ref starred_) := by rw [z_249]; exact (xw_gn (by decide) g_136)
        have g_260 : fs_248[(43 : Nat)]? = some (.ref tokenAt_) := by rw [z_249]; exact (xw_gn (by decide) g_131)
        have g_261 : fs_248[(44 : Nat)]? = some (.ref tokenSize_) := by rw [z_249]; exact (xw_gn (by decide) g_132)
        have g_262 : fs_248[(45 : Nat)]? = some (.ref groupKind_) := by rw [z_249]; exact (xw_gn (by decide) g_137)
        have g_263 : fs_248[(46 : Nat)]? = some (.ref groupPhrase_) := by rw [z_249]; exact (xw_gn (by decide) g_138)
        have g_264 : fs_248[(47 : Nat)]? = some (.ref groupSize_) := by rw [z_249]; exact (xw_gn (by decide) g_139)
        have g_265 : fs_248[(48 : Nat)]? = some (.ref groupMask_) := by rw [z_249]; exact (xw_gn (by decide) g_141)
        have g_266 : fs_248[(49 : Nat)]? = some (.ref groupFar_) := by rw [z_249]; exact (xw_gn (by decide) g_140)
        have g_267 : fs_248[(50 : Nat)]? = some (.ref out_) := by rw [z_249]; exact (xw_gn (by decide) g_143)
        have g_268 : fs_248[(53 : Nat)]? = some (.ref begins_) := by rw [z_249]; exact (xw_gn (by decide) g_129)
        have g_269 : fs_248[(54 : Nat)]? = some (.ref lasts_) := by rw [z_249]; exact (xw_gn (by decide) g_130)
        have g_270 : fs_248[(55 : Nat)]? = some (.int cl_92) := by rw [z_249]; exact (xw_gn (by decide) g_98)
        have g_271 : fs_248[(56 : Nat)]? = some (.int ((nI fn) + 1)) := by rw [z_249]; exact (xw_gs (by simp [l_96]))
        have g_272 : fs_248[(57 : Nat)]? = some (.ref truth_) := by rw [z_249]; exact (xw_gn (by decide) g_144)
        have g_273 : fs_248[(58 : Nat)]? = some (.ref answers_) := by rw [z_249]; exact (xw_gn (by decide) g_147)
        have g_274 : fs_248[(59 : Nat)]? = some (.ref order_) := by rw [z_249]; exact (xw_gn (by decide) g_148)
        have g_275 : fs_248[(60 : Nat)]? = some (.ref scores_) := by rw [z_249]; exact (xw_gn (by decide) g_149)
        have ga_276 : ∀ i : Nat, i ∉ [55, 56] → fs_248[i]? = gs[i]? := fun i hi => by rw [z_249]; exact xw_gn (fun z => hi (by rw [z]; simp)) (ga_150 i hi)
        clear z_249
        refine s_Model_ask_219 ?_
        rw [nI_1]
        rw [nI_1] at g_271
        rw [nI_clamp (show n7 < 2 ^ 31 by omega)] at e_245
        rw [nI_clamp (show fn < 2 ^ 31 by omega), nI_1] at e_244
        exact ih (i + 1) _ (fn + 1) _ _ _ _ _ _ _ _ (by omega) l_250 e_202 g_270 g_271 ga_276 e_226 e_227 e_241 e_244 e_245 e_246 (by omega) (fun j hj => by by_cases q : j = n7; (subst q; exact ⟨fn, pk_us, by omega⟩); (rw [pk_un q]; obtain ⟨j2, u1, u2⟩ := hO7 j (by omega) q; exact ⟨j2, u1, by omega⟩)) (hFN.yes ⟨hlv, b01_t z_65⟩) r_247
