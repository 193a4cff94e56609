theorem i2d_pos : ∀ t, 0 < t → t < 1135 → ¬ (Op.cmpValue (FP.dcmp (FP.i2d (nI t)) FP.dconst0) .l) = 0 := fun t h1 h2 => (show ∀ t, t < 1135 → t = 0 ∨ ¬ (Op.cmpValue (FP.dcmp (FP.i2d (nI t)) FP.dconst0) .l) = 0 by decide +kernel) t h2 |>.resolve_left (by omega)
set_option maxHeartbeats 8000000 in
theorem lp_sBS {G : xw_G} {F L bc bs : Nat} {pr : Option Value → xw_A → Prop} {px : String → xw_A → Prop} {m draft_ asked_ prepared_ preparedSize_ texts_ sizes_ weights_ entries_ lies_ live_ row_ level_ oldTexts_ oldSizes_ oldLies_ oldLive_ oldRow_ firstToken_ starred_ tokenAt_ tokenSize_ groupKind_ groupPhrase_ groupSize_ groupMask_ groupFar_ out_ top_ masks_ begins_ lasts_ truth_ answers_ order_ scores_ : Nat} {gs : List Value} {h0 : xw_A} {ca cs ft fa c1 c2 fz fv fw : Nat → Int32} {ws : List (List Int32)} {t P : Nat} {A N : Nat → Nat} {Bb : Nat → Bool} (hP : P ≤ 12) (PH : PhA ws c1 c2 P A N Bb) (hws : ws.length ≤ 49) (TR : TkR ws t ca cs fa) {r : Nat} (q_phrases : gs[(34 : Nat)]? = some (.int (nI P))) (q_begins : gs[(53 : Nat)]? = some (.ref begins_)) (q_lasts : gs[(54 : Nat)]? = some (.ref lasts_)) (q_tokenAt : gs[(43 : Nat)]? = some (.ref tokenAt_)) (q_tokenSize : gs[(44 : Nat)]? = some (.ref tokenSize_)) (q_texts : gs[(7 : Nat)]? = some (.ref texts_)) (q_asked : gs[(4 : Nat)]? = some (.ref asked_)) (q_firstToken : gs[(41 : Nat)]? = some (.ref firstToken_)) (q_starred : gs[(42 : Nat)]? = some (.ref starred_)) (q_sizes : gs[(8 : Nat)]? = some (.ref sizes_)) (q_live : gs[(14 : Nat)]? = some (.ref live_)) (q_weights : gs[(9 : Nat)]? = some (.ref weights_)) (p_tokenAt : h0 tokenAt_ = some (.inl (0, 60, .inl ca))) (p_tokenSize : h0 tokenSize_ = some (.inl (0, 60, .inl cs))) (p_texts : h0 texts_ = some (.inl (0, 2304, .inl ft))) (p_asked : h0 asked_ = some (.inl (0, 96, .inl fa))) (p_firstToken : h0 firstToken_ = some (.inl (0, 13, .inl c1))) (p_starred : h0 starred_ = some (.inl (0, 13, .inl c2))) (p_sizes : h0 sizes_ = some (.inl (0, 48, .inl fz))) (p_live : h0 live_ = some (.inl (0, 24, .inl fv))) (p_weights : h0 weights_ = some (.inl (0, 2, .inl fw))) (ND : NDl [m, draft_, asked_, prepared_, preparedSize_, texts_, sizes_, weights_, entries_, lies_, live_, row_, level_, oldTexts_, oldSizes_, oldLies_, oldLive_, oldRow_, firstToken_, starred_, tokenAt_, tokenSize_, groupKind_, groupPhrase_, groupSize_, groupMask_, groupFar_, out_, top_, masks_, begins_, lasts_, truth_, answers_, order_, scores_]) (hr : r < 24) (hz : SZo fz 48) {rw_ al w0 w1 : Nat} (hw0 : fw 0 = nI w0) (hw0b : w0 ≤ 9) (hw1 : fw 1 = nI w1) (hw1b : w1 ≤ 9) (hrw1 : 1 ≤ rw_) (hrw2 : rw_ ≤ 24) (hrw3 : rw_ = cntL fv 24) {tR : Nat} (hTR : tR = tokN (fun j => ft (96 * r + 48 * 0 + j)) (fz (2 * r + 0)).toNatClampNeg + tokN (fun j => ft (96 * r + 48 * 1 + j)) (fz (2 * r + 1)).toNatClampNeg) (hal : al ≤ 1152) (hta : tR ≤ al) (hF : 6 ≤ F) (hL : 137 ≤ L) (kk : ∀ (h : xw_A) (sm : UInt64) (cl : Int32) (fb : Nat → Int32) (fl : Nat → Int32) (fs : List Value), fs.length = 62 → h m = some (.inr (11, fs)) → fs[(55 : Nat)]? = some (.int cl) → (∀ i : Nat, i ∉ [55] → fs[i]? = gs[i]?) → h begins_ = some (.inl (0, 24, .inl fb)) → h lasts_ = some (.inl (0, 24, .inl fl)) → NN sm → sm = scN (fun q => fqR ws A N Bb ft fz w0 w1 q r) (fun q => wiR ws A N Bb ft fz fv q 24) rw_ tR (avF al rw_) P → FrO [m, begins_, lasts_] h0 h → pr (some (.double sm)) h) :
    ∀ (dd i : Nat) (h : xw_A) (sm : UInt64) (cl : Int32) (fb : Nat → Int32) (fl : Nat → Int32) (fs : List Value), i + dd = P → fs.length = 62 → h m = some (.inr (11, fs)) → fs[(55 : Nat)]? = some (.int cl) → (∀ i : Nat, i ∉ [55] → fs[i]? = gs[i]?) → h begins_ = some (.inl (0, 24, .inl fb)) → h lasts_ = some (.inl (0, 24, .inl fl)) → NN sm → sm = scN (fun q => fqR ws A N Bb ft fz w0 w1 q r) (fun q => wiR ws A N Bb ft fz fv q 24) rw_ tR (avF al rw_) i → FrO [m, begins_, lasts_] h0 h → xw G m_Model_scoreOf F L bc bs pr px 51 [some (.ref m), some (.int (nI r)), some (.double sm), none, some (.int (nI al)), some (.int (nI rw_)), some (.int (nI i)), none, none, none, none, none, none, none, none, none] [] h := by
  intro dd
  induction dd with
  | zero =>
    intro i h sm cl fb fl fs hi l e g_column ga0 e_begins e_lasts hNN hSM r0
    obtain rfl : i = P := by omega
    have g_phrases := (ga0 34 (by decide)).trans q_phrases
    have g_begins := (ga0 53 (by decide)).trans q_begins
    have g_lasts := (ga0 54 (by decide)).trans q_lasts
    have g_tokenAt := (ga0 43 (by decide)).trans q_tokenAt
    have g_tokenSize := (ga0 44 (by decide)).trans q_tokenSize
    have g_texts := (ga0 7 (by decide)).trans q_texts
    have g_asked := (ga0 4 (by decide)).trans q_asked
    have g_firstToken := (ga0 41 (by decide)).trans q_firstToken
    have g_starred := (ga0 42 (by decide)).trans q_starred
    have g_sizes := (ga0 8 (by decide)).trans q_sizes
    have g_live := (ga0 14 (by decide)).trans q_live
    have g_weights := (ga0 9 (by decide)).trans q_weights
    have e_tokenAt := r0 tokenAt_ _ (by simp only [List.mem_cons, List.not_mem_nil, or_false, not_or]; exact ⟨(nd_ne ND (i := 20) (j := 0) rfl rfl (by decide)), (nd_ne ND (i := 20) (j := 30) rfl rfl (by decide)), (nd_ne ND (i := 20) (j := 31) rfl rfl (by decide))⟩) p_tokenAt
    have e_tokenSize := r0 tokenSize_ _ (by simp only [List.mem_cons, List.not_mem_nil, or_false, not_or]; exact ⟨(nd_ne ND (i := 21) (j := 0) rfl rfl (by decide)), (nd_ne ND (i := 21) (j := 30) rfl rfl (by decide)), (nd_ne ND (i := 21) (j := 31) rfl rfl (by decide))⟩) p_tokenSize
    have e_texts := r0 texts_ _ (by simp only [List.mem_cons, List.not_mem_nil, or_false, not_or]; exact ⟨(nd_ne ND (i := 5) (j := 0) rfl rfl (by decide)), (nd_ne ND (i := 5) (j := 30) rfl rfl (by decide)), (nd_ne ND (i := 5) (j := 31) rfl rfl (by decide))⟩) p_texts
    have e_asked := r0 asked_ _ (by simp only [List.mem_cons, List.not_mem_nil, or_false, not_or]; exact ⟨(nd_ne ND (i := 2) (j := 0) rfl rfl (by decide)), (nd_ne ND (i := 2) (j := 30) rfl rfl (by decide)), (nd_ne ND (i := 2) (j := 31) rfl rfl (by decide))⟩) p_asked
    have e_firstToken := r0 firstToken_ _ (by simp only [List.mem_cons, List.not_mem_nil, or_false, not_or]; exact ⟨(nd_ne ND (i := 18) (j := 0) rfl rfl (by decide)), (nd_ne ND (i := 18) (j := 30) rfl rfl (by decide)), (nd_ne ND (i := 18) (j := 31) rfl rfl (by decide))⟩) p_firstToken
    have e_starred := r0 starred_ _ (by simp only [List.mem_cons, List.not_mem_nil, or_false, not_or]; exact ⟨(nd_ne ND (i := 19) (j := 0) rfl rfl (by decide)), (nd_ne ND (i := 19) (j := 30) rfl rfl (by decide)), (nd_ne ND (i := 19) (j := 31) rfl rfl (by decide))⟩) p_starred
    have e_sizes := r0 sizes_ _ (by simp only [List.mem_cons, List.not_mem_nil, or_false, not_or]; exact ⟨(nd_ne ND (i := 6) (j := 0) rfl rfl (by decide)), (nd_ne ND (i := 6) (j := 30) rfl rfl (by decide)), (nd_ne ND (i := 6) (j := 31) rfl rfl (by decide))⟩) p_sizes
    have e_live := r0 live_ _ (by simp only [List.mem_cons, List.not_mem_nil, or_false, not_or]; exact ⟨(nd_ne ND (i := 10) (j := 0) rfl rfl (by decide)), (nd_ne ND (i := 10) (j := 30) rfl rfl (by decide)), (nd_ne ND (i := 10) (j := 31) rfl rfl (by decide))⟩) p_live
    have e_weights := r0 weights_ _ (by simp only [List.mem_cons, List.not_mem_nil, or_false, not_or]; exact ⟨(nd_ne ND (i := 7) (j := 0) rfl rfl (by decide)), (nd_ne ND (i := 7) (j := 30) rfl rfl (by decide)), (nd_ne ND (i := 7) (j := 31) rfl rfl (by decide))⟩) p_weights
    refine s_Model_scoreOf_51 l e g_phrases (fun z_1 => ?_) (fun z => absurd (nI_le (Nat.le_refl _) (by omega)) z)
    refine s_Model_scoreOf_249 ?_
    exact kk _ _ _ _ _ _ l e g_column ga0 e_begins e_lasts hNN hSM r0
  | succ dd ih =>
    intro i h sm cl fb fl fs hi l e g_column ga0 e_begins e_lasts hNN hSM r0
    have g_phrases := (ga0 34 (by decide)).trans q_phrases
    have g_begins := (ga0 53 (by decide)).trans q_begins
    have g_lasts := (ga0 54 (by decide)).trans q_lasts
    have g_tokenAt := (ga0 43 (by decide)).trans q_tokenAt
    have g_tokenSize := (ga0 44 (by decide)).trans q_tokenSize
    have g_texts := (ga0 7 (by decide)).trans q_texts
    have g_asked := (ga0 4 (by decide)).trans q_asked
    have g_firstToken := (ga0 41 (by decide)).trans q_firstToken
    have g_starred := (ga0 42 (by decide)).trans q_starred
    have g_sizes := (ga0 8 (by decide)).trans q_sizes
    have g_live := (ga0 14 (by decide)).trans q_live
    have g_weights := (ga0 9 (by decide)).trans q_weights
    have e_tokenAt := r0 tokenAt_ _ (by simp only [List.mem_cons, List.not_mem_nil, or_false, not_or]; exact ⟨(nd_ne ND (i := 20) (j := 0) rfl rfl (by decide)), (nd_ne ND (i := 20) (j := 30) rfl rfl (by decide)), (nd_ne ND (i := 20) (j := 31) rfl rfl (by decide))⟩) p_tokenAt
    have e_tokenSize := r0 tokenSize_ _ (by simp only [List.mem_cons, List.not_mem_nil, or_false, not_or]; exact ⟨(nd_ne ND (i := 21) (j := 0) rfl rfl (by decide)), (nd_ne ND (i := 21) (j := 30) rfl rfl (by decide)), (nd_ne ND (i := 21) (j := 31) rfl rfl (by decide))⟩) p_tokenSize
    have e_texts := r0 texts_ _ (by simp only [List.mem_cons, List.not_mem_nil, or_false, not_or]; exact ⟨(nd_ne ND (i := 5) (j := 0) rfl rfl (by decide)), (nd_ne ND (i := 5) (j := 30) rfl rfl (by decide)), (nd_ne ND (i := 5) (j := 31) rfl rfl (by decide))⟩) p_texts
    have e_asked := r0 asked_ _ (by simp only [List.mem_cons, List.not_mem_nil, or_false, not_or]; exact ⟨(nd_ne ND (i := 2) (j := 0) rfl rfl (by decide)), (nd_ne ND (i := 2) (j := 30) rfl rfl (by decide)), (nd_ne ND (i := 2) (j := 31) rfl rfl (by decide))⟩) p_asked
    have e_firstToken := r0 firstToken_ _ (by simp only [List.mem_cons, List.not_mem_nil, or_false, not_or]; exact ⟨(nd_ne ND (i := 18) (j := 0) rfl rfl (by decide)), (nd_ne ND (i := 18) (j := 30) rfl rfl (by decide)), (nd_ne ND (i := 18) (j := 31) rfl rfl (by decide))⟩) p_firstToken
    have e_starred := r0 starred_ _ (by simp only [List.mem_cons, List.not_mem_nil, or_false, not_or]; exact ⟨(nd_ne ND (i := 19) (j := 0) rfl rfl (by decide)), (nd_ne ND (i := 19) (j := 30) rfl rfl (by decide)), (nd_ne ND (i := 19) (j := 31) rfl rfl (by decide))⟩) p_starred
    have e_sizes := r0 sizes_ _ (by simp only [List.mem_cons, List.not_mem_nil, or_false, not_or]; exact ⟨(nd_ne ND (i := 6) (j := 0) rfl rfl (by decide)), (nd_ne ND (i := 6) (j := 30) rfl rfl (by decide)), (nd_ne ND (i := 6) (j := 31) rfl rfl (by decide))⟩) p_sizes
    have e_live := r0 live_ _ (by simp only [List.mem_cons, List.not_mem_nil, or_false, not_or]; exact ⟨(nd_ne ND (i := 10) (j := 0) rfl rfl (by decide)), (nd_ne ND (i := 10) (j := 30) rfl rfl (by decide)), (nd_ne ND (i := 10) (j := 31) rfl rfl (by decide))⟩) p_live
    have e_weights := r0 weights_ _ (by simp only [List.mem_cons, List.not_mem_nil, or_false, not_or]; exact ⟨(nd_ne ND (i := 7) (j := 0) rfl rfl (by decide)), (nd_ne ND (i := 7) (j := 30) rfl rfl (by decide)), (nd_ne ND (i := 7) (j := 31) rfl rfl (by decide))⟩) p_weights
    refine s_Model_scoreOf_51 l e g_phrases (fun z => absurd z (nI_ge (b := P) (show i < P by omega) (by omega))) (fun z_1 => ?_)
    refine s_Model_scoreOf_60 ?_
    refine lp_sCS (gs := gs) (h0 := h0) (r := r) hP PH hws TR q_phrases q_begins q_lasts q_tokenAt q_tokenSize q_texts q_asked q_firstToken q_starred q_sizes q_live q_weights p_tokenAt p_tokenSize p_texts p_asked p_firstToken p_starred p_sizes p_live p_weights ND hr hz (show i < P by omega) (by omega) (by omega) (fun h8 n8 cl8 fb8 fl8 fs8 a1 a2 a3 a4 a5 a6 hn8 hw8 r8 => ?_) 24 0 _ 0 _ _ _ _ (by omega) l e g_column ga0 e_begins e_lasts (Nat.zero_le _) rfl r0
    have e8_tokenAt := r8 tokenAt_ _ (by simp only [List.mem_cons, List.not_mem_nil, or_false, not_or]; exact ⟨(nd_ne ND (i := 20) (j := 0) rfl rfl (by decide)), (nd_ne ND (i := 20) (j := 30) rfl rfl (by decide)), (nd_ne ND (i := 20) (j := 31) rfl rfl (by decide))⟩) p_tokenAt
    have e8_tokenSize := r8 tokenSize_ _ (by simp only [List.mem_cons, List.not_mem_nil, or_false, not_or]; exact ⟨(nd_ne ND (i := 21) (j := 0) rfl rfl (by decide)), (nd_ne ND (i := 21) (j := 30) rfl rfl (by decide)), (nd_ne ND (i := 21) (j := 31) rfl rfl (by decide))⟩) p_tokenSize
    have e8_texts := r8 texts_ _ (by simp only [List.mem_cons, List.not_mem_nil, or_false, not_or]; exact ⟨(nd_ne ND (i := 5) (j := 0) rfl rfl (by decide)), (nd_ne ND (i := 5) (j := 30) rfl rfl (by decide)), (nd_ne ND (i := 5) (j := 31) rfl rfl (by decide))⟩) p_texts
    have e8_asked := r8 asked_ _ (by simp only [List.mem_cons, List.not_mem_nil, or_false, not_or]; exact ⟨(nd_ne ND (i := 2) (j := 0) rfl rfl (by decide)), (nd_ne ND (i := 2) (j := 30) rfl rfl (by decide)), (nd_ne ND (i := 2) (j := 31) rfl rfl (by decide))⟩) p_asked
    have e8_firstToken := r8 firstToken_ _ (by simp only [List.mem_cons, List.not_mem_nil, or_false, not_or]; exact ⟨(nd_ne ND (i := 18) (j := 0) rfl rfl (by decide)), (nd_ne ND (i := 18) (j := 30) rfl rfl (by decide)), (nd_ne ND (i := 18) (j := 31) rfl rfl (by decide))⟩) p_firstToken
    have e8_starred := r8 starred_ _ (by simp only [List.mem_cons, List.not_mem_nil, or_false, not_or]; exact ⟨(nd_ne ND (i := 19) (j := 0) rfl rfl (by decide)), (nd_ne ND (i := 19) (j := 30) rfl rfl (by decide)), (nd_ne ND (i := 19) (j := 31) rfl rfl (by decide))⟩) p_starred
    have e8_sizes := r8 sizes_ _ (by simp only [List.mem_cons, List.not_mem_nil, or_false, not_or]; exact ⟨(nd_ne ND (i := 6) (j := 0) rfl rfl (by decide)), (nd_ne ND (i := 6) (j := 30) rfl rfl (by decide)), (nd_ne ND (i := 6) (j := 31) rfl rfl (by decide))⟩) p_sizes
    have e8_live := r8 live_ _ (by simp only [List.mem_cons, List.not_mem_nil, or_false, not_or]; exact ⟨(nd_ne ND (i := 10) (j := 0) rfl rfl (by decide)), (nd_ne ND (i := 10) (j := 30) rfl rfl (by decide)), (nd_ne ND (i := 10) (j := 31) rfl rfl (by decide))⟩) p_live
    have e8_weights := r8 weights_ _ (by simp only [List.mem_cons, List.not_mem_nil, or_false, not_or]; exact ⟨(nd_ne ND (i := 7) (j := 0) rfl rfl (by decide)), (nd_ne ND (i := 7) (j := 30) rfl rfl (by decide)), (nd_ne ND (i := 7) (j := 31) rfl rfl (by decide))⟩) p_weights
    have g8_phrases := (a4 34 (by decide)).trans q_phrases
    have g8_begins := (a4 53 (by decide)).trans q_begins
    have g8_lasts := (a4 54 (by decide)).trans q_lasts
    have g8_tokenAt := (a4 43 (by decide)).trans q_tokenAt
    have g8_tokenSize := (a4 44 (by decide)).trans q_tokenSize
    have g8_texts := (a4 7 (by decide)).trans q_texts
    have g8_asked := (a4 4 (by decide)).trans q_asked
    have g8_firstToken := (a4 41 (by decide)).trans q_firstToken
    have g8_starred := (a4 42 (by decide)).trans q_starred
    have g8_sizes := (a4 8 (by decide)).trans q_sizes
    have g8_live := (a4 14 (by decide)).trans q_live
    have g8_weights := (a4 9 (by decide)).trans q_weights
    refine s_Model_scoreOf_114 a1 a2 g8_weights e8_weights (by unfold vp_in; decide) ?_
    obtain ⟨f1, f2, f3, f4⟩ := PH i (by omega)
    obtain ⟨nz_13, hz_14, hzb_15⟩ := hz (2 * r + 0) (by omega)
    refine x_callV (As := [.int (nI i), .int (nI r), .int (nI 0)]) (b := m) (rest := [.int (fw (0 : Int32).toNatClampNeg)]) (F1 := 5) (L1 := 112) (mc := 0) (ms := 0) d_Model_scoreOf_125 cV_Model_336 (f_countInS a1 a2 a3 g8_begins a5 g8_lasts a6 g8_tokenAt e8_tokenAt g8_tokenSize e8_tokenSize g8_texts e8_texts g8_asked e8_asked g8_firstToken e8_firstToken g8_starred e8_starred g8_sizes e8_sizes ND (show i < 12 by omega) f1 f2 f3 f4 hws TR (show r < 24 by omega) (show 0 < 2 by omega) hz_14 hzb_15 (by omega) (by omega)) a2 ⟨by decide, rfl⟩ ⟨by omega, by show 8 + (6 + 11) + 112 ≤ _; omega⟩ ⟨by omega, by omega⟩ (Nat.le_of_ble_eq_true rfl) (fun v_17 h_16 p_18 => ?_)
    obtain ⟨rfl, cl_2, fb_3, fl_4, fs_5, l_6, e_7, g_8, ga_9, eb_10, el_11, r_12⟩ := p_18
    rw [show cP (SdP ws (A i) (N i) (Bb i) (Tw ft fz r 0)) (Tw ft fz r 0).length = cnR ws A N Bb ft fz i r 0 from rfl]
    have e_19 := r_12 tokenAt_ _ (by simp only [List.mem_cons, List.not_mem_nil, or_false, not_or]; exact ⟨(Ne.symm (nd_ne ND (i := 0) (j := 20) rfl rfl (by decide))), (Ne.symm (nd_ne ND (i := 30) (j := 20) rfl rfl (by decide))), (Ne.symm (nd_ne ND (i := 31) (j := 20) rfl rfl (by decide)))⟩) e8_tokenAt
    have e_20 := r_12 tokenSize_ _ (by simp only [List.mem_cons, List.not_mem_nil, or_false, not_or]; exact ⟨(Ne.symm (nd_ne ND (i := 0) (j := 21) rfl rfl (by decide))), (Ne.symm (nd_ne ND (i := 30) (j := 21) rfl rfl (by decide))), (Ne.symm (nd_ne ND (i := 31) (j := 21) rfl rfl (by decide)))⟩) e8_tokenSize
    have e_21 := r_12 texts_ _ (by simp only [List.mem_cons, List.not_mem_nil, or_false, not_or]; exact ⟨(Ne.symm (nd_ne ND (i := 0) (j := 5) rfl rfl (by decide))), (Ne.symm (nd_ne ND (i := 30) (j := 5) rfl rfl (by decide))), (Ne.symm (nd_ne ND (i := 31) (j := 5) rfl rfl (by decide)))⟩) e8_texts
    have e_22 := r_12 asked_ _ (by simp only [List.mem_cons, List.not_mem_nil, or_false, not_or]; exact ⟨(Ne.symm (nd_ne ND (i := 0) (j := 2) rfl rfl (by decide))), (Ne.symm (nd_ne ND (i := 30) (j := 2) rfl rfl (by decide))), (Ne.symm (nd_ne ND (i := 31) (j := 2) rfl rfl (by decide)))⟩) e8_asked
    have e_23 := r_12 firstToken_ _ (by simp only [List.mem_cons, List.not_mem_nil, or_false, not_or]; exact ⟨(Ne.symm (nd_ne ND (i := 0) (j := 18) rfl rfl (by decide))), (Ne.symm (nd_ne ND (i := 30) (j := 18) rfl rfl (by decide))), (Ne.symm (nd_ne ND (i := 31) (j := 18) rfl rfl (by decide)))⟩) e8_firstToken
    have e_24 := r_12 starred_ _ (by simp only [List.mem_cons, List.not_mem_nil, or_false, not_or]; exact ⟨(Ne.symm (nd_ne ND (i := 0) (j := 19) rfl rfl (by decide))), (Ne.symm (nd_ne ND (i := 30) (j := 19) rfl rfl (by decide))), (Ne.symm (nd_ne ND (i := 31) (j := 19) rfl rfl (by decide)))⟩) e8_starred
    have e_25 := r_12 sizes_ _ (by simp only [List.mem_cons, List.not_mem_nil, or_false, not_or]; exact ⟨(Ne.symm (nd_ne ND (i := 0) (j := 6) rfl rfl (by decide))), (Ne.symm (nd_ne ND (i := 30) (j := 6) rfl rfl (by decide))), (Ne.symm (nd_ne ND (i := 31) (j := 6) rfl rfl (by decide)))⟩) e8_sizes
    have e_26 := r_12 live_ _ (by simp only [List.mem_cons, List.not_mem_nil, or_false, not_or]; exact ⟨(Ne.symm (nd_ne ND (i := 0) (j := 10) rfl rfl (by decide))), (Ne.symm (nd_ne ND (i := 30) (j := 10) rfl rfl (by decide))), (Ne.symm (nd_ne ND (i := 31) (j := 10) rfl rfl (by decide)))⟩) e8_live
    have e_27 := r_12 weights_ _ (by simp only [List.mem_cons, List.not_mem_nil, or_false, not_or]; exact ⟨(Ne.symm (nd_ne ND (i := 0) (j := 7) rfl rfl (by decide))), (Ne.symm (nd_ne ND (i := 30) (j := 7) rfl rfl (by decide))), (Ne.symm (nd_ne ND (i := 31) (j := 7) rfl rfl (by decide)))⟩) e8_weights
    have r_28 := r8.trans (r_12.mono (by simp))
    have g_29 : fs_5[(34 : Nat)]? = some (.int (nI P)) := (ga_9 34 (by decide)).trans g8_phrases
    have g_30 : fs_5[(53 : Nat)]? = some (.ref begins_) := (ga_9 53 (by decide)).trans g8_begins
    have g_31 : fs_5[(54 : Nat)]? = some (.ref lasts_) := (ga_9 54 (by decide)).trans g8_lasts
    have g_32 : fs_5[(43 : Nat)]? = some (.ref tokenAt_) := (ga_9 43 (by decide)).trans g8_tokenAt
    have g_33 : fs_5[(44 : Nat)]? = some (.ref tokenSize_) := (ga_9 44 (by decide)).trans g8_tokenSize
    have g_34 : fs_5[(7 : Nat)]? = some (.ref texts_) := (ga_9 7 (by decide)).trans g8_texts
    have g_35 : fs_5[(4 : Nat)]? = some (.ref asked_) := (ga_9 4 (by decide)).trans g8_asked
    have g_36 : fs_5[(41 : Nat)]? = some (.ref firstToken_) := (ga_9 41 (by decide)).trans g8_firstToken
    have g_37 : fs_5[(42 : Nat)]? = some (.ref starred_) := (ga_9 42 (by decide)).trans g8_starred
    have g_38 : fs_5[(8 : Nat)]? = some (.ref sizes_) := (ga_9 8 (by decide)).trans g8_sizes
    have g_39 : fs_5[(14 : Nat)]? = some (.ref live_) := (ga_9 14 (by decide)).trans g8_live
    have g_40 : fs_5[(9 : Nat)]? = some (.ref weights_) := (ga_9 9 (by decide)).trans g8_weights
    have ga_41 : ∀ i : Nat, i ∉ [55] → fs_5[i]? = gs[i]? := fun i hi => (ga_9 i (fun z => hi (by simp only [List.mem_cons, List.not_mem_nil, or_false] at z ⊢; omega))).trans (a4 i hi)
    refine s_Model_scoreOf_128 l_6 e_7 g_40 e_27 (by unfold vp_in; decide) ?_
    obtain ⟨nz_53, hz_54, hzb_55⟩ := hz (2 * r + 1) (by omega)
    refine x_callV (As := [.int (nI i), .int (nI r), .int (nI 1)]) (b := m) (rest := [.int (fw (1 : Int32).toNatClampNeg), .int ((fw (0 : Int32).toNatClampNeg) * (nI (cnR ws A N Bb ft fz i r 0)))]) (F1 := 5) (L1 := 112) (mc := 0) (ms := 0) d_Model_scoreOf_140 cV_Model_336 (f_countInS l_6 e_7 g_8 g_30 eb_10 g_31 el_11 g_32 e_19 g_33 e_20 g_34 e_21 g_35 e_22 g_36 e_23 g_37 e_24 g_38 e_25 ND (show i < 12 by omega) f1 f2 f3 f4 hws TR (show r < 24 by omega) (show 1 < 2 by omega) hz_54 hzb_55 (by omega) (by omega)) e_7 ⟨by decide, rfl⟩ ⟨by omega, by show 8 + (6 + 11) + 112 ≤ _; omega⟩ ⟨by omega, by omega⟩ (Nat.le_of_ble_eq_true rfl) (fun v_57 h_56 p_58 => ?_)
    obtain ⟨rfl, cl_42, fb_43, fl_44, fs_45, l_46, e_47, g_48, ga_49, eb_50, el_51, r_52⟩ := p_58
    rw [show cP (SdP ws (A i) (N i) (Bb i) (Tw ft fz r 1)) (Tw ft fz r 1).length = cnR ws A N Bb ft fz i r 1 from rfl]
    have e_59 := r_52 tokenAt_ _ (by simp only [List.mem_cons, List.not_mem_nil, or_false, not_or]; exact ⟨(Ne.symm (nd_ne ND (i := 0) (j := 20) rfl rfl (by decide))), (Ne.symm (nd_ne ND (i := 30) (j := 20) rfl rfl (by decide))), (Ne.symm (nd_ne ND (i := 31) (j := 20) rfl rfl (by decide)))⟩) e_19
    have e_60 := r_52 tokenSize_ _ (by simp only [List.mem_cons, List.not_mem_nil, or_false, not_or]; exact ⟨(Ne.symm (nd_ne ND (i := 0) (j := 21) rfl rfl (by decide))), (Ne.symm (nd_ne ND (i := 30) (j := 21) rfl rfl (by decide))), (Ne.symm (nd_ne ND (i := 31) (j := 21) rfl rfl (by decide)))⟩) e_20
    have e_61 := r_52 texts_ _ (by simp only [List.mem_cons, List.not_mem_nil, or_false, not_or]; exact ⟨(Ne.symm (nd_ne ND (i := 0) (j := 5) rfl rfl (by decide))), (Ne.symm (nd_ne ND (i := 30) (j := 5) rfl rfl (by decide))), (Ne.symm (nd_ne ND (i := 31) (j := 5) rfl rfl (by decide)))⟩) e_21
    have e_62 := r_52 asked_ _ (by simp only [List.mem_cons, List.not_mem_nil, or_false, not_or]; exact ⟨(Ne.symm (nd_ne ND (i := 0) (j := 2) rfl rfl (by decide))), (Ne.symm (nd_ne ND (i := 30) (j := 2) rfl rfl (by decide))), (Ne.symm (nd_ne ND (i := 31) (j := 2) rfl rfl (by decide)))⟩) e_22
    have e_63 := r_52 firstToken_ _ (by simp only [List.mem_cons, List.not_mem_nil, or_false, not_or]; exact ⟨(Ne.symm (nd_ne ND (i := 0) (j := 18) rfl rfl (by decide))), (Ne.symm (nd_ne ND (i := 30) (j := 18) rfl rfl (by decide))), (Ne.symm (nd_ne ND (i := 31) (j := 18) rfl rfl (by decide)))⟩) e_23
    have e_64 := r_52 starred_ _ (by simp only [List.mem_cons, List.not_mem_nil, or_false, not_or]; exact ⟨(Ne.symm (nd_ne ND (i := 0) (j := 19) rfl rfl (by decide))), (Ne.symm (nd_ne ND (i := 30) (j := 19) rfl rfl (by decide))), (Ne.symm (nd_ne ND (i := 31) (j := 19) rfl rfl (by decide)))⟩) e_24
    have e_65 := r_52 sizes_ _ (by simp only [List.mem_cons, List.not_mem_nil, or_false, not_or]; exact ⟨(Ne.symm (nd_ne ND (i := 0) (j := 6) rfl rfl (by decide))), (Ne.symm (nd_ne ND (i := 30) (j := 6) rfl rfl (by decide))), (Ne.symm (nd_ne ND (i := 31) (j := 6) rfl rfl (by decide)))⟩) e_25
    have e_66 := r_52 live_ _ (by simp only [List.mem_cons, List.not_mem_nil, or_false, not_or]; exact ⟨(Ne.symm (nd_ne ND (i := 0) (j := 10) rfl rfl (by decide))), (Ne.symm (nd_ne ND (i := 30) (j := 10) rfl rfl (by decide))), (Ne.symm (nd_ne ND (i := 31) (j := 10) rfl rfl (by decide)))⟩) e_26
    have e_67 := r_52 weights_ _ (by simp only [List.mem_cons, List.not_mem_nil, or_false, not_or]; exact ⟨(Ne.symm (nd_ne ND (i := 0) (j := 7) rfl rfl (by decide))), (Ne.symm (nd_ne ND (i := 30) (j := 7) rfl rfl (by decide))), (Ne.symm (nd_ne ND (i := 31) (j := 7) rfl rfl (by decide)))⟩) e_27
    have r_68 := r_28.trans (r_52.mono (by simp))
    have g_69 : fs_45[(34 : Nat)]? = some (.int (nI P)) := (ga_49 34 (by decide)).trans g_29
    have g_70 : fs_45[(53 : Nat)]? = some (.ref begins_) := (ga_49 53 (by decide)).trans g_30
    have g_71 : fs_45[(54 : Nat)]? = some (.ref lasts_) := (ga_49 54 (by decide)).trans g_31
    have g_72 : fs_45[(43 : Nat)]? = some (.ref tokenAt_) := (ga_49 43 (by decide)).trans g_32
    have g_73 : fs_45[(44 : Nat)]? = some (.ref tokenSize_) := (ga_49 44 (by decide)).trans g_33
    have g_74 : fs_45[(7 : Nat)]? = some (.ref texts_) := (ga_49 7 (by decide)).trans g_34
    have g_75 : fs_45[(4 : Nat)]? = some (.ref asked_) := (ga_49 4 (by decide)).trans g_35
    have g_76 : fs_45[(41 : Nat)]? = some (.ref firstToken_) := (ga_49 41 (by decide)).trans g_36
    have g_77 : fs_45[(42 : Nat)]? = some (.ref starred_) := (ga_49 42 (by decide)).trans g_37
    have g_78 : fs_45[(8 : Nat)]? = some (.ref sizes_) := (ga_49 8 (by decide)).trans g_38
    have g_79 : fs_45[(14 : Nat)]? = some (.ref live_) := (ga_49 14 (by decide)).trans g_39
    have g_80 : fs_45[(9 : Nat)]? = some (.ref weights_) := (ga_49 9 (by decide)).trans g_40
    have ga_81 : ∀ i : Nat, i ∉ [55] → fs_45[i]? = gs[i]? := fun i hi => (ga_49 i (fun z => hi (by simp only [List.mem_cons, List.not_mem_nil, or_false] at z ⊢; omega))).trans (ga_41 i hi)
    refine s_Model_scoreOf_143 ?_
    rw [show fw (0 : Int32).toNatClampNeg * nI (cnR ws A N Bb ft fz i r 0) + fw (1 : Int32).toNatClampNeg * nI (cnR ws A N Bb ft fz i r 1) = nI (w0 * (cnR ws A N Bb ft fz i r 0) + w1 * (cnR ws A N Bb ft fz i r 1)) by rw [show fw (0 : Int32).toNatClampNeg = nI w0 from hw0, show fw (1 : Int32).toNatClampNeg = nI w1 from hw1, pk_mul, pk_mul, nI_add]]
    have hb0 := cnR_le (ws := ws) (A := A) (N := N) (Bb := Bb) (ft := ft) (p := i) (c := 0) hz hr (by decide)
    have hb1 := cnR_le (ws := ws) (A := A) (N := N) (Bb := Bb) (ft := ft) (p := i) (c := 1) hz hr (by decide)
    obtain ⟨hwq1, hwq2⟩ := wq hw0b hw1b hb0 hb1
    have hb2 : (cnR ws A N Bb ft fz i r 0) ≤ (Tw ft fz r 0).length := cP_le _
    have hb3 : (cnR ws A N Bb ft fz i r 1) ≤ (Tw ft fz r 1).length := cP_le _
    obtain ⟨tt, htt⟩ : ∃ tt, tt = w0 * (cnR ws A N Bb ft fz i r 0) + w1 * (cnR ws A N Bb ft fz i r 1) := ⟨_, rfl⟩
    have hfq : fqR ws A N Bb ft fz w0 w1 i r = tt := htt.symm
    rw [← htt] at hwq1 hwq2 ⊢
    refine x_callV (As := [.int (nI r)]) (b := m) (rest := []) (F1 := 4) (L1 := 87) (mc := 0) (ms := 0) d_Model_scoreOf_150 cV_Model_184 (f_tokensOf l_46 e_47 g_48 g_74 e_61 g_78 e_65 g_70 eb_50 g_71 el_51 (nd_ne ND (i := 30) (j := 31) rfl rfl (by decide)) (show r < 24 by omega) hz (by omega) (by omega)) e_47 ⟨by decide, rfl⟩ ⟨by omega, by show 8 + (3 + 11) + 87 ≤ _; omega⟩ ⟨by omega, by omega⟩ (Nat.le_of_ble_eq_true rfl) (fun v_97 h_96 p_98 => ?_)
    obtain ⟨k_82, fb_86, fl_87, fs_88, rfl, hk_83, hk48_84, l_89, e_90, ⟨cl_85, g_91⟩, ga_92, eb_93, el_94, r_95⟩ := p_98
    have e_99 := r_95 tokenAt_ _ (by simp only [List.mem_cons, List.not_mem_nil, or_false, not_or]; exact ⟨(Ne.symm (nd_ne ND (i := 0) (j := 20) rfl rfl (by decide))), (Ne.symm (nd_ne ND (i := 30) (j := 20) rfl rfl (by decide))), (Ne.symm (nd_ne ND (i := 31) (j := 20) rfl rfl (by decide)))⟩) e_59
    have e_100 := r_95 tokenSize_ _ (by simp only [List.mem_cons, List.not_mem_nil, or_false, not_or]; exact ⟨(Ne.symm (nd_ne ND (i := 0) (j := 21) rfl rfl (by decide))), (Ne.symm (nd_ne ND (i := 30) (j := 21) rfl rfl (by decide))), (Ne.symm (nd_ne ND (i := 31) (j := 21) rfl rfl (by decide)))⟩) e_60
    have e_101 := r_95 texts_ _ (by simp only [List.mem_cons, List.not_mem_nil, or_false, not_or]; exact ⟨(Ne.symm (nd_ne ND (i := 0) (j := 5) rfl rfl (by decide))), (Ne.symm (nd_ne ND (i := 30) (j := 5) rfl rfl (by decide))), (Ne.symm (nd_ne ND (i := 31) (j := 5) rfl rfl (by decide)))⟩) e_61
    have e_102 := r_95 asked_ _ (by simp only [List.mem_cons, List.not_mem_nil, or_false, not_or]; exact ⟨(Ne.symm (nd_ne ND (i := 0) (j := 2) rfl rfl (by decide))), (Ne.symm (nd_ne ND (i := 30) (j := 2) rfl rfl (by decide))), (Ne.symm (nd_ne ND (i := 31) (j := 2) rfl rfl (by decide)))⟩) e_62
    have e_103 := r_95 firstToken_ _ (by simp only [List.mem_cons, List.not_mem_nil, or_false, not_or]; exact ⟨(Ne.symm (nd_ne ND (i := 0) (j := 18) rfl rfl (by decide))), (Ne.symm (nd_ne ND (i := 30) (j := 18) rfl rfl (by decide))), (Ne.symm (nd_ne ND (i := 31) (j := 18) rfl rfl (by decide)))⟩) e_63
    have e_104 := r_95 starred_ _ (by simp only [List.mem_cons, List.not_mem_nil, or_false, not_or]; exact ⟨(Ne.symm (nd_ne ND (i := 0) (j := 19) rfl rfl (by decide))), (Ne.symm (nd_ne ND (i := 30) (j := 19) rfl rfl (by decide))), (Ne.symm (nd_ne ND (i := 31) (j := 19) rfl rfl (by decide)))⟩) e_64
    have e_105 := r_95 sizes_ _ (by simp only [List.mem_cons, List.not_mem_nil, or_false, not_or]; exact ⟨(Ne.symm (nd_ne ND (i := 0) (j := 6) rfl rfl (by decide))), (Ne.symm (nd_ne ND (i := 30) (j := 6) rfl rfl (by decide))), (Ne.symm (nd_ne ND (i := 31) (j := 6) rfl rfl (by decide)))⟩) e_65
    have e_106 := r_95 live_ _ (by simp only [List.mem_cons, List.not_mem_nil, or_false, not_or]; exact ⟨(Ne.symm (nd_ne ND (i := 0) (j := 10) rfl rfl (by decide))), (Ne.symm (nd_ne ND (i := 30) (j := 10) rfl rfl (by decide))), (Ne.symm (nd_ne ND (i := 31) (j := 10) rfl rfl (by decide)))⟩) e_66
    have e_107 := r_95 weights_ _ (by simp only [List.mem_cons, List.not_mem_nil, or_false, not_or]; exact ⟨(Ne.symm (nd_ne ND (i := 0) (j := 7) rfl rfl (by decide))), (Ne.symm (nd_ne ND (i := 30) (j := 7) rfl rfl (by decide))), (Ne.symm (nd_ne ND (i := 31) (j := 7) rfl rfl (by decide)))⟩) e_67
    have r_108 := r_68.trans (r_95.mono (by simp))
    have g_109 : fs_88[(34 : Nat)]? = some (.int (nI P)) := (ga_92 34 (by decide)).trans g_69
    have g_110 : fs_88[(53 : Nat)]? = some (.ref begins_) := (ga_92 53 (by decide)).trans g_70
    have g_111 : fs_88[(54 : Nat)]? = some (.ref lasts_) := (ga_92 54 (by decide)).trans g_71
    have g_112 : fs_88[(43 : Nat)]? = some (.ref tokenAt_) := (ga_92 43 (by decide)).trans g_72
    have g_113 : fs_88[(44 : Nat)]? = some (.ref tokenSize_) := (ga_92 44 (by decide)).trans g_73
    have g_114 : fs_88[(7 : Nat)]? = some (.ref texts_) := (ga_92 7 (by decide)).trans g_74
    have g_115 : fs_88[(4 : Nat)]? = some (.ref asked_) := (ga_92 4 (by decide)).trans g_75
    have g_116 : fs_88[(41 : Nat)]? = some (.ref firstToken_) := (ga_92 41 (by decide)).trans g_76
    have g_117 : fs_88[(42 : Nat)]? = some (.ref starred_) := (ga_92 42 (by decide)).trans g_77
    have g_118 : fs_88[(8 : Nat)]? = some (.ref sizes_) := (ga_92 8 (by decide)).trans g_78
    have g_119 : fs_88[(14 : Nat)]? = some (.ref live_) := (ga_92 14 (by decide)).trans g_79
    have g_120 : fs_88[(9 : Nat)]? = some (.ref weights_) := (ga_92 9 (by decide)).trans g_80
    have ga_121 : ∀ i : Nat, i ∉ [55] → fs_88[i]? = gs[i]? := fun i hi => (ga_92 i (fun z => hi (by simp only [List.mem_cons, List.not_mem_nil, or_false] at z ⊢; omega))).trans (ga_81 i hi)
    refine s_Model_scoreOf_153 (NN.num (nn_ddiv (fi_i2d (by omega)) (meB.po ((me_i2d rw_ (by omega)).resolve_left (by omega))))) (fun z_122 => ?_) (fun z_123 => ?_)
    · skip
      have htt1 : 1 ≤ tt := by rcases Nat.eq_zero_or_pos tt with q | q; (exact absurd (by rw [q]; exact cmp0) z_122); (exact q)
      have hT2 : tR = tk1 ft fz r := tk1_eq hTR
      have hT3 : tk1 ft fz r = (Tw ft fz r 0).length + (Tw ft fz r 1).length := rfl
      have hq9 := hwq2 htt1
      have hal1 : 1 ≤ al := by omega
      obtain ⟨k1, k2, k3, y8, hF2, hy8⟩ := lg_of (r := rw_) (w := n8) (by omega) (by omega)
      have hra := ra_lg (r := rw_) (w := n8) (by omega) (by omega) hF2
      refine s_Model_scoreOf_175 (n64.of k1) (n64.of k2) (n64.of k3) ?_
      refine x_callS (As := [.double (FP.ddiv (FP.dadd (FP.i2d ((nI rw_) - (nI n8))) 4602678819172646912) (FP.dadd (FP.i2d (nI n8)) 4602678819172646912))]) (rest := []) (F1 := 1) (L1 := 20) (mc := 0) (ms := 0) d_Model_scoreOf_193 cS_Model_342 (f_logarithm hF2 (by omega) (by omega)) ⟨by omega, by show 8 + (12 + 11) + 20 ≤ _; omega⟩ ⟨by omega, by omega⟩ (Nat.le_of_ble_eq_true rfl) (fun v_125 h_124 p_126 => ?_)
      obtain ⟨rfl, rfl⟩ := p_126
      refine x_le (xw_le_s (xw_le_s (xw_le_s (xw_le_n (xw_le_s (xw_le_s (xw_le_s (xw_le_n (xw_le_s (xw_le_n (xw_le_s (xw_le_n (xw_le_s (xw_le_n (xw_le_n (xw_le_n xw_le_e)))))))))))))))) ?_
      refine s_Model_scoreOf_196 (fun z_127 => ?_) (fun z_128 => ?_)
      · skip
        rw [if_pos z_127] at hra
        have hd9 : k_82 = tR := hk_83.trans hTR.symm
        obtain ⟨A0, A1, A2, A3, A4, A5, A6, A7, A8⟩ := sc_all (t := tt) (d := k_82) (al := al) (rw' := rw_) (x2 := sm) htt1 (by omega) (by omega) hal1 (by omega) hrw1 (by omega) (hy8.resolve_left (fun q => absurd z_127 (Int32.not_lt.mpr q))) hNN
        refine s_Model_scoreOf_210 (NN.num A0) (NN.num A1) (NN.num A2) (NN.num A3) (NN.num A4) (NN.num A5) (NN.num A6) (NN.num A7) (NN.num A8) ?_
        refine s_Model_scoreOf_243 ?_
        rw [nI_1]
        exact ih (i + 1) _ _ _ _ _ _ (by omega) l_89 e_90 g_91 ga_121 eb_93 el_94 A8 (by rw [scN_y (fr := fun q => fqR ws A N Bb ft fz w0 w1 q r) (p := i) (show ¬ fqR ws A N Bb ft fz w0 w1 i r = 0 from by rw [hfq]; omega), ← hSM]; rw [hfq, ← hw8, hra, ← hd9]; rfl) r_108
      · skip
        refine s_Model_scoreOf_205 ?_
        rw [if_neg z_128] at hra
        have hd9 : k_82 = tR := hk_83.trans hTR.symm
        obtain ⟨A0, A1, A2, A3, A4, A5, A6, A7, A8⟩ := sc_all (t := tt) (d := k_82) (al := al) (rw' := rw_) (x2 := sm) htt1 (by omega) (by omega) hal1 (by omega) hrw1 (by omega) (show smB 4517329193108106637 = true by decide +kernel) hNN
        refine s_Model_scoreOf_210 (NN.num A0) (NN.num A1) (NN.num A2) (NN.num A3) (NN.num A4) (NN.num A5) (NN.num A6) (NN.num A7) (NN.num A8) ?_
        refine s_Model_scoreOf_243 ?_
        rw [nI_1]
        exact ih (i + 1) _ _ _ _ _ _ (by omega) l_89 e_90 g_91 ga_121 eb_93 el_94 A8 (by rw [scN_y (fr := fun q => fqR ws A N Bb ft fz w0 w1 q r) (p := i) (show ¬ fqR ws A N Bb ft fz w0 w1 i r = 0 from by rw [hfq]; omega), ← hSM]; rw [hfq, ← hw8, hra, ← hd9]; rfl) r_108
    · skip
      refine s_Model_scoreOf_172 ?_
      refine s_Model_scoreOf_243 ?_
      rw [nI_1]
      have ht0 : tt = 0 := by rcases Nat.eq_zero_or_pos tt with q | q; (exact q); (exact absurd z_123 (i2d_pos tt q (by omega)))
      exact ih (i + 1) _ _ _ _ _ _ (by omega) l_89 e_90 g_91 ga_121 eb_93 el_94 hNN (by rw [scN_n (fr := fun q => fqR ws A N Bb ft fz w0 w1 q r) (p := i) (show fqR ws A N Bb ft fz w0 w1 i r = 0 from by rw [hfq]; exact ht0)]; exact hSM) r_108
set_option maxHeartbeats 2000000 in
theorem f_scoreOfS {G : xw_G} {F L : Nat} {h : xw_A} {m draft_ asked_ prepared_ preparedSize_ texts_ sizes_ weights_ entries_ lies_ live_ row_ level_ oldTexts_ oldSizes_ oldLies_ oldLive_ oldRow_ firstToken_ starred_ tokenAt_ tokenSize_ groupKind_ groupPhrase_ groupSize_ groupMask_ groupFar_ out_ top_ masks_ begins_ lasts_ truth_ answers_ order_ scores_ : Nat} {fb fl ca cs ft fa c1 c2 fz fv fw : Nat → Int32} {cl : Int32} {ws : List (List Int32)} {t P : Nat} {A N : Nat → Nat} {Bb : Nat → Bool} (hP : P ≤ 12) (PH : PhA ws c1 c2 P A N Bb) (hws : ws.length ≤ 49) (TR : TkR ws t ca cs fa) {r : Nat} {fs : List Value} (l : fs.length = 62) (e : h m = some (.inr (11, fs))) (g_column : fs[(55 : Nat)]? = some (.int cl)) (g_phrases : fs[(34 : Nat)]? = some (.int (nI P))) (g_begins : fs[(53 : Nat)]? = some (.ref begins_)) (e_begins : h begins_ = some (.inl (0, 24, .inl fb))) (g_lasts : fs[(54 : Nat)]? = some (.ref lasts_)) (e_lasts : h lasts_ = some (.inl (0, 24, .inl fl))) (g_tokenAt : fs[(43 : Nat)]? = some (.ref tokenAt_)) (e_tokenAt : h tokenAt_ = some (.inl (0, 60, .inl ca))) (g_tokenSize : fs[(44 : Nat)]? = some (.ref tokenSize_)) (e_tokenSize : h tokenSize_ = some (.inl (0, 60, .inl cs))) (g_texts : fs[(7 : Nat)]? = some (.ref texts_)) (e_texts : h texts_ = some (.inl (0, 2304, .inl ft))) (g_asked : fs[(4 : Nat)]? = some (.ref asked_)) (e_asked : h asked_ = some (.inl (0, 96, .inl fa))) (g_firstToken : fs[(41 : Nat)]? = some (.ref firstToken_)) (e_firstToken : h firstToken_ = some (.inl (0, 13, .inl c1))) (g_starred : fs[(42 : Nat)]? = some (.ref starred_)) (e_starred : h starred_ = some (.inl (0, 13, .inl c2))) (g_sizes : fs[(8 : Nat)]? = some (.ref sizes_)) (e_sizes : h sizes_ = some (.inl (0, 48, .inl fz))) (g_live : fs[(14 : Nat)]? = some (.ref live_)) (e_live : h live_ = some (.inl (0, 24, .inl fv))) (g_weights : fs[(9 : Nat)]? = some (.ref weights_)) (e_weights : h weights_ = some (.inl (0, 2, .inl fw))) (ND : NDl [m, draft_, asked_, prepared_, preparedSize_, texts_, sizes_, weights_, entries_, lies_, live_, row_, level_, oldTexts_, oldSizes_, oldLies_, oldLive_, oldRow_, firstToken_, starred_, tokenAt_, tokenSize_, groupKind_, groupPhrase_, groupSize_, groupMask_, groupFar_, out_, top_, masks_, begins_, lasts_, truth_, answers_, order_, scores_]) (hr : r < 24) (hz : SZo fz 48) (hlv : ¬ fv r < 0) {w0 w1 : Nat} (hw0 : fw 0 = nI w0 ∧ w0 ≤ 9) (hw1 : fw 1 = nI w1 ∧ w1 ≤ 9) (hF : 6 ≤ F) (hL : 137 ≤ L) :
    xw_Met G m_Model_scoreOf F L 0 0 [.ref m, .int (nI r)] h (fun v h' => v = some (.double (scM ws A N Bb ft fz fv w0 w1 P r)) ∧ EvP m begins_ lasts_ fs h h') (fun _ _ => False) := by
  refine xw_Met.of rfl (by decide) (Nat.le_of_ble_eq_true rfl) ?_
  refine s_Model_scoreOf_0 ?_
  refine x_callV (As := []) (b := m) (rest := []) (F1 := 1) (L1 := 20) (mc := 0) (ms := 0) d_Model_scoreOf_6 cV_Model_209 (f_rows l e g_live e_live (by omega) (by omega)) e ⟨by decide, rfl⟩ ⟨by omega, by show 8 + (3 + 11) + 20 ≤ _; omega⟩ ⟨by omega, by omega⟩ (Nat.le_of_ble_eq_true rfl) (fun v_2 h_1 p_3 => ?_)
  obtain ⟨⟨rw_, rfl, hrw2, hrw3⟩, rfl⟩ := p_3
  refine s_Model_scoreOf_9 ?_
  have hrw1 : 1 ≤ rw_ := by rw [hrw3]; exact cntL_pos hlv 24 hr
  refine lp_sAS (gs := fs) (h0 := h) hP PH hws TR g_phrases g_begins g_lasts g_tokenAt g_tokenSize g_texts g_asked g_firstToken g_starred g_sizes g_live g_weights e_tokenAt e_tokenSize e_texts e_asked e_firstToken e_starred e_sizes e_live e_weights ND hr hz rfl hlv (by omega) (by omega) (fun h8 al8 cl8 fb8 fl8 fs8 a1 a2 a3 a4 a5 a6 hal8 hta8 hAL8 r8 => ?_) 24 0 _ 0 _ _ _ _ (by omega) l e g_column (fun _ _ => rfl) e_begins e_lasts (Nat.zero_le _) (fun q => absurd q (Nat.not_lt_zero _)) rfl FrO.rf
  refine s_Model_scoreOf_48 ?_
  have hT9 := tk1_eq (ft := ft) (fz := fz) (r := r) rfl
  exact lp_sBS (gs := fs) (h0 := h) hP PH hws TR g_phrases g_begins g_lasts g_tokenAt g_tokenSize g_texts g_asked g_firstToken g_starred g_sizes g_live g_weights e_tokenAt e_tokenSize e_texts e_asked e_firstToken e_starred e_sizes e_live e_weights ND hr hz hw0.1 hw0.2 hw1.1 hw1.2 hrw1 hrw2 hrw3 rfl hal8 hta8 (by omega) (by omega) (fun h9 sm9 cl9 fb9 fl9 fs9 b1 b2 b3 b4 b5 b6 hNN9 hSM9 r9 => ⟨congrArg (fun z => some (Value.double z)) (by rw [hSM9]; unfold scM; rw [← hrw3, ← hAL8, hT9]), cl9, fb9, fl9, fs9, b1, b2, b3, b4, b5, b6, r9⟩) P 0 _ _ _ _ _ _ (Nat.zero_add _) a1 a2 a3 a4 a5 a6 nn0 rfl r8
