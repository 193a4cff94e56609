set_option maxHeartbeats 1000000 in
theorem lp_ciS {G : xw_G} {F L bc bs : Nat} {pr : Option Value → xw_A → Prop} {px : String → xw_A → Prop} {h : xw_A} {m begins_ lasts_ tokenAt_ tokenSize_ texts_ asked_ firstToken_ starred_ : Nat} {fb fl ca cs ft fa c1 c2 : Nat → Int32} {k : Nat} {fs : List Value} (l : fs.length = 62) (e : h m = some (.inr (11, fs))) (g_column : fs[(55 : Nat)]? = some (.int (nI k))) (g_begins : fs[(53 : Nat)]? = some (.ref begins_)) (e_begins : h begins_ = some (.inl (0, 24, .inl fb))) (g_lasts : fs[(54 : Nat)]? = some (.ref lasts_)) (e_lasts : h lasts_ = some (.inl (0, 24, .inl fl))) (g_tokenAt : fs[(43 : Nat)]? = some (.ref tokenAt_)) (e_tokenAt : h tokenAt_ = some (.inl (0, 60, .inl ca))) (g_tokenSize : fs[(44 : Nat)]? = some (.ref tokenSize_)) (e_tokenSize : h tokenSize_ = some (.inl (0, 60, .inl cs))) (g_texts : fs[(7 : Nat)]? = some (.ref texts_)) (e_texts : h texts_ = some (.inl (0, 2304, .inl ft))) (g_asked : fs[(4 : Nat)]? = some (.ref asked_)) (e_asked : h asked_ = some (.inl (0, 96, .inl fa))) (g_firstToken : fs[(41 : Nat)]? = some (.ref firstToken_)) (e_firstToken : h firstToken_ = some (.inl (0, 13, .inl c1))) (g_starred : fs[(42 : Nat)]? = some (.ref starred_)) (e_starred : h starred_ = some (.inl (0, 13, .inl c2))) {ws : List (List Int32)} {p a n t : Nat} {b : Bool} (hp : p < 12) (h1 : c1 p = nI a) (h2 : c1 (p + 1) = nI (a + n)) (h3 : c2 p = b01 b) (hat : a + n ≤ ws.length) (hws : ws.length ≤ 49) (TR : TkR ws t ca cs fa) {T : List (List Int32)} (TP : TpX T k ft fb fl) (hk : k ≤ 24)  (hF : 5 ≤ F) (hL : 112 ≤ L) (kk : pr (some (.int (nI (cP (SdP ws a n b T) k)))) h) :
    ∀ (dd i : Nat) (c : Nat), i + dd = k → c = cP (SdP ws a n b T) i → xw G m_Model_countIn F L bc bs pr px 12 [some (.ref m), some (.int (nI p)), none, none, some (.int (nI c)), some (.int (nI i))] [] h := by
  intro dd
  induction dd with
  | zero =>
    intro i c hi hp_
    obtain rfl : i = k := by omega
    refine s_Model_countIn_12 l e g_column (fun z_1 => ?_) (fun z => absurd (nI_le (Nat.le_refl _) (by omega)) z)
    refine s_Model_countIn_40 ?_
    rw [hp_]
    exact kk
  | succ dd ih =>
    intro i c hi hp_
    refine s_Model_countIn_12 l e g_column (fun z => absurd z (nI_ge (b := k) (show i < k by omega) (by omega))) (fun z_1 => ?_)
    refine s_Model_countIn_21 ?_
    refine x_callV (As := [.int (nI p), .int (nI i)]) (b := m) (rest := []) (F1 := 4) (L1 := 87) (mc := 0) (ms := 0) d_Model_countIn_25 cV_Model_316 (f_standsH l e g_column g_begins e_begins g_lasts e_lasts g_tokenAt e_tokenAt g_tokenSize e_tokenSize g_texts e_texts g_asked e_asked g_firstToken e_firstToken g_starred e_starred hp h1 h2 h3 hat hws TR TP hk (show i < 25 by omega) (by omega) (by omega)) e ⟨by decide, rfl⟩ ⟨by omega, by show 8 + (6 + 11) + 87 ≤ _; omega⟩ ⟨by omega, by omega⟩ (Nat.le_of_ble_eq_true rfl) (fun v_5 h_4 p_6 => ?_)
    obtain ⟨⟨y_2, rfl, hy_3⟩, rfl⟩ := p_6
    refine s_Model_countIn_28 (fun z_7 => ?_) (fun z_8 => ?_)
    · skip
      refine s_Model_countIn_34 ?_
      simp only [nI_1]
      exact ih (i + 1) _ (by omega) (by rw [cP_n (yn_n hy_3 z_7)]; exact hp_)
    · skip
      refine s_Model_countIn_31 ?_
      refine s_Model_countIn_34 ?_
      simp only [nI_1]
      exact ih (i + 1) _ (by omega) (by rw [cP_y (yn_y hy_3 z_8), hp_])
set_option maxHeartbeats 2000000 in
theorem f_countInS {G : xw_G} {F L : Nat} {h : xw_A} {m draft_ asked_ prepared_ preparedSize_ texts_ sizes_ weights_ entries_ lies_ live_ row_ level_ oldTexts_ oldSizes_ oldLies_ oldLive_ oldRow_ firstToken_ starred_ tokenAt_ tokenSize_ groupKind_ groupPhrase_ groupSize_ groupMask_ groupFar_ out_ top_ masks_ begins_ lasts_ truth_ answers_ order_ scores_ : Nat} {fb fl ca cs ft fa c1 c2 fz : Nat → Int32} {cl : Int32} {fs : List Value} (l : fs.length = 62) (e : h m = some (.inr (11, fs))) (g_column : fs[(55 : Nat)]? = some (.int cl)) (g_begins : fs[(53 : Nat)]? = some (.ref begins_)) (e_begins : h begins_ = some (.inl (0, 24, .inl fb))) (g_lasts : fs[(54 : Nat)]? = some (.ref lasts_)) (e_lasts : h lasts_ = some (.inl (0, 24, .inl fl))) (g_tokenAt : fs[(43 : Nat)]? = some (.ref tokenAt_)) (e_tokenAt : h tokenAt_ = some (.inl (0, 60, .inl ca))) (g_tokenSize : fs[(44 : Nat)]? = some (.ref tokenSize_)) (e_tokenSize : h tokenSize_ = some (.inl (0, 60, .inl cs))) (g_texts : fs[(7 : Nat)]? = some (.ref texts_)) (e_texts : h texts_ = some (.inl (0, 2304, .inl ft))) (g_asked : fs[(4 : Nat)]? = some (.ref asked_)) (e_asked : h asked_ = some (.inl (0, 96, .inl fa))) (g_firstToken : fs[(41 : Nat)]? = some (.ref firstToken_)) (e_firstToken : h firstToken_ = some (.inl (0, 13, .inl c1))) (g_starred : fs[(42 : Nat)]? = some (.ref starred_)) (e_starred : h starred_ = some (.inl (0, 13, .inl c2))) (g_sizes : fs[(8 : Nat)]? = some (.ref sizes_)) (e_sizes : h sizes_ = some (.inl (0, 48, .inl fz))) (ND : NDl [m, draft_, asked_, prepared_, preparedSize_, texts_, sizes_, weights_, entries_, lies_, live_, row_, level_, oldTexts_, oldSizes_, oldLies_, oldLive_, oldRow_, firstToken_, starred_, tokenAt_, tokenSize_, groupKind_, groupPhrase_, groupSize_, groupMask_, groupFar_, out_, top_, masks_, begins_, lasts_, truth_, answers_, order_, scores_]) {ws : List (List Int32)} {p a n t : Nat} {b : Bool} (hp : p < 12) (h1 : c1 p = nI a) (h2 : c1 (p + 1) = nI (a + n)) (h3 : c2 p = b01 b) (hat : a + n ≤ ws.length) (hws : ws.length ≤ 49) (TR : TkR ws t ca cs fa) {r c : Nat} (hr : r < 24) (hc : c < 2) {nz : Nat} (hz : fz (2 * r + c) = nI nz) (hz48 : nz ≤ 48) (hF : 5 ≤ F) (hL : 112 ≤ L) :
    xw_Met G m_Model_countIn F L 0 0 [.ref m, .int (nI p), .int (nI r), .int (nI c)] h (fun v h' => v = some (.int (nI (cP (SdP ws a n b (Tw ft fz r c)) (Tw ft fz r c).length))) ∧ EvP m begins_ lasts_ fs h h') (fun _ _ => False) := by
  refine xw_Met.of rfl (by decide) (Nat.le_of_ble_eq_true rfl) ?_
  have ga0 : ∀ i : Nat, i ∉ [55] → fs[i]? = fs[i]? := fun _ _ => rfl
  have r0 : FrO [m, begins_, lasts_] h h := FrO.rf
  refine s_Model_countIn_0 ?_
  refine x_callV (As := [.int (nI r), .int (nI c)]) (b := m) (rest := []) (F1 := 3) (L1 := 62) (mc := 0) (ms := 0) d_Model_countIn_3 cV_Model_153 (f_opens l e g_column g_texts e_texts g_sizes e_sizes g_begins e_begins g_lasts e_lasts (nd_ne ND (i := 30) (j := 31) rfl rfl (by decide)) (show r < 24 by omega) (show c < 2 by omega) hz hz48 (by omega) (by omega)) e ⟨by decide, rfl⟩ ⟨by omega, by show 8 + (6 + 11) + 62 ≤ _; omega⟩ ⟨by omega, by omega⟩ (Nat.le_of_ble_eq_true rfl) (fun v_16 h_15 p_17 => ?_)
  obtain ⟨rfl, k_1, fb_2, fl_3, fs_4, l_5, e_6, g_7, ga_8, eb_9, el_10, TW_11, hk_12, TX_13, fr_14⟩ := p_17
  have e_18 := fr_14 tokenAt_ _ (by simp only [List.mem_cons, List.not_mem_nil, or_false, not_or]; exact ⟨(Ne.symm (nd_ne ND (i := 0) (j := 20) rfl rfl (by decide))), (Ne.symm (nd_ne ND (i := 30) (j := 20) rfl rfl (by decide))), (Ne.symm (nd_ne ND (i := 31) (j := 20) rfl rfl (by decide)))⟩) e_tokenAt
  have e_19 := fr_14 tokenSize_ _ (by simp only [List.mem_cons, List.not_mem_nil, or_false, not_or]; exact ⟨(Ne.symm (nd_ne ND (i := 0) (j := 21) rfl rfl (by decide))), (Ne.symm (nd_ne ND (i := 30) (j := 21) rfl rfl (by decide))), (Ne.symm (nd_ne ND (i := 31) (j := 21) rfl rfl (by decide)))⟩) e_tokenSize
  have e_20 := fr_14 texts_ _ (by simp only [List.mem_cons, List.not_mem_nil, or_false, not_or]; exact ⟨(Ne.symm (nd_ne ND (i := 0) (j := 5) rfl rfl (by decide))), (Ne.symm (nd_ne ND (i := 30) (j := 5) rfl rfl (by decide))), (Ne.symm (nd_ne ND (i := 31) (j := 5) rfl rfl (by decide)))⟩) e_texts
  have e_21 := fr_14 asked_ _ (by simp only [List.mem_cons, List.not_mem_nil, or_false, not_or]; exact ⟨(Ne.symm (nd_ne ND (i := 0) (j := 2) rfl rfl (by decide))), (Ne.symm (nd_ne ND (i := 30) (j := 2) rfl rfl (by decide))), (Ne.symm (nd_ne ND (i := 31) (j := 2) rfl rfl (by decide)))⟩) e_asked
  have e_22 := fr_14 firstToken_ _ (by simp only [List.mem_cons, List.not_mem_nil, or_false, not_or]; exact ⟨(Ne.symm (nd_ne ND (i := 0) (j := 18) rfl rfl (by decide))), (Ne.symm (nd_ne ND (i := 30) (j := 18) rfl rfl (by decide))), (Ne.symm (nd_ne ND (i := 31) (j := 18) rfl rfl (by decide)))⟩) e_firstToken
  have e_23 := fr_14 starred_ _ (by simp only [List.mem_cons, List.not_mem_nil, or_false, not_or]; exact ⟨(Ne.symm (nd_ne ND (i := 0) (j := 19) rfl rfl (by decide))), (Ne.symm (nd_ne ND (i := 30) (j := 19) rfl rfl (by decide))), (Ne.symm (nd_ne ND (i := 31) (j := 19) rfl rfl (by decide)))⟩) e_starred
  have e_24 := fr_14 sizes_ _ (by simp only [List.mem_cons, List.not_mem_nil, or_false, not_or]; exact ⟨(Ne.symm (nd_ne ND (i := 0) (j := 6) rfl rfl (by decide))), (Ne.symm (nd_ne ND (i := 30) (j := 6) rfl rfl (by decide))), (Ne.symm (nd_ne ND (i := 31) (j := 6) rfl rfl (by decide)))⟩) e_sizes
  have g_25 : fs_4[(53 : Nat)]? = some (.ref begins_) := (ga_8 53 (by decide)).trans g_begins
  have g_26 : fs_4[(54 : Nat)]? = some (.ref lasts_) := (ga_8 54 (by decide)).trans g_lasts
  have g_27 : fs_4[(43 : Nat)]? = some (.ref tokenAt_) := (ga_8 43 (by decide)).trans g_tokenAt
  have g_28 : fs_4[(44 : Nat)]? = some (.ref tokenSize_) := (ga_8 44 (by decide)).trans g_tokenSize
  have g_29 : fs_4[(7 : Nat)]? = some (.ref texts_) := (ga_8 7 (by decide)).trans g_texts
  have g_30 : fs_4[(4 : Nat)]? = some (.ref asked_) := (ga_8 4 (by decide)).trans g_asked
  have g_31 : fs_4[(41 : Nat)]? = some (.ref firstToken_) := (ga_8 41 (by decide)).trans g_firstToken
  have g_32 : fs_4[(42 : Nat)]? = some (.ref starred_) := (ga_8 42 (by decide)).trans g_starred
  have g_33 : fs_4[(8 : Nat)]? = some (.ref sizes_) := (ga_8 8 (by decide)).trans g_sizes
  have ga_34 : ∀ i : Nat, i ∉ [55] → fs_4[i]? = fs[i]? := fun i hi => (ga_8 i (fun z => hi (by simp only [List.mem_cons, List.not_mem_nil, or_false] at z ⊢; omega))).trans (ga0 i hi)
  have r_35 := r0.trans (fr_14.mono (by simp))
  refine x_le (xw_le_s (xw_le_s (xw_le_n (xw_le_n (xw_le_n (xw_le_n xw_le_e)))))) ?_
  refine s_Model_countIn_6 ?_
  have hk24 : k_1 ≤ 24 := by have q9 := (tokN_half (fun j => ft (96 * r + 48 * c + j)) nz).1; rw [← hk_12] at q9; omega
  have TP9 := TpX.of TX_13 hk_12 TW_11 (by omega)
  have e9 : cP (SdP ws a n b (wdS ft (96 * r + 48 * c) (96 * r + 48 * c + nz))) k_1 = cP (SdP ws a n b (Tw ft fz r c)) (Tw ft fz r c).length := by rw [Tw_eq hz hz48, ← TP9.1]
  exact lp_ciS l_5 e_6 g_7 g_25 eb_9 g_26 el_10 g_27 e_18 g_28 e_19 g_29 e_20 g_30 e_21 g_31 e_22 g_32 e_23 hp h1 h2 h3 hat hws TR TP9 hk24 (by omega) (by omega) ⟨congrArg (fun z => some (Value.int (nI z))) e9, ⟨_, _, _, _, l_5, e_6, g_7, ga_34, eb_9, el_10, r_35⟩⟩ k_1 0 0 (Nat.zero_add _) rfl
set_option maxHeartbeats 2000000 in
theorem lp_sAS {G : xw_G} {F L bc bs : Nat} {pr : Option Value → xw_A → Prop} {px : String → xw_A → Prop} {m draft_ asked_ prepared_ preparedSize_ texts_ sizes_ weights_ entries_ lies_ live_ row_ level_ oldTexts_ oldSizes_ oldLies_ oldLive_ oldRow_ firstToken_ starred_ tokenAt_ tokenSize_ groupKind_ groupPhrase_ groupSize_ groupMask_ groupFar_ out_ top_ masks_ begins_ lasts_ truth_ answers_ order_ scores_ : Nat} {gs : List Value} {h0 : xw_A} {ca cs ft fa c1 c2 fz fv fw : Nat → Int32} {ws : List (List Int32)} {t P : Nat} {A N : Nat → Nat} {Bb : Nat → Bool} (hP : P ≤ 12) (PH : PhA ws c1 c2 P A N Bb) (hws : ws.length ≤ 49) (TR : TkR ws t ca cs fa) {r : Nat} (q_phrases : gs[(34 : Nat)]? = some (.int (nI P))) (q_begins : gs[(53 : Nat)]? = some (.ref begins_)) (q_lasts : gs[(54 : Nat)]? = some (.ref lasts_)) (q_tokenAt : gs[(43 : Nat)]? = some (.ref tokenAt_)) (q_tokenSize : gs[(44 : Nat)]? = some (.ref tokenSize_)) (q_texts : gs[(7 : Nat)]? = some (.ref texts_)) (q_asked : gs[(4 : Nat)]? = some (.ref asked_)) (q_firstToken : gs[(41 : Nat)]? = some (.ref firstToken_)) (q_starred : gs[(42 : Nat)]? = some (.ref starred_)) (q_sizes : gs[(8 : Nat)]? = some (.ref sizes_)) (q_live : gs[(14 : Nat)]? = some (.ref live_)) (q_weights : gs[(9 : Nat)]? = some (.ref weights_)) (p_tokenAt : h0 tokenAt_ = some (.inl (0, 60, .inl ca))) (p_tokenSize : h0 tokenSize_ = some (.inl (0, 60, .inl cs))) (p_texts : h0 texts_ = some (.inl (0, 2304, .inl ft))) (p_asked : h0 asked_ = some (.inl (0, 96, .inl fa))) (p_firstToken : h0 firstToken_ = some (.inl (0, 13, .inl c1))) (p_starred : h0 starred_ = some (.inl (0, 13, .inl c2))) (p_sizes : h0 sizes_ = some (.inl (0, 48, .inl fz))) (p_live : h0 live_ = some (.inl (0, 24, .inl fv))) (p_weights : h0 weights_ = some (.inl (0, 2, .inl fw))) (ND : NDl [m, draft_, asked_, prepared_, preparedSize_, texts_, sizes_, weights_, entries_, lies_, live_, row_, level_, oldTexts_, oldSizes_, oldLies_, oldLive_, oldRow_, firstToken_, starred_, tokenAt_, tokenSize_, groupKind_, groupPhrase_, groupSize_, groupMask_, groupFar_, out_, top_, masks_, begins_, lasts_, truth_, answers_, order_, scores_]) (hr : r < 24) (hz : SZo fz 48) {sm : UInt64} {rw_ : Nat} {tR : Nat} (hTR : tR = tokN (fun j => ft (96 * r + 48 * 0 + j)) (fz (2 * r + 0)).toNatClampNeg + tokN (fun j => ft (96 * r + 48 * 1 + j)) (fz (2 * r + 1)).toNatClampNeg) (hlv : ¬ fv r < 0) (hF : 5 ≤ F) (hL : 109 ≤ L) (kk : ∀ (h : xw_A) (al : Nat) (cl : Int32) (fb : Nat → Int32) (fl : Nat → Int32) (fs : List Value), fs.length = 62 → h m = some (.inr (11, fs)) → fs[(55 : Nat)]? = some (.int cl) → (∀ i : Nat, i ∉ [55] → fs[i]? = gs[i]?) → h begins_ = some (.inl (0, 24, .inl fb)) → h lasts_ = some (.inl (0, 24, .inl fl)) → al ≤ 1152 → tR ≤ al → al = tkR fv ft fz 24 → FrO [m, begins_, lasts_] h0 h → xw G m_Model_scoreOf F L bc bs pr px 48 [some (.ref m), some (.int (nI r)), some (.double sm), none, some (.int (nI al)), some (.int (nI rw_)), none, none, none, none, none, none, none, none, none, none] [] h) :
    ∀ (dd i : Nat) (h : xw_A) (al : Nat) (cl : Int32) (fb : Nat → Int32) (fl : Nat → Int32) (fs : List Value), i + dd = 24 → fs.length = 62 → h m = some (.inr (11, fs)) → fs[(55 : Nat)]? = some (.int cl) → (∀ i : Nat, i ∉ [55] → fs[i]? = gs[i]?) → h begins_ = some (.inl (0, 24, .inl fb)) → h lasts_ = some (.inl (0, 24, .inl fl)) → al ≤ 48 * i → (r < i → tR ≤ al) → al = tkR fv ft fz i → FrO [m, begins_, lasts_] h0 h → xw G m_Model_scoreOf F L bc bs pr px 14 [some (.ref m), some (.int (nI r)), some (.double sm), none, some (.int (nI al)), some (.int (nI rw_)), some (.int (nI i)), none, none, none, none, none, none, none, none, none] [] h := by
  intro dd
  induction dd with
  | zero =>
    intro i h al cl fb fl fs hi l e g_column ga0 e_begins e_lasts hal hal2 hAL r0
    obtain rfl : i = 24 := by omega
    have g_phrases := (ga0 34 (by decide)).trans q_phrases
    have g_begins := (ga0 53 (by decide)).trans q_begins
    have g_lasts := (ga0 54 (by decide)).trans q_lasts
    have g_tokenAt := (ga0 43 (by decide)).trans q_tokenAt
    have g_tokenSize := (ga0 44 (by decide)).trans q_tokenSize
    have g_texts := (ga0 7 (by decide)).trans q_texts
    have g_asked := (ga0 4 (by decide)).trans q_asked
    have g_firstToken := (ga0 41 (by decide)).trans q_firstToken
    have g_starred := (ga0 42 (by decide)).trans q_starred
    have g_sizes := (ga0 8 (by decide)).trans q_sizes
    have g_live := (ga0 14 (by decide)).trans q_live
    have g_weights := (ga0 9 (by decide)).trans q_weights
    have e_tokenAt := r0 tokenAt_ _ (by simp only [List.mem_cons, List.not_mem_nil, or_false, not_or]; exact ⟨(nd_ne ND (i := 20) (j := 0) rfl rfl (by decide)), (nd_ne ND (i := 20) (j := 30) rfl rfl (by decide)), (nd_ne ND (i := 20) (j := 31) rfl rfl (by decide))⟩) p_tokenAt
    have e_tokenSize := r0 tokenSize_ _ (by simp only [List.mem_cons, List.not_mem_nil, or_false, not_or]; exact ⟨(nd_ne ND (i := 21) (j := 0) rfl rfl (by decide)), (nd_ne ND (i := 21) (j := 30) rfl rfl (by decide)), (nd_ne ND (i := 21) (j := 31) rfl rfl (by decide))⟩) p_tokenSize
    have e_texts := r0 texts_ _ (by simp only [List.mem_cons, List.not_mem_nil, or_false, not_or]; exact ⟨(nd_ne ND (i := 5) (j := 0) rfl rfl (by decide)), (nd_ne ND (i := 5) (j := 30) rfl rfl (by decide)), (nd_ne ND (i := 5) (j := 31) rfl rfl (by decide))⟩) p_texts
    have e_asked := r0 asked_ _ (by simp only [List.mem_cons, List.not_mem_nil, or_false, not_or]; exact ⟨(nd_ne ND (i := 2) (j := 0) rfl rfl (by decide)), (nd_ne ND (i := 2) (j := 30) rfl rfl (by decide)), (nd_ne ND (i := 2) (j := 31) rfl rfl (by decide))⟩) p_asked
    have e_firstToken := r0 firstToken_ _ (by simp only [List.mem_cons, List.not_mem_nil, or_false, not_or]; exact ⟨(nd_ne ND (i := 18) (j := 0) rfl rfl (by decide)), (nd_ne ND (i := 18) (j := 30) rfl rfl (by decide)), (nd_ne ND (i := 18) (j := 31) rfl rfl (by decide))⟩) p_firstToken
    have e_starred := r0 starred_ _ (by simp only [List.mem_cons, List.not_mem_nil, or_false, not_or]; exact ⟨(nd_ne ND (i := 19) (j := 0) rfl rfl (by decide)), (nd_ne ND (i := 19) (j := 30) rfl rfl (by decide)), (nd_ne ND (i := 19) (j := 31) rfl rfl (by decide))⟩) p_starred
    have e_sizes := r0 sizes_ _ (by simp only [List.mem_cons, List.not_mem_nil, or_false, not_or]; exact ⟨(nd_ne ND (i := 6) (j := 0) rfl rfl (by decide)), (nd_ne ND (i := 6) (j := 30) rfl rfl (by decide)), (nd_ne ND (i := 6) (j := 31) rfl rfl (by decide))⟩) p_sizes
    have e_live := r0 live_ _ (by simp only [List.mem_cons, List.not_mem_nil, or_false, not_or]; exact ⟨(nd_ne ND (i := 10) (j := 0) rfl rfl (by decide)), (nd_ne ND (i := 10) (j := 30) rfl rfl (by decide)), (nd_ne ND (i := 10) (j := 31) rfl rfl (by decide))⟩) p_live
    have e_weights := r0 weights_ _ (by simp only [List.mem_cons, List.not_mem_nil, or_false, not_or]; exact ⟨(nd_ne ND (i := 7) (j := 0) rfl rfl (by decide)), (nd_ne ND (i := 7) (j := 30) rfl rfl (by decide)), (nd_ne ND (i := 7) (j := 31) rfl rfl (by decide))⟩) p_weights
    refine s_Model_scoreOf_14 (fun z_1 => ?_) (fun z => absurd z (by decide))
    exact kk _ _ _ _ _ _ l e g_column ga0 e_begins e_lasts (by omega) (hal2 hr) hAL r0
  | succ dd ih =>
    intro i h al cl fb fl fs hi l e g_column ga0 e_begins e_lasts hal hal2 hAL r0
    have g_phrases := (ga0 34 (by decide)).trans q_phrases
    have g_begins := (ga0 53 (by decide)).trans q_begins
    have g_lasts := (ga0 54 (by decide)).trans q_lasts
    have g_tokenAt := (ga0 43 (by decide)).trans q_tokenAt
    have g_tokenSize := (ga0 44 (by decide)).trans q_tokenSize
    have g_texts := (ga0 7 (by decide)).trans q_texts
    have g_asked := (ga0 4 (by decide)).trans q_asked
    have g_firstToken := (ga0 41 (by decide)).trans q_firstToken
    have g_starred := (ga0 42 (by decide)).trans q_starred
    have g_sizes := (ga0 8 (by decide)).trans q_sizes
    have g_live := (ga0 14 (by decide)).trans q_live
    have g_weights := (ga0 9 (by decide)).trans q_weights
    have e_tokenAt := r0 tokenAt_ _ (by simp only [List.mem_cons, List.not_mem_nil, or_false, not_or]; exact ⟨(nd_ne ND (i := 20) (j := 0) rfl rfl (by decide)), (nd_ne ND (i := 20) (j := 30) rfl rfl (by decide)), (nd_ne ND (i := 20) (j := 31) rfl rfl (by decide))⟩) p_tokenAt
    have e_tokenSize := r0 tokenSize_ _ (by simp only [List.mem_cons, List.not_mem_nil, or_false, not_or]; exact ⟨(nd_ne ND (i := 21) (j := 0) rfl rfl (by decide)), (nd_ne ND (i := 21) (j := 30) rfl rfl (by decide)), (nd_ne ND (i := 21) (j := 31) rfl rfl (by decide))⟩) p_tokenSize
    have e_texts := r0 texts_ _ (by simp only [List.mem_cons, List.not_mem_nil, or_false, not_or]; exact ⟨(nd_ne ND (i := 5) (j := 0) rfl rfl (by decide)), (nd_ne ND (i := 5) (j := 30) rfl rfl (by decide)), (nd_ne ND (i := 5) (j := 31) rfl rfl (by decide))⟩) p_texts
    have e_asked := r0 asked_ _ (by simp only [List.mem_cons, List.not_mem_nil, or_false, not_or]; exact ⟨(nd_ne ND (i := 2) (j := 0) rfl rfl (by decide)), (nd_ne ND (i := 2) (j := 30) rfl rfl (by decide)), (nd_ne ND (i := 2) (j := 31) rfl rfl (by decide))⟩) p_asked
    have e_firstToken := r0 firstToken_ _ (by simp only [List.mem_cons, List.not_mem_nil, or_false, not_or]; exact ⟨(nd_ne ND (i := 18) (j := 0) rfl rfl (by decide)), (nd_ne ND (i := 18) (j := 30) rfl rfl (by decide)), (nd_ne ND (i := 18) (j := 31) rfl rfl (by decide))⟩) p_firstToken
    have e_starred := r0 starred_ _ (by simp only [List.mem_cons, List.not_mem_nil, or_false, not_or]; exact ⟨(nd_ne ND (i := 19) (j := 0) rfl rfl (by decide)), (nd_ne ND (i := 19) (j := 30) rfl rfl (by decide)), (nd_ne ND (i := 19) (j := 31) rfl rfl (by decide))⟩) p_starred
    have e_sizes := r0 sizes_ _ (by simp only [List.mem_cons, List.not_mem_nil, or_false, not_or]; exact ⟨(nd_ne ND (i := 6) (j := 0) rfl rfl (by decide)), (nd_ne ND (i := 6) (j := 30) rfl rfl (by decide)), (nd_ne ND (i := 6) (j := 31) rfl rfl (by decide))⟩) p_sizes
    have e_live := r0 live_ _ (by simp only [List.mem_cons, List.not_mem_nil, or_false, not_or]; exact ⟨(nd_ne ND (i := 10) (j := 0) rfl rfl (by decide)), (nd_ne ND (i := 10) (j := 30) rfl rfl (by decide)), (nd_ne ND (i := 10) (j := 31) rfl rfl (by decide))⟩) p_live
    have e_weights := r0 weights_ _ (by simp only [List.mem_cons, List.not_mem_nil, or_false, not_or]; exact ⟨(nd_ne ND (i := 7) (j := 0) rfl rfl (by decide)), (nd_ne ND (i := 7) (j := 30) rfl rfl (by decide)), (nd_ne ND (i := 7) (j := 31) rfl rfl (by decide))⟩) p_weights
    refine s_Model_scoreOf_14 (fun z => absurd z (nI_ge (b := 24) (show i < 24 by omega) (by decide))) (fun z_1 => ?_)
    refine s_Model_scoreOf_21 l e g_live e_live (vp_in_nI (by omega) (by omega)) (fun z_2 => ?_) (fun z_3 => ?_)
    · skip
      refine s_Model_scoreOf_42 ?_
      have zz9 := z_2
      rw [nI_clamp (show i < 2 ^ 31 by omega)] at zz9
      rw [nI_1]
      have hir : ¬ r = i := fun q => hlv (by rw [q]; exact zz9)
      exact ih (i + 1) _ _ _ _ _ _ (by omega) l e g_column ga0 e_begins e_lasts (by omega) (fun q => hal2 (by omega)) (by rw [tkR_n zz9]; exact hAL) r0
    · skip
      refine s_Model_scoreOf_31 ?_
      refine x_callV (As := [.int (nI i)]) (b := m) (rest := [.int (nI al)]) (F1 := 4) (L1 := 87) (mc := 0) (ms := 0) d_Model_scoreOf_36 cV_Model_184 (f_tokensOf l e g_column g_texts e_texts g_sizes e_sizes g_begins e_begins g_lasts e_lasts (nd_ne ND (i := 30) (j := 31) rfl rfl (by decide)) (show i < 24 by omega) hz (by omega) (by omega)) e ⟨by decide, rfl⟩ ⟨by omega, by show 8 + (3 + 11) + 87 ≤ _; omega⟩ ⟨by omega, by omega⟩ (Nat.le_of_ble_eq_true rfl) (fun v_19 h_18 p_20 => ?_)
      obtain ⟨k_4, fb_8, fl_9, fs_10, rfl, hk_5, hk48_6, l_11, e_12, ⟨cl_7, g_13⟩, ga_14, eb_15, el_16, r_17⟩ := p_20
      have e_21 := r_17 tokenAt_ _ (by simp only [List.mem_cons, List.not_mem_nil, or_false, not_or]; exact ⟨(Ne.symm (nd_ne ND (i := 0) (j := 20) rfl rfl (by decide))), (Ne.symm (nd_ne ND (i := 30) (j := 20) rfl rfl (by decide))), (Ne.symm (nd_ne ND (i := 31) (j := 20) rfl rfl (by decide)))⟩) e_tokenAt
      have e_22 := r_17 tokenSize_ _ (by simp only [List.mem_cons, List.not_mem_nil, or_false, not_or]; exact ⟨(Ne.symm (nd_ne ND (i := 0) (j := 21) rfl rfl (by decide))), (Ne.symm (nd_ne ND (i := 30) (j := 21) rfl rfl (by decide))), (Ne.symm (nd_ne ND (i := 31) (j := 21) rfl rfl (by decide)))⟩) e_tokenSize
      have e_23 := r_17 texts_ _ (by simp only [List.mem_cons, List.not_mem_nil, or_false, not_or]; exact ⟨(Ne.symm (nd_ne ND (i := 0) (j := 5) rfl rfl (by decide))), (Ne.symm (nd_ne ND (i := 30) (j := 5) rfl rfl (by decide))), (Ne.symm (nd_ne ND (i := 31) (j := 5) rfl rfl (by decide)))⟩) e_texts
      have e_24 := r_17 asked_ _ (by simp only [List.mem_cons, List.not_mem_nil, or_false, not_or]; exact ⟨(Ne.symm (nd_ne ND (i := 0) (j := 2) rfl rfl (by decide))), (Ne.symm (nd_ne ND (i := 30) (j := 2) rfl rfl (by decide))), (Ne.symm (nd_ne ND (i := 31) (j := 2) rfl rfl (by decide)))⟩) e_asked
      have e_25 := r_17 firstToken_ _ (by simp only [List.mem_cons, List.not_mem_nil, or_false, not_or]; exact ⟨(Ne.symm (nd_ne ND (i := 0) (j := 18) rfl rfl (by decide))), (Ne.symm (nd_ne ND (i := 30) (j := 18) rfl rfl (by decide))), (Ne.symm (nd_ne ND (i := 31) (j := 18) rfl rfl (by decide)))⟩) e_firstToken
      have e_26 := r_17 starred_ _ (by simp only [List.mem_cons, List.not_mem_nil, or_false, not_or]; exact ⟨(Ne.symm (nd_ne ND (i := 0) (j := 19) rfl rfl (by decide))), (Ne.symm (nd_ne ND (i := 30) (j := 19) rfl rfl (by decide))), (Ne.symm (nd_ne ND (i := 31) (j := 19) rfl rfl (by decide)))⟩) e_starred
      have e_27 := r_17 sizes_ _ (by simp only [List.mem_cons, List.not_mem_nil, or_false, not_or]; exact ⟨(Ne.symm (nd_ne ND (i := 0) (j := 6) rfl rfl (by decide))), (Ne.symm (nd_ne ND (i := 30) (j := 6) rfl rfl (by decide))), (Ne.symm (nd_ne ND (i := 31) (j := 6) rfl rfl (by decide)))⟩) e_sizes
      have e_28 := r_17 live_ _ (by simp only [List.mem_cons, List.not_mem_nil, or_false, not_or]; exact ⟨(Ne.symm (nd_ne ND (i := 0) (j := 10) rfl rfl (by decide))), (Ne.symm (nd_ne ND (i := 30) (j := 10) rfl rfl (by decide))), (Ne.symm (nd_ne ND (i := 31) (j := 10) rfl rfl (by decide)))⟩) e_live
      have e_29 := r_17 weights_ _ (by simp only [List.mem_cons, List.not_mem_nil, or_false, not_or]; exact ⟨(Ne.symm (nd_ne ND (i := 0) (j := 7) rfl rfl (by decide))), (Ne.symm (nd_ne ND (i := 30) (j := 7) rfl rfl (by decide))), (Ne.symm (nd_ne ND (i := 31) (j := 7) rfl rfl (by decide)))⟩) e_weights
      have r_30 := r0.trans (r_17.mono (by simp))
      have g_31 : fs_10[(34 : Nat)]? = some (.int (nI P)) := (ga_14 34 (by decide)).trans g_phrases
      have g_32 : fs_10[(53 : Nat)]? = some (.ref begins_) := (ga_14 53 (by decide)).trans g_begins
      have g_33 : fs_10[(54 : Nat)]? = some (.ref lasts_) := (ga_14 54 (by decide)).trans g_lasts
      have g_34 : fs_10[(43 : Nat)]? = some (.ref tokenAt_) := (ga_14 43 (by decide)).trans g_tokenAt
      have g_35 : fs_10[(44 : Nat)]? = some (.ref tokenSize_) := (ga_14 44 (by decide)).trans g_tokenSize
      have g_36 : fs_10[(7 : Nat)]? = some (.ref texts_) := (ga_14 7 (by decide)).trans g_texts
      have g_37 : fs_10[(4 : Nat)]? = some (.ref asked_) := (ga_14 4 (by decide)).trans g_asked
      have g_38 : fs_10[(41 : Nat)]? = some (.ref firstToken_) := (ga_14 41 (by decide)).trans g_firstToken
      have g_39 : fs_10[(42 : Nat)]? = some (.ref starred_) := (ga_14 42 (by decide)).trans g_starred
      have g_40 : fs_10[(8 : Nat)]? = some (.ref sizes_) := (ga_14 8 (by decide)).trans g_sizes
      have g_41 : fs_10[(14 : Nat)]? = some (.ref live_) := (ga_14 14 (by decide)).trans g_live
      have g_42 : fs_10[(9 : Nat)]? = some (.ref weights_) := (ga_14 9 (by decide)).trans g_weights
      have ga_43 : ∀ i : Nat, i ∉ [55] → fs_10[i]? = gs[i]? := fun i hi => (ga_14 i (fun z => hi (by simp only [List.mem_cons, List.not_mem_nil, or_false] at z ⊢; omega))).trans (ga0 i hi)
      refine x_le (xw_le_s (xw_le_s (xw_le_s (xw_le_n (xw_le_n (xw_le_s (xw_le_s (xw_le_n (xw_le_n (xw_le_n (xw_le_n (xw_le_n (xw_le_n (xw_le_n (xw_le_n (xw_le_n xw_le_e)))))))))))))))) ?_
      refine s_Model_scoreOf_39 ?_
      refine s_Model_scoreOf_42 ?_
      have zz9 := z_3
      rw [nI_clamp (show i < 2 ^ 31 by omega)] at zz9
      rw [nI_1, nI_add]
      have hk1 := tk1_eq hk_5
      exact ih (i + 1) _ _ _ _ _ _ (by omega) l_11 e_12 g_13 ga_43 eb_15 el_16 (by omega) (fun q => by by_cases q2 : r < i; (have q4 := hal2 q2; omega); (obtain rfl : r = i := (by omega); have q3 : tR = k_4 := hTR.trans hk_5.symm; omega)) (by rw [tkR_y zz9, hAL, hk1]) r_30
set_option maxHeartbeats 2000000 in
theorem lp_sCS {G : xw_G} {F L bc bs : Nat} {pr : Option Value → xw_A → Prop} {px : String → xw_A → Prop} {m draft_ asked_ prepared_ preparedSize_ texts_ sizes_ weights_ entries_ lies_ live_ row_ level_ oldTexts_ oldSizes_ oldLies_ oldLive_ oldRow_ firstToken_ starred_ tokenAt_ tokenSize_ groupKind_ groupPhrase_ groupSize_ groupMask_ groupFar_ out_ top_ masks_ begins_ lasts_ truth_ answers_ order_ scores_ : Nat} {gs : List Value} {h0 : xw_A} {ca cs ft fa c1 c2 fz fv fw : Nat → Int32} {ws : List (List Int32)} {t P : Nat} {A N : Nat → Nat} {Bb : Nat → Bool} (hP : P ≤ 12) (PH : PhA ws c1 c2 P A N Bb) (hws : ws.length ≤ 49) (TR : TkR ws t ca cs fa) {r : Nat} (q_phrases : gs[(34 : Nat)]? = some (.int (nI P))) (q_begins : gs[(53 : Nat)]? = some (.ref begins_)) (q_lasts : gs[(54 : Nat)]? = some (.ref lasts_)) (q_tokenAt : gs[(43 : Nat)]? = some (.ref tokenAt_)) (q_tokenSize : gs[(44 : Nat)]? = some (.ref tokenSize_)) (q_texts : gs[(7 : Nat)]? = some (.ref texts_)) (q_asked : gs[(4 : Nat)]? = some (.ref asked_)) (q_firstToken : gs[(41 : Nat)]? = some (.ref firstToken_)) (q_starred : gs[(42 : Nat)]? = some (.ref starred_)) (q_sizes : gs[(8 : Nat)]? = some (.ref sizes_)) (q_live : gs[(14 : Nat)]? = some (.ref live_)) (q_weights : gs[(9 : Nat)]? = some (.ref weights_)) (p_tokenAt : h0 tokenAt_ = some (.inl (0, 60, .inl ca))) (p_tokenSize : h0 tokenSize_ = some (.inl (0, 60, .inl cs))) (p_texts : h0 texts_ = some (.inl (0, 2304, .inl ft))) (p_asked : h0 asked_ = some (.inl (0, 96, .inl fa))) (p_firstToken : h0 firstToken_ = some (.inl (0, 13, .inl c1))) (p_starred : h0 starred_ = some (.inl (0, 13, .inl c2))) (p_sizes : h0 sizes_ = some (.inl (0, 48, .inl fz))) (p_live : h0 live_ = some (.inl (0, 24, .inl fv))) (p_weights : h0 weights_ = some (.inl (0, 2, .inl fw))) (ND : NDl [m, draft_, asked_, prepared_, preparedSize_, texts_, sizes_, weights_, entries_, lies_, live_, row_, level_, oldTexts_, oldSizes_, oldLies_, oldLive_, oldRow_, firstToken_, starred_, tokenAt_, tokenSize_, groupKind_, groupPhrase_, groupSize_, groupMask_, groupFar_, out_, top_, masks_, begins_, lasts_, truth_, answers_, order_, scores_]) (hr : r < 24) (hz : SZo fz 48) {sm : UInt64} {rw_ al p : Nat} (hp : p < P) (hF : 6 ≤ F) (hL : 137 ≤ L) (kk : ∀ (h : xw_A) (n : Nat) (cl : Int32) (fb : Nat → Int32) (fl : Nat → Int32) (fs : List Value), fs.length = 62 → h m = some (.inr (11, fs)) → fs[(55 : Nat)]? = some (.int cl) → (∀ i : Nat, i ∉ [55] → fs[i]? = gs[i]?) → h begins_ = some (.inl (0, 24, .inl fb)) → h lasts_ = some (.inl (0, 24, .inl fl)) → n ≤ cntL fv 24 → n = wiR ws A N Bb ft fz fv p 24 → FrO [m, begins_, lasts_] h0 h → xw G m_Model_scoreOf F L bc bs pr px 114 [some (.ref m), some (.int (nI r)), some (.double sm), none, some (.int (nI al)), some (.int (nI rw_)), some (.int (nI p)), some (.int (nI n)), none, none, none, none, none, none, none, none] [] h) :
    ∀ (dd i : Nat) (h : xw_A) (n : Nat) (cl : Int32) (fb : Nat → Int32) (fl : Nat → Int32) (fs : List Value), i + dd = 24 → fs.length = 62 → h m = some (.inr (11, fs)) → fs[(55 : Nat)]? = some (.int cl) → (∀ i : Nat, i ∉ [55] → fs[i]? = gs[i]?) → h begins_ = some (.inl (0, 24, .inl fb)) → h lasts_ = some (.inl (0, 24, .inl fl)) → n ≤ cntL fv i → n = wiR ws A N Bb ft fz fv p i → FrO [m, begins_, lasts_] h0 h → xw G m_Model_scoreOf F L bc bs pr px 66 [some (.ref m), some (.int (nI r)), some (.double sm), none, some (.int (nI al)), some (.int (nI rw_)), some (.int (nI p)), some (.int (nI n)), some (.int (nI i)), none, none, none, none, none, none, none] [] h := by
  intro dd
  induction dd with
  | zero =>
    intro i h n cl fb fl fs hi l e g_column ga0 e_begins e_lasts hn hnW r0
    obtain rfl : i = 24 := by omega
    have g_phrases := (ga0 34 (by decide)).trans q_phrases
    have g_begins := (ga0 53 (by decide)).trans q_begins
    have g_lasts := (ga0 54 (by decide)).trans q_lasts
    have g_tokenAt := (ga0 43 (by decide)).trans q_tokenAt
    have g_tokenSize := (ga0 44 (by decide)).trans q_tokenSize
    have g_texts := (ga0 7 (by decide)).trans q_texts
    have g_asked := (ga0 4 (by decide)).trans q_asked
    have g_firstToken := (ga0 41 (by decide)).trans q_firstToken
    have g_starred := (ga0 42 (by decide)).trans q_starred
    have g_sizes := (ga0 8 (by decide)).trans q_sizes
    have g_live := (ga0 14 (by decide)).trans q_live
    have g_weights := (ga0 9 (by decide)).trans q_weights
    have e_tokenAt := r0 tokenAt_ _ (by simp only [List.mem_cons, List.not_mem_nil, or_false, not_or]; exact ⟨(nd_ne ND (i := 20) (j := 0) rfl rfl (by decide)), (nd_ne ND (i := 20) (j := 30) rfl rfl (by decide)), (nd_ne ND (i := 20) (j := 31) rfl rfl (by decide))⟩) p_tokenAt
    have e_tokenSize := r0 tokenSize_ _ (by simp only [List.mem_cons, List.not_mem_nil, or_false, not_or]; exact ⟨(nd_ne ND (i := 21) (j := 0) rfl rfl (by decide)), (nd_ne ND (i := 21) (j := 30) rfl rfl (by decide)), (nd_ne ND (i := 21) (j := 31) rfl rfl (by decide))⟩) p_tokenSize
    have e_texts := r0 texts_ _ (by simp only [List.mem_cons, List.not_mem_nil, or_false, not_or]; exact ⟨(nd_ne ND (i := 5) (j := 0) rfl rfl (by decide)), (nd_ne ND (i := 5) (j := 30) rfl rfl (by decide)), (nd_ne ND (i := 5) (j := 31) rfl rfl (by decide))⟩) p_texts
    have e_asked := r0 asked_ _ (by simp only [List.mem_cons, List.not_mem_nil, or_false, not_or]; exact ⟨(nd_ne ND (i := 2) (j := 0) rfl rfl (by decide)), (nd_ne ND (i := 2) (j := 30) rfl rfl (by decide)), (nd_ne ND (i := 2) (j := 31) rfl rfl (by decide))⟩) p_asked
    have e_firstToken := r0 firstToken_ _ (by simp only [List.mem_cons, List.not_mem_nil, or_false, not_or]; exact ⟨(nd_ne ND (i := 18) (j := 0) rfl rfl (by decide)), (nd_ne ND (i := 18) (j := 30) rfl rfl (by decide)), (nd_ne ND (i := 18) (j := 31) rfl rfl (by decide))⟩) p_firstToken
    have e_starred := r0 starred_ _ (by simp only [List.mem_cons, List.not_mem_nil, or_false, not_or]; exact ⟨(nd_ne ND (i := 19) (j := 0) rfl rfl (by decide)), (nd_ne ND (i := 19) (j := 30) rfl rfl (by decide)), (nd_ne ND (i := 19) (j := 31) rfl rfl (by decide))⟩) p_starred
    have e_sizes := r0 sizes_ _ (by simp only [List.mem_cons, List.not_mem_nil, or_false, not_or]; exact ⟨(nd_ne ND (i := 6) (j := 0) rfl rfl (by decide)), (nd_ne ND (i := 6) (j := 30) rfl rfl (by decide)), (nd_ne ND (i := 6) (j := 31) rfl rfl (by decide))⟩) p_sizes
    have e_live := r0 live_ _ (by simp only [List.mem_cons, List.not_mem_nil, or_false, not_or]; exact ⟨(nd_ne ND (i := 10) (j := 0) rfl rfl (by decide)), (nd_ne ND (i := 10) (j := 30) rfl rfl (by decide)), (nd_ne ND (i := 10) (j := 31) rfl rfl (by decide))⟩) p_live
    have e_weights := r0 weights_ _ (by simp only [List.mem_cons, List.not_mem_nil, or_false, not_or]; exact ⟨(nd_ne ND (i := 7) (j := 0) rfl rfl (by decide)), (nd_ne ND (i := 7) (j := 30) rfl rfl (by decide)), (nd_ne ND (i := 7) (j := 31) rfl rfl (by decide))⟩) p_weights
    obtain ⟨f1, f2, f3, f4⟩ := PH p hp
    refine s_Model_scoreOf_66 (fun z_1 => ?_) (fun z => absurd z (by decide))
    exact kk _ _ _ _ _ _ l e g_column ga0 e_begins e_lasts hn hnW r0
  | succ dd ih =>
    intro i h n cl fb fl fs hi l e g_column ga0 e_begins e_lasts hn hnW r0
    have g_phrases := (ga0 34 (by decide)).trans q_phrases
    have g_begins := (ga0 53 (by decide)).trans q_begins
    have g_lasts := (ga0 54 (by decide)).trans q_lasts
    have g_tokenAt := (ga0 43 (by decide)).trans q_tokenAt
    have g_tokenSize := (ga0 44 (by decide)).trans q_tokenSize
    have g_texts := (ga0 7 (by decide)).trans q_texts
    have g_asked := (ga0 4 (by decide)).trans q_asked
    have g_firstToken := (ga0 41 (by decide)).trans q_firstToken
    have g_starred := (ga0 42 (by decide)).trans q_starred
    have g_sizes := (ga0 8 (by decide)).trans q_sizes
    have g_live := (ga0 14 (by decide)).trans q_live
    have g_weights := (ga0 9 (by decide)).trans q_weights
    have e_tokenAt := r0 tokenAt_ _ (by simp only [List.mem_cons, List.not_mem_nil, or_false, not_or]; exact ⟨(nd_ne ND (i := 20) (j := 0) rfl rfl (by decide)), (nd_ne ND (i := 20) (j := 30) rfl rfl (by decide)), (nd_ne ND (i := 20) (j := 31) rfl rfl (by decide))⟩) p_tokenAt
    have e_tokenSize := r0 tokenSize_ _ (by simp only [List.mem_cons, List.not_mem_nil, or_false, not_or]; exact ⟨(nd_ne ND (i := 21) (j := 0) rfl rfl (by decide)), (nd_ne ND (i := 21) (j := 30) rfl rfl (by decide)), (nd_ne ND (i := 21) (j := 31) rfl rfl (by decide))⟩) p_tokenSize
    have e_texts := r0 texts_ _ (by simp only [List.mem_cons, List.not_mem_nil, or_false, not_or]; exact ⟨(nd_ne ND (i := 5) (j := 0) rfl rfl (by decide)), (nd_ne ND (i := 5) (j := 30) rfl rfl (by decide)), (nd_ne ND (i := 5) (j := 31) rfl rfl (by decide))⟩) p_texts
    have e_asked := r0 asked_ _ (by simp only [List.mem_cons, List.not_mem_nil, or_false, not_or]; exact ⟨(nd_ne ND (i := 2) (j := 0) rfl rfl (by decide)), (nd_ne ND (i := 2) (j := 30) rfl rfl (by decide)), (nd_ne ND (i := 2) (j := 31) rfl rfl (by decide))⟩) p_asked
    have e_firstToken := r0 firstToken_ _ (by simp only [List.mem_cons, List.not_mem_nil, or_false, not_or]; exact ⟨(nd_ne ND (i := 18) (j := 0) rfl rfl (by decide)), (nd_ne ND (i := 18) (j := 30) rfl rfl (by decide)), (nd_ne ND (i := 18) (j := 31) rfl rfl (by decide))⟩) p_firstToken
    have e_starred := r0 starred_ _ (by simp only [List.mem_cons, List.not_mem_nil, or_false, not_or]; exact ⟨(nd_ne ND (i := 19) (j := 0) rfl rfl (by decide)), (nd_ne ND (i := 19) (j := 30) rfl rfl (by decide)), (nd_ne ND (i := 19) (j := 31) rfl rfl (by decide))⟩) p_starred
    have e_sizes := r0 sizes_ _ (by simp only [List.mem_cons, List.not_mem_nil, or_false, not_or]; exact ⟨(nd_ne ND (i := 6) (j := 0) rfl rfl (by decide)), (nd_ne ND (i := 6) (j := 30) rfl rfl (by decide)), (nd_ne ND (i := 6) (j := 31) rfl rfl (by decide))⟩) p_sizes
    have e_live := r0 live_ _ (by simp only [List.mem_cons, List.not_mem_nil, or_false, not_or]; exact ⟨(nd_ne ND (i := 10) (j := 0) rfl rfl (by decide)), (nd_ne ND (i := 10) (j := 30) rfl rfl (by decide)), (nd_ne ND (i := 10) (j := 31) rfl rfl (by decide))⟩) p_live
    have e_weights := r0 weights_ _ (by simp only [List.mem_cons, List.not_mem_nil, or_false, not_or]; exact ⟨(nd_ne ND (i := 7) (j := 0) rfl rfl (by decide)), (nd_ne ND (i := 7) (j := 30) rfl rfl (by decide)), (nd_ne ND (i := 7) (j := 31) rfl rfl (by decide))⟩) p_weights
    obtain ⟨f1, f2, f3, f4⟩ := PH p hp
    refine s_Model_scoreOf_66 (fun z => absurd z (nI_ge (b := 24) (show i < 24 by omega) (by decide))) (fun z_1 => ?_)
    refine s_Model_scoreOf_73 l e g_live e_live (vp_in_nI (by omega) (by omega)) (fun z_2 => ?_) (fun z_3 => ?_)
    · skip
      refine s_Model_scoreOf_108 ?_
      have hcm := cntL_mono fv i
      have zz9 := z_2
      rw [nI_clamp (show i < 2 ^ 31 by omega)] at zz9
      rw [nI_1]
      exact ih (i + 1) _ _ _ _ _ _ (by omega) l e g_column ga0 e_begins e_lasts (by omega) (by unfold wiR; rw [cP_n (fun q => q.1 zz9)]; exact hnW) r0
    · skip
      refine s_Model_scoreOf_83 ?_
      obtain ⟨nz_15, hz_16, hzb_17⟩ := hz (2 * i + 0) (by omega)
      refine x_callV (As := [.int (nI p), .int (nI i), .int (nI 0)]) (b := m) (rest := []) (F1 := 5) (L1 := 112) (mc := 0) (ms := 0) d_Model_scoreOf_89 cV_Model_336 (f_countInS l e g_column g_begins e_begins g_lasts e_lasts g_tokenAt e_tokenAt g_tokenSize e_tokenSize g_texts e_texts g_asked e_asked g_firstToken e_firstToken g_starred e_starred g_sizes e_sizes ND (show p < 12 by omega) f1 f2 f3 f4 hws TR (show i < 24 by omega) (show 0 < 2 by omega) hz_16 hzb_17 (by omega) (by omega)) e ⟨by decide, rfl⟩ ⟨by omega, by show 8 + (6 + 11) + 112 ≤ _; omega⟩ ⟨by omega, by omega⟩ (Nat.le_of_ble_eq_true rfl) (fun v_19 h_18 p_20 => ?_)
      obtain ⟨rfl, cl_4, fb_5, fl_6, fs_7, l_8, e_9, g_10, ga_11, eb_12, el_13, r_14⟩ := p_20
      rw [show cP (SdP ws (A p) (N p) (Bb p) (Tw ft fz i 0)) (Tw ft fz i 0).length = cnR ws A N Bb ft fz p i 0 from rfl]
      have e_21 := r_14 tokenAt_ _ (by simp only [List.mem_cons, List.not_mem_nil, or_false, not_or]; exact ⟨(Ne.symm (nd_ne ND (i := 0) (j := 20) rfl rfl (by decide))), (Ne.symm (nd_ne ND (i := 30) (j := 20) rfl rfl (by decide))), (Ne.symm (nd_ne ND (i := 31) (j := 20) rfl rfl (by decide)))⟩) e_tokenAt
      have e_22 := r_14 tokenSize_ _ (by simp only [List.mem_cons, List.not_mem_nil, or_false, not_or]; exact ⟨(Ne.symm (nd_ne ND (i := 0) (j := 21) rfl rfl (by decide))), (Ne.symm (nd_ne ND (i := 30) (j := 21) rfl rfl (by decide))), (Ne.symm (nd_ne ND (i := 31) (j := 21) rfl rfl (by decide)))⟩) e_tokenSize
      have e_23 := r_14 texts_ _ (by simp only [List.mem_cons, List.not_mem_nil, or_false, not_or]; exact ⟨(Ne.symm (nd_ne ND (i := 0) (j := 5) rfl rfl (by decide))), (Ne.symm (nd_ne ND (i := 30) (j := 5) rfl rfl (by decide))), (Ne.symm (nd_ne ND (i := 31) (j := 5) rfl rfl (by decide)))⟩) e_texts
      have e_24 := r_14 asked_ _ (by simp only [List.mem_cons, List.not_mem_nil, or_false, not_or]; exact ⟨(Ne.symm (nd_ne ND (i := 0) (j := 2) rfl rfl (by decide))), (Ne.symm (nd_ne ND (i := 30) (j := 2) rfl rfl (by decide))), (Ne.symm (nd_ne ND (i := 31) (j := 2) rfl rfl (by decide)))⟩) e_asked
      have e_25 := r_14 firstToken_ _ (by simp only [List.mem_cons, List.not_mem_nil, or_false, not_or]; exact ⟨(Ne.symm (nd_ne ND (i := 0) (j := 18) rfl rfl (by decide))), (Ne.symm (nd_ne ND (i := 30) (j := 18) rfl rfl (by decide))), (Ne.symm (nd_ne ND (i := 31) (j := 18) rfl rfl (by decide)))⟩) e_firstToken
      have e_26 := r_14 starred_ _ (by simp only [List.mem_cons, List.not_mem_nil, or_false, not_or]; exact ⟨(Ne.symm (nd_ne ND (i := 0) (j := 19) rfl rfl (by decide))), (Ne.symm (nd_ne ND (i := 30) (j := 19) rfl rfl (by decide))), (Ne.symm (nd_ne ND (i := 31) (j := 19) rfl rfl (by decide)))⟩) e_starred
      have e_27 := r_14 sizes_ _ (by simp only [List.mem_cons, List.not_mem_nil, or_false, not_or]; exact ⟨(Ne.symm (nd_ne ND (i := 0) (j := 6) rfl rfl (by decide))), (Ne.symm (nd_ne ND (i := 30) (j := 6) rfl rfl (by decide))), (Ne.symm (nd_ne ND (i := 31) (j := 6) rfl rfl (by decide)))⟩) e_sizes
      have e_28 := r_14 live_ _ (by simp only [List.mem_cons, List.not_mem_nil, or_false, not_or]; exact ⟨(Ne.symm (nd_ne ND (i := 0) (j := 10) rfl rfl (by decide))), (Ne.symm (nd_ne ND (i := 30) (j := 10) rfl rfl (by decide))), (Ne.symm (nd_ne ND (i := 31) (j := 10) rfl rfl (by decide)))⟩) e_live
      have e_29 := r_14 weights_ _ (by simp only [List.mem_cons, List.not_mem_nil, or_false, not_or]; exact ⟨(Ne.symm (nd_ne ND (i := 0) (j := 7) rfl rfl (by decide))), (Ne.symm (nd_ne ND (i := 30) (j := 7) rfl rfl (by decide))), (Ne.symm (nd_ne ND (i := 31) (j := 7) rfl rfl (by decide)))⟩) e_weights
      have r_30 := r0.trans (r_14.mono (by simp))
      have g_31 : fs_7[(34 : Nat)]? = some (.int (nI P)) := (ga_11 34 (by decide)).trans g_phrases
      have g_32 : fs_7[(53 : Nat)]? = some (.ref begins_) := (ga_11 53 (by decide)).trans g_begins
      have g_33 : fs_7[(54 : Nat)]? = some (.ref lasts_) := (ga_11 54 (by decide)).trans g_lasts
      have g_34 : fs_7[(43 : Nat)]? = some (.ref tokenAt_) := (ga_11 43 (by decide)).trans g_tokenAt
      have g_35 : fs_7[(44 : Nat)]? = some (.ref tokenSize_) := (ga_11 44 (by decide)).trans g_tokenSize
      have g_36 : fs_7[(7 : Nat)]? = some (.ref texts_) := (ga_11 7 (by decide)).trans g_texts
      have g_37 : fs_7[(4 : Nat)]? = some (.ref asked_) := (ga_11 4 (by decide)).trans g_asked
      have g_38 : fs_7[(41 : Nat)]? = some (.ref firstToken_) := (ga_11 41 (by decide)).trans g_firstToken
      have g_39 : fs_7[(42 : Nat)]? = some (.ref starred_) := (ga_11 42 (by decide)).trans g_starred
      have g_40 : fs_7[(8 : Nat)]? = some (.ref sizes_) := (ga_11 8 (by decide)).trans g_sizes
      have g_41 : fs_7[(14 : Nat)]? = some (.ref live_) := (ga_11 14 (by decide)).trans g_live
      have g_42 : fs_7[(9 : Nat)]? = some (.ref weights_) := (ga_11 9 (by decide)).trans g_weights
      have ga_43 : ∀ i : Nat, i ∉ [55] → fs_7[i]? = gs[i]? := fun i hi => (ga_11 i (fun z => hi (by simp only [List.mem_cons, List.not_mem_nil, or_false] at z ⊢; omega))).trans (ga0 i hi)
      refine s_Model_scoreOf_92 ?_
      obtain ⟨nz_55, hz_56, hzb_57⟩ := hz (2 * i + 1) (by omega)
      refine x_callV (As := [.int (nI p), .int (nI i), .int (nI 1)]) (b := m) (rest := [.int (nI (cnR ws A N Bb ft fz p i 0))]) (F1 := 5) (L1 := 112) (mc := 0) (ms := 0) d_Model_scoreOf_98 cV_Model_336 (f_countInS l_8 e_9 g_10 g_32 eb_12 g_33 el_13 g_34 e_21 g_35 e_22 g_36 e_23 g_37 e_24 g_38 e_25 g_39 e_26 g_40 e_27 ND (show p < 12 by omega) f1 f2 f3 f4 hws TR (show i < 24 by omega) (show 1 < 2 by omega) hz_56 hzb_57 (by omega) (by omega)) e_9 ⟨by decide, rfl⟩ ⟨by omega, by show 8 + (6 + 11) + 112 ≤ _; omega⟩ ⟨by omega, by omega⟩ (Nat.le_of_ble_eq_true rfl) (fun v_59 h_58 p_60 => ?_)
      obtain ⟨rfl, cl_44, fb_45, fl_46, fs_47, l_48, e_49, g_50, ga_51, eb_52, el_53, r_54⟩ := p_60
      rw [show cP (SdP ws (A p) (N p) (Bb p) (Tw ft fz i 1)) (Tw ft fz i 1).length = cnR ws A N Bb ft fz p i 1 from rfl]
      have e_61 := r_54 tokenAt_ _ (by simp only [List.mem_cons, List.not_mem_nil, or_false, not_or]; exact ⟨(Ne.symm (nd_ne ND (i := 0) (j := 20) rfl rfl (by decide))), (Ne.symm (nd_ne ND (i := 30) (j := 20) rfl rfl (by decide))), (Ne.symm (nd_ne ND (i := 31) (j := 20) rfl rfl (by decide)))⟩) e_21
      have e_62 := r_54 tokenSize_ _ (by simp only [List.mem_cons, List.not_mem_nil, or_false, not_or]; exact ⟨(Ne.symm (nd_ne ND (i := 0) (j := 21) rfl rfl (by decide))), (Ne.symm (nd_ne ND (i := 30) (j := 21) rfl rfl (by decide))), (Ne.symm (nd_ne ND (i := 31) (j := 21) rfl rfl (by decide)))⟩) e_22
      have e_63 := r_54 texts_ _ (by simp only [List.mem_cons, List.not_mem_nil, or_false, not_or]; exact ⟨(Ne.symm (nd_ne ND (i := 0) (j := 5) rfl rfl (by decide))), (Ne.symm (nd_ne ND (i := 30) (j := 5) rfl rfl (by decide))), (Ne.symm (nd_ne ND (i := 31) (j := 5) rfl rfl (by decide)))⟩) e_23
      have e_64 := r_54 asked_ _ (by simp only [List.mem_cons, List.not_mem_nil, or_false, not_or]; exact ⟨(Ne.symm (nd_ne ND (i := 0) (j := 2) rfl rfl (by decide))), (Ne.symm (nd_ne ND (i := 30) (j := 2) rfl rfl (by decide))), (Ne.symm (nd_ne ND (i := 31) (j := 2) rfl rfl (by decide)))⟩) e_24
      have e_65 := r_54 firstToken_ _ (by simp only [List.mem_cons, List.not_mem_nil, or_false, not_or]; exact ⟨(Ne.symm (nd_ne ND (i := 0) (j := 18) rfl rfl (by decide))), (Ne.symm (nd_ne ND (i := 30) (j := 18) rfl rfl (by decide))), (Ne.symm (nd_ne ND (i := 31) (j := 18) rfl rfl (by decide)))⟩) e_25
      have e_66 := r_54 starred_ _ (by simp only [List.mem_cons, List.not_mem_nil, or_false, not_or]; exact ⟨(Ne.symm (nd_ne ND (i := 0) (j := 19) rfl rfl (by decide))), (Ne.symm (nd_ne ND (i := 30) (j := 19) rfl rfl (by decide))), (Ne.symm (nd_ne ND (i := 31) (j := 19) rfl rfl (by decide)))⟩) e_26
      have e_67 := r_54 sizes_ _ (by simp only [List.mem_cons, List.not_mem_nil, or_false, not_or]; exact ⟨(Ne.symm (nd_ne ND (i := 0) (j := 6) rfl rfl (by decide))), (Ne.symm (nd_ne ND (i := 30) (j := 6) rfl rfl (by decide))), (Ne.symm (nd_ne ND (i := 31) (j := 6) rfl rfl (by decide)))⟩) e_27
      have e_68 := r_54 live_ _ (by simp only [List.mem_cons, List.not_mem_nil, or_false, not_or]; exact ⟨(Ne.symm (nd_ne ND (i := 0) (j := 10) rfl rfl (by decide))), (Ne.symm (nd_ne ND (i := 30) (j := 10) rfl rfl (by decide))), (Ne.symm (nd_ne ND (i := 31) (j := 10) rfl rfl (by decide)))⟩) e_28
      have e_69 := r_54 weights_ _ (by simp only [List.mem_cons, List.not_mem_nil, or_false, not_or]; exact ⟨(Ne.symm (nd_ne ND (i := 0) (j := 7) rfl rfl (by decide))), (Ne.symm (nd_ne ND (i := 30) (j := 7) rfl rfl (by decide))), (Ne.symm (nd_ne ND (i := 31) (j := 7) rfl rfl (by decide)))⟩) e_29
      have r_70 := r_30.trans (r_54.mono (by simp))
      have g_71 : fs_47[(34 : Nat)]? = some (.int (nI P)) := (ga_51 34 (by decide)).trans g_31
      have g_72 : fs_47[(53 : Nat)]? = some (.ref begins_) := (ga_51 53 (by decide)).trans g_32
      have g_73 : fs_47[(54 : Nat)]? = some (.ref lasts_) := (ga_51 54 (by decide)).trans g_33
      have g_74 : fs_47[(43 : Nat)]? = some (.ref tokenAt_) := (ga_51 43 (by decide)).trans g_34
      have g_75 : fs_47[(44 : Nat)]? = some (.ref tokenSize_) := (ga_51 44 (by decide)).trans g_35
      have g_76 : fs_47[(7 : Nat)]? = some (.ref texts_) := (ga_51 7 (by decide)).trans g_36
      have g_77 : fs_47[(4 : Nat)]? = some (.ref asked_) := (ga_51 4 (by decide)).trans g_37
      have g_78 : fs_47[(41 : Nat)]? = some (.ref firstToken_) := (ga_51 41 (by decide)).trans g_38
      have g_79 : fs_47[(42 : Nat)]? = some (.ref starred_) := (ga_51 42 (by decide)).trans g_39
      have g_80 : fs_47[(8 : Nat)]? = some (.ref sizes_) := (ga_51 8 (by decide)).trans g_40
      have g_81 : fs_47[(14 : Nat)]? = some (.ref live_) := (ga_51 14 (by decide)).trans g_41
      have g_82 : fs_47[(9 : Nat)]? = some (.ref weights_) := (ga_51 9 (by decide)).trans g_42
      have ga_83 : ∀ i : Nat, i ∉ [55] → fs_47[i]? = gs[i]? := fun i hi => (ga_51 i (fun z => hi (by simp only [List.mem_cons, List.not_mem_nil, or_false] at z ⊢; omega))).trans (ga_43 i hi)
      refine s_Model_scoreOf_101 (fun z_84 => ?_) (fun z_85 => ?_)
      · skip
        refine s_Model_scoreOf_108 ?_
        have hcm := cntL_mono fv i
        have zz9 := z_3
        rw [nI_clamp (show i < 2 ^ 31 by omega)] at zz9
        have hcl := cntL_live (f := fv) (i := i) zz9
        have hb0 := cnR_le (ws := ws) (A := A) (N := N) (Bb := Bb) (ft := ft) (p := p) (c := 0) hz (show i < 24 by omega) (by decide)
        have hb1 := cnR_le (ws := ws) (A := A) (N := N) (Bb := Bb) (ft := ft) (p := p) (c := 1) hz (show i < 24 by omega) (by decide)
        have zc9 : (nI (cnR ws A N Bb ft fz p i 0) + nI (cnR ws A N Bb ft fz p i 1)) ≤ 0 := z_84
        rw [nI_add] at zc9
        simp only [nI_1]
        exact ih (i + 1) _ _ _ _ _ _ (by omega) l_48 e_49 g_50 ga_83 eb_52 el_53 (by omega) (by unfold wiR; rw [cP_n (fun q => by first | exact absurd zc9 (nI_nle q.2 (by omega)) | exact absurd (nI_lt q.2 (by omega)) zc9)]; exact hnW) r_70
      · skip
        refine s_Model_scoreOf_105 ?_
        refine s_Model_scoreOf_108 ?_
        have hcm := cntL_mono fv i
        have zz9 := z_3
        rw [nI_clamp (show i < 2 ^ 31 by omega)] at zz9
        have hcl := cntL_live (f := fv) (i := i) zz9
        have hb0 := cnR_le (ws := ws) (A := A) (N := N) (Bb := Bb) (ft := ft) (p := p) (c := 0) hz (show i < 24 by omega) (by decide)
        have hb1 := cnR_le (ws := ws) (A := A) (N := N) (Bb := Bb) (ft := ft) (p := p) (c := 1) hz (show i < 24 by omega) (by decide)
        have zc9 : ¬ (nI (cnR ws A N Bb ft fz p i 0) + nI (cnR ws A N Bb ft fz p i 1)) ≤ 0 := z_85
        rw [nI_add] at zc9
        simp only [nI_1]
        exact ih (i + 1) _ _ _ _ _ _ (by omega) l_48 e_49 g_50 ga_83 eb_52 el_53 (by omega) (by unfold wiR; rw [cP_y ⟨zz9, (show 0 < (cnR ws A N Bb ft fz p i 0) + (cnR ws A N Bb ft fz p i 1) from Nat.pos_of_ne_zero (fun q => zc9 (by rw [q]; decide)))⟩]; unfold wiR at hnW; rw [hnW]) r_70
