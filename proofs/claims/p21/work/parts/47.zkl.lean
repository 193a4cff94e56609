set_option maxHeartbeats 1000000 in
theorem lp_hiH {G : xw_G} {F L bc bs : Nat} {pr : Option Value → xw_A → Prop} {px : String → xw_A → Prop} {h : xw_A} {m begins_ lasts_ tokenAt_ tokenSize_ texts_ asked_ firstToken_ starred_ groupKind_ groupPhrase_ groupSize_ groupFar_ : Nat} {fb fl ca cs ft fa c1 c2 c5 c6 c7 c9 : Nat → Int32} {k : Nat} {fs : List Value} (l : fs.length = 62) (e : h m = some (.inr (11, fs))) (g_column : fs[(55 : Nat)]? = some (.int (nI k))) (g_begins : fs[(53 : Nat)]? = some (.ref begins_)) (e_begins : h begins_ = some (.inl (0, 24, .inl fb))) (g_lasts : fs[(54 : Nat)]? = some (.ref lasts_)) (e_lasts : h lasts_ = some (.inl (0, 24, .inl fl))) (g_tokenAt : fs[(43 : Nat)]? = some (.ref tokenAt_)) (e_tokenAt : h tokenAt_ = some (.inl (0, 60, .inl ca))) (g_tokenSize : fs[(44 : Nat)]? = some (.ref tokenSize_)) (e_tokenSize : h tokenSize_ = some (.inl (0, 60, .inl cs))) (g_texts : fs[(7 : Nat)]? = some (.ref texts_)) (e_texts : h texts_ = some (.inl (0, 2304, .inl ft))) (g_asked : fs[(4 : Nat)]? = some (.ref asked_)) (e_asked : h asked_ = some (.inl (0, 96, .inl fa))) (g_firstToken : fs[(41 : Nat)]? = some (.ref firstToken_)) (e_firstToken : h firstToken_ = some (.inl (0, 13, .inl c1))) (g_starred : fs[(42 : Nat)]? = some (.ref starred_)) (e_starred : h starred_ = some (.inl (0, 13, .inl c2))) (g_groupKind : fs[(45 : Nat)]? = some (.ref groupKind_)) (e_groupKind : h groupKind_ = some (.inl (0, 13, .inl c5))) (g_groupPhrase : fs[(46 : Nat)]? = some (.ref groupPhrase_)) (e_groupPhrase : h groupPhrase_ = some (.inl (0, 13, .inl c6))) (g_groupSize : fs[(47 : Nat)]? = some (.ref groupSize_)) (e_groupSize : h groupSize_ = some (.inl (0, 13, .inl c7))) (g_groupFar : fs[(49 : Nat)]? = some (.ref groupFar_)) (e_groupFar : h groupFar_ = some (.inl (0, 13, .inl c9))) {ws : List (List Int32)} {t P : Nat} {A N : Nat → Nat} {Bb : Nat → Bool} (hP : P ≤ 12) (PH : PhA ws c1 c2 P A N Bb) (hws : ws.length ≤ 49) (TR : TkR ws t ca cs fa) {T : List (List Int32)} (TP : TpX T k ft fb fl) (hk : k ≤ 24) {g a q kn far : Nat} (hg : g < 13) (h5 : c5 g = nI kn) (h6 : c6 g = nI a) (h7 : c7 g = nI q) (h9 : c9 g = nI far) (hkn : kn ≤ 2) (hq : 1 ≤ q) (haq : a + q ≤ P) (hfar : far < 100)  {ee : Nat} (hee : ee ≤ 24) (hF : 6 ≤ F) (hL : 136 ≤ L) (kk : ∀ al : Int32, ((al = 0 ∧ ¬ (HnP ws A N Bb T a q far ee)) ∨ (al = 1 ∧ (HnP ws A N Bb T a q far ee))) → xw G m_Model_holdsHere F L bc bs pr px 97 [some (.ref m), some (.int (nI g)), some (.int (nI a)), some (.int (nI ee)), some (.int al), none] [] h) :
    ∀ (dd i : Nat) (al : Int32), i + dd = q → ((al = 0 ∧ ¬ (HnP ws A N Bb T a i far ee)) ∨ (al = 1 ∧ (HnP ws A N Bb T a i far ee))) → xw G m_Model_holdsHere F L bc bs pr px 58 [some (.ref m), some (.int (nI g)), some (.int (nI a)), some (.int (nI ee)), some (.int al), some (.int (nI i))] [] h := by
  intro dd
  induction dd with
  | zero =>
    intro i al hi hp_
    obtain rfl : i = q := by omega
    refine s_Model_holdsHere_58 l e g_groupSize e_groupSize (vp_in_nI (by omega) (by omega)) (fun z_1 => ?_) (fun z => absurd (by rw [nI_clamp (by omega), h7]; exact nI_le (Nat.le_refl _) (by omega)) z)
    exact kk _ hp_
  | succ dd ih =>
    intro i al hi hp_
    refine s_Model_holdsHere_58 l e g_groupSize e_groupSize (vp_in_nI (by omega) (by omega)) (fun z => absurd z (by rw [nI_clamp (by omega), h7]; exact nI_ge (b := q) (show i < q by omega) (by omega))) (fun z_1 => ?_)
    refine s_Model_holdsHere_69 l e g_groupFar e_groupFar (vp_in_nI (by omega) (by omega)) ?_
    rw [show nI a + nI i = nI (a + i) from nI_add _ _, show nI ee + c9 (nI g).toNatClampNeg = nI (ee + far) by rw [nI_clamp (by omega), h9, nI_add]]
    obtain ⟨f1, f2, f3, f4⟩ := PH (a + i) (by omega)
    refine x_callV (As := [.int (nI (a + i)), .int (nI ee), .int (nI (ee + far))]) (b := m) (rest := [.int al]) (F1 := 5) (L1 := 112) (mc := 0) (ms := 0) d_Model_holdsHere_85 cV_Model_319 (f_standsBetweenH (e0 := ee) (b0 := (ee + far)) l e g_column g_begins e_begins g_lasts e_lasts g_tokenAt e_tokenAt g_tokenSize e_tokenSize g_texts e_texts g_asked e_asked g_firstToken e_firstToken g_starred e_starred (show a + i < 12 by omega) f1 f2 f3 f4 hws TR TP hk (by omega) (by omega) (by omega) (by omega)) e ⟨by decide, rfl⟩ ⟨by omega, by show 8 + (5 + 11) + 112 ≤ _; omega⟩ ⟨by omega, by omega⟩ (Nat.le_of_ble_eq_true rfl) (fun v_5 h_4 p_6 => ?_)
    obtain ⟨⟨y_2, rfl, hy_3⟩, rfl⟩ := p_6
    refine x_le (xw_le_s (xw_le_s (xw_le_s (xw_le_s (xw_le_n (xw_le_s xw_le_e)))))) ?_
    refine s_Model_holdsHere_88 ?_
    simp only [nI_1]
    exact ih (i + 1) _ (by omega) (yn_cg (yn_and hp_ hy_3) HnP.step.symm)
set_option maxHeartbeats 1000000 in
theorem lp_hoH {G : xw_G} {F L bc bs : Nat} {pr : Option Value → xw_A → Prop} {px : String → xw_A → Prop} {h : xw_A} {m begins_ lasts_ tokenAt_ tokenSize_ texts_ asked_ firstToken_ starred_ groupKind_ groupPhrase_ groupSize_ groupFar_ : Nat} {fb fl ca cs ft fa c1 c2 c5 c6 c7 c9 : Nat → Int32} {k : Nat} {fs : List Value} (l : fs.length = 62) (e : h m = some (.inr (11, fs))) (g_column : fs[(55 : Nat)]? = some (.int (nI k))) (g_begins : fs[(53 : Nat)]? = some (.ref begins_)) (e_begins : h begins_ = some (.inl (0, 24, .inl fb))) (g_lasts : fs[(54 : Nat)]? = some (.ref lasts_)) (e_lasts : h lasts_ = some (.inl (0, 24, .inl fl))) (g_tokenAt : fs[(43 : Nat)]? = some (.ref tokenAt_)) (e_tokenAt : h tokenAt_ = some (.inl (0, 60, .inl ca))) (g_tokenSize : fs[(44 : Nat)]? = some (.ref tokenSize_)) (e_tokenSize : h tokenSize_ = some (.inl (0, 60, .inl cs))) (g_texts : fs[(7 : Nat)]? = some (.ref texts_)) (e_texts : h texts_ = some (.inl (0, 2304, .inl ft))) (g_asked : fs[(4 : Nat)]? = some (.ref asked_)) (e_asked : h asked_ = some (.inl (0, 96, .inl fa))) (g_firstToken : fs[(41 : Nat)]? = some (.ref firstToken_)) (e_firstToken : h firstToken_ = some (.inl (0, 13, .inl c1))) (g_starred : fs[(42 : Nat)]? = some (.ref starred_)) (e_starred : h starred_ = some (.inl (0, 13, .inl c2))) (g_groupKind : fs[(45 : Nat)]? = some (.ref groupKind_)) (e_groupKind : h groupKind_ = some (.inl (0, 13, .inl c5))) (g_groupPhrase : fs[(46 : Nat)]? = some (.ref groupPhrase_)) (e_groupPhrase : h groupPhrase_ = some (.inl (0, 13, .inl c6))) (g_groupSize : fs[(47 : Nat)]? = some (.ref groupSize_)) (e_groupSize : h groupSize_ = some (.inl (0, 13, .inl c7))) (g_groupFar : fs[(49 : Nat)]? = some (.ref groupFar_)) (e_groupFar : h groupFar_ = some (.inl (0, 13, .inl c9))) {ws : List (List Int32)} {t P : Nat} {A N : Nat → Nat} {Bb : Nat → Bool} (hP : P ≤ 12) (PH : PhA ws c1 c2 P A N Bb) (hws : ws.length ≤ 49) (TR : TkR ws t ca cs fa) {T : List (List Int32)} (TP : TpX T k ft fb fl) (hk : k ≤ 24) {g a q kn far : Nat} (hg : g < 13) (h5 : c5 g = nI kn) (h6 : c6 g = nI a) (h7 : c7 g = nI q) (h9 : c9 g = nI far) (hkn : kn ≤ 2) (hq : 1 ≤ q) (haq : a + q ≤ P) (hfar : far < 100)  (hF : 6 ≤ F) (hL : 136 ≤ L) (kk : ∀ y : Int32, ((y = 0 ∧ ¬ (∃ e, e ≤ T.length ∧ HnP ws A N Bb T a q far e)) ∨ (y = 1 ∧ (∃ e, e ≤ T.length ∧ HnP ws A N Bb T a q far e))) → pr (some (.int y)) h) :
    ∀ (dd i : Nat) , i + dd = (k + 1) → (∀ e, e < i → ¬ HnP ws A N Bb T a q far e) → xw G m_Model_holdsHere F L bc bs pr px 44 [some (.ref m), some (.int (nI g)), some (.int (nI a)), some (.int (nI i)), none, none] [] h := by
  intro dd
  induction dd with
  | zero =>
    intro i hi hp_
    obtain rfl : i = (k + 1) := by omega
    refine s_Model_holdsHere_44 l e g_column (fun z_1 => ?_) (fun z => absurd (nI_lt (Nat.lt_succ_self _) (by omega)) z)
    refine s_Model_holdsHere_110 ?_
    exact kk _ (Or.inl ⟨rfl, fun ⟨e, he, r⟩ => hp_ e (by have := TP.1; omega) r⟩)
  | succ dd ih =>
    intro i hi hp_
    refine s_Model_holdsHere_44 l e g_column (fun z => absurd z (nI_nlt (a := k) (show i ≤ k by omega) (by omega))) (fun z_1 => ?_)
    refine s_Model_holdsHere_52 ?_
    have hkT := TP.1
    refine lp_hiH l e g_column g_begins e_begins g_lasts e_lasts g_tokenAt e_tokenAt g_tokenSize e_tokenSize g_texts e_texts g_asked e_asked g_firstToken e_firstToken g_starred e_starred g_groupKind e_groupKind g_groupPhrase e_groupPhrase g_groupSize e_groupSize g_groupFar e_groupFar hP PH hws TR TP hk hg h5 h6 h7 h9 hkn hq haq hfar (ee := i) (by omega) (by omega) (by omega) (fun al hal => ?_) q 0 1 (Nat.zero_add _) (Or.inr ⟨rfl, fun p8 h8 h81 => absurd h81 (by omega)⟩)
    refine s_Model_holdsHere_97 (fun z_2 => ?_) (fun z_3 => ?_)
    · skip
      refine s_Model_holdsHere_104 ?_
      simp only [nI_1]
      exact ih (i + 1) (by omega) (fun e he => by by_cases q9 : e = i; (subst q9; exact yn_n hal z_2); (exact hp_ e (by omega)))
    · skip
      refine s_Model_holdsHere_102 ?_
      exact kk _ (Or.inr ⟨rfl, i, by have := TP.1; omega, yn_y hal z_3⟩)
set_option maxHeartbeats 400000 in
theorem f_holdsHereH {G : xw_G} {F L : Nat} {h : xw_A} {m begins_ lasts_ tokenAt_ tokenSize_ texts_ asked_ firstToken_ starred_ groupKind_ groupPhrase_ groupSize_ groupFar_ : Nat} {fb fl ca cs ft fa c1 c2 c5 c6 c7 c9 : Nat → Int32} {k : Nat} {fs : List Value} (l : fs.length = 62) (e : h m = some (.inr (11, fs))) (g_column : fs[(55 : Nat)]? = some (.int (nI k))) (g_begins : fs[(53 : Nat)]? = some (.ref begins_)) (e_begins : h begins_ = some (.inl (0, 24, .inl fb))) (g_lasts : fs[(54 : Nat)]? = some (.ref lasts_)) (e_lasts : h lasts_ = some (.inl (0, 24, .inl fl))) (g_tokenAt : fs[(43 : Nat)]? = some (.ref tokenAt_)) (e_tokenAt : h tokenAt_ = some (.inl (0, 60, .inl ca))) (g_tokenSize : fs[(44 : Nat)]? = some (.ref tokenSize_)) (e_tokenSize : h tokenSize_ = some (.inl (0, 60, .inl cs))) (g_texts : fs[(7 : Nat)]? = some (.ref texts_)) (e_texts : h texts_ = some (.inl (0, 2304, .inl ft))) (g_asked : fs[(4 : Nat)]? = some (.ref asked_)) (e_asked : h asked_ = some (.inl (0, 96, .inl fa))) (g_firstToken : fs[(41 : Nat)]? = some (.ref firstToken_)) (e_firstToken : h firstToken_ = some (.inl (0, 13, .inl c1))) (g_starred : fs[(42 : Nat)]? = some (.ref starred_)) (e_starred : h starred_ = some (.inl (0, 13, .inl c2))) (g_groupKind : fs[(45 : Nat)]? = some (.ref groupKind_)) (e_groupKind : h groupKind_ = some (.inl (0, 13, .inl c5))) (g_groupPhrase : fs[(46 : Nat)]? = some (.ref groupPhrase_)) (e_groupPhrase : h groupPhrase_ = some (.inl (0, 13, .inl c6))) (g_groupSize : fs[(47 : Nat)]? = some (.ref groupSize_)) (e_groupSize : h groupSize_ = some (.inl (0, 13, .inl c7))) (g_groupFar : fs[(49 : Nat)]? = some (.ref groupFar_)) (e_groupFar : h groupFar_ = some (.inl (0, 13, .inl c9))) {ws : List (List Int32)} {t P : Nat} {A N : Nat → Nat} {Bb : Nat → Bool} (hP : P ≤ 12) (PH : PhA ws c1 c2 P A N Bb) (hws : ws.length ≤ 49) (TR : TkR ws t ca cs fa) {T : List (List Int32)} (TP : TpX T k ft fb fl) (hk : k ≤ 24) {g a q kn far : Nat} (hg : g < 13) (h5 : c5 g = nI kn) (h6 : c6 g = nI a) (h7 : c7 g = nI q) (h9 : c9 g = nI far) (hkn : kn ≤ 2) (hq : 1 ≤ q) (haq : a + q ≤ P) (hfar : far < 100)  (hF : 6 ≤ F) (hL : 136 ≤ L) :
    xw_Met G m_Model_holdsHere F L 0 0 [.ref m, .int (nI g)] h (fun v h' => (∃ y : Int32, v = some (.int y) ∧ ((y = 0 ∧ ¬ (HhP ws A N Bb T kn a q far)) ∨ (y = 1 ∧ (HhP ws A N Bb T kn a q far)))) ∧ h = h') (fun _ _ => False) := by
  refine xw_Met.of rfl (by decide) (Nat.le_of_ble_eq_true rfl) ?_
  refine s_Model_holdsHere_0 l e g_groupPhrase e_groupPhrase (vp_in_nI (by omega) (by omega)) g_groupKind e_groupKind (vp_in_nI (by omega) (by omega)) (fun z_1 => ?_) (fun z_2 => ?_)
  · skip
    rw [show c6 (nI g).toNatClampNeg = nI a by rw [nI_clamp (by omega)]; exact h6]
    refine s_Model_holdsHere_24 l e g_groupKind e_groupKind (vp_in_nI (by omega) (by omega)) (fun z_3 => ?_) (fun z_4 => ?_)
    · skip
      refine s_Model_holdsHere_42 ?_
      rw [nI_clamp (show g < 2 ^ 31 by omega), h5] at z_1
      have hkn_5 : ¬ kn = 1 := fun q => z_1 (by rw [q]; rfl)
      rw [nI_clamp (show g < 2 ^ 31 by omega), h5] at z_3
      have hkn_6 : ¬ kn = 0 := fun q => z_3 (by rw [q]; rfl)
      exact lp_hoH l e g_column g_begins e_begins g_lasts e_lasts g_tokenAt e_tokenAt g_tokenSize e_tokenSize g_texts e_texts g_asked e_asked g_firstToken e_firstToken g_starred e_starred g_groupKind e_groupKind g_groupPhrase e_groupPhrase g_groupSize e_groupSize g_groupFar e_groupFar hP PH hws TR TP hk hg h5 h6 h7 h9 hkn hq haq hfar (by omega) (by omega) (fun y hy => ⟨⟨y, rfl, yn_cg hy (by unfold HhP; rw [if_neg hkn_5, if_neg hkn_6])⟩, rfl⟩) (k + 1) 0 (Nat.zero_add _) (fun _ q => absurd q (Nat.not_lt_zero _))
    · skip
      refine s_Model_holdsHere_33 ?_
      obtain ⟨f1, f2, f3, f4⟩ := PH (a) (by omega)
      refine x_callV (As := [.int (nI a), .int 0, .int 48]) (b := m) (rest := []) (F1 := 5) (L1 := 112) (mc := 0) (ms := 0) d_Model_holdsHere_38 cV_Model_319 (f_standsBetweenH (e0 := 0) (b0 := 48) l e g_column g_begins e_begins g_lasts e_lasts g_tokenAt e_tokenAt g_tokenSize e_tokenSize g_texts e_texts g_asked e_asked g_firstToken e_firstToken g_starred e_starred (show a < 12 by omega) f1 f2 f3 f4 hws TR TP hk (by omega) (by omega) (by omega) (by omega)) e ⟨by decide, rfl⟩ ⟨by omega, by show 8 + (5 + 11) + 112 ≤ _; omega⟩ ⟨by omega, by omega⟩ (Nat.le_of_ble_eq_true rfl) (fun v_10 h_9 p_11 => ?_)
      obtain ⟨⟨y_7, rfl, hy_8⟩, rfl⟩ := p_11
      refine x_le (xw_le_n (xw_le_n (xw_le_n (xw_le_n (xw_le_n (xw_le_n xw_le_e)))))) ?_
      refine s_Model_holdsHere_41 (nb01 (yn_b hy_8)) ?_
      rw [nI_clamp (show g < 2 ^ 31 by omega), h5] at z_1
      have hkn_12 : ¬ kn = 1 := fun q => z_1 (by rw [q]; rfl)
      rw [nI_clamp (show g < 2 ^ 31 by omega), h5] at z_4
      have hkn_13 : kn = 0 := (nI_eq (b := 0) (by omega) (by decide)).mp z_4
      exact ⟨⟨_, rfl, yn_cg hy_8 (by unfold HhP; rw [if_neg hkn_12, if_pos hkn_13])⟩, rfl⟩
  · skip
    rw [show c6 (nI g).toNatClampNeg = nI a by rw [nI_clamp (by omega)]; exact h6]
    refine s_Model_holdsHere_17 ?_
    obtain ⟨f1, f2, f3, f4⟩ := PH (a) (by omega)
    refine x_callV (As := [.int (nI a), .int 0]) (b := m) (rest := []) (F1 := 4) (L1 := 87) (mc := 0) (ms := 0) d_Model_holdsHere_20 cV_Model_316 (f_standsH (u := 0) l e g_column g_begins e_begins g_lasts e_lasts g_tokenAt e_tokenAt g_tokenSize e_tokenSize g_texts e_texts g_asked e_asked g_firstToken e_firstToken g_starred e_starred (show a < 12 by omega) f1 f2 f3 f4 hws TR TP hk (by omega) (by omega) (by omega)) e ⟨by decide, rfl⟩ ⟨by omega, by show 8 + (6 + 11) + 87 ≤ _; omega⟩ ⟨by omega, by omega⟩ (Nat.le_of_ble_eq_true rfl) (fun v_17 h_16 p_18 => ?_)
    obtain ⟨⟨y_14, rfl, hy_15⟩, rfl⟩ := p_18
    refine x_le (xw_le_n (xw_le_n (xw_le_n (xw_le_n (xw_le_n (xw_le_n xw_le_e)))))) ?_
    refine s_Model_holdsHere_23 (nb01 (yn_b hy_15)) ?_
    rw [nI_clamp (show g < 2 ^ 31 by omega), h5] at z_2
    have hkn_19 : kn = 1 := (nI_eq (b := 1) (by omega) (by decide)).mp z_2
    exact ⟨⟨_, rfl, yn_cg hy_15 (by unfold HhP; rw [if_pos hkn_19])⟩, rfl⟩
set_option maxHeartbeats 2000000 in
theorem f_holdsH {G : xw_G} {F L : Nat} {h : xw_A} {m draft_ asked_ prepared_ preparedSize_ texts_ sizes_ weights_ entries_ lies_ live_ row_ level_ oldTexts_ oldSizes_ oldLies_ oldLive_ oldRow_ firstToken_ starred_ tokenAt_ tokenSize_ groupKind_ groupPhrase_ groupSize_ groupMask_ groupFar_ out_ top_ masks_ begins_ lasts_ truth_ answers_ order_ scores_ : Nat} {fb fl ca cs ft fa c1 c2 c5 c6 c7 c9 c8 fz : Nat → Int32} {cl : Int32} {fs : List Value} (l : fs.length = 62) (e : h m = some (.inr (11, fs))) (g_column : fs[(55 : Nat)]? = some (.int cl)) (g_begins : fs[(53 : Nat)]? = some (.ref begins_)) (e_begins : h begins_ = some (.inl (0, 24, .inl fb))) (g_lasts : fs[(54 : Nat)]? = some (.ref lasts_)) (e_lasts : h lasts_ = some (.inl (0, 24, .inl fl))) (g_tokenAt : fs[(43 : Nat)]? = some (.ref tokenAt_)) (e_tokenAt : h tokenAt_ = some (.inl (0, 60, .inl ca))) (g_tokenSize : fs[(44 : Nat)]? = some (.ref tokenSize_)) (e_tokenSize : h tokenSize_ = some (.inl (0, 60, .inl cs))) (g_texts : fs[(7 : Nat)]? = some (.ref texts_)) (e_texts : h texts_ = some (.inl (0, 2304, .inl ft))) (g_asked : fs[(4 : Nat)]? = some (.ref asked_)) (e_asked : h asked_ = some (.inl (0, 96, .inl fa))) (g_firstToken : fs[(41 : Nat)]? = some (.ref firstToken_)) (e_firstToken : h firstToken_ = some (.inl (0, 13, .inl c1))) (g_starred : fs[(42 : Nat)]? = some (.ref starred_)) (e_starred : h starred_ = some (.inl (0, 13, .inl c2))) (g_groupKind : fs[(45 : Nat)]? = some (.ref groupKind_)) (e_groupKind : h groupKind_ = some (.inl (0, 13, .inl c5))) (g_groupPhrase : fs[(46 : Nat)]? = some (.ref groupPhrase_)) (e_groupPhrase : h groupPhrase_ = some (.inl (0, 13, .inl c6))) (g_groupSize : fs[(47 : Nat)]? = some (.ref groupSize_)) (e_groupSize : h groupSize_ = some (.inl (0, 13, .inl c7))) (g_groupFar : fs[(49 : Nat)]? = some (.ref groupFar_)) (e_groupFar : h groupFar_ = some (.inl (0, 13, .inl c9))) (g_groupMask : fs[(48 : Nat)]? = some (.ref groupMask_)) (e_groupMask : h groupMask_ = some (.inl (0, 13, .inl c8))) (g_sizes : fs[(8 : Nat)]? = some (.ref sizes_)) (e_sizes : h sizes_ = some (.inl (0, 48, .inl fz))) (ND : NDl [m, draft_, asked_, prepared_, preparedSize_, texts_, sizes_, weights_, entries_, lies_, live_, row_, level_, oldTexts_, oldSizes_, oldLies_, oldLive_, oldRow_, firstToken_, starred_, tokenAt_, tokenSize_, groupKind_, groupPhrase_, groupSize_, groupMask_, groupFar_, out_, top_, masks_, begins_, lasts_, truth_, answers_, order_, scores_]) {ws : List (List Int32)} {t P : Nat} {A N : Nat → Nat} {Bb : Nat → Bool} (hP : P ≤ 12) (PH : PhA ws c1 c2 P A N Bb) (hws : ws.length ≤ 49) (TR : TkR ws t ca cs fa) {g a q kn far : Nat} (hg : g < 13) (h5 : c5 g = nI kn) (h6 : c6 g = nI a) (h7 : c7 g = nI q) (h9 : c9 g = nI far) (hkn : kn ≤ 2) (hq : 1 ≤ q) (haq : a + q ≤ P) (hfar : far < 100) {r cc : Nat} (h8 : c8 g = nI cc) (hcc : cc ≤ 3) (hr : r < 24) (hz : SZo fz 48) (hF : 7 ≤ F) (hL : 161 ≤ L) :
    xw_Met G m_Model_holds F L 0 0 [.ref m, .int (nI g), .int (nI r)] h (fun v h' => (∃ y : Int32, v = some (.int y) ∧ ((y = 0 ∧ ¬ (GhP ws A N Bb ft fz r cc kn a q far)) ∨ (y = 1 ∧ (GhP ws A N Bb ft fz r cc kn a q far)))) ∧ EvP m begins_ lasts_ fs h h') (fun _ _ => False) := by
  refine xw_Met.of rfl (by decide) (Nat.le_of_ble_eq_true rfl) ?_
  obtain ⟨n0, hz0, hz0b⟩ := hz (2 * r + 0) (by omega)
  obtain ⟨n1, hz1, hz1b⟩ := hz (2 * r + 1) (by omega)
  have ga0 : ∀ i : Nat, i ∉ [55] → fs[i]? = fs[i]? := fun _ _ => rfl
  have r0 : FrO [m, begins_, lasts_] h h := FrO.rf
  refine s_Model_holds_0 ?_
  refine s_Model_holds_2 (fun z => absurd z (by decide)) (fun z_1 => ?_)
  refine s_Model_holds_7 l e g_groupMask e_groupMask (vp_in_nI (by omega) (by omega)) (fun z_2 => ?_) (fun z_3 => ?_)
  · skip
    refine s_Model_holds_37 ?_
    rw [show (0 : Int32) + 1 = 1 from rfl]
    refine s_Model_holds_2 (fun z => absurd z (by decide)) (fun z_4 => ?_)
    refine s_Model_holds_7 l e g_groupMask e_groupMask (vp_in_nI (by omega) (by omega)) (fun z_5 => ?_) (fun z_6 => ?_)
    · skip
      refine s_Model_holds_37 ?_
      rw [show (1 : Int32) + 1 = 2 from rfl]
      refine s_Model_holds_2 (fun z_7 => ?_) (fun z => absurd z (by decide))
      refine s_Model_holds_43 ?_
      rw [nI_clamp (show g < 2 ^ 31 by omega), h8] at z_2
      rw [nI_clamp (show g < 2 ^ 31 by omega), h8] at z_5
      have hno : ¬ GhP ws A N Bb ft fz r cc kn a q far := by rintro ⟨c9, u1, u2, u3⟩; rcases (show c9 = 0 ∨ c9 = 1 by omega) with rfl | rfl; (exact absurd ((col_ask cc hcc 0 (by decide)).mpr u2) z_2); (exact absurd ((col_ask cc hcc 1 (by decide)).mpr u2) z_5)
      exact ⟨⟨_, rfl, Or.inl ⟨rfl, hno⟩⟩, ⟨_, _, _, _, l, e, g_column, ga0, e_begins, e_lasts, r0⟩⟩
    · skip
      refine s_Model_holds_21 ?_
      refine x_callV (As := [.int (nI r), .int (nI 1)]) (b := m) (rest := []) (F1 := 3) (L1 := 62) (mc := 0) (ms := 0) d_Model_holds_24 cV_Model_153 (f_opens l e g_column g_texts e_texts g_sizes e_sizes g_begins e_begins g_lasts e_lasts (nd_ne ND (i := 30) (j := 31) rfl rfl (by decide)) (show r < 24 by omega) (show 1 < 2 by omega) hz1 hz1b (by omega) (by omega)) e ⟨by decide, rfl⟩ ⟨by omega, by show 8 + (6 + 11) + 62 ≤ _; omega⟩ ⟨by omega, by omega⟩ (Nat.le_of_ble_eq_true rfl) (fun v_23 h_22 p_24 => ?_)
      obtain ⟨rfl, k_8, fb_9, fl_10, fs_11, l_12, e_13, g_14, ga_15, eb_16, el_17, TW_18, hk_19, TX_20, fr_21⟩ := p_24
      have e_25 := fr_21 tokenAt_ _ (by simp only [List.mem_cons, List.not_mem_nil, or_false, not_or]; exact ⟨(Ne.symm (nd_ne ND (i := 0) (j := 20) rfl rfl (by decide))), (Ne.symm (nd_ne ND (i := 30) (j := 20) rfl rfl (by decide))), (Ne.symm (nd_ne ND (i := 31) (j := 20) rfl rfl (by decide)))⟩) e_tokenAt
      have e_26 := fr_21 tokenSize_ _ (by simp only [List.mem_cons, List.not_mem_nil, or_false, not_or]; exact ⟨(Ne.symm (nd_ne ND (i := 0) (j := 21) rfl rfl (by decide))), (Ne.symm (nd_ne ND (i := 30) (j := 21) rfl rfl (by decide))), (Ne.symm (nd_ne ND (i := 31) (j := 21) rfl rfl (by decide)))⟩) e_tokenSize
      have e_27 := fr_21 texts_ _ (by simp only [List.mem_cons, List.not_mem_nil, or_false, not_or]; exact ⟨(Ne.symm (nd_ne ND (i := 0) (j := 5) rfl rfl (by decide))), (Ne.symm (nd_ne ND (i := 30) (j := 5) rfl rfl (by decide))), (Ne.symm (nd_ne ND (i := 31) (j := 5) rfl rfl (by decide)))⟩) e_texts
      have e_28 := fr_21 asked_ _ (by simp only [List.mem_cons, List.not_mem_nil, or_false, not_or]; exact ⟨(Ne.symm (nd_ne ND (i := 0) (j := 2) rfl rfl (by decide))), (Ne.symm (nd_ne ND (i := 30) (j := 2) rfl rfl (by decide))), (Ne.symm (nd_ne ND (i := 31) (j := 2) rfl rfl (by decide)))⟩) e_asked
      have e_29 := fr_21 firstToken_ _ (by simp only [List.mem_cons, List.not_mem_nil, or_false, not_or]; exact ⟨(Ne.symm (nd_ne ND (i := 0) (j := 18) rfl rfl (by decide))), (Ne.symm (nd_ne ND (i := 30) (j := 18) rfl rfl (by decide))), (Ne.symm (nd_ne ND (i := 31) (j := 18) rfl rfl (by decide)))⟩) e_firstToken
      have e_30 := fr_21 starred_ _ (by simp only [List.mem_cons, List.not_mem_nil, or_false, not_or]; exact ⟨(Ne.symm (nd_ne ND (i := 0) (j := 19) rfl rfl (by decide))), (Ne.symm (nd_ne ND (i := 30) (j := 19) rfl rfl (by decide))), (Ne.symm (nd_ne ND (i := 31) (j := 19) rfl rfl (by decide)))⟩) e_starred
      have e_31 := fr_21 groupKind_ _ (by simp only [List.mem_cons, List.not_mem_nil, or_false, not_or]; exact ⟨(Ne.symm (nd_ne ND (i := 0) (j := 22) rfl rfl (by decide))), (Ne.symm (nd_ne ND (i := 30) (j := 22) rfl rfl (by decide))), (Ne.symm (nd_ne ND (i := 31) (j := 22) rfl rfl (by decide)))⟩) e_groupKind
      have e_32 := fr_21 groupPhrase_ _ (by simp only [List.mem_cons, List.not_mem_nil, or_false, not_or]; exact ⟨(Ne.symm (nd_ne ND (i := 0) (j := 23) rfl rfl (by decide))), (Ne.symm (nd_ne ND (i := 30) (j := 23) rfl rfl (by decide))), (Ne.symm (nd_ne ND (i := 31) (j := 23) rfl rfl (by decide)))⟩) e_groupPhrase
      have e_33 := fr_21 groupSize_ _ (by simp only [List.mem_cons, List.not_mem_nil, or_false, not_or]; exact ⟨(Ne.symm (nd_ne ND (i := 0) (j := 24) rfl rfl (by decide))), (Ne.symm (nd_ne ND (i := 30) (j := 24) rfl rfl (by decide))), (Ne.symm (nd_ne ND (i := 31) (j := 24) rfl rfl (by decide)))⟩) e_groupSize
      have e_34 := fr_21 groupFar_ _ (by simp only [List.mem_cons, List.not_mem_nil, or_false, not_or]; exact ⟨(Ne.symm (nd_ne ND (i := 0) (j := 26) rfl rfl (by decide))), (Ne.symm (nd_ne ND (i := 30) (j := 26) rfl rfl (by decide))), (Ne.symm (nd_ne ND (i := 31) (j := 26) rfl rfl (by decide)))⟩) e_groupFar
      have e_35 := fr_21 groupMask_ _ (by simp only [List.mem_cons, List.not_mem_nil, or_false, not_or]; exact ⟨(Ne.symm (nd_ne ND (i := 0) (j := 25) rfl rfl (by decide))), (Ne.symm (nd_ne ND (i := 30) (j := 25) rfl rfl (by decide))), (Ne.symm (nd_ne ND (i := 31) (j := 25) rfl rfl (by decide)))⟩) e_groupMask
      have e_36 := fr_21 sizes_ _ (by simp only [List.mem_cons, List.not_mem_nil, or_false, not_or]; exact ⟨(Ne.symm (nd_ne ND (i := 0) (j := 6) rfl rfl (by decide))), (Ne.symm (nd_ne ND (i := 30) (j := 6) rfl rfl (by decide))), (Ne.symm (nd_ne ND (i := 31) (j := 6) rfl rfl (by decide)))⟩) e_sizes
      have g_37 : fs_11[(53 : Nat)]? = some (.ref begins_) := (ga_15 53 (by decide)).trans g_begins
      have g_38 : fs_11[(54 : Nat)]? = some (.ref lasts_) := (ga_15 54 (by decide)).trans g_lasts
      have g_39 : fs_11[(43 : Nat)]? = some (.ref tokenAt_) := (ga_15 43 (by decide)).trans g_tokenAt
      have g_40 : fs_11[(44 : Nat)]? = some (.ref tokenSize_) := (ga_15 44 (by decide)).trans g_tokenSize
      have g_41 : fs_11[(7 : Nat)]? = some (.ref texts_) := (ga_15 7 (by decide)).trans g_texts
      have g_42 : fs_11[(4 : Nat)]? = some (.ref asked_) := (ga_15 4 (by decide)).trans g_asked
      have g_43 : fs_11[(41 : Nat)]? = some (.ref firstToken_) := (ga_15 41 (by decide)).trans g_firstToken
      have g_44 : fs_11[(42 : Nat)]? = some (.ref starred_) := (ga_15 42 (by decide)).trans g_starred
      have g_45 : fs_11[(45 : Nat)]? = some (.ref groupKind_) := (ga_15 45 (by decide)).trans g_groupKind
      have g_46 : fs_11[(46 : Nat)]? = some (.ref groupPhrase_) := (ga_15 46 (by decide)).trans g_groupPhrase
      have g_47 : fs_11[(47 : Nat)]? = some (.ref groupSize_) := (ga_15 47 (by decide)).trans g_groupSize
      have g_48 : fs_11[(49 : Nat)]? = some (.ref groupFar_) := (ga_15 49 (by decide)).trans g_groupFar
      have g_49 : fs_11[(48 : Nat)]? = some (.ref groupMask_) := (ga_15 48 (by decide)).trans g_groupMask
      have g_50 : fs_11[(8 : Nat)]? = some (.ref sizes_) := (ga_15 8 (by decide)).trans g_sizes
      have ga_51 : ∀ i : Nat, i ∉ [55] → fs_11[i]? = fs[i]? := fun i hi => (ga_15 i (fun z => hi (by simp only [List.mem_cons, List.not_mem_nil, or_false] at z ⊢; omega))).trans (ga0 i hi)
      have r_52 := r0.trans (fr_21.mono (by simp))
      refine s_Model_holds_27 ?_
      have hk24_53 : k_8 ≤ 24 := by have q9 := (tokN_half (fun j => ft (96 * r + 48 * 1 + j)) n1).1; rw [← hk_19] at q9; omega
      have TP_54 := TpX.of TX_20 hk_19 TW_18 (by omega)
      refine x_callV (As := [.int (nI g)]) (b := m) (rest := []) (F1 := 6) (L1 := 136) (mc := 0) (ms := 0) d_Model_holds_29 cV_Model_322 (f_holdsHereH l_12 e_13 g_14 g_37 eb_16 g_38 el_17 g_39 e_25 g_40 e_26 g_41 e_27 g_42 e_28 g_43 e_29 g_44 e_30 g_45 e_31 g_46 e_32 g_47 e_33 g_48 e_34 hP PH hws TR TP_54 hk24_53 hg h5 h6 h7 h9 hkn hq haq hfar (by omega) (by omega)) e_13 ⟨by decide, rfl⟩ ⟨by omega, by show 8 + (6 + 11) + 136 ≤ _; omega⟩ ⟨by omega, by omega⟩ (Nat.le_of_ble_eq_true rfl) (fun v_58 h_57 p_59 => ?_)
      obtain ⟨⟨y_55, rfl, hy_56⟩, rfl⟩ := p_59
      refine s_Model_holds_32 (fun z_60 => ?_) (fun z_61 => ?_)
      · skip
        refine s_Model_holds_37 ?_
        rw [show (1 : Int32) + 1 = 2 from rfl]
        refine s_Model_holds_2 (fun z_62 => ?_) (fun z => absurd z (by decide))
        refine s_Model_holds_43 ?_
        rw [nI_clamp (show g < 2 ^ 31 by omega), h8] at z_2
        rw [nI_clamp (show g < 2 ^ 31 by omega), h8] at z_6
        have hno : ¬ GhP ws A N Bb ft fz r cc kn a q far := by rintro ⟨c9, u1, u2, u3⟩; rcases (show c9 = 0 ∨ c9 = 1 by omega) with rfl | rfl; (exact absurd ((col_ask cc hcc 0 (by decide)).mpr u2) z_2); (rw [Tw_eq hz1 hz1b] at u3; exact yn_n hy_56 z_60 u3)
        exact ⟨⟨_, rfl, Or.inl ⟨rfl, hno⟩⟩, ⟨_, _, _, _, l_12, e_13, g_14, ga_51, eb_16, el_17, r_52⟩⟩
      · skip
        refine s_Model_holds_35 ?_
        rw [nI_clamp (show g < 2 ^ 31 by omega), h8] at z_2
        rw [nI_clamp (show g < 2 ^ 31 by omega), h8] at z_6
        exact ⟨⟨_, rfl, Or.inr ⟨rfl, 1, by decide, (col_ask cc hcc 1 (by decide)).mp z_6, by rw [Tw_eq hz1 hz1b]; exact yn_y hy_56 z_61⟩⟩, ⟨_, _, _, _, l_12, e_13, g_14, ga_51, eb_16, el_17, r_52⟩⟩
  · skip
    refine s_Model_holds_21 ?_
    refine x_callV (As := [.int (nI r), .int (nI 0)]) (b := m) (rest := []) (F1 := 3) (L1 := 62) (mc := 0) (ms := 0) d_Model_holds_24 cV_Model_153 (f_opens l e g_column g_texts e_texts g_sizes e_sizes g_begins e_begins g_lasts e_lasts (nd_ne ND (i := 30) (j := 31) rfl rfl (by decide)) (show r < 24 by omega) (show 0 < 2 by omega) hz0 hz0b (by omega) (by omega)) e ⟨by decide, rfl⟩ ⟨by omega, by show 8 + (6 + 11) + 62 ≤ _; omega⟩ ⟨by omega, by omega⟩ (Nat.le_of_ble_eq_true rfl) (fun v_78 h_77 p_79 => ?_)
    obtain ⟨rfl, k_63, fb_64, fl_65, fs_66, l_67, e_68, g_69, ga_70, eb_71, el_72, TW_73, hk_74, TX_75, fr_76⟩ := p_79
    have e_80 := fr_76 tokenAt_ _ (by simp only [List.mem_cons, List.not_mem_nil, or_false, not_or]; exact ⟨(Ne.symm (nd_ne ND (i := 0) (j := 20) rfl rfl (by decide))), (Ne.symm (nd_ne ND (i := 30) (j := 20) rfl rfl (by decide))), (Ne.symm (nd_ne ND (i := 31) (j := 20) rfl rfl (by decide)))⟩) e_tokenAt
    have e_81 := fr_76 tokenSize_ _ (by simp only [List.mem_cons, List.not_mem_nil, or_false, not_or]; exact ⟨(Ne.symm (nd_ne ND (i := 0) (j := 21) rfl rfl (by decide))), (Ne.symm (nd_ne ND (i := 30) (j := 21) rfl rfl (by decide))), (Ne.symm (nd_ne ND (i := 31) (j := 21) rfl rfl (by decide)))⟩) e_tokenSize
    have e_82 := fr_76 texts_ _ (by simp only [List.mem_cons, List.not_mem_nil, or_false, not_or]; exact ⟨(Ne.symm (nd_ne ND (i := 0) (j := 5) rfl rfl (by decide))), (Ne.symm (nd_ne ND (i := 30) (j := 5) rfl rfl (by decide))), (Ne.symm (nd_ne ND (i := 31) (j := 5) rfl rfl (by decide)))⟩) e_texts
    have e_83 := fr_76 asked_ _ (by simp only [List.mem_cons, List.not_mem_nil, or_false, not_or]; exact ⟨(Ne.symm (nd_ne ND (i := 0) (j := 2) rfl rfl (by decide))), (Ne.symm (nd_ne ND (i := 30) (j := 2) rfl rfl (by decide))), (Ne.symm (nd_ne ND (i := 31) (j := 2) rfl rfl (by decide)))⟩) e_asked
    have e_84 := fr_76 firstToken_ _ (by simp only [List.mem_cons, List.not_mem_nil, or_false, not_or]; exact ⟨(Ne.symm (nd_ne ND (i := 0) (j := 18) rfl rfl (by decide))), (Ne.symm (nd_ne ND (i := 30) (j := 18) rfl rfl (by decide))), (Ne.symm (nd_ne ND (i := 31) (j := 18) rfl rfl (by decide)))⟩) e_firstToken
    have e_85 := fr_76 starred_ _ (by simp only [List.mem_cons, List.not_mem_nil, or_false, not_or]; exact ⟨(Ne.symm (nd_ne ND (i := 0) (j := 19) rfl rfl (by decide))), (Ne.symm (nd_ne ND (i := 30) (j := 19) rfl rfl (by decide))), (Ne.symm (nd_ne ND (i := 31) (j := 19) rfl rfl (by decide)))⟩) e_starred
    have e_86 := fr_76 groupKind_ _ (by simp only [List.mem_cons, List.not_mem_nil, or_false, not_or]; exact ⟨(Ne.symm (nd_ne ND (i := 0) (j := 22) rfl rfl (by decide))), (Ne.symm (nd_ne ND (i := 30) (j := 22) rfl rfl (by decide))), (Ne.symm (nd_ne ND (i := 31) (j := 22) rfl rfl (by decide)))⟩) e_groupKind
    have e_87 := fr_76 groupPhrase_ _ (by simp only [List.mem_cons, List.not_mem_nil, or_false, not_or]; exact ⟨(Ne.symm (nd_ne ND (i := 0) (j := 23) rfl rfl (by decide))), (Ne.symm (nd_ne ND (i := 30) (j := 23) rfl rfl (by decide))), (Ne.symm (nd_ne ND (i := 31) (j := 23) rfl rfl (by decide)))⟩) e_groupPhrase
    have e_88 := fr_76 groupSize_ _ (by simp only [List.mem_cons, List.not_mem_nil, or_false, not_or]; exact ⟨(Ne.symm (nd_ne ND (i := 0) (j := 24) rfl rfl (by decide))), (Ne.symm (nd_ne ND (i := 30) (j := 24) rfl rfl (by decide))), (Ne.symm (nd_ne ND (i := 31) (j := 24) rfl rfl (by decide)))⟩) e_groupSize
    have e_89 := fr_76 groupFar_ _ (by simp only [List.mem_cons, List.not_mem_nil, or_false, not_or]; exact ⟨(Ne.symm (nd_ne ND (i := 0) (j := 26) rfl rfl (by decide))), (Ne.symm (nd_ne ND (i := 30) (j := 26) rfl rfl (by decide))), (Ne.symm (nd_ne ND (i := 31) (j := 26) rfl rfl (by decide)))⟩) e_groupFar
    have e_90 := fr_76 groupMask_ _ (by simp only [List.mem_cons, List.not_mem_nil, or_false, not_or]; exact ⟨(Ne.symm (nd_ne ND (i := 0) (j := 25) rfl rfl (by decide))), (Ne.symm (nd_ne ND (i := 30) (j := 25) rfl rfl (by decide))), (Ne.symm (nd_ne ND (i := 31) (j := 25) rfl rfl (by decide)))⟩) e_groupMask
    have e_91 := fr_76 sizes_ _ (by simp only [List.mem_cons, List.not_mem_nil, or_false, not_or]; exact ⟨(Ne.symm (nd_ne ND (i := 0) (j := 6) rfl rfl (by decide))), (Ne.symm (nd_ne ND (i := 30) (j := 6) rfl rfl (by decide))), (Ne.symm (nd_ne ND (i := 31) (j := 6) rfl rfl (by decide)))⟩) e_sizes
    have g_92 : fs_66[(53 : Nat)]? = some (.ref begins_) := (ga_70 53 (by decide)).trans g_begins
    have g_93 : fs_66[(54 : Nat)]? = some (.ref lasts_) := (ga_70 54 (by decide)).trans g_lasts
    have g_94 : fs_66[(43 : Nat)]? = some (.ref tokenAt_) := (ga_70 43 (by decide)).trans g_tokenAt
    have g_95 : fs_66[(44 : Nat)]? = some (.ref tokenSize_) := (ga_70 44 (by decide)).trans g_tokenSize
    have g_96 : fs_66[(7 : Nat)]? = some (.ref texts_) := (ga_70 7 (by decide)).trans g_texts
    have g_97 : fs_66[(4 : Nat)]? = some (.ref asked_) := (ga_70 4 (by decide)).trans g_asked
    have g_98 : fs_66[(41 : Nat)]? = some (.ref firstToken_) := (ga_70 41 (by decide)).trans g_firstToken
    have g_99 : fs_66[(42 : Nat)]? = some (.ref starred_) := (ga_70 42 (by decide)).trans g_starred
    have g_100 : fs_66[(45 : Nat)]? = some (.ref groupKind_) := (ga_70 45 (by decide)).trans g_groupKind
    have g_101 : fs_66[(46 : Nat)]? = some (.ref groupPhrase_) := (ga_70 46 (by decide)).trans g_groupPhrase
    have g_102 : fs_66[(47 : Nat)]? = some (.ref groupSize_) := (ga_70 47 (by decide)).trans g_groupSize
    have g_103 : fs_66[(49 : Nat)]? = some (.ref groupFar_) := (ga_70 49 (by decide)).trans g_groupFar
    have g_104 : fs_66[(48 : Nat)]? = some (.ref groupMask_) := (ga_70 48 (by decide)).trans g_groupMask
    have g_105 : fs_66[(8 : Nat)]? = some (.ref sizes_) := (ga_70 8 (by decide)).trans g_sizes
    have ga_106 : ∀ i : Nat, i ∉ [55] → fs_66[i]? = fs[i]? := fun i hi => (ga_70 i (fun z => hi (by simp only [List.mem_cons, List.not_mem_nil, or_false] at z ⊢; omega))).trans (ga0 i hi)
    have r_107 := r0.trans (fr_76.mono (by simp))
    refine s_Model_holds_27 ?_
    have hk24_108 : k_63 ≤ 24 := by have q9 := (tokN_half (fun j => ft (96 * r + 48 * 0 + j)) n0).1; rw [← hk_74] at q9; omega
    have TP_109 := TpX.of TX_75 hk_74 TW_73 (by omega)
    refine x_callV (As := [.int (nI g)]) (b := m) (rest := []) (F1 := 6) (L1 := 136) (mc := 0) (ms := 0) d_Model_holds_29 cV_Model_322 (f_holdsHereH l_67 e_68 g_69 g_92 eb_71 g_93 el_72 g_94 e_80 g_95 e_81 g_96 e_82 g_97 e_83 g_98 e_84 g_99 e_85 g_100 e_86 g_101 e_87 g_102 e_88 g_103 e_89 hP PH hws TR TP_109 hk24_108 hg h5 h6 h7 h9 hkn hq haq hfar (by omega) (by omega)) e_68 ⟨by decide, rfl⟩ ⟨by omega, by show 8 + (6 + 11) + 136 ≤ _; omega⟩ ⟨by omega, by omega⟩ (Nat.le_of_ble_eq_true rfl) (fun v_113 h_112 p_114 => ?_)
    obtain ⟨⟨y_110, rfl, hy_111⟩, rfl⟩ := p_114
    refine s_Model_holds_32 (fun z_115 => ?_) (fun z_116 => ?_)
    · skip
      refine s_Model_holds_37 ?_
      rw [show (0 : Int32) + 1 = 1 from rfl]
      refine s_Model_holds_2 (fun z => absurd z (by decide)) (fun z_117 => ?_)
      refine s_Model_holds_7 l_67 e_68 g_104 e_90 (vp_in_nI (by omega) (by omega)) (fun z_118 => ?_) (fun z_119 => ?_)
      · skip
        refine s_Model_holds_37 ?_
        rw [show (1 : Int32) + 1 = 2 from rfl]
        refine s_Model_holds_2 (fun z_120 => ?_) (fun z => absurd z (by decide))
        refine s_Model_holds_43 ?_
        rw [nI_clamp (show g < 2 ^ 31 by omega), h8] at z_3
        rw [nI_clamp (show g < 2 ^ 31 by omega), h8] at z_118
        have hno : ¬ GhP ws A N Bb ft fz r cc kn a q far := by rintro ⟨c9, u1, u2, u3⟩; rcases (show c9 = 0 ∨ c9 = 1 by omega) with rfl | rfl; (rw [Tw_eq hz0 hz0b] at u3; exact yn_n hy_111 z_115 u3); (exact absurd ((col_ask cc hcc 1 (by decide)).mpr u2) z_118)
        exact ⟨⟨_, rfl, Or.inl ⟨rfl, hno⟩⟩, ⟨_, _, _, _, l_67, e_68, g_69, ga_106, eb_71, el_72, r_107⟩⟩
      · skip
        refine s_Model_holds_21 ?_
        refine x_callV (As := [.int (nI r), .int (nI 1)]) (b := m) (rest := []) (F1 := 3) (L1 := 62) (mc := 0) (ms := 0) d_Model_holds_24 cV_Model_153 (f_opens l_67 e_68 g_69 g_96 e_82 g_105 e_91 g_92 eb_71 g_93 el_72 (nd_ne ND (i := 30) (j := 31) rfl rfl (by decide)) (show r < 24 by omega) (show 1 < 2 by omega) hz1 hz1b (by omega) (by omega)) e_68 ⟨by decide, rfl⟩ ⟨by omega, by show 8 + (6 + 11) + 62 ≤ _; omega⟩ ⟨by omega, by omega⟩ (Nat.le_of_ble_eq_true rfl) (fun v_136 h_135 p_137 => ?_)
        obtain ⟨rfl, k_121, fb_122, fl_123, fs_124, l_125, e_126, g_127, ga_128, eb_129, el_130, TW_131, hk_132, TX_133, fr_134⟩ := p_137
        have e_138 := fr_134 tokenAt_ _ (by simp only [List.mem_cons, List.not_mem_nil, or_false, not_or]; exact ⟨(Ne.symm (nd_ne ND (i := 0) (j := 20) rfl rfl (by decide))), (Ne.symm (nd_ne ND (i := 30) (j := 20) rfl rfl (by decide))), (Ne.symm (nd_ne ND (i := 31) (j := 20) rfl rfl (by decide)))⟩) e_80
        have e_139 := fr_134 tokenSize_ _ (by simp only [List.mem_cons, List.not_mem_nil, or_false, not_or]; exact ⟨(Ne.symm (nd_ne ND (i := 0) (j := 21) rfl rfl (by decide))), (Ne.symm (nd_ne ND (i := 30) (j := 21) rfl rfl (by decide))), (Ne.symm (nd_ne ND (i := 31) (j := 21) rfl rfl (by decide)))⟩) e_81
        have e_140 := fr_134 texts_ _ (by simp only [List.mem_cons, List.not_mem_nil, or_false, not_or]; exact ⟨(Ne.symm (nd_ne ND (i := 0) (j := 5) rfl rfl (by decide))), (Ne.symm (nd_ne ND (i := 30) (j := 5) rfl rfl (by decide))), (Ne.symm (nd_ne ND (i := 31) (j := 5) rfl rfl (by decide)))⟩) e_82
        have e_141 := fr_134 asked_ _ (by simp only [List.mem_cons, List.not_mem_nil, or_false, not_or]; exact ⟨(Ne.symm (nd_ne ND (i := 0) (j := 2) rfl rfl (by decide))), (Ne.symm (nd_ne ND (i := 30) (j := 2) rfl rfl (by decide))), (Ne.symm (nd_ne ND (i := 31) (j := 2) rfl rfl (by decide)))⟩) e_83
        have e_142 := fr_134 firstToken_ _ (by simp only [List.mem_cons, List.not_mem_nil, or_false, not_or]; exact ⟨(Ne.symm (nd_ne ND (i := 0) (j := 18) rfl rfl (by decide))), (Ne.symm (nd_ne ND (i := 30) (j := 18) rfl rfl (by decide))), (Ne.symm (nd_ne ND (i := 31) (j := 18) rfl rfl (by decide)))⟩) e_84
        have e_143 := fr_134 starred_ _ (by simp only [List.mem_cons, List.not_mem_nil, or_false, not_or]; exact ⟨(Ne.symm (nd_ne ND (i := 0) (j := 19) rfl rfl (by decide))), (Ne.symm (nd_ne ND (i := 30) (j := 19) rfl rfl (by decide))), (Ne.symm (nd_ne ND (i := 31) (j := 19) rfl rfl (by decide)))⟩) e_85
        have e_144 := fr_134 groupKind_ _ (by simp only [List.mem_cons, List.not_mem_nil, or_false, not_or]; exact ⟨(Ne.symm (nd_ne ND (i := 0) (j := 22) rfl rfl (by decide))), (Ne.symm (nd_ne ND (i := 30) (j := 22) rfl rfl (by decide))), (Ne.symm (nd_ne ND (i := 31) (j := 22) rfl rfl (by decide)))⟩) e_86
        have e_145 := fr_134 groupPhrase_ _ (by simp only [List.mem_cons, List.not_mem_nil, or_false, not_or]; exact ⟨(Ne.symm (nd_ne ND (i := 0) (j := 23) rfl rfl (by decide))), (Ne.symm (nd_ne ND (i := 30) (j := 23) rfl rfl (by decide))), (Ne.symm (nd_ne ND (i := 31) (j := 23) rfl rfl (by decide)))⟩) e_87
        have e_146 := fr_134 groupSize_ _ (by simp only [List.mem_cons, List.not_mem_nil, or_false, not_or]; exact ⟨(Ne.symm (nd_ne ND (i := 0) (j := 24) rfl rfl (by decide))), (Ne.symm (nd_ne ND (i := 30) (j := 24) rfl rfl (by decide))), (Ne.symm (nd_ne ND (i := 31) (j := 24) rfl rfl (by decide)))⟩) e_88
        have e_147 := fr_134 groupFar_ _ (by simp only [List.mem_cons, List.not_mem_nil, or_false, not_or]; exact ⟨(Ne.symm (nd_ne ND (i := 0) (j := 26) rfl rfl (by decide))), (Ne.symm (nd_ne ND (i := 30) (j := 26) rfl rfl (by decide))), (Ne.symm (nd_ne ND (i := 31) (j := 26) rfl rfl (by decide)))⟩) e_89
        have e_148 := fr_134 groupMask_ _ (by simp only [List.mem_cons, List.not_mem_nil, or_false, not_or]; exact ⟨(Ne.symm (nd_ne ND (i := 0) (j := 25) rfl rfl (by decide))), (Ne.symm (nd_ne ND (i := 30) (j := 25) rfl rfl (by decide))), (Ne.symm (nd_ne ND (i := 31) (j := 25) rfl rfl (by decide)))⟩) e_90
        have e_149 := fr_134 sizes_ _ (by simp only [List.mem_cons, List.not_mem_nil, or_false, not_or]; exact ⟨(Ne.symm (nd_ne ND (i := 0) (j := 6) rfl rfl (by decide))), (Ne.symm (nd_ne ND (i := 30) (j := 6) rfl rfl (by decide))), (Ne.symm (nd_ne ND (i := 31) (j := 6) rfl rfl (by decide)))⟩) e_91
        have g_150 : fs_124[(53 : Nat)]? = some (.ref begins_) := (ga_128 53 (by decide)).trans g_92
        have g_151 : fs_124[(54 : Nat)]? = some (.ref lasts_) := (ga_128 54 (by decide)).trans g_93
        have g_152 : fs_124[(43 : Nat)]? = some (.ref tokenAt_) := (ga_128 43 (by decide)).trans g_94
        have g_153 : fs_124[(44 : Nat)]? = some (.ref tokenSize_) := (ga_128 44 (by decide)).trans g_95
        have g_154 : fs_124[(7 : Nat)]? = some (.ref texts_) := (ga_128 7 (by decide)).trans g_96
        have g_155 : fs_124[(4 : Nat)]? = some (.ref asked_) := (ga_128 4 (by decide)).trans g_97
        have g_156 : fs_124[(41 : Nat)]? = some (.ref firstToken_) := (ga_128 41 (by decide)).trans g_98
        have g_157 : fs_124[(42 : Nat)]? = some (.ref starred_) := (ga_128 42 (by decide)).trans g_99
        have g_158 : fs_124[(45 : Nat)]? = some (.ref groupKind_) := (ga_128 45 (by decide)).trans g_100
        have g_159 : fs_124[(46 : Nat)]? = some (.ref groupPhrase_) := (ga_128 46 (by decide)).trans g_101
        have g_160 : fs_124[(47 : Nat)]? = some (.ref groupSize_) := (ga_128 47 (by decide)).trans g_102
        have g_161 : fs_124[(49 : Nat)]? = some (.ref groupFar_) := (ga_128 49 (by decide)).trans g_103
        have g_162 : fs_124[(48 : Nat)]? = some (.ref groupMask_) := (ga_128 48 (by decide)).trans g_104
        have g_163 : fs_124[(8 : Nat)]? = some (.ref sizes_) := (ga_128 8 (by decide)).trans g_105
        have ga_164 : ∀ i : Nat, i ∉ [55] → fs_124[i]? = fs[i]? := fun i hi => (ga_128 i (fun z => hi (by simp only [List.mem_cons, List.not_mem_nil, or_false] at z ⊢; omega))).trans (ga_106 i hi)
        have r_165 := r_107.trans (fr_134.mono (by simp))
        refine s_Model_holds_27 ?_
        have hk24_166 : k_121 ≤ 24 := by have q9 := (tokN_half (fun j => ft (96 * r + 48 * 1 + j)) n1).1; rw [← hk_132] at q9; omega
        have TP_167 := TpX.of TX_133 hk_132 TW_131 (by omega)
        refine x_callV (As := [.int (nI g)]) (b := m) (rest := []) (F1 := 6) (L1 := 136) (mc := 0) (ms := 0) d_Model_holds_29 cV_Model_322 (f_holdsHereH l_125 e_126 g_127 g_150 eb_129 g_151 el_130 g_152 e_138 g_153 e_139 g_154 e_140 g_155 e_141 g_156 e_142 g_157 e_143 g_158 e_144 g_159 e_145 g_160 e_146 g_161 e_147 hP PH hws TR TP_167 hk24_166 hg h5 h6 h7 h9 hkn hq haq hfar (by omega) (by omega)) e_126 ⟨by decide, rfl⟩ ⟨by omega, by show 8 + (6 + 11) + 136 ≤ _; omega⟩ ⟨by omega, by omega⟩ (Nat.le_of_ble_eq_true rfl) (fun v_171 h_170 p_172 => ?_)
        obtain ⟨⟨y_168, rfl, hy_169⟩, rfl⟩ := p_172
        refine s_Model_holds_32 (fun z_173 => ?_) (fun z_174 => ?_)
        · skip
          refine s_Model_holds_37 ?_
          rw [show (1 : Int32) + 1 = 2 from rfl]
          refine s_Model_holds_2 (fun z_175 => ?_) (fun z => absurd z (by decide))
          refine s_Model_holds_43 ?_
          rw [nI_clamp (show g < 2 ^ 31 by omega), h8] at z_3
          rw [nI_clamp (show g < 2 ^ 31 by omega), h8] at z_119
          have hno : ¬ GhP ws A N Bb ft fz r cc kn a q far := by rintro ⟨c9, u1, u2, u3⟩; rcases (show c9 = 0 ∨ c9 = 1 by omega) with rfl | rfl; (rw [Tw_eq hz0 hz0b] at u3; exact yn_n hy_111 z_115 u3); (rw [Tw_eq hz1 hz1b] at u3; exact yn_n hy_169 z_173 u3)
          exact ⟨⟨_, rfl, Or.inl ⟨rfl, hno⟩⟩, ⟨_, _, _, _, l_125, e_126, g_127, ga_164, eb_129, el_130, r_165⟩⟩
        · skip
          refine s_Model_holds_35 ?_
          rw [nI_clamp (show g < 2 ^ 31 by omega), h8] at z_3
          rw [nI_clamp (show g < 2 ^ 31 by omega), h8] at z_119
          exact ⟨⟨_, rfl, Or.inr ⟨rfl, 1, by decide, (col_ask cc hcc 1 (by decide)).mp z_119, by rw [Tw_eq hz1 hz1b]; exact yn_y hy_169 z_174⟩⟩, ⟨_, _, _, _, l_125, e_126, g_127, ga_164, eb_129, el_130, r_165⟩⟩
    · skip
      refine s_Model_holds_35 ?_
      rw [nI_clamp (show g < 2 ^ 31 by omega), h8] at z_3
      exact ⟨⟨_, rfl, Or.inr ⟨rfl, 0, by decide, (col_ask cc hcc 0 (by decide)).mp z_3, by rw [Tw_eq hz0 hz0b]; exact yn_y hy_111 z_116⟩⟩, ⟨_, _, _, _, l_67, e_68, g_69, ga_106, eb_71, el_72, r_107⟩⟩
