/-! the reference in general states: by program (wip/tools/gen5.py, gen6.py, gen7.py) -/
set_option maxHeartbeats 400000 in
theorem f_length {G : xw_G} {F L : Nat} {h : xw_A} {m firstToken_ : Nat} {c1 : Nat → Int32} {fs : List Value} (l : fs.length = 62) (e : h m = some (.inr (11, fs)))  (g_firstToken : fs[(41 : Nat)]? = some (.ref firstToken_)) (e_firstToken : h firstToken_ = some (.inl (0, 13, .inl c1))) {p a n : Nat} (hp : p < 12) (h1 : c1 p = nI a) (h2 : c1 (p + 1) = nI (a + n)) (hF : 1 ≤ F) (hL : 20 ≤ L) :
    xw_Met G m_Model_length F L 0 0 [.ref m, .int (nI p)] h (fun v h' => v = some (.int (nI n)) ∧ h = h') (fun _ _ => False) := by
  refine xw_Met.of rfl (by decide) (Nat.le_of_ble_eq_true rfl) ?_
  refine s_Model_length_0 l e g_firstToken e_firstToken (by rw [nI_1]; exact vp_in_nI (by omega) (by decide)) (vp_in_nI (by omega) (by omega)) ?_
  exact ⟨congrArg (fun z => some (Value.int z)) (by rw [nI_1, nI_clamp (by omega), nI_clamp (by omega), h1, h2, pk_sub (by omega), Nat.add_sub_cancel_left]), rfl⟩
set_option maxHeartbeats 1000000 in
theorem lp_ma {G : xw_G} {F L bc bs : Nat} {pr : Option Value → xw_A → Prop} {px : String → xw_A → Prop} {h : xw_A} {m begins_ lasts_ tokenAt_ tokenSize_ texts_ asked_ : Nat} {fb fl ca cs ft fa : Nat → Int32} {fs : List Value} (l : fs.length = 62) (e : h m = some (.inr (11, fs)))  (g_begins : fs[(53 : Nat)]? = some (.ref begins_)) (e_begins : h begins_ = some (.inl (0, 24, .inl fb))) (g_lasts : fs[(54 : Nat)]? = some (.ref lasts_)) (e_lasts : h lasts_ = some (.inl (0, 24, .inl fl))) (g_tokenAt : fs[(43 : Nat)]? = some (.ref tokenAt_)) (e_tokenAt : h tokenAt_ = some (.inl (0, 60, .inl ca))) (g_tokenSize : fs[(44 : Nat)]? = some (.ref tokenSize_)) (e_tokenSize : h tokenSize_ = some (.inl (0, 60, .inl cs))) (g_texts : fs[(7 : Nat)]? = some (.ref texts_)) (e_texts : h texts_ = some (.inl (0, 2304, .inl ft))) (g_asked : fs[(4 : Nat)]? = some (.ref asked_)) (e_asked : h asked_ = some (.inl (0, 96, .inl fa))) {u t x y a s : Nat} (hu : u < 24) (ht : t < 60) (hx : fb u = nI x) (hy : fl u = nI y) (hxy : x < y) (hy2 : y ≤ 2304) (ha : ca t = nI a) (hs : cs t = nI s) (has : a + s ≤ 96) (hxs : x + s ≤ 2304) (hF : 3 ≤ F) (hL : 62 ≤ L) (kk : ∀ y : Int32, (y = 0 ∨ y = 1) → pr (some (.int y)) h) :
    ∀ (dd i : Nat) , i + dd = s → xw G m_Model_matches F L bc bs pr px 49 [some (.ref m), some (.int (nI u)), some (.int (nI t)), none, none, some (.int (nI i))] [] h := by
  intro dd
  induction dd with
  | zero =>
    intro i  hi
    obtain rfl : i = s := by omega
    refine s_Model_matches_49 l e g_tokenSize e_tokenSize (vp_in_nI (by omega) (by omega)) (fun z_1 => ?_) (fun z => absurd (by rw [nI_clamp (by omega), hs]; exact nI_le (Nat.le_refl _) (by omega)) z)
    refine s_Model_matches_105 ?_
    exact kk _ (by simp)
  | succ dd ih =>
    intro i  hi
    refine s_Model_matches_49 l e g_tokenSize e_tokenSize (vp_in_nI (by omega) (by omega)) (fun z => absurd z (by rw [nI_clamp (by omega), hs]; exact nI_ge (b := s) (show i < s by omega) (by omega))) (fun z_1 => ?_)
    refine s_Model_matches_60 l e g_texts g_begins e_begins (vp_in_nI (by omega) (by omega)) e_texts (by rw [nI_clamp (by omega), hx, nI_add]; exact vp_in_nI (by omega) (by decide)) ?_
    refine x_callS (As := [.int (ft ((fb (nI u).toNatClampNeg) + (nI i)).toNatClampNeg)]) (rest := []) (F1 := 2) (L1 := 42) (mc := 0) (ms := 0) d_Model_matches_74 cS_Model_157 (f_small (by omega) (by omega)) ⟨by omega, by show 8 + (1 + 11) + 42 ≤ _; omega⟩ ⟨by omega, by omega⟩ (Nat.le_of_ble_eq_true rfl) (fun v_3 h_2 p_4 => ?_)
    obtain ⟨rfl, rfl⟩ := p_4
    refine s_Model_matches_77 l e g_asked g_tokenAt e_tokenAt (vp_in_nI (by omega) (by omega)) e_asked (by rw [nI_clamp (by omega), ha, nI_add]; exact vp_in_nI (by omega) (by decide)) ?_
    refine x_callS (As := [.int (fa ((ca (nI t).toNatClampNeg) + (nI i)).toNatClampNeg)]) (rest := [.int (lowc (ft ((fb (nI u).toNatClampNeg) + (nI i)).toNatClampNeg))]) (F1 := 2) (L1 := 42) (mc := 0) (ms := 0) d_Model_matches_91 cS_Model_157 (f_small (by omega) (by omega)) ⟨by omega, by show 8 + (1 + 11) + 42 ≤ _; omega⟩ ⟨by omega, by omega⟩ (Nat.le_of_ble_eq_true rfl) (fun v_6 h_5 p_7 => ?_)
    obtain ⟨rfl, rfl⟩ := p_7
    refine s_Model_matches_94 (fun z_8 => ?_) (fun z_9 => ?_)
    · skip
      refine s_Model_matches_99 ?_
      rw [nI_1]
      exact ih (i + 1) (by omega)
    · skip
      refine s_Model_matches_97 ?_
      exact kk _ (by simp)
set_option maxHeartbeats 400000 in
theorem f_matches {G : xw_G} {F L : Nat} {h : xw_A} {m begins_ lasts_ tokenAt_ tokenSize_ texts_ asked_ : Nat} {fb fl ca cs ft fa : Nat → Int32} {fs : List Value} (l : fs.length = 62) (e : h m = some (.inr (11, fs)))  (g_begins : fs[(53 : Nat)]? = some (.ref begins_)) (e_begins : h begins_ = some (.inl (0, 24, .inl fb))) (g_lasts : fs[(54 : Nat)]? = some (.ref lasts_)) (e_lasts : h lasts_ = some (.inl (0, 24, .inl fl))) (g_tokenAt : fs[(43 : Nat)]? = some (.ref tokenAt_)) (e_tokenAt : h tokenAt_ = some (.inl (0, 60, .inl ca))) (g_tokenSize : fs[(44 : Nat)]? = some (.ref tokenSize_)) (e_tokenSize : h tokenSize_ = some (.inl (0, 60, .inl cs))) (g_texts : fs[(7 : Nat)]? = some (.ref texts_)) (e_texts : h texts_ = some (.inl (0, 2304, .inl ft))) (g_asked : fs[(4 : Nat)]? = some (.ref asked_)) (e_asked : h asked_ = some (.inl (0, 96, .inl fa))) {u t x y a s : Nat} (hu : u < 24) (ht : t < 60) (hx : fb u = nI x) (hy : fl u = nI y) (hxy : x < y) (hy2 : y ≤ 2304) (ha : ca t = nI a) (hs : cs t = nI s) (has : a + s ≤ 96) {bg : Int32} (hF : 3 ≤ F) (hL : 62 ≤ L) :
    xw_Met G m_Model_matches F L 0 0 [.ref m, .int (nI u), .int (nI t), .int bg] h (fun v h' => (∃ y : Int32, v = some (.int y) ∧ (y = 0 ∨ y = 1)) ∧ h = h') (fun _ _ => False) := by
  refine xw_Met.of rfl (by decide) (Nat.le_of_ble_eq_true rfl) ?_
  refine s_Model_matches_0 l e g_lasts e_lasts (vp_in_nI (by omega) (by omega)) g_begins e_begins (vp_in_nI (by omega) (by omega)) (fun z_1 => ?_) (fun z_2 => ?_)
  · skip
    refine s_Model_matches_33 l e g_tokenSize e_tokenSize (vp_in_nI (by omega) (by omega)) (fun z_3 => ?_) (fun z_4 => ?_)
    · skip
      rw [nI_clamp (show u < 2 ^ 31 by omega), nI_clamp (show t < 2 ^ 31 by omega), hx, hy, hs, pk_sub (by omega)] at z_3
      have hsy : s ≤ y - x := Nat.le_of_eq ((nI_eq (by omega) (by omega)).mp z_3)
      refine s_Model_matches_46 ?_
      exact lp_ma l e g_begins e_begins g_lasts e_lasts g_tokenAt e_tokenAt g_tokenSize e_tokenSize g_texts e_texts g_asked e_asked hu ht hx hy hxy hy2 ha hs has (by omega) (by omega) (by omega) (fun y hy => ⟨⟨y, rfl, hy⟩, rfl⟩) s 0 (Nat.zero_add _)
    · skip
      refine s_Model_matches_44 ?_
      exact ⟨⟨_, rfl, by simp⟩, rfl⟩
  · skip
    refine s_Model_matches_19 l e g_tokenSize e_tokenSize (vp_in_nI (by omega) (by omega)) (fun z_5 => ?_) (fun z_6 => ?_)
    · skip
      rw [nI_clamp (show u < 2 ^ 31 by omega), nI_clamp (show t < 2 ^ 31 by omega), hx, hy, hs, pk_sub (by omega)] at z_5
      have hsy : s ≤ y - x := Nat.le_of_not_lt (fun q => absurd z_5 (nI_ge (b := s) q (by omega)))
      refine s_Model_matches_46 ?_
      exact lp_ma l e g_begins e_begins g_lasts e_lasts g_tokenAt e_tokenAt g_tokenSize e_tokenSize g_texts e_texts g_asked e_asked hu ht hx hy hxy hy2 ha hs has (by omega) (by omega) (by omega) (fun y hy => ⟨⟨y, rfl, hy⟩, rfl⟩) s 0 (Nat.zero_add _)
    · skip
      refine s_Model_matches_30 ?_
      refine s_Model_matches_44 ?_
      exact ⟨⟨_, rfl, by simp⟩, rfl⟩
set_option maxHeartbeats 1000000 in
theorem lp_st {G : xw_G} {F L bc bs : Nat} {pr : Option Value → xw_A → Prop} {px : String → xw_A → Prop} {h : xw_A} {m begins_ lasts_ tokenAt_ tokenSize_ texts_ asked_ firstToken_ starred_ : Nat} {fb fl ca cs ft fa c1 c2 : Nat → Int32} {k b0 nn : Nat} {fs : List Value} (l : fs.length = 62) (e : h m = some (.inr (11, fs))) (g_column : fs[(55 : Nat)]? = some (.int (nI k))) (g_begins : fs[(53 : Nat)]? = some (.ref begins_)) (e_begins : h begins_ = some (.inl (0, 24, .inl fb))) (g_lasts : fs[(54 : Nat)]? = some (.ref lasts_)) (e_lasts : h lasts_ = some (.inl (0, 24, .inl fl))) (g_tokenAt : fs[(43 : Nat)]? = some (.ref tokenAt_)) (e_tokenAt : h tokenAt_ = some (.inl (0, 60, .inl ca))) (g_tokenSize : fs[(44 : Nat)]? = some (.ref tokenSize_)) (e_tokenSize : h tokenSize_ = some (.inl (0, 60, .inl cs))) (g_texts : fs[(7 : Nat)]? = some (.ref texts_)) (e_texts : h texts_ = some (.inl (0, 2304, .inl ft))) (g_asked : fs[(4 : Nat)]? = some (.ref asked_)) (e_asked : h asked_ = some (.inl (0, 96, .inl fa))) (g_firstToken : fs[(41 : Nat)]? = some (.ref firstToken_)) (e_firstToken : h firstToken_ = some (.inl (0, 13, .inl c1))) (g_starred : fs[(42 : Nat)]? = some (.ref starred_)) (e_starred : h starred_ = some (.inl (0, 13, .inl c2))) {p a n t : Nat} (hp : p < 12) (h1 : c1 p = nI a) (h2 : c1 (p + 1) = nI (a + n)) (hat : a + n ≤ t) (ht : t ≤ 49) (TK : TkO ca cs t 97) (TW : TokW fb fl k b0 nn) (hk : k ≤ 24) (hb : b0 + nn ≤ 2304) {u : Nat} (hu : u < 25) (hun : u + n ≤ k) (hF : 4 ≤ F) (hL : 87 ≤ L) (kk : ∀ y : Int32, (y = 0 ∨ y = 1) → pr (some (.int y)) h) :
    ∀ (dd i : Nat) , i + dd = n → xw G m_Model_stands F L bc bs pr px 25 [some (.ref m), some (.int (nI p)), some (.int (nI u)), some (.int (nI n)), some (.int (nI i)), none] [] h := by
  intro dd
  induction dd with
  | zero =>
    intro i  hi
    obtain rfl : i = n := by omega
    refine s_Model_stands_25 (fun z_1 => ?_) (fun z => absurd (nI_le (Nat.le_refl _) (by omega)) z)
    refine s_Model_stands_86 ?_
    exact kk _ (by simp)
  | succ dd ih =>
    intro i  hi
    refine s_Model_stands_25 (fun z => absurd z (nI_ge (b := n) (show i < n by omega) (by omega))) (fun z_1 => ?_)
    refine s_Model_stands_31 l e g_firstToken e_firstToken (vp_in_nI (by omega) (by omega)) g_starred e_starred (vp_in_nI (by omega) (by omega)) (fun z_2 => ?_) (fun z_3 => ?_)
    · skip
      refine s_Model_stands_67 ?_
      rw [show nI u + nI i = nI (u + i) from nI_add _ _, show c1 (nI p).toNatClampNeg + nI i = nI (a + i) by rw [nI_clamp (by omega), h1, nI_add]]
      obtain ⟨x9, y9, hx9, hy9, hb9, hxy9, hyb9⟩ := TW (u + i) (by omega)
      obtain ⟨a9, s9, ha9, hs9, -, has9⟩ := TK (a + i) (by omega)
      refine x_callV (As := [.int (nI (u + i)), .int (nI (a + i)), .int 0]) (b := m) (rest := []) (F1 := 3) (L1 := 62) (mc := 0) (ms := 0) d_Model_stands_68 cV_Model_312 (f_matches l e g_begins e_begins g_lasts e_lasts g_tokenAt e_tokenAt g_tokenSize e_tokenSize g_texts e_texts g_asked e_asked (show u + i < 24 by omega) (show a + i < 60 by omega) hx9 hy9 hxy9 (by omega) ha9 hs9 has9 (by omega) (by omega)) e ⟨by decide, rfl⟩ ⟨by omega, by show 8 + (6 + 11) + 62 ≤ _; omega⟩ ⟨by omega, by omega⟩ (Nat.le_of_ble_eq_true rfl) (fun v_7 h_6 p_8 => ?_)
      obtain ⟨⟨y_4, rfl, hy_5⟩, rfl⟩ := p_8
      refine s_Model_stands_71 (fun z_9 => ?_) (fun z_10 => ?_)
      · skip
        refine s_Model_stands_80 ?_
        rw [nI_1]
        exact ih (i + 1) (by omega)
      · skip
        refine s_Model_stands_78 ?_
        exact kk _ (by simp)
    · skip
      refine s_Model_stands_55 (fun z_11 => ?_) (fun z_12 => ?_)
      · skip
        refine s_Model_stands_67 ?_
        rw [show nI u + nI i = nI (u + i) from nI_add _ _, show c1 (nI p).toNatClampNeg + nI i = nI (a + i) by rw [nI_clamp (by omega), h1, nI_add]]
        obtain ⟨x9, y9, hx9, hy9, hb9, hxy9, hyb9⟩ := TW (u + i) (by omega)
        obtain ⟨a9, s9, ha9, hs9, -, has9⟩ := TK (a + i) (by omega)
        refine x_callV (As := [.int (nI (u + i)), .int (nI (a + i)), .int 0]) (b := m) (rest := []) (F1 := 3) (L1 := 62) (mc := 0) (ms := 0) d_Model_stands_68 cV_Model_312 (f_matches l e g_begins e_begins g_lasts e_lasts g_tokenAt e_tokenAt g_tokenSize e_tokenSize g_texts e_texts g_asked e_asked (show u + i < 24 by omega) (show a + i < 60 by omega) hx9 hy9 hxy9 (by omega) ha9 hs9 has9 (by omega) (by omega)) e ⟨by decide, rfl⟩ ⟨by omega, by show 8 + (6 + 11) + 62 ≤ _; omega⟩ ⟨by omega, by omega⟩ (Nat.le_of_ble_eq_true rfl) (fun v_16 h_15 p_17 => ?_)
        obtain ⟨⟨y_13, rfl, hy_14⟩, rfl⟩ := p_17
        refine s_Model_stands_71 (fun z_18 => ?_) (fun z_19 => ?_)
        · skip
          refine s_Model_stands_80 ?_
          rw [nI_1]
          exact ih (i + 1) (by omega)
        · skip
          refine s_Model_stands_78 ?_
          exact kk _ (by simp)
      · skip
        refine s_Model_stands_63 ?_
        rw [show nI u + nI i = nI (u + i) from nI_add _ _, show c1 (nI p).toNatClampNeg + nI i = nI (a + i) by rw [nI_clamp (by omega), h1, nI_add]]
        obtain ⟨x9, y9, hx9, hy9, hb9, hxy9, hyb9⟩ := TW (u + i) (by omega)
        obtain ⟨a9, s9, ha9, hs9, -, has9⟩ := TK (a + i) (by omega)
        refine x_callV (As := [.int (nI (u + i)), .int (nI (a + i)), .int 1]) (b := m) (rest := []) (F1 := 3) (L1 := 62) (mc := 0) (ms := 0) d_Model_stands_68 cV_Model_312 (f_matches l e g_begins e_begins g_lasts e_lasts g_tokenAt e_tokenAt g_tokenSize e_tokenSize g_texts e_texts g_asked e_asked (show u + i < 24 by omega) (show a + i < 60 by omega) hx9 hy9 hxy9 (by omega) ha9 hs9 has9 (by omega) (by omega)) e ⟨by decide, rfl⟩ ⟨by omega, by show 8 + (6 + 11) + 62 ≤ _; omega⟩ ⟨by omega, by omega⟩ (Nat.le_of_ble_eq_true rfl) (fun v_23 h_22 p_24 => ?_)
        obtain ⟨⟨y_20, rfl, hy_21⟩, rfl⟩ := p_24
        refine s_Model_stands_71 (fun z_25 => ?_) (fun z_26 => ?_)
        · skip
          refine s_Model_stands_80 ?_
          rw [nI_1]
          exact ih (i + 1) (by omega)
        · skip
          refine s_Model_stands_78 ?_
          exact kk _ (by simp)
set_option maxHeartbeats 400000 in
theorem f_stands {G : xw_G} {F L : Nat} {h : xw_A} {m begins_ lasts_ tokenAt_ tokenSize_ texts_ asked_ firstToken_ starred_ : Nat} {fb fl ca cs ft fa c1 c2 : Nat → Int32} {k b0 nn : Nat} {fs : List Value} (l : fs.length = 62) (e : h m = some (.inr (11, fs))) (g_column : fs[(55 : Nat)]? = some (.int (nI k))) (g_begins : fs[(53 : Nat)]? = some (.ref begins_)) (e_begins : h begins_ = some (.inl (0, 24, .inl fb))) (g_lasts : fs[(54 : Nat)]? = some (.ref lasts_)) (e_lasts : h lasts_ = some (.inl (0, 24, .inl fl))) (g_tokenAt : fs[(43 : Nat)]? = some (.ref tokenAt_)) (e_tokenAt : h tokenAt_ = some (.inl (0, 60, .inl ca))) (g_tokenSize : fs[(44 : Nat)]? = some (.ref tokenSize_)) (e_tokenSize : h tokenSize_ = some (.inl (0, 60, .inl cs))) (g_texts : fs[(7 : Nat)]? = some (.ref texts_)) (e_texts : h texts_ = some (.inl (0, 2304, .inl ft))) (g_asked : fs[(4 : Nat)]? = some (.ref asked_)) (e_asked : h asked_ = some (.inl (0, 96, .inl fa))) (g_firstToken : fs[(41 : Nat)]? = some (.ref firstToken_)) (e_firstToken : h firstToken_ = some (.inl (0, 13, .inl c1))) (g_starred : fs[(42 : Nat)]? = some (.ref starred_)) (e_starred : h starred_ = some (.inl (0, 13, .inl c2))) {p a n t : Nat} (hp : p < 12) (h1 : c1 p = nI a) (h2 : c1 (p + 1) = nI (a + n)) (hat : a + n ≤ t) (ht : t ≤ 49) (TK : TkO ca cs t 97) (TW : TokW fb fl k b0 nn) (hk : k ≤ 24) (hb : b0 + nn ≤ 2304) {u : Nat} (hu : u < 25) (hF : 4 ≤ F) (hL : 87 ≤ L) :
    xw_Met G m_Model_stands F L 0 0 [.ref m, .int (nI p), .int (nI u)] h (fun v h' => (∃ y : Int32, v = some (.int y) ∧ (y = 0 ∨ y = 1)) ∧ h = h') (fun _ _ => False) := by
  refine xw_Met.of rfl (by decide) (Nat.le_of_ble_eq_true rfl) ?_
  refine s_Model_stands_0 ?_
  refine x_callV (As := [.int (nI p)]) (b := m) (rest := []) (F1 := 1) (L1 := 20) (mc := 0) (ms := 0) d_Model_stands_2 cV_Model_309 (f_length l e g_firstToken e_firstToken (by omega) h1 h2 (by omega) (by omega)) e ⟨by decide, rfl⟩ ⟨by omega, by show 8 + (2 + 11) + 20 ≤ _; omega⟩ ⟨by omega, by omega⟩ (Nat.le_of_ble_eq_true rfl) (fun v_2 h_1 p_3 => ?_)
  obtain ⟨rfl, rfl⟩ := p_3
  refine s_Model_stands_5 (fun z_4 => ?_) (fun z_5 => ?_)
  · skip
    refine s_Model_stands_20 ?_
    exact ⟨⟨_, rfl, by simp⟩, rfl⟩
  · skip
    refine s_Model_stands_10 l e g_column (fun z_6 => ?_) (fun z_7 => ?_)
    · skip
      rw [nI_add] at z_6
      have hun : u + n ≤ k := Nat.le_of_not_lt (fun q => absurd z_6 (nI_ge (b := u + n) q (by omega)))
      refine s_Model_stands_22 ?_
      exact lp_st l e g_column g_begins e_begins g_lasts e_lasts g_tokenAt e_tokenAt g_tokenSize e_tokenSize g_texts e_texts g_asked e_asked g_firstToken e_firstToken g_starred e_starred hp h1 h2 hat ht TK TW hk hb hu hun (by omega) (by omega) (fun y hy => ⟨⟨y, rfl, hy⟩, rfl⟩) n 0 (Nat.zero_add _)
    · skip
      refine s_Model_stands_20 ?_
      exact ⟨⟨_, rfl, by simp⟩, rfl⟩
set_option maxHeartbeats 1000000 in
theorem lp_sb {G : xw_G} {F L bc bs : Nat} {pr : Option Value → xw_A → Prop} {px : String → xw_A → Prop} {h : xw_A} {m begins_ lasts_ tokenAt_ tokenSize_ texts_ asked_ firstToken_ starred_ : Nat} {fb fl ca cs ft fa c1 c2 : Nat → Int32} {k b0 nn : Nat} {fs : List Value} (l : fs.length = 62) (e : h m = some (.inr (11, fs))) (g_column : fs[(55 : Nat)]? = some (.int (nI k))) (g_begins : fs[(53 : Nat)]? = some (.ref begins_)) (e_begins : h begins_ = some (.inl (0, 24, .inl fb))) (g_lasts : fs[(54 : Nat)]? = some (.ref lasts_)) (e_lasts : h lasts_ = some (.inl (0, 24, .inl fl))) (g_tokenAt : fs[(43 : Nat)]? = some (.ref tokenAt_)) (e_tokenAt : h tokenAt_ = some (.inl (0, 60, .inl ca))) (g_tokenSize : fs[(44 : Nat)]? = some (.ref tokenSize_)) (e_tokenSize : h tokenSize_ = some (.inl (0, 60, .inl cs))) (g_texts : fs[(7 : Nat)]? = some (.ref texts_)) (e_texts : h texts_ = some (.inl (0, 2304, .inl ft))) (g_asked : fs[(4 : Nat)]? = some (.ref asked_)) (e_asked : h asked_ = some (.inl (0, 96, .inl fa))) (g_firstToken : fs[(41 : Nat)]? = some (.ref firstToken_)) (e_firstToken : h firstToken_ = some (.inl (0, 13, .inl c1))) (g_starred : fs[(42 : Nat)]? = some (.ref starred_)) (e_starred : h starred_ = some (.inl (0, 13, .inl c2))) {p a n t : Nat} (hp : p < 12) (h1 : c1 p = nI a) (h2 : c1 (p + 1) = nI (a + n)) (hat : a + n ≤ t) (ht : t ≤ 49) (TK : TkO ca cs t 97) (TW : TokW fb fl k b0 nn) (hk : k ≤ 24) (hb : b0 + nn ≤ 2304) {en bg : Int32} (hF : 5 ≤ F) (hL : 112 ≤ L) (kk : ∀ y : Int32, (y = 0 ∨ y = 1) → pr (some (.int y)) h) :
    ∀ (dd i : Nat) , i + dd = k → xw G m_Model_standsBetween F L bc bs pr px 3 [some (.ref m), some (.int (nI p)), some (.int en), some (.int bg), some (.int (nI i))] [] h := by
  intro dd
  induction dd with
  | zero =>
    intro i  hi
    obtain rfl : i = k := by omega
    refine s_Model_standsBetween_3 l e g_column (fun z_1 => ?_) (fun z => absurd (nI_le (Nat.le_refl _) (by omega)) z)
    refine s_Model_standsBetween_48 ?_
    exact kk _ (by simp)
  | succ dd ih =>
    intro i  hi
    refine s_Model_standsBetween_3 l e g_column (fun z => absurd z (nI_ge (b := k) (show i < k by omega) (by omega))) (fun z_1 => ?_)
    refine s_Model_standsBetween_12 (fun z_2 => ?_) (fun z_3 => ?_)
    · skip
      refine s_Model_standsBetween_48 ?_
      exact kk _ (by simp)
    · skip
      refine s_Model_standsBetween_18 ?_
      refine x_callV (As := [.int (nI p)]) (b := m) (rest := [.int (nI i)]) (F1 := 1) (L1 := 20) (mc := 0) (ms := 0) d_Model_standsBetween_22 cV_Model_309 (f_length l e g_firstToken e_firstToken (by omega) h1 h2 (by omega) (by omega)) e ⟨by decide, rfl⟩ ⟨by omega, by show 8 + (2 + 11) + 20 ≤ _; omega⟩ ⟨by omega, by omega⟩ (Nat.le_of_ble_eq_true rfl) (fun v_5 h_4 p_6 => ?_)
      obtain ⟨rfl, rfl⟩ := p_6
      refine s_Model_standsBetween_25 (fun z_7 => ?_) (fun z_8 => ?_)
      · skip
        refine s_Model_standsBetween_42 ?_
        rw [nI_1]
        exact ih (i + 1) (by omega)
      · skip
        refine s_Model_standsBetween_30 ?_
        refine x_callV (As := [.int (nI p), .int (nI i)]) (b := m) (rest := []) (F1 := 4) (L1 := 87) (mc := 0) (ms := 0) d_Model_standsBetween_34 cV_Model_316 (f_stands l e g_column g_begins e_begins g_lasts e_lasts g_tokenAt e_tokenAt g_tokenSize e_tokenSize g_texts e_texts g_asked e_asked g_firstToken e_firstToken g_starred e_starred hp h1 h2 hat ht TK TW hk hb (show i < 25 by omega) (by omega) (by omega)) e ⟨by decide, rfl⟩ ⟨by omega, by show 8 + (6 + 11) + 87 ≤ _; omega⟩ ⟨by omega, by omega⟩ (Nat.le_of_ble_eq_true rfl) (fun v_12 h_11 p_13 => ?_)
        obtain ⟨⟨y_9, rfl, hy_10⟩, rfl⟩ := p_13
        refine s_Model_standsBetween_37 (fun z_14 => ?_) (fun z_15 => ?_)
        · skip
          refine s_Model_standsBetween_42 ?_
          rw [nI_1]
          exact ih (i + 1) (by omega)
        · skip
          refine s_Model_standsBetween_40 ?_
          exact kk _ (by simp)
set_option maxHeartbeats 400000 in
theorem f_standsBetween {G : xw_G} {F L : Nat} {h : xw_A} {m begins_ lasts_ tokenAt_ tokenSize_ texts_ asked_ firstToken_ starred_ : Nat} {fb fl ca cs ft fa c1 c2 : Nat → Int32} {k b0 nn : Nat} {fs : List Value} (l : fs.length = 62) (e : h m = some (.inr (11, fs))) (g_column : fs[(55 : Nat)]? = some (.int (nI k))) (g_begins : fs[(53 : Nat)]? = some (.ref begins_)) (e_begins : h begins_ = some (.inl (0, 24, .inl fb))) (g_lasts : fs[(54 : Nat)]? = some (.ref lasts_)) (e_lasts : h lasts_ = some (.inl (0, 24, .inl fl))) (g_tokenAt : fs[(43 : Nat)]? = some (.ref tokenAt_)) (e_tokenAt : h tokenAt_ = some (.inl (0, 60, .inl ca))) (g_tokenSize : fs[(44 : Nat)]? = some (.ref tokenSize_)) (e_tokenSize : h tokenSize_ = some (.inl (0, 60, .inl cs))) (g_texts : fs[(7 : Nat)]? = some (.ref texts_)) (e_texts : h texts_ = some (.inl (0, 2304, .inl ft))) (g_asked : fs[(4 : Nat)]? = some (.ref asked_)) (e_asked : h asked_ = some (.inl (0, 96, .inl fa))) (g_firstToken : fs[(41 : Nat)]? = some (.ref firstToken_)) (e_firstToken : h firstToken_ = some (.inl (0, 13, .inl c1))) (g_starred : fs[(42 : Nat)]? = some (.ref starred_)) (e_starred : h starred_ = some (.inl (0, 13, .inl c2))) {p a n t : Nat} (hp : p < 12) (h1 : c1 p = nI a) (h2 : c1 (p + 1) = nI (a + n)) (hat : a + n ≤ t) (ht : t ≤ 49) (TK : TkO ca cs t 97) (TW : TokW fb fl k b0 nn) (hk : k ≤ 24) (hb : b0 + nn ≤ 2304) {en bg : Int32} (hF : 5 ≤ F) (hL : 112 ≤ L) :
    xw_Met G m_Model_standsBetween F L 0 0 [.ref m, .int (nI p), .int en, .int bg] h (fun v h' => (∃ y : Int32, v = some (.int y) ∧ (y = 0 ∨ y = 1)) ∧ h = h') (fun _ _ => False) := by
  refine xw_Met.of rfl (by decide) (Nat.le_of_ble_eq_true rfl) ?_
  refine s_Model_standsBetween_0 ?_
  exact lp_sb l e g_column g_begins e_begins g_lasts e_lasts g_tokenAt e_tokenAt g_tokenSize e_tokenSize g_texts e_texts g_asked e_asked g_firstToken e_firstToken g_starred e_starred hp h1 h2 hat ht TK TW hk hb (by omega) (by omega) (fun y hy => ⟨⟨y, rfl, hy⟩, rfl⟩) k 0 (Nat.zero_add _)
set_option maxHeartbeats 1000000 in
theorem lp_hi {G : xw_G} {F L bc bs : Nat} {pr : Option Value → xw_A → Prop} {px : String → xw_A → Prop} {h : xw_A} {m begins_ lasts_ tokenAt_ tokenSize_ texts_ asked_ firstToken_ starred_ groupKind_ groupPhrase_ groupSize_ groupFar_ : Nat} {fb fl ca cs ft fa c1 c2 c5 c6 c7 c9 : Nat → Int32} {k b0 nn : Nat} {fs : List Value} (l : fs.length = 62) (e : h m = some (.inr (11, fs))) (g_column : fs[(55 : Nat)]? = some (.int (nI k))) (g_begins : fs[(53 : Nat)]? = some (.ref begins_)) (e_begins : h begins_ = some (.inl (0, 24, .inl fb))) (g_lasts : fs[(54 : Nat)]? = some (.ref lasts_)) (e_lasts : h lasts_ = some (.inl (0, 24, .inl fl))) (g_tokenAt : fs[(43 : Nat)]? = some (.ref tokenAt_)) (e_tokenAt : h tokenAt_ = some (.inl (0, 60, .inl ca))) (g_tokenSize : fs[(44 : Nat)]? = some (.ref tokenSize_)) (e_tokenSize : h tokenSize_ = some (.inl (0, 60, .inl cs))) (g_texts : fs[(7 : Nat)]? = some (.ref texts_)) (e_texts : h texts_ = some (.inl (0, 2304, .inl ft))) (g_asked : fs[(4 : Nat)]? = some (.ref asked_)) (e_asked : h asked_ = some (.inl (0, 96, .inl fa))) (g_firstToken : fs[(41 : Nat)]? = some (.ref firstToken_)) (e_firstToken : h firstToken_ = some (.inl (0, 13, .inl c1))) (g_starred : fs[(42 : Nat)]? = some (.ref starred_)) (e_starred : h starred_ = some (.inl (0, 13, .inl c2))) (g_groupKind : fs[(45 : Nat)]? = some (.ref groupKind_)) (e_groupKind : h groupKind_ = some (.inl (0, 13, .inl c5))) (g_groupPhrase : fs[(46 : Nat)]? = some (.ref groupPhrase_)) (e_groupPhrase : h groupPhrase_ = some (.inl (0, 13, .inl c6))) (g_groupSize : fs[(47 : Nat)]? = some (.ref groupSize_)) (e_groupSize : h groupSize_ = some (.inl (0, 13, .inl c7))) (g_groupFar : fs[(49 : Nat)]? = some (.ref groupFar_)) (e_groupFar : h groupFar_ = some (.inl (0, 13, .inl c9))) {P t : Nat} (hP : P ≤ 12) (PH : PhO c1 P t) (ht : t ≤ 49) (TK : TkO ca cs t 97) (TW : TokW fb fl k b0 nn) (hk : k ≤ 24) (hb : b0 + nn ≤ 2304) {g a q : Nat} (hg : g < 13) (h6 : c6 g = nI a) (h7 : c7 g = nI q) (hq : 1 ≤ q) (haq : a + q ≤ P) {ee : Int32} (hF : 6 ≤ F) (hL : 136 ≤ L) (kk : ∀ al : Int32, xw G m_Model_holdsHere F L bc bs pr px 97 [some (.ref m), some (.int (nI g)), some (.int (nI a)), some (.int ee), some (.int al), none] [] h) :
    ∀ (dd i : Nat) (al : Int32), i + dd = q → xw G m_Model_holdsHere F L bc bs pr px 58 [some (.ref m), some (.int (nI g)), some (.int (nI a)), some (.int ee), some (.int al), some (.int (nI i))] [] h := by
  intro dd
  induction dd with
  | zero =>
    intro i al hi
    obtain rfl : i = q := by omega
    refine s_Model_holdsHere_58 l e g_groupSize e_groupSize (vp_in_nI (by omega) (by omega)) (fun z_1 => ?_) (fun z => absurd (by rw [nI_clamp (by omega), h7]; exact nI_le (Nat.le_refl _) (by omega)) z)
    exact kk _
  | succ dd ih =>
    intro i al hi
    refine s_Model_holdsHere_58 l e g_groupSize e_groupSize (vp_in_nI (by omega) (by omega)) (fun z => absurd z (by rw [nI_clamp (by omega), h7]; exact nI_ge (b := q) (show i < q by omega) (by omega))) (fun z_1 => ?_)
    refine s_Model_holdsHere_69 l e g_groupFar e_groupFar (vp_in_nI (by omega) (by omega)) ?_
    rw [show nI a + nI i = nI (a + i) from nI_add _ _]
    obtain ⟨a9, b9, h19, h29, hab9, hbt9⟩ := PH (a + i) (by omega)
    obtain ⟨n9, rfl⟩ : ∃ n9, b9 = a9 + n9 := ⟨b9 - a9, by omega⟩
    refine x_callV (As := [.int (nI (a + i)), .int ee, .int (ee + (c9 (nI g).toNatClampNeg))]) (b := m) (rest := [.int al]) (F1 := 5) (L1 := 112) (mc := 0) (ms := 0) d_Model_holdsHere_85 cV_Model_319 (f_standsBetween l e g_column g_begins e_begins g_lasts e_lasts g_tokenAt e_tokenAt g_tokenSize e_tokenSize g_texts e_texts g_asked e_asked g_firstToken e_firstToken g_starred e_starred (show a + i < 12 by omega) h19 h29 hbt9 ht TK TW hk hb (by omega) (by omega)) e ⟨by decide, rfl⟩ ⟨by omega, by show 8 + (5 + 11) + 112 ≤ _; omega⟩ ⟨by omega, by omega⟩ (Nat.le_of_ble_eq_true rfl) (fun v_5 h_4 p_6 => ?_)
    obtain ⟨⟨y_2, rfl, hy_3⟩, rfl⟩ := p_6
    refine x_le (xw_le_s (xw_le_s (xw_le_s (xw_le_s (xw_le_n (xw_le_s xw_le_e)))))) ?_
    refine s_Model_holdsHere_88 ?_
    rw [nI_1]
    exact ih (i + 1) _ (by omega)
set_option maxHeartbeats 1000000 in
theorem lp_ho {G : xw_G} {F L bc bs : Nat} {pr : Option Value → xw_A → Prop} {px : String → xw_A → Prop} {h : xw_A} {m begins_ lasts_ tokenAt_ tokenSize_ texts_ asked_ firstToken_ starred_ groupKind_ groupPhrase_ groupSize_ groupFar_ : Nat} {fb fl ca cs ft fa c1 c2 c5 c6 c7 c9 : Nat → Int32} {k b0 nn : Nat} {fs : List Value} (l : fs.length = 62) (e : h m = some (.inr (11, fs))) (g_column : fs[(55 : Nat)]? = some (.int (nI k))) (g_begins : fs[(53 : Nat)]? = some (.ref begins_)) (e_begins : h begins_ = some (.inl (0, 24, .inl fb))) (g_lasts : fs[(54 : Nat)]? = some (.ref lasts_)) (e_lasts : h lasts_ = some (.inl (0, 24, .inl fl))) (g_tokenAt : fs[(43 : Nat)]? = some (.ref tokenAt_)) (e_tokenAt : h tokenAt_ = some (.inl (0, 60, .inl ca))) (g_tokenSize : fs[(44 : Nat)]? = some (.ref tokenSize_)) (e_tokenSize : h tokenSize_ = some (.inl (0, 60, .inl cs))) (g_texts : fs[(7 : Nat)]? = some (.ref texts_)) (e_texts : h texts_ = some (.inl (0, 2304, .inl ft))) (g_asked : fs[(4 : Nat)]? = some (.ref asked_)) (e_asked : h asked_ = some (.inl (0, 96, .inl fa))) (g_firstToken : fs[(41 : Nat)]? = some (.ref firstToken_)) (e_firstToken : h firstToken_ = some (.inl (0, 13, .inl c1))) (g_starred : fs[(42 : Nat)]? = some (.ref starred_)) (e_starred : h starred_ = some (.inl (0, 13, .inl c2))) (g_groupKind : fs[(45 : Nat)]? = some (.ref groupKind_)) (e_groupKind : h groupKind_ = some (.inl (0, 13, .inl c5))) (g_groupPhrase : fs[(46 : Nat)]? = some (.ref groupPhrase_)) (e_groupPhrase : h groupPhrase_ = some (.inl (0, 13, .inl c6))) (g_groupSize : fs[(47 : Nat)]? = some (.ref groupSize_)) (e_groupSize : h groupSize_ = some (.inl (0, 13, .inl c7))) (g_groupFar : fs[(49 : Nat)]? = some (.ref groupFar_)) (e_groupFar : h groupFar_ = some (.inl (0, 13, .inl c9))) {P t : Nat} (hP : P ≤ 12) (PH : PhO c1 P t) (ht : t ≤ 49) (TK : TkO ca cs t 97) (TW : TokW fb fl k b0 nn) (hk : k ≤ 24) (hb : b0 + nn ≤ 2304) {g a q : Nat} (hg : g < 13) (h6 : c6 g = nI a) (h7 : c7 g = nI q) (hq : 1 ≤ q) (haq : a + q ≤ P) (hF : 6 ≤ F) (hL : 136 ≤ L) (kk : ∀ y : Int32, (y = 0 ∨ y = 1) → pr (some (.int y)) h) :
    ∀ (dd i : Nat) , i + dd = (k + 1) → xw G m_Model_holdsHere F L bc bs pr px 44 [some (.ref m), some (.int (nI g)), some (.int (nI a)), some (.int (nI i)), none, none] [] h := by
  intro dd
  induction dd with
  | zero =>
    intro i  hi
    obtain rfl : i = (k + 1) := by omega
    refine s_Model_holdsHere_44 l e g_column (fun z_1 => ?_) (fun z => absurd (nI_lt (Nat.lt_succ_self _) (by omega)) z)
    refine s_Model_holdsHere_110 ?_
    exact kk _ (by simp)
  | succ dd ih =>
    intro i  hi
    refine s_Model_holdsHere_44 l e g_column (fun z => absurd z (nI_nlt (a := k) (show i ≤ k by omega) (by omega))) (fun z_1 => ?_)
    refine s_Model_holdsHere_52 ?_
    refine lp_hi l e g_column g_begins e_begins g_lasts e_lasts g_tokenAt e_tokenAt g_tokenSize e_tokenSize g_texts e_texts g_asked e_asked g_firstToken e_firstToken g_starred e_starred g_groupKind e_groupKind g_groupPhrase e_groupPhrase g_groupSize e_groupSize g_groupFar e_groupFar hP PH ht TK TW hk hb hg h6 h7 hq haq (by omega) (by omega) (fun al => ?_) q 0 1 (Nat.zero_add _)
    refine s_Model_holdsHere_97 (fun z_2 => ?_) (fun z_3 => ?_)
    · skip
      refine s_Model_holdsHere_104 ?_
      rw [nI_1]
      exact ih (i + 1) (by omega)
    · skip
      refine s_Model_holdsHere_102 ?_
      exact kk _ (by simp)
set_option maxHeartbeats 400000 in
theorem f_holdsHere {G : xw_G} {F L : Nat} {h : xw_A} {m begins_ lasts_ tokenAt_ tokenSize_ texts_ asked_ firstToken_ starred_ groupKind_ groupPhrase_ groupSize_ groupFar_ : Nat} {fb fl ca cs ft fa c1 c2 c5 c6 c7 c9 : Nat → Int32} {k b0 nn : Nat} {fs : List Value} (l : fs.length = 62) (e : h m = some (.inr (11, fs))) (g_column : fs[(55 : Nat)]? = some (.int (nI k))) (g_begins : fs[(53 : Nat)]? = some (.ref begins_)) (e_begins : h begins_ = some (.inl (0, 24, .inl fb))) (g_lasts : fs[(54 : Nat)]? = some (.ref lasts_)) (e_lasts : h lasts_ = some (.inl (0, 24, .inl fl))) (g_tokenAt : fs[(43 : Nat)]? = some (.ref tokenAt_)) (e_tokenAt : h tokenAt_ = some (.inl (0, 60, .inl ca))) (g_tokenSize : fs[(44 : Nat)]? = some (.ref tokenSize_)) (e_tokenSize : h tokenSize_ = some (.inl (0, 60, .inl cs))) (g_texts : fs[(7 : Nat)]? = some (.ref texts_)) (e_texts : h texts_ = some (.inl (0, 2304, .inl ft))) (g_asked : fs[(4 : Nat)]? = some (.ref asked_)) (e_asked : h asked_ = some (.inl (0, 96, .inl fa))) (g_firstToken : fs[(41 : Nat)]? = some (.ref firstToken_)) (e_firstToken : h firstToken_ = some (.inl (0, 13, .inl c1))) (g_starred : fs[(42 : Nat)]? = some (.ref starred_)) (e_starred : h starred_ = some (.inl (0, 13, .inl c2))) (g_groupKind : fs[(45 : Nat)]? = some (.ref groupKind_)) (e_groupKind : h groupKind_ = some (.inl (0, 13, .inl c5))) (g_groupPhrase : fs[(46 : Nat)]? = some (.ref groupPhrase_)) (e_groupPhrase : h groupPhrase_ = some (.inl (0, 13, .inl c6))) (g_groupSize : fs[(47 : Nat)]? = some (.ref groupSize_)) (e_groupSize : h groupSize_ = some (.inl (0, 13, .inl c7))) (g_groupFar : fs[(49 : Nat)]? = some (.ref groupFar_)) (e_groupFar : h groupFar_ = some (.inl (0, 13, .inl c9))) {P t : Nat} (hP : P ≤ 12) (PH : PhO c1 P t) (ht : t ≤ 49) (TK : TkO ca cs t 97) (TW : TokW fb fl k b0 nn) (hk : k ≤ 24) (hb : b0 + nn ≤ 2304) {g a q : Nat} (hg : g < 13) (h6 : c6 g = nI a) (h7 : c7 g = nI q) (hq : 1 ≤ q) (haq : a + q ≤ P) (hF : 6 ≤ F) (hL : 136 ≤ L) :
    xw_Met G m_Model_holdsHere F L 0 0 [.ref m, .int (nI g)] h (fun v h' => (∃ y : Int32, v = some (.int y) ∧ (y = 0 ∨ y = 1)) ∧ h = h') (fun _ _ => False) := by
  refine xw_Met.of rfl (by decide) (Nat.le_of_ble_eq_true rfl) ?_
  refine s_Model_holdsHere_0 l e g_groupPhrase e_groupPhrase (vp_in_nI (by omega) (by omega)) g_groupKind e_groupKind (vp_in_nI (by omega) (by omega)) (fun z_1 => ?_) (fun z_2 => ?_)
  · skip
    rw [show c6 (nI g).toNatClampNeg = nI a by rw [nI_clamp (by omega)]; exact h6]
    refine s_Model_holdsHere_24 l e g_groupKind e_groupKind (vp_in_nI (by omega) (by omega)) (fun z_3 => ?_) (fun z_4 => ?_)
    · skip
      refine s_Model_holdsHere_42 ?_
      exact lp_ho l e g_column g_begins e_begins g_lasts e_lasts g_tokenAt e_tokenAt g_tokenSize e_tokenSize g_texts e_texts g_asked e_asked g_firstToken e_firstToken g_starred e_starred g_groupKind e_groupKind g_groupPhrase e_groupPhrase g_groupSize e_groupSize g_groupFar e_groupFar hP PH ht TK TW hk hb hg h6 h7 hq haq (by omega) (by omega) (fun y hy => ⟨⟨y, rfl, hy⟩, rfl⟩) (k + 1) 0 (Nat.zero_add _)
    · skip
      refine s_Model_holdsHere_33 ?_
      obtain ⟨a9, b9, h19, h29, hab9, hbt9⟩ := PH (a) (by omega)
      obtain ⟨n9, rfl⟩ : ∃ n9, b9 = a9 + n9 := ⟨b9 - a9, by omega⟩
      refine x_callV (As := [.int (nI a), .int 0, .int 48]) (b := m) (rest := []) (F1 := 5) (L1 := 112) (mc := 0) (ms := 0) d_Model_holdsHere_38 cV_Model_319 (f_standsBetween l e g_column g_begins e_begins g_lasts e_lasts g_tokenAt e_tokenAt g_tokenSize e_tokenSize g_texts e_texts g_asked e_asked g_firstToken e_firstToken g_starred e_starred (show a < 12 by omega) h19 h29 hbt9 ht TK TW hk hb (by omega) (by omega)) e ⟨by decide, rfl⟩ ⟨by omega, by show 8 + (5 + 11) + 112 ≤ _; omega⟩ ⟨by omega, by omega⟩ (Nat.le_of_ble_eq_true rfl) (fun v_8 h_7 p_9 => ?_)
      obtain ⟨⟨y_5, rfl, hy_6⟩, rfl⟩ := p_9
      refine x_le (xw_le_n (xw_le_n (xw_le_n (xw_le_n (xw_le_n (xw_le_n xw_le_e)))))) ?_
      refine s_Model_holdsHere_41 (nb01 hy_6) ?_
      exact ⟨⟨_, rfl, hy_6⟩, rfl⟩
  · skip
    rw [show c6 (nI g).toNatClampNeg = nI a by rw [nI_clamp (by omega)]; exact h6]
    refine s_Model_holdsHere_17 ?_
    obtain ⟨a9, b9, h19, h29, hab9, hbt9⟩ := PH (a) (by omega)
    obtain ⟨n9, rfl⟩ : ∃ n9, b9 = a9 + n9 := ⟨b9 - a9, by omega⟩
    refine x_callV (As := [.int (nI a), .int 0]) (b := m) (rest := []) (F1 := 4) (L1 := 87) (mc := 0) (ms := 0) d_Model_holdsHere_20 cV_Model_316 (f_stands (u := 0) l e g_column g_begins e_begins g_lasts e_lasts g_tokenAt e_tokenAt g_tokenSize e_tokenSize g_texts e_texts g_asked e_asked g_firstToken e_firstToken g_starred e_starred (show a < 12 by omega) h19 h29 hbt9 ht TK TW hk hb (by omega) (by omega) (by omega)) e ⟨by decide, rfl⟩ ⟨by omega, by show 8 + (6 + 11) + 87 ≤ _; omega⟩ ⟨by omega, by omega⟩ (Nat.le_of_ble_eq_true rfl) (fun v_13 h_12 p_14 => ?_)
    obtain ⟨⟨y_10, rfl, hy_11⟩, rfl⟩ := p_14
    refine x_le (xw_le_n (xw_le_n (xw_le_n (xw_le_n (xw_le_n (xw_le_n xw_le_e)))))) ?_
    refine s_Model_holdsHere_23 (nb01 hy_11) ?_
    exact ⟨⟨_, rfl, hy_11⟩, rfl⟩
