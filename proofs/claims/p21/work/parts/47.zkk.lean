set_option maxHeartbeats 1000000 in
theorem lp_maH {G : xw_G} {F L bc bs : Nat} {pr : Option Value → xw_A → Prop} {px : String → xw_A → Prop} {h : xw_A} {m begins_ lasts_ tokenAt_ tokenSize_ texts_ asked_ : Nat} {fb fl ca cs ft fa : Nat → Int32} {fs : List Value} (l : fs.length = 62) (e : h m = some (.inr (11, fs)))  (g_begins : fs[(53 : Nat)]? = some (.ref begins_)) (e_begins : h begins_ = some (.inl (0, 24, .inl fb))) (g_lasts : fs[(54 : Nat)]? = some (.ref lasts_)) (e_lasts : h lasts_ = some (.inl (0, 24, .inl fl))) (g_tokenAt : fs[(43 : Nat)]? = some (.ref tokenAt_)) (e_tokenAt : h tokenAt_ = some (.inl (0, 60, .inl ca))) (g_tokenSize : fs[(44 : Nat)]? = some (.ref tokenSize_)) (e_tokenSize : h tokenSize_ = some (.inl (0, 60, .inl cs))) (g_texts : fs[(7 : Nat)]? = some (.ref texts_)) (e_texts : h texts_ = some (.inl (0, 2304, .inl ft))) (g_asked : fs[(4 : Nat)]? = some (.ref asked_)) (e_asked : h asked_ = some (.inl (0, 96, .inl fa))) {u t xx a : Nat} {w x : List Int32} {bg : Int32} (hu : u < 24) (ht : t < 60) (hx : fb u = nI xx) (hy : fl u = nI (xx + x.length)) (hy2 : xx + x.length ≤ 2304) (hx1 : 1 ≤ x.length) (hX : ∀ (j : Nat) (c : Int32), x[j]? = some c → lowc (ft (xx + j)) = c) (ha : ca t = nI a) (hs : cs t = nI w.length) (has : a + w.length ≤ 96) (hW : ∀ (j : Nat) (c : Int32), w[j]? = some c → lowc (fa (a + j)) = c) (hle : w.length ≤ x.length) (hbw : ¬ bg = 0 ∨ w.length = x.length) (hF : 3 ≤ F) (hL : 62 ≤ L) (kk : ∀ y : Int32, ((y = 0 ∧ ¬ (FtW (¬ bg = 0) w x)) ∨ (y = 1 ∧ (FtW (¬ bg = 0) w x))) → pr (some (.int y)) h) :
    ∀ (dd i : Nat) , i + dd = w.length → (∀ k, k < i → w[k]? = x[k]?) → xw G m_Model_matches F L bc bs pr px 49 [some (.ref m), some (.int (nI u)), some (.int (nI t)), none, none, some (.int (nI i))] [] h := by
  intro dd
  induction dd with
  | zero =>
    intro i  hi hp
    obtain rfl : i = w.length := by omega
    refine s_Model_matches_49 l e g_tokenSize e_tokenSize (vp_in_nI (by omega) (by omega)) (fun z_1 => ?_) (fun z => absurd (by rw [nI_clamp (by omega), hs]; exact nI_le (Nat.le_refl _) (by omega)) z)
    refine s_Model_matches_105 ?_
    exact kk _ (Or.inr ⟨rfl, hle, hbw, hp⟩)
  | succ dd ih =>
    intro i  hi hp
    refine s_Model_matches_49 l e g_tokenSize e_tokenSize (vp_in_nI (by omega) (by omega)) (fun z => absurd z (by rw [nI_clamp (by omega), hs]; exact nI_ge (b := w.length) (show i < w.length by omega) (by omega))) (fun z_1 => ?_)
    refine s_Model_matches_60 l e g_texts g_begins e_begins (vp_in_nI (by omega) (by omega)) e_texts (by rw [nI_clamp (by omega), hx, nI_add]; exact vp_in_nI (by omega) (by decide)) ?_
    refine x_callS (As := [.int (ft ((fb (nI u).toNatClampNeg) + (nI i)).toNatClampNeg)]) (rest := []) (F1 := 2) (L1 := 42) (mc := 0) (ms := 0) d_Model_matches_74 cS_Model_157 (f_small (by omega) (by omega)) ⟨by omega, by show 8 + (1 + 11) + 42 ≤ _; omega⟩ ⟨by omega, by omega⟩ (Nat.le_of_ble_eq_true rfl) (fun v_3 h_2 p_4 => ?_)
    obtain ⟨rfl, rfl⟩ := p_4
    refine s_Model_matches_77 l e g_asked g_tokenAt e_tokenAt (vp_in_nI (by omega) (by omega)) e_asked (by rw [nI_clamp (by omega), ha, nI_add]; exact vp_in_nI (by omega) (by decide)) ?_
    refine x_callS (As := [.int (fa ((ca (nI t).toNatClampNeg) + (nI i)).toNatClampNeg)]) (rest := [.int (lowc (ft ((fb (nI u).toNatClampNeg) + (nI i)).toNatClampNeg))]) (F1 := 2) (L1 := 42) (mc := 0) (ms := 0) d_Model_matches_91 cS_Model_157 (f_small (by omega) (by omega)) ⟨by omega, by show 8 + (1 + 11) + 42 ≤ _; omega⟩ ⟨by omega, by omega⟩ (Nat.le_of_ble_eq_true rfl) (fun v_6 h_5 p_7 => ?_)
    obtain ⟨rfl, rfl⟩ := p_7
    refine s_Model_matches_94 (fun z_8 => ?_) (fun z_9 => ?_)
    · skip
      refine s_Model_matches_99 ?_
      simp only [nI_1]
      have hz_10 := z_8
      rw [nI_clamp (show u < 2 ^ 31 by omega), hx, nI_add, nI_clamp (show xx + i < 2 ^ 31 by omega), nI_clamp (show t < 2 ^ 31 by omega), ha, nI_add, nI_clamp (show a + i < 2 ^ 31 by omega)] at hz_10
      exact ih (i + 1) (by omega) (fun k hk => by by_cases q : k = i; (rw [q]; exact (mt_eq hX hW (by omega) (by omega)).mp hz_10); (exact hp k (by omega)))
    · skip
      refine s_Model_matches_97 ?_
      have hz_11 := z_9
      rw [nI_clamp (show u < 2 ^ 31 by omega), hx, nI_add, nI_clamp (show xx + i < 2 ^ 31 by omega), nI_clamp (show t < 2 ^ 31 by omega), ha, nI_add, nI_clamp (show a + i < 2 ^ 31 by omega)] at hz_11
      exact kk _ (Or.inl ⟨rfl, fun q => hz_11 ((mt_eq hX hW (by omega) (by omega)).mpr (q.2.2 i (by omega)))⟩)
set_option maxHeartbeats 400000 in
theorem f_matchesH {G : xw_G} {F L : Nat} {h : xw_A} {m begins_ lasts_ tokenAt_ tokenSize_ texts_ asked_ : Nat} {fb fl ca cs ft fa : Nat → Int32} {fs : List Value} (l : fs.length = 62) (e : h m = some (.inr (11, fs)))  (g_begins : fs[(53 : Nat)]? = some (.ref begins_)) (e_begins : h begins_ = some (.inl (0, 24, .inl fb))) (g_lasts : fs[(54 : Nat)]? = some (.ref lasts_)) (e_lasts : h lasts_ = some (.inl (0, 24, .inl fl))) (g_tokenAt : fs[(43 : Nat)]? = some (.ref tokenAt_)) (e_tokenAt : h tokenAt_ = some (.inl (0, 60, .inl ca))) (g_tokenSize : fs[(44 : Nat)]? = some (.ref tokenSize_)) (e_tokenSize : h tokenSize_ = some (.inl (0, 60, .inl cs))) (g_texts : fs[(7 : Nat)]? = some (.ref texts_)) (e_texts : h texts_ = some (.inl (0, 2304, .inl ft))) (g_asked : fs[(4 : Nat)]? = some (.ref asked_)) (e_asked : h asked_ = some (.inl (0, 96, .inl fa))) {u t xx a : Nat} {w x : List Int32} {bg : Int32} (hu : u < 24) (ht : t < 60) (hx : fb u = nI xx) (hy : fl u = nI (xx + x.length)) (hy2 : xx + x.length ≤ 2304) (hx1 : 1 ≤ x.length) (hX : ∀ (j : Nat) (c : Int32), x[j]? = some c → lowc (ft (xx + j)) = c) (ha : ca t = nI a) (hs : cs t = nI w.length) (has : a + w.length ≤ 96) (hW : ∀ (j : Nat) (c : Int32), w[j]? = some c → lowc (fa (a + j)) = c) (hF : 3 ≤ F) (hL : 62 ≤ L) :
    xw_Met G m_Model_matches F L 0 0 [.ref m, .int (nI u), .int (nI t), .int bg] h (fun v h' => (∃ y : Int32, v = some (.int y) ∧ ((y = 0 ∧ ¬ (FtW (¬ bg = 0) w x)) ∨ (y = 1 ∧ (FtW (¬ bg = 0) w x)))) ∧ h = h') (fun _ _ => False) := by
  refine xw_Met.of rfl (by decide) (Nat.le_of_ble_eq_true rfl) ?_
  refine s_Model_matches_0 l e g_lasts e_lasts (vp_in_nI (by omega) (by omega)) g_begins e_begins (vp_in_nI (by omega) (by omega)) (fun z_1 => ?_) (fun z_2 => ?_)
  · skip
    refine s_Model_matches_33 l e g_tokenSize e_tokenSize (vp_in_nI (by omega) (by omega)) (fun z_3 => ?_) (fun z_4 => ?_)
    · skip
      rw [nI_clamp (show u < 2 ^ 31 by omega), nI_clamp (show t < 2 ^ 31 by omega), hx, hy, hs, pk_sub (by omega), Nat.add_sub_cancel_left] at z_3
      have hwx : w.length = x.length := (nI_eq (by omega) (by omega)).mp z_3
      have hle := Nat.le_of_eq hwx
      have hbw : ¬ bg = 0 ∨ w.length = x.length := Or.inr hwx
      refine s_Model_matches_46 ?_
      exact lp_maH l e g_begins e_begins g_lasts e_lasts g_tokenAt e_tokenAt g_tokenSize e_tokenSize g_texts e_texts g_asked e_asked hu ht hx hy hy2 hx1 hX ha hs has hW hle hbw (by omega) (by omega) (fun y hy => ⟨⟨y, rfl, hy⟩, rfl⟩) w.length 0 (Nat.zero_add _) (fun _ q => absurd q (Nat.not_lt_zero _))
    · skip
      refine s_Model_matches_44 ?_
      rw [nI_clamp (show u < 2 ^ 31 by omega), nI_clamp (show t < 2 ^ 31 by omega), hx, hy, hs, pk_sub (by omega), Nat.add_sub_cancel_left] at z_4
      exact ⟨⟨_, rfl, Or.inl ⟨rfl, fun q => q.2.1.elim (fun b => b z_1) (fun e => z_4 (by rw [e]))⟩⟩, rfl⟩
  · skip
    refine s_Model_matches_19 l e g_tokenSize e_tokenSize (vp_in_nI (by omega) (by omega)) (fun z_5 => ?_) (fun z_6 => ?_)
    · skip
      rw [nI_clamp (show u < 2 ^ 31 by omega), nI_clamp (show t < 2 ^ 31 by omega), hx, hy, hs, pk_sub (by omega), Nat.add_sub_cancel_left] at z_5
      have hle : w.length ≤ x.length := Nat.le_of_not_lt (fun q => absurd z_5 (nI_ge (b := w.length) q (by omega)))
      have hbw : ¬ bg = 0 ∨ w.length = x.length := Or.inl z_2
      refine s_Model_matches_46 ?_
      exact lp_maH l e g_begins e_begins g_lasts e_lasts g_tokenAt e_tokenAt g_tokenSize e_tokenSize g_texts e_texts g_asked e_asked hu ht hx hy hy2 hx1 hX ha hs has hW hle hbw (by omega) (by omega) (fun y hy => ⟨⟨y, rfl, hy⟩, rfl⟩) w.length 0 (Nat.zero_add _) (fun _ q => absurd q (Nat.not_lt_zero _))
    · skip
      refine s_Model_matches_30 ?_
      refine s_Model_matches_44 ?_
      rw [nI_clamp (show u < 2 ^ 31 by omega), nI_clamp (show t < 2 ^ 31 by omega), hx, hy, hs, pk_sub (by omega), Nat.add_sub_cancel_left] at z_6
      exact ⟨⟨_, rfl, Or.inl ⟨rfl, fun q => z_6 (nI_le q.1 (by omega))⟩⟩, rfl⟩
set_option maxHeartbeats 1000000 in
theorem lp_stH {G : xw_G} {F L bc bs : Nat} {pr : Option Value → xw_A → Prop} {px : String → xw_A → Prop} {h : xw_A} {m begins_ lasts_ tokenAt_ tokenSize_ texts_ asked_ firstToken_ starred_ : Nat} {fb fl ca cs ft fa c1 c2 : Nat → Int32} {k : Nat} {fs : List Value} (l : fs.length = 62) (e : h m = some (.inr (11, fs))) (g_column : fs[(55 : Nat)]? = some (.int (nI k))) (g_begins : fs[(53 : Nat)]? = some (.ref begins_)) (e_begins : h begins_ = some (.inl (0, 24, .inl fb))) (g_lasts : fs[(54 : Nat)]? = some (.ref lasts_)) (e_lasts : h lasts_ = some (.inl (0, 24, .inl fl))) (g_tokenAt : fs[(43 : Nat)]? = some (.ref tokenAt_)) (e_tokenAt : h tokenAt_ = some (.inl (0, 60, .inl ca))) (g_tokenSize : fs[(44 : Nat)]? = some (.ref tokenSize_)) (e_tokenSize : h tokenSize_ = some (.inl (0, 60, .inl cs))) (g_texts : fs[(7 : Nat)]? = some (.ref texts_)) (e_texts : h texts_ = some (.inl (0, 2304, .inl ft))) (g_asked : fs[(4 : Nat)]? = some (.ref asked_)) (e_asked : h asked_ = some (.inl (0, 96, .inl fa))) (g_firstToken : fs[(41 : Nat)]? = some (.ref firstToken_)) (e_firstToken : h firstToken_ = some (.inl (0, 13, .inl c1))) (g_starred : fs[(42 : Nat)]? = some (.ref starred_)) (e_starred : h starred_ = some (.inl (0, 13, .inl c2))) {ws : List (List Int32)} {p a n t : Nat} {b : Bool} (hp : p < 12) (h1 : c1 p = nI a) (h2 : c1 (p + 1) = nI (a + n)) (h3 : c2 p = b01 b) (hat : a + n ≤ ws.length) (hws : ws.length ≤ 49) (TR : TkR ws t ca cs fa) {T : List (List Int32)} (TP : TpX T k ft fb fl) (hk : k ≤ 24) {u : Nat} (hu : u < 25) (hun : u + n ≤ T.length) (hF : 4 ≤ F) (hL : 87 ≤ L) (kk : ∀ y : Int32, ((y = 0 ∧ ¬ (SdA ws a n b T u)) ∨ (y = 1 ∧ (SdA ws a n b T u))) → pr (some (.int y)) h) :
    ∀ (dd i : Nat) , i + dd = n → (∀ k, k < i → ∀ w x, ws[a + k]? = some w → T[u + k]? = some x → FtW (b = true ∧ k + 1 = n) w x) → xw G m_Model_stands F L bc bs pr px 25 [some (.ref m), some (.int (nI p)), some (.int (nI u)), some (.int (nI n)), some (.int (nI i)), none] [] h := by
  intro dd
  induction dd with
  | zero =>
    intro i hi hp_
    obtain rfl : i = n := by omega
    refine s_Model_stands_25 (fun z_1 => ?_) (fun z => absurd (nI_le (Nat.le_refl _) (by omega)) z)
    refine s_Model_stands_86 ?_
    exact kk _ (Or.inr ⟨rfl, hp_⟩)
  | succ dd ih =>
    intro i hi hp_
    refine s_Model_stands_25 (fun z => absurd z (nI_ge (b := n) (show i < n by omega) (by omega))) (fun z_1 => ?_)
    refine s_Model_stands_31 l e g_firstToken e_firstToken (vp_in_nI (by omega) (by omega)) g_starred e_starred (vp_in_nI (by omega) (by omega)) (fun z_2 => ?_) (fun z_3 => ?_)
    · skip
      refine s_Model_stands_67 ?_
      rw [show nI u + nI i = nI (u + i) from nI_add _ _, show c1 (nI p).toNatClampNeg + nI i = nI (a + i) by rw [nI_clamp (by omega), h1, nI_add]]
      have hkT := TP.1
      obtain ⟨w9, hw9⟩ : ∃ w, ws[a + i]? = some w := ⟨_, List.getElem?_eq_getElem (show a + i < ws.length by omega)⟩
      obtain ⟨x9, hx9⟩ : ∃ x, T[u + i]? = some x := ⟨_, List.getElem?_eq_getElem (show u + i < T.length by omega)⟩
      obtain ⟨xx9, b1, b2, b3, b4, b5⟩ := TP.2 (u + i) x9 hx9
      obtain ⟨a9, d1, d2, d3, d4⟩ := TR.2 (a + i) w9 hw9
      rw [nI_clamp (show p < 2 ^ 31 by omega), h3] at z_2
      have hbi : ((¬ (0 : Int32) = 0) ↔ (b = true ∧ i + 1 = n)) := ⟨fun q => absurd rfl q, fun q => absurd (by rw [q.1]; rfl) z_2⟩
      refine x_callV (As := [.int (nI (u + i)), .int (nI (a + i)), .int 0]) (b := m) (rest := []) (F1 := 3) (L1 := 62) (mc := 0) (ms := 0) d_Model_stands_68 cV_Model_312 (f_matchesH l e g_begins e_begins g_lasts e_lasts g_tokenAt e_tokenAt g_tokenSize e_tokenSize g_texts e_texts g_asked e_asked (show u + i < 24 by omega) (show a + i < 60 by omega) b1 b2 b3 b4 b5 d1 d2 d3 d4 (by omega) (by omega)) e ⟨by decide, rfl⟩ ⟨by omega, by show 8 + (6 + 11) + 62 ≤ _; omega⟩ ⟨by omega, by omega⟩ (Nat.le_of_ble_eq_true rfl) (fun v_7 h_6 p_8 => ?_)
      obtain ⟨⟨y_4, rfl, hy_5⟩, rfl⟩ := p_8
      have hy_5c := yn_cg hy_5 (FtW.cg (w := w9) (x := x9) hbi)
      refine s_Model_stands_71 (fun z_9 => ?_) (fun z_10 => ?_)
      · skip
        refine s_Model_stands_80 ?_
        simp only [nI_1]
        exact ih (i + 1) (by omega) (fun k hk w x h8 h9 => by by_cases q : k = i; (subst q; obtain rfl := Option.some.inj (hw9.symm.trans h8); obtain rfl := Option.some.inj (hx9.symm.trans h9); exact yn_y hy_5c z_9); (exact hp_ k (by omega) w x h8 h9))
      · skip
        refine s_Model_stands_78 ?_
        exact kk _ (Or.inl ⟨rfl, fun q => yn_n hy_5c z_10 (q i (by omega) w9 x9 hw9 hx9)⟩)
    · skip
      refine s_Model_stands_55 (fun z_11 => ?_) (fun z_12 => ?_)
      · skip
        refine s_Model_stands_67 ?_
        rw [show nI u + nI i = nI (u + i) from nI_add _ _, show c1 (nI p).toNatClampNeg + nI i = nI (a + i) by rw [nI_clamp (by omega), h1, nI_add]]
        have hkT := TP.1
        obtain ⟨w9, hw9⟩ : ∃ w, ws[a + i]? = some w := ⟨_, List.getElem?_eq_getElem (show a + i < ws.length by omega)⟩
        obtain ⟨x9, hx9⟩ : ∃ x, T[u + i]? = some x := ⟨_, List.getElem?_eq_getElem (show u + i < T.length by omega)⟩
        obtain ⟨xx9, b1, b2, b3, b4, b5⟩ := TP.2 (u + i) x9 hx9
        obtain ⟨a9, d1, d2, d3, d4⟩ := TR.2 (a + i) w9 hw9
        rw [nI_clamp (show p < 2 ^ 31 by omega), h3] at z_3
        have hbi : ((¬ (0 : Int32) = 0) ↔ (b = true ∧ i + 1 = n)) := ⟨fun q => absurd rfl q, fun q => absurd (by rw [← q.2, nI_pred]) z_11⟩
        refine x_callV (As := [.int (nI (u + i)), .int (nI (a + i)), .int 0]) (b := m) (rest := []) (F1 := 3) (L1 := 62) (mc := 0) (ms := 0) d_Model_stands_68 cV_Model_312 (f_matchesH l e g_begins e_begins g_lasts e_lasts g_tokenAt e_tokenAt g_tokenSize e_tokenSize g_texts e_texts g_asked e_asked (show u + i < 24 by omega) (show a + i < 60 by omega) b1 b2 b3 b4 b5 d1 d2 d3 d4 (by omega) (by omega)) e ⟨by decide, rfl⟩ ⟨by omega, by show 8 + (6 + 11) + 62 ≤ _; omega⟩ ⟨by omega, by omega⟩ (Nat.le_of_ble_eq_true rfl) (fun v_16 h_15 p_17 => ?_)
        obtain ⟨⟨y_13, rfl, hy_14⟩, rfl⟩ := p_17
        have hy_14c := yn_cg hy_14 (FtW.cg (w := w9) (x := x9) hbi)
        refine s_Model_stands_71 (fun z_18 => ?_) (fun z_19 => ?_)
        · skip
          refine s_Model_stands_80 ?_
          simp only [nI_1]
          exact ih (i + 1) (by omega) (fun k hk w x h8 h9 => by by_cases q : k = i; (subst q; obtain rfl := Option.some.inj (hw9.symm.trans h8); obtain rfl := Option.some.inj (hx9.symm.trans h9); exact yn_y hy_14c z_18); (exact hp_ k (by omega) w x h8 h9))
        · skip
          refine s_Model_stands_78 ?_
          exact kk _ (Or.inl ⟨rfl, fun q => yn_n hy_14c z_19 (q i (by omega) w9 x9 hw9 hx9)⟩)
      · skip
        refine s_Model_stands_63 ?_
        rw [show nI u + nI i = nI (u + i) from nI_add _ _, show c1 (nI p).toNatClampNeg + nI i = nI (a + i) by rw [nI_clamp (by omega), h1, nI_add]]
        have hkT := TP.1
        obtain ⟨w9, hw9⟩ : ∃ w, ws[a + i]? = some w := ⟨_, List.getElem?_eq_getElem (show a + i < ws.length by omega)⟩
        obtain ⟨x9, hx9⟩ : ∃ x, T[u + i]? = some x := ⟨_, List.getElem?_eq_getElem (show u + i < T.length by omega)⟩
        obtain ⟨xx9, b1, b2, b3, b4, b5⟩ := TP.2 (u + i) x9 hx9
        obtain ⟨a9, d1, d2, d3, d4⟩ := TR.2 (a + i) w9 hw9
        rw [nI_clamp (show p < 2 ^ 31 by omega), h3] at z_3
        have hbi : ((¬ (1 : Int32) = 0) ↔ (b = true ∧ i + 1 = n)) := ⟨fun _ => ⟨b01_t (by rw [z_3]; decide), by obtain ⟨n9, rfl⟩ : ∃ n9, n = n9 + 1 := ⟨n - 1, by omega⟩; rw [nI_pred] at z_12; have := (nI_eq (by omega) (by omega)).mp z_12; omega⟩, fun _ => by decide⟩
        refine x_callV (As := [.int (nI (u + i)), .int (nI (a + i)), .int 1]) (b := m) (rest := []) (F1 := 3) (L1 := 62) (mc := 0) (ms := 0) d_Model_stands_68 cV_Model_312 (f_matchesH l e g_begins e_begins g_lasts e_lasts g_tokenAt e_tokenAt g_tokenSize e_tokenSize g_texts e_texts g_asked e_asked (show u + i < 24 by omega) (show a + i < 60 by omega) b1 b2 b3 b4 b5 d1 d2 d3 d4 (by omega) (by omega)) e ⟨by decide, rfl⟩ ⟨by omega, by show 8 + (6 + 11) + 62 ≤ _; omega⟩ ⟨by omega, by omega⟩ (Nat.le_of_ble_eq_true rfl) (fun v_23 h_22 p_24 => ?_)
        obtain ⟨⟨y_20, rfl, hy_21⟩, rfl⟩ := p_24
        have hy_21c := yn_cg hy_21 (FtW.cg (w := w9) (x := x9) hbi)
        refine s_Model_stands_71 (fun z_25 => ?_) (fun z_26 => ?_)
        · skip
          refine s_Model_stands_80 ?_
          simp only [nI_1]
          exact ih (i + 1) (by omega) (fun k hk w x h8 h9 => by by_cases q : k = i; (subst q; obtain rfl := Option.some.inj (hw9.symm.trans h8); obtain rfl := Option.some.inj (hx9.symm.trans h9); exact yn_y hy_21c z_25); (exact hp_ k (by omega) w x h8 h9))
        · skip
          refine s_Model_stands_78 ?_
          exact kk _ (Or.inl ⟨rfl, fun q => yn_n hy_21c z_26 (q i (by omega) w9 x9 hw9 hx9)⟩)
set_option maxHeartbeats 400000 in
theorem f_standsH {G : xw_G} {F L : Nat} {h : xw_A} {m begins_ lasts_ tokenAt_ tokenSize_ texts_ asked_ firstToken_ starred_ : Nat} {fb fl ca cs ft fa c1 c2 : Nat → Int32} {k : Nat} {fs : List Value} (l : fs.length = 62) (e : h m = some (.inr (11, fs))) (g_column : fs[(55 : Nat)]? = some (.int (nI k))) (g_begins : fs[(53 : Nat)]? = some (.ref begins_)) (e_begins : h begins_ = some (.inl (0, 24, .inl fb))) (g_lasts : fs[(54 : Nat)]? = some (.ref lasts_)) (e_lasts : h lasts_ = some (.inl (0, 24, .inl fl))) (g_tokenAt : fs[(43 : Nat)]? = some (.ref tokenAt_)) (e_tokenAt : h tokenAt_ = some (.inl (0, 60, .inl ca))) (g_tokenSize : fs[(44 : Nat)]? = some (.ref tokenSize_)) (e_tokenSize : h tokenSize_ = some (.inl (0, 60, .inl cs))) (g_texts : fs[(7 : Nat)]? = some (.ref texts_)) (e_texts : h texts_ = some (.inl (0, 2304, .inl ft))) (g_asked : fs[(4 : Nat)]? = some (.ref asked_)) (e_asked : h asked_ = some (.inl (0, 96, .inl fa))) (g_firstToken : fs[(41 : Nat)]? = some (.ref firstToken_)) (e_firstToken : h firstToken_ = some (.inl (0, 13, .inl c1))) (g_starred : fs[(42 : Nat)]? = some (.ref starred_)) (e_starred : h starred_ = some (.inl (0, 13, .inl c2))) {ws : List (List Int32)} {p a n t : Nat} {b : Bool} (hp : p < 12) (h1 : c1 p = nI a) (h2 : c1 (p + 1) = nI (a + n)) (h3 : c2 p = b01 b) (hat : a + n ≤ ws.length) (hws : ws.length ≤ 49) (TR : TkR ws t ca cs fa) {T : List (List Int32)} (TP : TpX T k ft fb fl) (hk : k ≤ 24) {u : Nat} (hu : u < 25) (hF : 4 ≤ F) (hL : 87 ≤ L) :
    xw_Met G m_Model_stands F L 0 0 [.ref m, .int (nI p), .int (nI u)] h (fun v h' => (∃ y : Int32, v = some (.int y) ∧ ((y = 0 ∧ ¬ SdP ws a n b T u) ∨ (y = 1 ∧ SdP ws a n b T u))) ∧ h = h') (fun _ _ => False) := by
  refine xw_Met.of rfl (by decide) (Nat.le_of_ble_eq_true rfl) ?_
  refine s_Model_stands_0 ?_
  refine x_callV (As := [.int (nI p)]) (b := m) (rest := []) (F1 := 1) (L1 := 20) (mc := 0) (ms := 0) d_Model_stands_2 cV_Model_309 (f_length l e g_firstToken e_firstToken (by omega) h1 h2 (by omega) (by omega)) e ⟨by decide, rfl⟩ ⟨by omega, by show 8 + (2 + 11) + 20 ≤ _; omega⟩ ⟨by omega, by omega⟩ (Nat.le_of_ble_eq_true rfl) (fun v_2 h_1 p_3 => ?_)
  obtain ⟨rfl, rfl⟩ := p_3
  refine s_Model_stands_5 (fun z_4 => ?_) (fun z_5 => ?_)
  · skip
    refine s_Model_stands_20 ?_
    exact ⟨⟨_, rfl, Or.inl ⟨rfl, fun q => absurd q.1 (by have := (nI_eq (b := 0) (by omega) (by decide)).mp z_4; omega)⟩⟩, rfl⟩
  · skip
    refine s_Model_stands_10 l e g_column (fun z_6 => ?_) (fun z_7 => ?_)
    · skip
      rw [nI_add] at z_6
      have hun : u + n ≤ T.length := by have := TP.1; exact Nat.le_of_not_lt (fun q => absurd z_6 (nI_ge (b := u + n) (by omega) (by omega)))
      have hn0 : 0 < n := Nat.pos_of_ne_zero (fun q => z_5 (by rw [q]; rfl))
      refine s_Model_stands_22 ?_
      exact lp_stH l e g_column g_begins e_begins g_lasts e_lasts g_tokenAt e_tokenAt g_tokenSize e_tokenSize g_texts e_texts g_asked e_asked g_firstToken e_firstToken g_starred e_starred hp h1 h2 h3 hat hws TR TP hk hu hun (by omega) (by omega) (fun y hy => ⟨⟨y, rfl, yn_cg hy ⟨fun q => ⟨hn0, hun, q⟩, fun q => q.2.2⟩⟩, rfl⟩) n 0 (Nat.zero_add _) (fun _ q => absurd q (Nat.not_lt_zero _))
    · skip
      refine s_Model_stands_20 ?_
      rw [nI_add] at z_7
      exact ⟨⟨_, rfl, Or.inl ⟨rfl, fun q => z_7 (nI_le (by have := TP.1; have := q.2.1; omega) (by omega))⟩⟩, rfl⟩
set_option maxHeartbeats 1000000 in
theorem lp_sbH {G : xw_G} {F L bc bs : Nat} {pr : Option Value → xw_A → Prop} {px : String → xw_A → Prop} {h : xw_A} {m begins_ lasts_ tokenAt_ tokenSize_ texts_ asked_ firstToken_ starred_ : Nat} {fb fl ca cs ft fa c1 c2 : Nat → Int32} {k : Nat} {fs : List Value} (l : fs.length = 62) (e : h m = some (.inr (11, fs))) (g_column : fs[(55 : Nat)]? = some (.int (nI k))) (g_begins : fs[(53 : Nat)]? = some (.ref begins_)) (e_begins : h begins_ = some (.inl (0, 24, .inl fb))) (g_lasts : fs[(54 : Nat)]? = some (.ref lasts_)) (e_lasts : h lasts_ = some (.inl (0, 24, .inl fl))) (g_tokenAt : fs[(43 : Nat)]? = some (.ref tokenAt_)) (e_tokenAt : h tokenAt_ = some (.inl (0, 60, .inl ca))) (g_tokenSize : fs[(44 : Nat)]? = some (.ref tokenSize_)) (e_tokenSize : h tokenSize_ = some (.inl (0, 60, .inl cs))) (g_texts : fs[(7 : Nat)]? = some (.ref texts_)) (e_texts : h texts_ = some (.inl (0, 2304, .inl ft))) (g_asked : fs[(4 : Nat)]? = some (.ref asked_)) (e_asked : h asked_ = some (.inl (0, 96, .inl fa))) (g_firstToken : fs[(41 : Nat)]? = some (.ref firstToken_)) (e_firstToken : h firstToken_ = some (.inl (0, 13, .inl c1))) (g_starred : fs[(42 : Nat)]? = some (.ref starred_)) (e_starred : h starred_ = some (.inl (0, 13, .inl c2))) {ws : List (List Int32)} {p a n t : Nat} {b : Bool} (hp : p < 12) (h1 : c1 p = nI a) (h2 : c1 (p + 1) = nI (a + n)) (h3 : c2 p = b01 b) (hat : a + n ≤ ws.length) (hws : ws.length ≤ 49) (TR : TkR ws t ca cs fa) {T : List (List Int32)} (TP : TpX T k ft fb fl) (hk : k ≤ 24) {e0 b0 : Nat} (he0 : e0 ≤ 200) (hb0 : b0 ≤ 200) (hF : 5 ≤ F) (hL : 112 ≤ L) (kk : ∀ y : Int32, ((y = 0 ∧ ¬ (SbP ws a n b T e0 b0)) ∨ (y = 1 ∧ (SbP ws a n b T e0 b0))) → pr (some (.int y)) h) :
    ∀ (dd i : Nat) , i + dd = k → (∀ j, j < i → ¬ (j ≤ b0 ∧ e0 ≤ j + n ∧ SdP ws a n b T j)) → xw G m_Model_standsBetween F L bc bs pr px 3 [some (.ref m), some (.int (nI p)), some (.int (nI e0)), some (.int (nI b0)), some (.int (nI i))] [] h := by
  intro dd
  induction dd with
  | zero =>
    intro i hi hp_
    obtain rfl : i = k := by omega
    refine s_Model_standsBetween_3 l e g_column (fun z_1 => ?_) (fun z => absurd (nI_le (Nat.le_refl _) (by omega)) z)
    refine s_Model_standsBetween_48 ?_
    exact kk _ (Or.inl ⟨rfl, fun ⟨j, hj, r⟩ => hp_ j (by have := TP.1; omega) r⟩)
  | succ dd ih =>
    intro i hi hp_
    refine s_Model_standsBetween_3 l e g_column (fun z => absurd z (nI_ge (b := k) (show i < k by omega) (by omega))) (fun z_1 => ?_)
    refine s_Model_standsBetween_12 (fun z_2 => ?_) (fun z_3 => ?_)
    · skip
      refine s_Model_standsBetween_48 ?_
      exact kk _ (Or.inl ⟨rfl, fun ⟨j, hj, r⟩ => by by_cases q : j < i; (exact hp_ j q r); (exact absurd z_2 (nI_nlt (show i ≤ b0 by have := r.1; omega) (by omega)))⟩)
    · skip
      refine s_Model_standsBetween_18 ?_
      refine x_callV (As := [.int (nI p)]) (b := m) (rest := [.int (nI i)]) (F1 := 1) (L1 := 20) (mc := 0) (ms := 0) d_Model_standsBetween_22 cV_Model_309 (f_length l e g_firstToken e_firstToken (by omega) h1 h2 (by omega) (by omega)) e ⟨by decide, rfl⟩ ⟨by omega, by show 8 + (2 + 11) + 20 ≤ _; omega⟩ ⟨by omega, by omega⟩ (Nat.le_of_ble_eq_true rfl) (fun v_5 h_4 p_6 => ?_)
      obtain ⟨rfl, rfl⟩ := p_6
      refine s_Model_standsBetween_25 (fun z_7 => ?_) (fun z_8 => ?_)
      · skip
        refine s_Model_standsBetween_42 ?_
        simp only [nI_1]
        rw [nI_add] at z_7
        exact ih (i + 1) (by omega) (fun j hj => by by_cases q : j = i; (subst q; exact (fun r => absurd z_7 (nI_nlt r.2.1 (by omega)))); (exact hp_ j (by omega)))
      · skip
        refine s_Model_standsBetween_30 ?_
        refine x_callV (As := [.int (nI p), .int (nI i)]) (b := m) (rest := []) (F1 := 4) (L1 := 87) (mc := 0) (ms := 0) d_Model_standsBetween_34 cV_Model_316 (f_standsH l e g_column g_begins e_begins g_lasts e_lasts g_tokenAt e_tokenAt g_tokenSize e_tokenSize g_texts e_texts g_asked e_asked g_firstToken e_firstToken g_starred e_starred hp h1 h2 h3 hat hws TR TP hk (show i < 25 by omega) (by omega) (by omega)) e ⟨by decide, rfl⟩ ⟨by omega, by show 8 + (6 + 11) + 87 ≤ _; omega⟩ ⟨by omega, by omega⟩ (Nat.le_of_ble_eq_true rfl) (fun v_12 h_11 p_13 => ?_)
        obtain ⟨⟨y_9, rfl, hy_10⟩, rfl⟩ := p_13
        refine s_Model_standsBetween_37 (fun z_14 => ?_) (fun z_15 => ?_)
        · skip
          refine s_Model_standsBetween_42 ?_
          simp only [nI_1]
          exact ih (i + 1) (by omega) (fun j hj => by by_cases q : j = i; (subst q; exact (fun r => yn_n hy_10 z_14 r.2.2)); (exact hp_ j (by omega)))
        · skip
          refine s_Model_standsBetween_40 ?_
          rw [nI_add] at z_8
          exact kk _ (Or.inr ⟨rfl, i, by have := TP.1; omega, Nat.le_of_not_lt (fun q => z_3 (nI_lt q (by omega))), Nat.le_of_not_lt (fun q => z_8 (nI_lt q (by omega))), yn_y hy_10 z_15⟩)
set_option maxHeartbeats 400000 in
theorem f_standsBetweenH {G : xw_G} {F L : Nat} {h : xw_A} {m begins_ lasts_ tokenAt_ tokenSize_ texts_ asked_ firstToken_ starred_ : Nat} {fb fl ca cs ft fa c1 c2 : Nat → Int32} {k : Nat} {fs : List Value} (l : fs.length = 62) (e : h m = some (.inr (11, fs))) (g_column : fs[(55 : Nat)]? = some (.int (nI k))) (g_begins : fs[(53 : Nat)]? = some (.ref begins_)) (e_begins : h begins_ = some (.inl (0, 24, .inl fb))) (g_lasts : fs[(54 : Nat)]? = some (.ref lasts_)) (e_lasts : h lasts_ = some (.inl (0, 24, .inl fl))) (g_tokenAt : fs[(43 : Nat)]? = some (.ref tokenAt_)) (e_tokenAt : h tokenAt_ = some (.inl (0, 60, .inl ca))) (g_tokenSize : fs[(44 : Nat)]? = some (.ref tokenSize_)) (e_tokenSize : h tokenSize_ = some (.inl (0, 60, .inl cs))) (g_texts : fs[(7 : Nat)]? = some (.ref texts_)) (e_texts : h texts_ = some (.inl (0, 2304, .inl ft))) (g_asked : fs[(4 : Nat)]? = some (.ref asked_)) (e_asked : h asked_ = some (.inl (0, 96, .inl fa))) (g_firstToken : fs[(41 : Nat)]? = some (.ref firstToken_)) (e_firstToken : h firstToken_ = some (.inl (0, 13, .inl c1))) (g_starred : fs[(42 : Nat)]? = some (.ref starred_)) (e_starred : h starred_ = some (.inl (0, 13, .inl c2))) {ws : List (List Int32)} {p a n t : Nat} {b : Bool} (hp : p < 12) (h1 : c1 p = nI a) (h2 : c1 (p + 1) = nI (a + n)) (h3 : c2 p = b01 b) (hat : a + n ≤ ws.length) (hws : ws.length ≤ 49) (TR : TkR ws t ca cs fa) {T : List (List Int32)} (TP : TpX T k ft fb fl) (hk : k ≤ 24) {e0 b0 : Nat} (he0 : e0 ≤ 200) (hb0 : b0 ≤ 200) (hF : 5 ≤ F) (hL : 112 ≤ L) :
    xw_Met G m_Model_standsBetween F L 0 0 [.ref m, .int (nI p), .int (nI e0), .int (nI b0)] h (fun v h' => (∃ y : Int32, v = some (.int y) ∧ ((y = 0 ∧ ¬ (SbP ws a n b T e0 b0)) ∨ (y = 1 ∧ (SbP ws a n b T e0 b0)))) ∧ h = h') (fun _ _ => False) := by
  refine xw_Met.of rfl (by decide) (Nat.le_of_ble_eq_true rfl) ?_
  refine s_Model_standsBetween_0 ?_
  exact lp_sbH l e g_column g_begins e_begins g_lasts e_lasts g_tokenAt e_tokenAt g_tokenSize e_tokenSize g_texts e_texts g_asked e_asked g_firstToken e_firstToken g_starred e_starred hp h1 h2 h3 hat hws TR TP hk he0 hb0 (by omega) (by omega) (fun y hy => ⟨⟨y, rfl, hy⟩, rfl⟩) k 0 (Nat.zero_add _) (fun _ q => absurd q (Nat.not_lt_zero _))
