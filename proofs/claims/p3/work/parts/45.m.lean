/-! the reference in general states: by program (wip/tools/gen3.py, gen4.py, gen5.py) -/
set_option maxHeartbeats 2000000 in
theorem lp_beg0 {G : xw_G} {F L bc bs : Nat} {pr : Option Value → xw_A → Prop} {px : String → xw_A → Prop} {m texts_ oldTexts_ : Nat} {gs : List Value} {c_texts : Nat → Int32} {h0 : xw_A} (l : gs.length = 62) (q_m : h0 m = some (.inr (11, gs))) (g_texts : gs[(7 : Nat)]? = some (.ref texts_)) (g_oldTexts : gs[(21 : Nat)]? = some (.ref oldTexts_)) (q_texts : h0 texts_ = some (.inl (0, 2304, .inl c_texts))) (q_oldTexts : ∃ f, h0 oldTexts_ = some (.inl (0, 2304, .inl f))) (n_texts_oldTexts : texts_ ≠ oldTexts_) (kk : ∀ (h : xw_A) (c_oldTexts : Nat → Int32), h oldTexts_ = some (.inl (0, 2304, .inl c_oldTexts)) → (∀ k, k < 2304 → c_oldTexts k = c_texts k) → FrO [oldTexts_] h0 h → xw G m_Model_begin F L bc bs pr px 50 [some (.ref m), none] [] h) :
    ∀ (dd i : Nat) (h : xw_A) (c_oldTexts : Nat → Int32), i + dd = 2304 → h oldTexts_ = some (.inl (0, 2304, .inl c_oldTexts)) → (∀ k, k < i → c_oldTexts k = c_texts k) → FrO [oldTexts_] h0 h → xw G m_Model_begin F L bc bs pr px 25 [some (.ref m), some (.int (nI i))] [] h := by
  intro dd
  induction dd with
  | zero =>
    intro i h c_oldTexts hi e_oldTexts C_oldTexts r0
    obtain rfl : i = 2304 := by omega
    have e := r0 m _ (by obtain ⟨f_oldTexts, o_oldTexts⟩ := q_oldTexts; simp only [List.mem_cons, List.not_mem_nil, or_false, not_or]; exact xw_neC q_m o_oldTexts (by simp)) q_m
    have e_texts := r0 texts_ _ (by simp only [List.mem_cons, List.not_mem_nil, or_false, not_or]; exact n_texts_oldTexts) q_texts
    refine s_Model_begin_25 (fun z_1 => ?_) (fun z => absurd z (by decide))
    exact kk _ _ e_oldTexts C_oldTexts r0
  | succ dd ih =>
    intro i h c_oldTexts hi e_oldTexts C_oldTexts r0
    have e := r0 m _ (by obtain ⟨f_oldTexts, o_oldTexts⟩ := q_oldTexts; simp only [List.mem_cons, List.not_mem_nil, or_false, not_or]; exact xw_neC q_m o_oldTexts (by simp)) q_m
    have e_texts := r0 texts_ _ (by simp only [List.mem_cons, List.not_mem_nil, or_false, not_or]; exact n_texts_oldTexts) q_texts
    refine s_Model_begin_25 (fun z => absurd z (nI_ge (b := 2304) (show i < 2304 by omega) (by decide))) (fun z_1 => ?_)
    refine s_Model_begin_32 l e g_oldTexts g_texts e_texts (vp_in_nI (by omega) (by omega)) e_oldTexts (vp_in_nI (by omega) (by omega)) ?_
    refine x_u1 (fun h_2 e_3 f_4 => ?_)
    have e_5 := (f_4 m (xw_neC e e_oldTexts (by simp))).trans e
    have e_6 := (f_4 texts_ n_texts_oldTexts).trans e_texts
    have r_7 := r0.up (by simp) f_4
    rw [nI_1]
    rw [nI_clamp (show i < 2 ^ 31 by omega)] at e_3
    exact ih (i + 1) _ _ (by omega) e_3 (fun k hk => by by_cases q : k = i; (subst q; rw [pk_us]); (rw [pk_un q]; exact C_oldTexts k (by omega))) r_7
set_option maxHeartbeats 2000000 in
theorem lp_beg1 {G : xw_G} {F L bc bs : Nat} {pr : Option Value → xw_A → Prop} {px : String → xw_A → Prop} {m sizes_ oldSizes_ : Nat} {gs : List Value} {c_sizes : Nat → Int32} {h0 : xw_A} (l : gs.length = 62) (q_m : h0 m = some (.inr (11, gs))) (g_sizes : gs[(8 : Nat)]? = some (.ref sizes_)) (g_oldSizes : gs[(22 : Nat)]? = some (.ref oldSizes_)) (q_sizes : h0 sizes_ = some (.inl (0, 48, .inl c_sizes))) (q_oldSizes : ∃ f, h0 oldSizes_ = some (.inl (0, 48, .inl f))) (n_sizes_oldSizes : sizes_ ≠ oldSizes_) (kk : ∀ (h : xw_A) (c_oldSizes : Nat → Int32), h oldSizes_ = some (.inl (0, 48, .inl c_oldSizes)) → (∀ k, k < 48 → c_oldSizes k = c_sizes k) → FrO [oldSizes_] h0 h → xw G m_Model_begin F L bc bs pr px 76 [some (.ref m), none] [] h) :
    ∀ (dd i : Nat) (h : xw_A) (c_oldSizes : Nat → Int32), i + dd = 48 → h oldSizes_ = some (.inl (0, 48, .inl c_oldSizes)) → (∀ k, k < i → c_oldSizes k = c_sizes k) → FrO [oldSizes_] h0 h → xw G m_Model_begin F L bc bs pr px 52 [some (.ref m), some (.int (nI i))] [] h := by
  intro dd
  induction dd with
  | zero =>
    intro i h c_oldSizes hi e_oldSizes C_oldSizes r0
    obtain rfl : i = 48 := by omega
    have e := r0 m _ (by obtain ⟨f_oldSizes, o_oldSizes⟩ := q_oldSizes; simp only [List.mem_cons, List.not_mem_nil, or_false, not_or]; exact xw_neC q_m o_oldSizes (by simp)) q_m
    have e_sizes := r0 sizes_ _ (by simp only [List.mem_cons, List.not_mem_nil, or_false, not_or]; exact n_sizes_oldSizes) q_sizes
    refine s_Model_begin_52 (fun z_1 => ?_) (fun z => absurd z (by decide))
    exact kk _ _ e_oldSizes C_oldSizes r0
  | succ dd ih =>
    intro i h c_oldSizes hi e_oldSizes C_oldSizes r0
    have e := r0 m _ (by obtain ⟨f_oldSizes, o_oldSizes⟩ := q_oldSizes; simp only [List.mem_cons, List.not_mem_nil, or_false, not_or]; exact xw_neC q_m o_oldSizes (by simp)) q_m
    have e_sizes := r0 sizes_ _ (by simp only [List.mem_cons, List.not_mem_nil, or_false, not_or]; exact n_sizes_oldSizes) q_sizes
    refine s_Model_begin_52 (fun z => absurd z (nI_ge (b := 48) (show i < 48 by omega) (by decide))) (fun z_1 => ?_)
    refine s_Model_begin_58 l e g_oldSizes g_sizes e_sizes (vp_in_nI (by omega) (by omega)) e_oldSizes (vp_in_nI (by omega) (by omega)) ?_
    refine x_u1 (fun h_2 e_3 f_4 => ?_)
    have e_5 := (f_4 m (xw_neC e e_oldSizes (by simp))).trans e
    have e_6 := (f_4 sizes_ n_sizes_oldSizes).trans e_sizes
    have r_7 := r0.up (by simp) f_4
    rw [nI_1]
    rw [nI_clamp (show i < 2 ^ 31 by omega)] at e_3
    exact ih (i + 1) _ _ (by omega) e_3 (fun k hk => by by_cases q : k = i; (subst q; rw [pk_us]); (rw [pk_un q]; exact C_oldSizes k (by omega))) r_7
set_option maxHeartbeats 2000000 in
theorem lp_beg2 {G : xw_G} {F L bc bs : Nat} {pr : Option Value → xw_A → Prop} {px : String → xw_A → Prop} {m live_ oldLive_ : Nat} {gs : List Value} {c_live : Nat → Int32} {h0 : xw_A} (l : gs.length = 62) (q_m : h0 m = some (.inr (11, gs))) (g_live : gs[(14 : Nat)]? = some (.ref live_)) (g_oldLive : gs[(24 : Nat)]? = some (.ref oldLive_)) (q_live : h0 live_ = some (.inl (0, 24, .inl c_live))) (q_oldLive : ∃ f, h0 oldLive_ = some (.inl (0, 24, .inl f))) (n_live_oldLive : live_ ≠ oldLive_) (kk : ∀ (h : xw_A) (c_oldLive : Nat → Int32), h oldLive_ = some (.inl (0, 24, .inl c_oldLive)) → (∀ k, k < 24 → c_oldLive k = c_live k) → FrO [oldLive_] h0 h → xw G m_Model_begin F L bc bs pr px 102 [some (.ref m), none] [] h) :
    ∀ (dd i : Nat) (h : xw_A) (c_oldLive : Nat → Int32), i + dd = 24 → h oldLive_ = some (.inl (0, 24, .inl c_oldLive)) → (∀ k, k < i → c_oldLive k = c_live k) → FrO [oldLive_] h0 h → xw G m_Model_begin F L bc bs pr px 78 [some (.ref m), some (.int (nI i))] [] h := by
  intro dd
  induction dd with
  | zero =>
    intro i h c_oldLive hi e_oldLive C_oldLive r0
    obtain rfl : i = 24 := by omega
    have e := r0 m _ (by obtain ⟨f_oldLive, o_oldLive⟩ := q_oldLive; simp only [List.mem_cons, List.not_mem_nil, or_false, not_or]; exact xw_neC q_m o_oldLive (by simp)) q_m
    have e_live := r0 live_ _ (by simp only [List.mem_cons, List.not_mem_nil, or_false, not_or]; exact n_live_oldLive) q_live
    refine s_Model_begin_78 (fun z_1 => ?_) (fun z => absurd z (by decide))
    exact kk _ _ e_oldLive C_oldLive r0
  | succ dd ih =>
    intro i h c_oldLive hi e_oldLive C_oldLive r0
    have e := r0 m _ (by obtain ⟨f_oldLive, o_oldLive⟩ := q_oldLive; simp only [List.mem_cons, List.not_mem_nil, or_false, not_or]; exact xw_neC q_m o_oldLive (by simp)) q_m
    have e_live := r0 live_ _ (by simp only [List.mem_cons, List.not_mem_nil, or_false, not_or]; exact n_live_oldLive) q_live
    refine s_Model_begin_78 (fun z => absurd z (nI_ge (b := 24) (show i < 24 by omega) (by decide))) (fun z_1 => ?_)
    refine s_Model_begin_84 l e g_oldLive g_live e_live (vp_in_nI (by omega) (by omega)) e_oldLive (vp_in_nI (by omega) (by omega)) ?_
    refine x_u1 (fun h_2 e_3 f_4 => ?_)
    have e_5 := (f_4 m (xw_neC e e_oldLive (by simp))).trans e
    have e_6 := (f_4 live_ n_live_oldLive).trans e_live
    have r_7 := r0.up (by simp) f_4
    rw [nI_1]
    rw [nI_clamp (show i < 2 ^ 31 by omega)] at e_3
    exact ih (i + 1) _ _ (by omega) e_3 (fun k hk => by by_cases q : k = i; (subst q; rw [pk_us]); (rw [pk_un q]; exact C_oldLive k (by omega))) r_7
set_option maxHeartbeats 2000000 in
theorem lp_beg3 {G : xw_G} {F L bc bs : Nat} {pr : Option Value → xw_A → Prop} {px : String → xw_A → Prop} {m lies_ row_ oldLies_ oldRow_ : Nat} {gs : List Value} {c_lies c_row : Nat → Int32} {h0 : xw_A} (l : gs.length = 62) (q_m : h0 m = some (.inr (11, gs))) (g_lies : gs[(13 : Nat)]? = some (.ref lies_)) (g_row : gs[(17 : Nat)]? = some (.ref row_)) (g_oldLies : gs[(23 : Nat)]? = some (.ref oldLies_)) (g_oldRow : gs[(25 : Nat)]? = some (.ref oldRow_)) (q_lies : h0 lies_ = some (.inl (0, 600, .inl c_lies))) (q_row : h0 row_ = some (.inl (0, 600, .inl c_row))) (q_oldLies : ∃ f, h0 oldLies_ = some (.inl (0, 600, .inl f))) (q_oldRow : ∃ f, h0 oldRow_ = some (.inl (0, 600, .inl f))) (n_lies_row : lies_ ≠ row_) (n_lies_oldLies : lies_ ≠ oldLies_) (n_lies_oldRow : lies_ ≠ oldRow_) (n_row_oldLies : row_ ≠ oldLies_) (n_row_oldRow : row_ ≠ oldRow_) (n_oldLies_oldRow : oldLies_ ≠ oldRow_) (kk : ∀ (h : xw_A) (c_oldLies c_oldRow : Nat → Int32), h oldLies_ = some (.inl (0, 600, .inl c_oldLies)) → (∀ k, k < 600 → c_oldLies k = c_lies k) → h oldRow_ = some (.inl (0, 600, .inl c_oldRow)) → (∀ k, k < 600 → c_oldRow k = c_row k) → FrO [oldLies_, oldRow_] h0 h → xw G m_Model_begin F L bc bs pr px 141 [some (.ref m), none] [] h) :
    ∀ (dd i : Nat) (h : xw_A) (c_oldLies : Nat → Int32) (c_oldRow : Nat → Int32), i + dd = 600 → h oldLies_ = some (.inl (0, 600, .inl c_oldLies)) → (∀ k, k < i → c_oldLies k = c_lies k) → h oldRow_ = some (.inl (0, 600, .inl c_oldRow)) → (∀ k, k < i → c_oldRow k = c_row k) → FrO [oldLies_, oldRow_] h0 h → xw G m_Model_begin F L bc bs pr px 104 [some (.ref m), some (.int (nI i))] [] h := by
  intro dd
  induction dd with
  | zero =>
    intro i h c_oldLies c_oldRow hi e_oldLies C_oldLies e_oldRow C_oldRow r0
    obtain rfl : i = 600 := by omega
    have e := r0 m _ (by obtain ⟨f_oldLies, o_oldLies⟩ := q_oldLies; obtain ⟨f_oldRow, o_oldRow⟩ := q_oldRow; simp only [List.mem_cons, List.not_mem_nil, or_false, not_or]; exact ⟨xw_neC q_m o_oldLies (by simp), xw_neC q_m o_oldRow (by simp)⟩) q_m
    have e_lies := r0 lies_ _ (by simp only [List.mem_cons, List.not_mem_nil, or_false, not_or]; exact ⟨n_lies_oldLies, n_lies_oldRow⟩) q_lies
    have e_row := r0 row_ _ (by simp only [List.mem_cons, List.not_mem_nil, or_false, not_or]; exact ⟨n_row_oldLies, n_row_oldRow⟩) q_row
    refine s_Model_begin_104 (fun z_1 => ?_) (fun z => absurd z (by decide))
    exact kk _ _ _ e_oldLies C_oldLies e_oldRow C_oldRow r0
  | succ dd ih =>
    intro i h c_oldLies c_oldRow hi e_oldLies C_oldLies e_oldRow C_oldRow r0
    have e := r0 m _ (by obtain ⟨f_oldLies, o_oldLies⟩ := q_oldLies; obtain ⟨f_oldRow, o_oldRow⟩ := q_oldRow; simp only [List.mem_cons, List.not_mem_nil, or_false, not_or]; exact ⟨xw_neC q_m o_oldLies (by simp), xw_neC q_m o_oldRow (by simp)⟩) q_m
    have e_lies := r0 lies_ _ (by simp only [List.mem_cons, List.not_mem_nil, or_false, not_or]; exact ⟨n_lies_oldLies, n_lies_oldRow⟩) q_lies
    have e_row := r0 row_ _ (by simp only [List.mem_cons, List.not_mem_nil, or_false, not_or]; exact ⟨n_row_oldLies, n_row_oldRow⟩) q_row
    refine s_Model_begin_104 (fun z => absurd z (nI_ge (b := 600) (show i < 600 by omega) (by decide))) (fun z_1 => ?_)
    refine s_Model_begin_111 l e g_oldLies g_lies e_lies (vp_in_nI (by omega) (by omega)) e_oldLies (vp_in_nI (by omega) (by omega)) g_oldRow g_row e_row (vp_in_nI (by omega) (by omega)) n_row_oldLies e_oldRow (vp_in_nI (by omega) (by omega)) (Ne.symm n_oldLies_oldRow) ?_
    refine x_u2 (fun h_2 e_3 f_4 h_5 e_6 f_7 => ?_)
    have e_8 := (f_4 m (xw_neC e e_oldLies (by simp))).trans e
    have e_9 := (f_4 lies_ n_lies_oldLies).trans e_lies
    have e_10 := (f_4 row_ n_row_oldLies).trans e_row
    have e_11 := (f_4 oldRow_ (Ne.symm n_oldLies_oldRow)).trans e_oldRow
    have r_12 := r0.up (by simp) f_4
    have e_13 := (f_7 m (xw_neC e_8 e_11 (by simp))).trans e_8
    have e_14 := (f_7 lies_ n_lies_oldRow).trans e_9
    have e_15 := (f_7 oldLies_ n_oldLies_oldRow).trans e_3
    have e_16 := (f_7 row_ n_row_oldRow).trans e_10
    have r_17 := r_12.up (by simp) f_7
    rw [nI_1]
    rw [nI_clamp (show i < 2 ^ 31 by omega)] at e_15
    rw [nI_clamp (show i < 2 ^ 31 by omega)] at e_6
    exact ih (i + 1) _ _ _ (by omega) e_15 (fun k hk => by by_cases q : k = i; (subst q; rw [pk_us]); (rw [pk_un q]; exact C_oldLies k (by omega))) e_6 (fun k hk => by by_cases q : k = i; (subst q; rw [pk_us]); (rw [pk_un q]; exact C_oldRow k (by omega))) r_17
set_option maxHeartbeats 2000000 in
theorem lp_rol0 {G : xw_G} {F L bc bs : Nat} {pr : Option Value → xw_A → Prop} {px : String → xw_A → Prop} {m oldTexts_ texts_ : Nat} {gs : List Value} {c_oldTexts : Nat → Int32} {h0 : xw_A} (l : gs.length = 62) (q_m : h0 m = some (.inr (11, gs))) (g_oldTexts : gs[(21 : Nat)]? = some (.ref oldTexts_)) (g_texts : gs[(7 : Nat)]? = some (.ref texts_)) (q_oldTexts : h0 oldTexts_ = some (.inl (0, 2304, .inl c_oldTexts))) (q_texts : ∃ f, h0 texts_ = some (.inl (0, 2304, .inl f))) (n_oldTexts_texts : oldTexts_ ≠ texts_) (kk : ∀ (h : xw_A) (c_texts : Nat → Int32), h texts_ = some (.inl (0, 2304, .inl c_texts)) → (∀ k, k < 2304 → c_texts k = c_oldTexts k) → FrO [texts_] h0 h → xw G m_Model_rollback F L bc bs pr px 59 [some (.ref m), none] [] h) :
    ∀ (dd i : Nat) (h : xw_A) (c_texts : Nat → Int32), i + dd = 2304 → h texts_ = some (.inl (0, 2304, .inl c_texts)) → (∀ k, k < i → c_texts k = c_oldTexts k) → FrO [texts_] h0 h → xw G m_Model_rollback F L bc bs pr px 34 [some (.ref m), some (.int (nI i))] [] h := by
  intro dd
  induction dd with
  | zero =>
    intro i h c_texts hi e_texts C_texts r0
    obtain rfl : i = 2304 := by omega
    have e := r0 m _ (by obtain ⟨f_texts, o_texts⟩ := q_texts; simp only [List.mem_cons, List.not_mem_nil, or_false, not_or]; exact xw_neC q_m o_texts (by simp)) q_m
    have e_oldTexts := r0 oldTexts_ _ (by simp only [List.mem_cons, List.not_mem_nil, or_false, not_or]; exact n_oldTexts_texts) q_oldTexts
    refine s_Model_rollback_34 (fun z_1 => ?_) (fun z => absurd z (by decide))
    exact kk _ _ e_texts C_texts r0
  | succ dd ih =>
    intro i h c_texts hi e_texts C_texts r0
    have e := r0 m _ (by obtain ⟨f_texts, o_texts⟩ := q_texts; simp only [List.mem_cons, List.not_mem_nil, or_false, not_or]; exact xw_neC q_m o_texts (by simp)) q_m
    have e_oldTexts := r0 oldTexts_ _ (by simp only [List.mem_cons, List.not_mem_nil, or_false, not_or]; exact n_oldTexts_texts) q_oldTexts
    refine s_Model_rollback_34 (fun z => absurd z (nI_ge (b := 2304) (show i < 2304 by omega) (by decide))) (fun z_1 => ?_)
    refine s_Model_rollback_41 l e g_texts g_oldTexts e_oldTexts (vp_in_nI (by omega) (by omega)) e_texts (vp_in_nI (by omega) (by omega)) ?_
    refine x_u1 (fun h_2 e_3 f_4 => ?_)
    have e_5 := (f_4 m (xw_neC e e_texts (by simp))).trans e
    have e_6 := (f_4 oldTexts_ n_oldTexts_texts).trans e_oldTexts
    have r_7 := r0.up (by simp) f_4
    rw [nI_1]
    rw [nI_clamp (show i < 2 ^ 31 by omega)] at e_3
    exact ih (i + 1) _ _ (by omega) e_3 (fun k hk => by by_cases q : k = i; (subst q; rw [pk_us]); (rw [pk_un q]; exact C_texts k (by omega))) r_7
set_option maxHeartbeats 2000000 in
theorem lp_rol1 {G : xw_G} {F L bc bs : Nat} {pr : Option Value → xw_A → Prop} {px : String → xw_A → Prop} {m oldSizes_ sizes_ : Nat} {gs : List Value} {c_oldSizes : Nat → Int32} {h0 : xw_A} (l : gs.length = 62) (q_m : h0 m = some (.inr (11, gs))) (g_oldSizes : gs[(22 : Nat)]? = some (.ref oldSizes_)) (g_sizes : gs[(8 : Nat)]? = some (.ref sizes_)) (q_oldSizes : h0 oldSizes_ = some (.inl (0, 48, .inl c_oldSizes))) (q_sizes : ∃ f, h0 sizes_ = some (.inl (0, 48, .inl f))) (n_oldSizes_sizes : oldSizes_ ≠ sizes_) (kk : ∀ (h : xw_A) (c_sizes : Nat → Int32), h sizes_ = some (.inl (0, 48, .inl c_sizes)) → (∀ k, k < 48 → c_sizes k = c_oldSizes k) → FrO [sizes_] h0 h → xw G m_Model_rollback F L bc bs pr px 85 [some (.ref m), none] [] h) :
    ∀ (dd i : Nat) (h : xw_A) (c_sizes : Nat → Int32), i + dd = 48 → h sizes_ = some (.inl (0, 48, .inl c_sizes)) → (∀ k, k < i → c_sizes k = c_oldSizes k) → FrO [sizes_] h0 h → xw G m_Model_rollback F L bc bs pr px 61 [some (.ref m), some (.int (nI i))] [] h := by
  intro dd
  induction dd with
  | zero =>
    intro i h c_sizes hi e_sizes C_sizes r0
    obtain rfl : i = 48 := by omega
    have e := r0 m _ (by obtain ⟨f_sizes, o_sizes⟩ := q_sizes; simp only [List.mem_cons, List.not_mem_nil, or_false, not_or]; exact xw_neC q_m o_sizes (by simp)) q_m
    have e_oldSizes := r0 oldSizes_ _ (by simp only [List.mem_cons, List.not_mem_nil, or_false, not_or]; exact n_oldSizes_sizes) q_oldSizes
    refine s_Model_rollback_61 (fun z_1 => ?_) (fun z => absurd z (by decide))
    exact kk _ _ e_sizes C_sizes r0
  | succ dd ih =>
    intro i h c_sizes hi e_sizes C_sizes r0
    have e := r0 m _ (by obtain ⟨f_sizes, o_sizes⟩ := q_sizes; simp only [List.mem_cons, List.not_mem_nil, or_false, not_or]; exact xw_neC q_m o_sizes (by simp)) q_m
    have e_oldSizes := r0 oldSizes_ _ (by simp only [List.mem_cons, List.not_mem_nil, or_false, not_or]; exact n_oldSizes_sizes) q_oldSizes
    refine s_Model_rollback_61 (fun z => absurd z (nI_ge (b := 48) (show i < 48 by omega) (by decide))) (fun z_1 => ?_)
    refine s_Model_rollback_67 l e g_sizes g_oldSizes e_oldSizes (vp_in_nI (by omega) (by omega)) e_sizes (vp_in_nI (by omega) (by omega)) ?_
    refine x_u1 (fun h_2 e_3 f_4 => ?_)
    have e_5 := (f_4 m (xw_neC e e_sizes (by simp))).trans e
    have e_6 := (f_4 oldSizes_ n_oldSizes_sizes).trans e_oldSizes
    have r_7 := r0.up (by simp) f_4
    rw [nI_1]
    rw [nI_clamp (show i < 2 ^ 31 by omega)] at e_3
    exact ih (i + 1) _ _ (by omega) e_3 (fun k hk => by by_cases q : k = i; (subst q; rw [pk_us]); (rw [pk_un q]; exact C_sizes k (by omega))) r_7
set_option maxHeartbeats 2000000 in
theorem lp_rol2 {G : xw_G} {F L bc bs : Nat} {pr : Option Value → xw_A → Prop} {px : String → xw_A → Prop} {m oldLive_ live_ : Nat} {gs : List Value} {c_oldLive : Nat → Int32} {h0 : xw_A} (l : gs.length = 62) (q_m : h0 m = some (.inr (11, gs))) (g_oldLive : gs[(24 : Nat)]? = some (.ref oldLive_)) (g_live : gs[(14 : Nat)]? = some (.ref live_)) (q_oldLive : h0 oldLive_ = some (.inl (0, 24, .inl c_oldLive))) (q_live : ∃ f, h0 live_ = some (.inl (0, 24, .inl f))) (n_oldLive_live : oldLive_ ≠ live_) (kk : ∀ (h : xw_A) (c_live : Nat → Int32), h live_ = some (.inl (0, 24, .inl c_live)) → (∀ k, k < 24 → c_live k = c_oldLive k) → FrO [live_] h0 h → xw G m_Model_rollback F L bc bs pr px 111 [some (.ref m), none] [] h) :
    ∀ (dd i : Nat) (h : xw_A) (c_live : Nat → Int32), i + dd = 24 → h live_ = some (.inl (0, 24, .inl c_live)) → (∀ k, k < i → c_live k = c_oldLive k) → FrO [live_] h0 h → xw G m_Model_rollback F L bc bs pr px 87 [some (.ref m), some (.int (nI i))] [] h := by
  intro dd
  induction dd with
  | zero =>
    intro i h c_live hi e_live C_live r0
    obtain rfl : i = 24 := by omega
    have e := r0 m _ (by obtain ⟨f_live, o_live⟩ := q_live; simp only [List.mem_cons, List.not_mem_nil, or_false, not_or]; exact xw_neC q_m o_live (by simp)) q_m
    have e_oldLive := r0 oldLive_ _ (by simp only [List.mem_cons, List.not_mem_nil, or_false, not_or]; exact n_oldLive_live) q_oldLive
    refine s_Model_rollback_87 (fun z_1 => ?_) (fun z => absurd z (by decide))
    exact kk _ _ e_live C_live r0
  | succ dd ih =>
    intro i h c_live hi e_live C_live r0
    have e := r0 m _ (by obtain ⟨f_live, o_live⟩ := q_live; simp only [List.mem_cons, List.not_mem_nil, or_false, not_or]; exact xw_neC q_m o_live (by simp)) q_m
    have e_oldLive := r0 oldLive_ _ (by simp only [List.mem_cons, List.not_mem_nil, or_false, not_or]; exact n_oldLive_live) q_oldLive
    refine s_Model_rollback_87 (fun z => absurd z (nI_ge (b := 24) (show i < 24 by omega) (by decide))) (fun z_1 => ?_)
    refine s_Model_rollback_93 l e g_live g_oldLive e_oldLive (vp_in_nI (by omega) (by omega)) e_live (vp_in_nI (by omega) (by omega)) ?_
    refine x_u1 (fun h_2 e_3 f_4 => ?_)
    have e_5 := (f_4 m (xw_neC e e_live (by simp))).trans e
    have e_6 := (f_4 oldLive_ n_oldLive_live).trans e_oldLive
    have r_7 := r0.up (by simp) f_4
    rw [nI_1]
    rw [nI_clamp (show i < 2 ^ 31 by omega)] at e_3
    exact ih (i + 1) _ _ (by omega) e_3 (fun k hk => by by_cases q : k = i; (subst q; rw [pk_us]); (rw [pk_un q]; exact C_live k (by omega))) r_7
set_option maxHeartbeats 2000000 in
theorem lp_rol3 {G : xw_G} {F L bc bs : Nat} {pr : Option Value → xw_A → Prop} {px : String → xw_A → Prop} {m oldLies_ oldRow_ lies_ row_ : Nat} {gs : List Value} {c_oldLies c_oldRow : Nat → Int32} {h0 : xw_A} (l : gs.length = 62) (q_m : h0 m = some (.inr (11, gs))) (g_oldLies : gs[(23 : Nat)]? = some (.ref oldLies_)) (g_oldRow : gs[(25 : Nat)]? = some (.ref oldRow_)) (g_lies : gs[(13 : Nat)]? = some (.ref lies_)) (g_row : gs[(17 : Nat)]? = some (.ref row_)) (q_oldLies : h0 oldLies_ = some (.inl (0, 600, .inl c_oldLies))) (q_oldRow : h0 oldRow_ = some (.inl (0, 600, .inl c_oldRow))) (q_lies : ∃ f, h0 lies_ = some (.inl (0, 600, .inl f))) (q_row : ∃ f, h0 row_ = some (.inl (0, 600, .inl f))) (n_oldLies_oldRow : oldLies_ ≠ oldRow_) (n_oldLies_lies : oldLies_ ≠ lies_) (n_oldLies_row : oldLies_ ≠ row_) (n_oldRow_lies : oldRow_ ≠ lies_) (n_oldRow_row : oldRow_ ≠ row_) (n_lies_row : lies_ ≠ row_) {ov : Nat} (g_ov : gs[(26 : Nat)]? = some (.int (nI ov))) (hov : ov ≤ 600) (kk : ∀ (h : xw_A) (c_lies c_row : Nat → Int32), h lies_ = some (.inl (0, 600, .inl c_lies)) → (∀ k, k < 600 → (k < ov ∧ c_lies k = c_oldLies k) ∨ (ov ≤ k ∧ c_lies k = -1)) → h row_ = some (.inl (0, 600, .inl c_row)) → (∀ k, k < 600 → c_row k = c_oldRow k) → FrO [lies_, row_] h0 h → xw G m_Model_rollback F L bc bs pr px 162 [some (.ref m), none] [] h) :
    ∀ (dd i : Nat) (h : xw_A) (c_lies : Nat → Int32) (c_row : Nat → Int32), i + dd = 600 → h lies_ = some (.inl (0, 600, .inl c_lies)) → (∀ k, k < i → (k < ov ∧ c_lies k = c_oldLies k) ∨ (ov ≤ k ∧ c_lies k = -1)) → h row_ = some (.inl (0, 600, .inl c_row)) → (∀ k, k < i → c_row k = c_oldRow k) → FrO [lies_, row_] h0 h → xw G m_Model_rollback F L bc bs pr px 113 [some (.ref m), some (.int (nI i))] [] h := by
  intro dd
  induction dd with
  | zero =>
    intro i h c_lies c_row hi e_lies C_lies e_row C_row r0
    obtain rfl : i = 600 := by omega
    have e := r0 m _ (by obtain ⟨f_lies, o_lies⟩ := q_lies; obtain ⟨f_row, o_row⟩ := q_row; simp only [List.mem_cons, List.not_mem_nil, or_false, not_or]; exact ⟨xw_neC q_m o_lies (by simp), xw_neC q_m o_row (by simp)⟩) q_m
    have e_oldLies := r0 oldLies_ _ (by simp only [List.mem_cons, List.not_mem_nil, or_false, not_or]; exact ⟨n_oldLies_lies, n_oldLies_row⟩) q_oldLies
    have e_oldRow := r0 oldRow_ _ (by simp only [List.mem_cons, List.not_mem_nil, or_false, not_or]; exact ⟨n_oldRow_lies, n_oldRow_row⟩) q_oldRow
    refine s_Model_rollback_113 (fun z_1 => ?_) (fun z => absurd z (by decide))
    exact kk _ _ _ e_lies C_lies e_row C_row r0
  | succ dd ih =>
    intro i h c_lies c_row hi e_lies C_lies e_row C_row r0
    have e := r0 m _ (by obtain ⟨f_lies, o_lies⟩ := q_lies; obtain ⟨f_row, o_row⟩ := q_row; simp only [List.mem_cons, List.not_mem_nil, or_false, not_or]; exact ⟨xw_neC q_m o_lies (by simp), xw_neC q_m o_row (by simp)⟩) q_m
    have e_oldLies := r0 oldLies_ _ (by simp only [List.mem_cons, List.not_mem_nil, or_false, not_or]; exact ⟨n_oldLies_lies, n_oldLies_row⟩) q_oldLies
    have e_oldRow := r0 oldRow_ _ (by simp only [List.mem_cons, List.not_mem_nil, or_false, not_or]; exact ⟨n_oldRow_lies, n_oldRow_row⟩) q_oldRow
    refine s_Model_rollback_113 (fun z => absurd z (nI_ge (b := 600) (show i < 600 by omega) (by decide))) (fun z_1 => ?_)
    refine s_Model_rollback_120 (lies_a0 := some lies_) l e g_lies g_ov (fun z_2 => ?_) (fun z_3 => ?_)
    · skip
      refine s_Model_rollback_142 ?_
      refine s_Model_rollback_143 e_lies (vp_in_nI (by omega) (by omega)) l e g_row g_oldRow e_oldRow (vp_in_nI (by omega) (by omega)) n_oldRow_lies e_row (vp_in_nI (by omega) (by omega)) (Ne.symm n_lies_row) ?_
      refine x_u2 (fun h_4 e_5 f_6 h_7 e_8 f_9 => ?_)
      have e_10 := (f_6 m (xw_neC e e_lies (by simp))).trans e
      have e_11 := (f_6 oldLies_ n_oldLies_lies).trans e_oldLies
      have e_12 := (f_6 oldRow_ n_oldRow_lies).trans e_oldRow
      have e_13 := (f_6 row_ (Ne.symm n_lies_row)).trans e_row
      have r_14 := r0.up (by simp) f_6
      have e_15 := (f_9 m (xw_neC e_10 e_13 (by simp))).trans e_10
      have e_16 := (f_9 oldLies_ n_oldLies_row).trans e_11
      have e_17 := (f_9 lies_ n_lies_row).trans e_5
      have e_18 := (f_9 oldRow_ n_oldRow_row).trans e_12
      have r_19 := r_14.up (by simp) f_9
      rw [nI_1]
      rw [nI_clamp (show i < 2 ^ 31 by omega)] at e_17
      rw [nI_clamp (show i < 2 ^ 31 by omega)] at e_8
      exact ih (i + 1) _ _ _ (by omega) e_17 (fun k hk => by by_cases q : k = i; (subst q; rw [pk_us]; exact Or.inr ⟨(nI_leI (by omega) (by omega)).mp z_2, rfl⟩); (rw [pk_un q]; exact C_lies k (by omega))) e_8 (fun k hk => by by_cases q : k = i; (subst q; rw [pk_us]); (rw [pk_un q]; exact C_row k (by omega))) r_19
    · skip
      refine s_Model_rollback_133 l e g_oldLies e_oldLies (vp_in_nI (by omega) (by omega)) ?_
      refine s_Model_rollback_143 e_lies (vp_in_nI (by omega) (by omega)) l e g_row g_oldRow e_oldRow (vp_in_nI (by omega) (by omega)) n_oldRow_lies e_row (vp_in_nI (by omega) (by omega)) (Ne.symm n_lies_row) ?_
      refine x_u2 (fun h_20 e_21 f_22 h_23 e_24 f_25 => ?_)
      have e_26 := (f_22 m (xw_neC e e_lies (by simp))).trans e
      have e_27 := (f_22 oldLies_ n_oldLies_lies).trans e_oldLies
      have e_28 := (f_22 oldRow_ n_oldRow_lies).trans e_oldRow
      have e_29 := (f_22 row_ (Ne.symm n_lies_row)).trans e_row
      have r_30 := r0.up (by simp) f_22
      have e_31 := (f_25 m (xw_neC e_26 e_29 (by simp))).trans e_26
      have e_32 := (f_25 oldLies_ n_oldLies_row).trans e_27
      have e_33 := (f_25 lies_ n_lies_row).trans e_21
      have e_34 := (f_25 oldRow_ n_oldRow_row).trans e_28
      have r_35 := r_30.up (by simp) f_25
      rw [nI_1]
      rw [nI_clamp (show i < 2 ^ 31 by omega)] at e_33
      rw [nI_clamp (show i < 2 ^ 31 by omega)] at e_24
      exact ih (i + 1) _ _ _ (by omega) e_33 (fun k hk => by by_cases q : k = i; (subst q; rw [pk_us]; exact Or.inl ⟨Nat.lt_of_not_le (fun q8 => z_3 (nI_le q8 (by omega))), rfl⟩); (rw [pk_un q]; exact C_lies k (by omega))) e_24 (fun k hk => by by_cases q : k = i; (subst q; rw [pk_us]); (rw [pk_un q]; exact C_row k (by omega))) r_35
set_option maxHeartbeats 2000000 in
theorem r_begin {G : xw_G} {F L : Nat} {h : xw_A}  {m draft_ asked_ prepared_ preparedSize_ texts_ sizes_ weights_ entries_ lies_ live_ row_ level_ oldTexts_ oldSizes_ oldLies_ oldLive_ oldRow_ firstToken_ starred_ tokenAt_ tokenSize_ groupKind_ groupPhrase_ groupSize_ groupMask_ groupFar_ out_ top_ masks_ begins_ lasts_ truth_ answers_ order_ scores_ T : Nat} (R : RI m draft_ asked_ prepared_ preparedSize_ texts_ sizes_ weights_ entries_ lies_ live_ row_ level_ oldTexts_ oldSizes_ oldLies_ oldLive_ oldRow_ firstToken_ starred_ tokenAt_ tokenSize_ groupKind_ groupPhrase_ groupSize_ groupMask_ groupFar_ out_ top_ masks_ begins_ lasts_ truth_ answers_ order_ scores_ T h) (ND : NDl [m, draft_, asked_, prepared_, preparedSize_, texts_, sizes_, weights_, entries_, lies_, live_, row_, level_, oldTexts_, oldSizes_, oldLies_, oldLive_, oldRow_, firstToken_, starred_, tokenAt_, tokenSize_, groupKind_, groupPhrase_, groupSize_, groupMask_, groupFar_, out_, top_, masks_, begins_, lasts_, truth_, answers_, order_, scores_]) (hT : T < 512) (hF : 2 ≤ F) (hL : 42 ≤ L) :
    xw_Met G m_Model_begin F L 0 0 [.ref m] h (fun v h' => (v = none) ∧ RI m draft_ asked_ prepared_ preparedSize_ texts_ sizes_ weights_ entries_ lies_ live_ row_ level_ oldTexts_ oldSizes_ oldLies_ oldLive_ oldRow_ firstToken_ starred_ tokenAt_ tokenSize_ groupKind_ groupPhrase_ groupSize_ groupMask_ groupFar_ out_ top_ masks_ begins_ lasts_ truth_ answers_ order_ scores_ (T + 1) h' ∧ FrO [m, draft_, asked_, prepared_, preparedSize_, texts_, sizes_, weights_, entries_, lies_, live_, row_, level_, oldTexts_, oldSizes_, oldLies_, oldLive_, oldRow_, firstToken_, starred_, tokenAt_, tokenSize_, groupKind_, groupPhrase_, groupSize_, groupMask_, groupFar_, out_, top_, masks_, begins_, lasts_, truth_, answers_, order_, scores_] h h' ∧ FrO [m, oldTexts_, oldSizes_, oldLies_, oldLive_, oldRow_] h h' ∧ FF m [0, 20, 26, 27] h h' ∧ (∀ op : Nat, op ≤ 1 → Rf m 20 (.int (nI op)) h → ((op = 1 ∧ Rf m 0 (.int 1) h' ∧ Rf m 20 (.int (nI 1)) h' ∧ ∀ fov : Nat → Int32, h oldLive_ = some (.inl (0, 24, .inl fov)) → h' oldLive_ = some (.inl (0, 24, .inl fov))) ∨ (op = 0 ∧ Rf m 0 (.int 0) h' ∧ Rf m 20 (.int (nI 1)) h' ∧ ∀ fv : Nat → Int32, h live_ = some (.inl (0, 24, .inl fv)) → ∃ fov : Nat → Int32, h' oldLive_ = some (.inl (0, 24, .inl fov)) ∧ ∀ k, k < 24 → fov k = fv k))) ∧ (∀ op : Nat, op ≤ 1 → Rf m 20 (.int (nI op)) h → ((op = 1 ∧ (∀ f : Nat → Int32, h oldTexts_ = some (.inl (0, 2304, .inl f)) → h' oldTexts_ = some (.inl (0, 2304, .inl f))) ∧ ∀ f : Nat → Int32, h oldSizes_ = some (.inl (0, 48, .inl f)) → h' oldSizes_ = some (.inl (0, 48, .inl f))) ∨ (op = 0 ∧ (∀ ft fz : Nat → Int32, h texts_ = some (.inl (0, 2304, .inl ft)) → h sizes_ = some (.inl (0, 48, .inl fz)) → ∃ f g : Nat → Int32, h' oldTexts_ = some (.inl (0, 2304, .inl f)) ∧ h' oldSizes_ = some (.inl (0, 48, .inl g)) ∧ (∀ k, k < 2304 → f k = ft k) ∧ ∀ k, k < 48 → g k = fz k)))) ∧ (∀ (X : RSt) (nv : Nat) (fo fw : Nat → Int32) (ov os : Nat), SgC m lies_ row_ level_ X h → Rf m 15 (.int (nI nv)) h → nv < 600 → OgC m oldLies_ oldRow_ fo fw ov os h → (Rf m 0 (.int 1) h' ∧ OgC m oldLies_ oldRow_ fo fw ov os h') ∨ (Rf m 0 (.int 0) h' ∧ ∃ fo' fw' : Nat → Int32, OgC m oldLies_ oldRow_ fo' fw' nv X.2.2.2.2 h' ∧ (∀ k, k < 600 → fo' k = X.1 k) ∧ ∀ k, k < 600 → fw' k = X.2.1 k))) (fun _ _ => False) := by
  refine xw_Met.of rfl (by decide) (Nat.le_of_ble_eq_true rfl) ?_
  obtain ⟨fs, l, e, ⟨er, g_err⟩, KDr, KPr, KTx, KOt, KSt, KMo, KWe, KBe, KAn, KQu⟩ := R
  obtain ⟨ft, fz, g_texts, e_texts, g_sizes, e_sizes, hSZ⟩ := id KTx
  obtain ⟨fot, foz, g_oldTexts, e_oldTexts, g_oldSizes, e_oldSizes, hOZ⟩ := id KOt
  obtain ⟨vs, md, sg, op, ov, os, fe, fi, fv, fr, fL, foi, fov, fow, g_versions, g_made, g_segments, g_open, g_oldVersions, g_oldSegments, g_entries, e_entries, g_lies, e_lies, g_live, e_live, g_row, e_row, g_level, e_level, g_oldLies, e_oldLies, g_oldLive, e_oldLive, g_oldRow, e_oldRow, hvs, hsg, hop, hov, hos, hLI, hRO, hLV, hOI, hOR, hOV, hpot⟩ := id KSt
  have ga0 : ∀ i : Nat, i ∉ [0, 20, 26, 27] → fs[i]? = fs[i]? := fun _ _ => rfl
  have r0 : FrO [m, oldTexts_, oldSizes_, oldLies_, oldLive_, oldRow_] h h := FrO.rf
  refine s_Model_begin_0 l e g_open ?_
  refine x_u1 (fun h_1 e_2 f_3 => ?_)
  have e_4 := (f_3 texts_ (nd_ne ND (i := 5) (j := 0) rfl rfl (by decide))).trans e_texts
  have e_5 := (f_3 sizes_ (nd_ne ND (i := 6) (j := 0) rfl rfl (by decide))).trans e_sizes
  have e_6 := (f_3 oldTexts_ (nd_ne ND (i := 13) (j := 0) rfl rfl (by decide))).trans e_oldTexts
  have e_7 := (f_3 oldSizes_ (nd_ne ND (i := 14) (j := 0) rfl rfl (by decide))).trans e_oldSizes
  have e_8 := (f_3 entries_ (nd_ne ND (i := 8) (j := 0) rfl rfl (by decide))).trans e_entries
  have e_9 := (f_3 lies_ (nd_ne ND (i := 9) (j := 0) rfl rfl (by decide))).trans e_lies
  have e_10 := (f_3 live_ (nd_ne ND (i := 10) (j := 0) rfl rfl (by decide))).trans e_live
  have e_11 := (f_3 row_ (nd_ne ND (i := 11) (j := 0) rfl rfl (by decide))).trans e_row
  have e_12 := (f_3 level_ (nd_ne ND (i := 12) (j := 0) rfl rfl (by decide))).trans e_level
  have e_13 := (f_3 oldLies_ (nd_ne ND (i := 15) (j := 0) rfl rfl (by decide))).trans e_oldLies
  have e_14 := (f_3 oldLive_ (nd_ne ND (i := 16) (j := 0) rfl rfl (by decide))).trans e_oldLive
  have e_15 := (f_3 oldRow_ (nd_ne ND (i := 17) (j := 0) rfl rfl (by decide))).trans e_oldRow
  have r_16 := r0.up (by simp) f_3
  obtain ⟨fs_17, z_18⟩ : ∃ z, z = fs.set 0 (.int 0) := ⟨_, rfl⟩
  rw [← z_18] at e_2
  have l_19 : fs_17.length = 62 := by rw [z_18]; simp only [List.length_set]; exact l
  have g_20 : fs_17[(0 : Nat)]? = some (.int 0) := by rw [z_18]; exact (xw_gs (by simp [l]))
  have g_21 : fs_17[(7 : Nat)]? = some (.ref texts_) := by rw [z_18]; exact (xw_gn (by decide) g_texts)
  have g_22 : fs_17[(8 : Nat)]? = some (.ref sizes_) := by rw [z_18]; exact (xw_gn (by decide) g_sizes)
  have g_23 : fs_17[(12 : Nat)]? = some (.ref entries_) := by rw [z_18]; exact (xw_gn (by decide) g_entries)
  have g_24 : fs_17[(13 : Nat)]? = some (.ref lies_) := by rw [z_18]; exact (xw_gn (by decide) g_lies)
  have g_25 : fs_17[(14 : Nat)]? = some (.ref live_) := by rw [z_18]; exact (xw_gn (by decide) g_live)
  have g_26 : fs_17[(15 : Nat)]? = some (.int (nI vs)) := by rw [z_18]; exact (xw_gn (by decide) g_versions)
  have g_27 : fs_17[(16 : Nat)]? = some (.int (nI md)) := by rw [z_18]; exact (xw_gn (by decide) g_made)
  have g_28 : fs_17[(17 : Nat)]? = some (.ref row_) := by rw [z_18]; exact (xw_gn (by decide) g_row)
  have g_29 : fs_17[(18 : Nat)]? = some (.ref level_) := by rw [z_18]; exact (xw_gn (by decide) g_level)
  have g_30 : fs_17[(19 : Nat)]? = some (.int (nI sg)) := by rw [z_18]; exact (xw_gn (by decide) g_segments)
  have g_31 : fs_17[(20 : Nat)]? = some (.int (nI op)) := by rw [z_18]; exact (xw_gn (by decide) g_open)
  have g_32 : fs_17[(21 : Nat)]? = some (.ref oldTexts_) := by rw [z_18]; exact (xw_gn (by decide) g_oldTexts)
  have g_33 : fs_17[(22 : Nat)]? = some (.ref oldSizes_) := by rw [z_18]; exact (xw_gn (by decide) g_oldSizes)
  have g_34 : fs_17[(23 : Nat)]? = some (.ref oldLies_) := by rw [z_18]; exact (xw_gn (by decide) g_oldLies)
  have g_35 : fs_17[(24 : Nat)]? = some (.ref oldLive_) := by rw [z_18]; exact (xw_gn (by decide) g_oldLive)
  have g_36 : fs_17[(25 : Nat)]? = some (.ref oldRow_) := by rw [z_18]; exact (xw_gn (by decide) g_oldRow)
  have g_37 : fs_17[(26 : Nat)]? = some (.int (nI ov)) := by rw [z_18]; exact (xw_gn (by decide) g_oldVersions)
  have g_38 : fs_17[(27 : Nat)]? = some (.int (nI os)) := by rw [z_18]; exact (xw_gn (by decide) g_oldSegments)
  have ga_39 : ∀ i : Nat, i ∉ [0, 20, 26, 27] → fs_17[i]? = fs[i]? := fun i hi => by rw [z_18]; exact xw_gn (fun z => hi (by rw [z]; simp)) (ga0 i hi)
  clear z_18
  refine x_callV (As := [.int (nI op), .int 1]) (b := m) (rest := []) (F1 := 1) (L1 := 20) (mc := 0) (ms := 0) d_Model_begin_11 cV_Model_139 (f_failsG l_19 e_2 g_20 (by decide) (by omega) (by omega)) e_2 ⟨by decide, rfl⟩ ⟨by omega, by show 8 + (3 + 11) + 20 ≤ _; omega⟩ ⟨by omega, by omega⟩ (Nat.le_of_ble_eq_true rfl) (fun v_50 h_49 p_51 => ?_)
  obtain ⟨b_48, y_44, fs_40, rfl, hy_45, l_41, e_42, g_46, ga_43, fr_47⟩ := p_51
  have g_52 : fs_40[(7 : Nat)]? = some (.ref texts_) := (ga_43 7 (by decide)).trans g_21
  have g_53 : fs_40[(8 : Nat)]? = some (.ref sizes_) := (ga_43 8 (by decide)).trans g_22
  have g_54 : fs_40[(12 : Nat)]? = some (.ref entries_) := (ga_43 12 (by decide)).trans g_23
  have g_55 : fs_40[(13 : Nat)]? = some (.ref lies_) := (ga_43 13 (by decide)).trans g_24
  have g_56 : fs_40[(14 : Nat)]? = some (.ref live_) := (ga_43 14 (by decide)).trans g_25
  have g_57 : fs_40[(15 : Nat)]? = some (.int (nI vs)) := (ga_43 15 (by decide)).trans g_26
  have g_58 : fs_40[(16 : Nat)]? = some (.int (nI md)) := (ga_43 16 (by decide)).trans g_27
  have g_59 : fs_40[(17 : Nat)]? = some (.ref row_) := (ga_43 17 (by decide)).trans g_28
  have g_60 : fs_40[(18 : Nat)]? = some (.ref level_) := (ga_43 18 (by decide)).trans g_29
  have g_61 : fs_40[(19 : Nat)]? = some (.int (nI sg)) := (ga_43 19 (by decide)).trans g_30
  have g_62 : fs_40[(20 : Nat)]? = some (.int (nI op)) := (ga_43 20 (by decide)).trans g_31
  have g_63 : fs_40[(21 : Nat)]? = some (.ref oldTexts_) := (ga_43 21 (by decide)).trans g_32
  have g_64 : fs_40[(22 : Nat)]? = some (.ref oldSizes_) := (ga_43 22 (by decide)).trans g_33
  have g_65 : fs_40[(23 : Nat)]? = some (.ref oldLies_) := (ga_43 23 (by decide)).trans g_34
  have g_66 : fs_40[(24 : Nat)]? = some (.ref oldLive_) := (ga_43 24 (by decide)).trans g_35
  have g_67 : fs_40[(25 : Nat)]? = some (.ref oldRow_) := (ga_43 25 (by decide)).trans g_36
  have g_68 : fs_40[(26 : Nat)]? = some (.int (nI ov)) := (ga_43 26 (by decide)).trans g_37
  have g_69 : fs_40[(27 : Nat)]? = some (.int (nI os)) := (ga_43 27 (by decide)).trans g_38
  have e_71 := fr_47 texts_ _ (by simp only [List.mem_cons, List.not_mem_nil, or_false, not_or]; exact (nd_ne ND (i := 5) (j := 0) rfl rfl (by decide))) e_4
  have e_72 := fr_47 sizes_ _ (by simp only [List.mem_cons, List.not_mem_nil, or_false, not_or]; exact (nd_ne ND (i := 6) (j := 0) rfl rfl (by decide))) e_5
  have e_73 := fr_47 oldTexts_ _ (by simp only [List.mem_cons, List.not_mem_nil, or_false, not_or]; exact (nd_ne ND (i := 13) (j := 0) rfl rfl (by decide))) e_6
  have e_74 := fr_47 oldSizes_ _ (by simp only [List.mem_cons, List.not_mem_nil, or_false, not_or]; exact (nd_ne ND (i := 14) (j := 0) rfl rfl (by decide))) e_7
  have e_75 := fr_47 entries_ _ (by simp only [List.mem_cons, List.not_mem_nil, or_false, not_or]; exact (nd_ne ND (i := 8) (j := 0) rfl rfl (by decide))) e_8
  have e_76 := fr_47 lies_ _ (by simp only [List.mem_cons, List.not_mem_nil, or_false, not_or]; exact (nd_ne ND (i := 9) (j := 0) rfl rfl (by decide))) e_9
  have e_77 := fr_47 live_ _ (by simp only [List.mem_cons, List.not_mem_nil, or_false, not_or]; exact (nd_ne ND (i := 10) (j := 0) rfl rfl (by decide))) e_10
  have e_78 := fr_47 row_ _ (by simp only [List.mem_cons, List.not_mem_nil, or_false, not_or]; exact (nd_ne ND (i := 11) (j := 0) rfl rfl (by decide))) e_11
  have e_79 := fr_47 level_ _ (by simp only [List.mem_cons, List.not_mem_nil, or_false, not_or]; exact (nd_ne ND (i := 12) (j := 0) rfl rfl (by decide))) e_12
  have e_80 := fr_47 oldLies_ _ (by simp only [List.mem_cons, List.not_mem_nil, or_false, not_or]; exact (nd_ne ND (i := 15) (j := 0) rfl rfl (by decide))) e_13
  have e_81 := fr_47 oldLive_ _ (by simp only [List.mem_cons, List.not_mem_nil, or_false, not_or]; exact (nd_ne ND (i := 16) (j := 0) rfl rfl (by decide))) e_14
  have e_82 := fr_47 oldRow_ _ (by simp only [List.mem_cons, List.not_mem_nil, or_false, not_or]; exact (nd_ne ND (i := 17) (j := 0) rfl rfl (by decide))) e_15
  have ga_83 : ∀ i : Nat, i ∉ [0, 20, 26, 27] → fs_40[i]? = fs[i]? := fun i hi => (ga_43 i (fun z => hi (by simp only [List.mem_cons, List.not_mem_nil, or_false] at z ⊢; omega))).trans (ga_39 i hi)
  have r_84 := r_16.trans (fr_47.mono (by simp))
  refine s_Model_begin_14 (fun z_85 => ?_) (fun z_86 => ?_)
  · skip
    obtain rfl : op = 0 := (hy_45.elim (fun q => (nI_eq (a := op) (b := 0) (by omega) (by decide)).mp q.1) (fun q => absurd (q.2.1.symm.trans z_85) (by decide)))
    refine s_Model_begin_18 l_41 e_42 ?_
    refine x_u1 (fun h_87 e_88 f_89 => ?_)
    have e_90 := (f_89 texts_ (nd_ne ND (i := 5) (j := 0) rfl rfl (by decide))).trans e_71
    have e_91 := (f_89 sizes_ (nd_ne ND (i := 6) (j := 0) rfl rfl (by decide))).trans e_72
    have e_92 := (f_89 oldTexts_ (nd_ne ND (i := 13) (j := 0) rfl rfl (by decide))).trans e_73
    have e_93 := (f_89 oldSizes_ (nd_ne ND (i := 14) (j := 0) rfl rfl (by decide))).trans e_74
    have e_94 := (f_89 entries_ (nd_ne ND (i := 8) (j := 0) rfl rfl (by decide))).trans e_75
    have e_95 := (f_89 lies_ (nd_ne ND (i := 9) (j := 0) rfl rfl (by decide))).trans e_76
    have e_96 := (f_89 live_ (nd_ne ND (i := 10) (j := 0) rfl rfl (by decide))).trans e_77
    have e_97 := (f_89 row_ (nd_ne ND (i := 11) (j := 0) rfl rfl (by decide))).trans e_78
    have e_98 := (f_89 level_ (nd_ne ND (i := 12) (j := 0) rfl rfl (by decide))).trans e_79
    have e_99 := (f_89 oldLies_ (nd_ne ND (i := 15) (j := 0) rfl rfl (by decide))).trans e_80
    have e_100 := (f_89 oldLive_ (nd_ne ND (i := 16) (j := 0) rfl rfl (by decide))).trans e_81
    have e_101 := (f_89 oldRow_ (nd_ne ND (i := 17) (j := 0) rfl rfl (by decide))).trans e_82
    have r_102 := r_84.up (by simp) f_89
    obtain ⟨fs_103, z_104⟩ : ∃ z, z = fs_40.set 20 (.int 1) := ⟨_, rfl⟩
    rw [← z_104] at e_88
    have l_105 : fs_103.length = 62 := by rw [z_104]; simp only [List.length_set]; exact l_41
    have g_106 : fs_103[(0 : Nat)]? = some (.int y_44) := by rw [z_104]; exact (xw_gn (by decide) g_46)
    have g_107 : fs_103[(7 : Nat)]? = some (.ref texts_) := by rw [z_104]; exact (xw_gn (by decide) g_52)
    have g_108 : fs_103[(8 : Nat)]? = some (.ref sizes_) := by rw [z_104]; exact (xw_gn (by decide) g_53)
    have g_109 : fs_103[(12 : Nat)]? = some (.ref entries_) := by rw [z_104]; exact (xw_gn (by decide) g_54)
    have g_110 : fs_103[(13 : Nat)]? = some (.ref lies_) := by rw [z_104]; exact (xw_gn (by decide) g_55)
    have g_111 : fs_103[(14 : Nat)]? = some (.ref live_) := by rw [z_104]; exact (xw_gn (by decide) g_56)
    have g_112 : fs_103[(15 : Nat)]? = some (.int (nI vs)) := by rw [z_104]; exact (xw_gn (by decide) g_57)
    have g_113 : fs_103[(16 : Nat)]? = some (.int (nI md)) := by rw [z_104]; exact (xw_gn (by decide) g_58)
    have g_114 : fs_103[(17 : Nat)]? = some (.ref row_) := by rw [z_104]; exact (xw_gn (by decide) g_59)
    have g_115 : fs_103[(18 : Nat)]? = some (.ref level_) := by rw [z_104]; exact (xw_gn (by decide) g_60)
    have g_116 : fs_103[(19 : Nat)]? = some (.int (nI sg)) := by rw [z_104]; exact (xw_gn (by decide) g_61)
    have g_117 : fs_103[(20 : Nat)]? = some (.int 1) := by rw [z_104]; exact (xw_gs (by simp [l_41]))
    have g_118 : fs_103[(21 : Nat)]? = some (.ref oldTexts_) := by rw [z_104]; exact (xw_gn (by decide) g_63)
    have g_119 : fs_103[(22 : Nat)]? = some (.ref oldSizes_) := by rw [z_104]; exact (xw_gn (by decide) g_64)
    have g_120 : fs_103[(23 : Nat)]? = some (.ref oldLies_) := by rw [z_104]; exact (xw_gn (by decide) g_65)
    have g_121 : fs_103[(24 : Nat)]? = some (.ref oldLive_) := by rw [z_104]; exact (xw_gn (by decide) g_66)
    have g_122 : fs_103[(25 : Nat)]? = some (.ref oldRow_) := by rw [z_104]; exact (xw_gn (by decide) g_67)
    have g_123 : fs_103[(26 : Nat)]? = some (.int (nI ov)) := by rw [z_104]; exact (xw_gn (by decide) g_68)
    have g_124 : fs_103[(27 : Nat)]? = some (.int (nI os)) := by rw [z_104]; exact (xw_gn (by decide) g_69)
    have ga_125 : ∀ i : Nat, i ∉ [0, 20, 26, 27] → fs_103[i]? = fs[i]? := fun i hi => by rw [z_104]; exact xw_gn (fun z => hi (by rw [z]; simp)) (ga_83 i hi)
    clear z_104
    refine lp_beg0 (gs := fs_103) (h0 := h_87) l_105 e_88 g_107 g_118 e_90 ⟨_, e_92⟩ (nd_ne ND (i := 5) (j := 13) rfl rfl (by decide)) (fun h_126 c_127 e_128 C_129 fr_130 => ?_) 2304 0 _ _ rfl e_92 (fun k hk => absurd hk (Nat.not_lt_zero _)) FrO.rf
    have e_131 := fr_130 texts_ _ (by simp only [List.mem_cons, List.not_mem_nil, or_false, not_or]; exact (nd_ne ND (i := 5) (j := 13) rfl rfl (by decide))) e_90
    have e_132 := fr_130 sizes_ _ (by simp only [List.mem_cons, List.not_mem_nil, or_false, not_or]; exact (nd_ne ND (i := 6) (j := 13) rfl rfl (by decide))) e_91
    have e_133 := fr_130 oldSizes_ _ (by simp only [List.mem_cons, List.not_mem_nil, or_false, not_or]; exact (Ne.symm (nd_ne ND (i := 13) (j := 14) rfl rfl (by decide)))) e_93
    have e_134 := fr_130 entries_ _ (by simp only [List.mem_cons, List.not_mem_nil, or_false, not_or]; exact (Ne.symm (nd_ne ND (i := 13) (j := 8) rfl rfl (by decide)))) e_94
    have e_135 := fr_130 lies_ _ (by simp only [List.mem_cons, List.not_mem_nil, or_false, not_or]; exact (Ne.symm (nd_ne ND (i := 13) (j := 9) rfl rfl (by decide)))) e_95
    have e_136 := fr_130 live_ _ (by simp only [List.mem_cons, List.not_mem_nil, or_false, not_or]; exact (Ne.symm (nd_ne ND (i := 13) (j := 10) rfl rfl (by decide)))) e_96
    have e_137 := fr_130 row_ _ (by simp only [List.mem_cons, List.not_mem_nil, or_false, not_or]; exact (Ne.symm (nd_ne ND (i := 13) (j := 11) rfl rfl (by decide)))) e_97
    have e_138 := fr_130 level_ _ (by simp only [List.mem_cons, List.not_mem_nil, or_false, not_or]; exact (Ne.symm (nd_ne ND (i := 13) (j := 12) rfl rfl (by decide)))) e_98
    have e_139 := fr_130 oldLies_ _ (by simp only [List.mem_cons, List.not_mem_nil, or_false, not_or]; exact (Ne.symm (nd_ne ND (i := 13) (j := 15) rfl rfl (by decide)))) e_99
    have e_140 := fr_130 oldLive_ _ (by simp only [List.mem_cons, List.not_mem_nil, or_false, not_or]; exact (Ne.symm (nd_ne ND (i := 13) (j := 16) rfl rfl (by decide)))) e_100
    have e_141 := fr_130 oldRow_ _ (by simp only [List.mem_cons, List.not_mem_nil, or_false, not_or]; exact (Ne.symm (nd_ne ND (i := 13) (j := 17) rfl rfl (by decide)))) e_101
    have e_142 := fr_130 m _ (by simp only [List.mem_cons, List.not_mem_nil, or_false, not_or]; exact (Ne.symm (nd_ne ND (i := 13) (j := 0) rfl rfl (by decide)))) e_88
    have r_143 := r_102.trans (fr_130.mono (by simp))
    refine s_Model_begin_50 ?_
    refine lp_beg1 (gs := fs_103) (h0 := h_126) l_105 e_142 g_108 g_119 e_132 ⟨_, e_133⟩ (nd_ne ND (i := 6) (j := 14) rfl rfl (by decide)) (fun h_144 c_145 e_146 C_147 fr_148 => ?_) 48 0 _ _ rfl e_133 (fun k hk => absurd hk (Nat.not_lt_zero _)) FrO.rf
    have e_149 := fr_148 texts_ _ (by simp only [List.mem_cons, List.not_mem_nil, or_false, not_or]; exact (nd_ne ND (i := 5) (j := 14) rfl rfl (by decide))) e_131
    have e_150 := fr_148 sizes_ _ (by simp only [List.mem_cons, List.not_mem_nil, or_false, not_or]; exact (nd_ne ND (i := 6) (j := 14) rfl rfl (by decide))) e_132
    have e_151 := fr_148 oldTexts_ _ (by simp only [List.mem_cons, List.not_mem_nil, or_false, not_or]; exact (nd_ne ND (i := 13) (j := 14) rfl rfl (by decide))) e_128
    have e_152 := fr_148 entries_ _ (by simp only [List.mem_cons, List.not_mem_nil, or_false, not_or]; exact (Ne.symm (nd_ne ND (i := 14) (j := 8) rfl rfl (by decide)))) e_134
    have e_153 := fr_148 lies_ _ (by simp only [List.mem_cons, List.not_mem_nil, or_false, not_or]; exact (Ne.symm (nd_ne ND (i := 14) (j := 9) rfl rfl (by decide)))) e_135
    have e_154 := fr_148 live_ _ (by simp only [List.mem_cons, List.not_mem_nil, or_false, not_or]; exact (Ne.symm (nd_ne ND (i := 14) (j := 10) rfl rfl (by decide)))) e_136
    have e_155 := fr_148 row_ _ (by simp only [List.mem_cons, List.not_mem_nil, or_false, not_or]; exact (Ne.symm (nd_ne ND (i := 14) (j := 11) rfl rfl (by decide)))) e_137
    have e_156 := fr_148 level_ _ (by simp only [List.mem_cons, List.not_mem_nil, or_false, not_or]; exact (Ne.symm (nd_ne ND (i := 14) (j := 12) rfl rfl (by decide)))) e_138
    have e_157 := fr_148 oldLies_ _ (by simp only [List.mem_cons, List.not_mem_nil, or_false, not_or]; exact (Ne.symm (nd_ne ND (i := 14) (j := 15) rfl rfl (by decide)))) e_139
    have e_158 := fr_148 oldLive_ _ (by simp only [List.mem_cons, List.not_mem_nil, or_false, not_or]; exact (Ne.symm (nd_ne ND (i := 14) (j := 16) rfl rfl (by decide)))) e_140
    have e_159 := fr_148 oldRow_ _ (by simp only [List.mem_cons, List.not_mem_nil, or_false, not_or]; exact (Ne.symm (nd_ne ND (i := 14) (j := 17) rfl rfl (by decide)))) e_141
    have e_160 := fr_148 m _ (by simp only [List.mem_cons, List.not_mem_nil, or_false, not_or]; exact (Ne.symm (nd_ne ND (i := 14) (j := 0) rfl rfl (by decide)))) e_142
    have r_161 := r_143.trans (fr_148.mono (by simp))
    refine s_Model_begin_76 ?_
    refine lp_beg2 (gs := fs_103) (h0 := h_144) l_105 e_160 g_111 g_121 e_154 ⟨_, e_158⟩ (nd_ne ND (i := 10) (j := 16) rfl rfl (by decide)) (fun h_162 c_163 e_164 C_165 fr_166 => ?_) 24 0 _ _ rfl e_158 (fun k hk => absurd hk (Nat.not_lt_zero _)) FrO.rf
    have e_167 := fr_166 texts_ _ (by simp only [List.mem_cons, List.not_mem_nil, or_false, not_or]; exact (nd_ne ND (i := 5) (j := 16) rfl rfl (by decide))) e_149
    have e_168 := fr_166 sizes_ _ (by simp only [List.mem_cons, List.not_mem_nil, or_false, not_or]; exact (nd_ne ND (i := 6) (j := 16) rfl rfl (by decide))) e_150
    have e_169 := fr_166 oldTexts_ _ (by simp only [List.mem_cons, List.not_mem_nil, or_false, not_or]; exact (nd_ne ND (i := 13) (j := 16) rfl rfl (by decide))) e_151
    have e_170 := fr_166 oldSizes_ _ (by simp only [List.mem_cons, List.not_mem_nil, or_false, not_or]; exact (nd_ne ND (i := 14) (j := 16) rfl rfl (by decide))) e_146
    have e_171 := fr_166 entries_ _ (by simp only [List.mem_cons, List.not_mem_nil, or_false, not_or]; exact (nd_ne ND (i := 8) (j := 16) rfl rfl (by decide))) e_152
    have e_172 := fr_166 lies_ _ (by simp only [List.mem_cons, List.not_mem_nil, or_false, not_or]; exact (nd_ne ND (i := 9) (j := 16) rfl rfl (by decide))) e_153
    have e_173 := fr_166 live_ _ (by simp only [List.mem_cons, List.not_mem_nil, or_false, not_or]; exact (nd_ne ND (i := 10) (j := 16) rfl rfl (by decide))) e_154
    have e_174 := fr_166 row_ _ (by simp only [List.mem_cons, List.not_mem_nil, or_false, not_or]; exact (nd_ne ND (i := 11) (j := 16) rfl rfl (by decide))) e_155
    have e_175 := fr_166 level_ _ (by simp only [List.mem_cons, List.not_mem_nil, or_false, not_or]; exact (nd_ne ND (i := 12) (j := 16) rfl rfl (by decide))) e_156
    have e_176 := fr_166 oldLies_ _ (by simp only [List.mem_cons, List.not_mem_nil, or_false, not_or]; exact (nd_ne ND (i := 15) (j := 16) rfl rfl (by decide))) e_157
    have e_177 := fr_166 oldRow_ _ (by simp only [List.mem_cons, List.not_mem_nil, or_false, not_or]; exact (Ne.symm (nd_ne ND (i := 16) (j := 17) rfl rfl (by decide)))) e_159
    have e_178 := fr_166 m _ (by simp only [List.mem_cons, List.not_mem_nil, or_false, not_or]; exact (Ne.symm (nd_ne ND (i := 16) (j := 0) rfl rfl (by decide)))) e_160
    have r_179 := r_161.trans (fr_166.mono (by simp))
    refine s_Model_begin_102 ?_
    refine lp_beg3 (gs := fs_103) (h0 := h_162) l_105 e_178 g_110 g_114 g_120 g_122 e_172 e_174 ⟨_, e_176⟩ ⟨_, e_177⟩ (nd_ne ND (i := 9) (j := 11) rfl rfl (by decide)) (nd_ne ND (i := 9) (j := 15) rfl rfl (by decide)) (nd_ne ND (i := 9) (j := 17) rfl rfl (by decide)) (nd_ne ND (i := 11) (j := 15) rfl rfl (by decide)) (nd_ne ND (i := 11) (j := 17) rfl rfl (by decide)) (nd_ne ND (i := 15) (j := 17) rfl rfl (by decide)) (fun h_180 c_181 c_182 e_183 C_185 e_184 C_186 fr_187 => ?_) 600 0 _ _ _ rfl e_176 (fun k hk => absurd hk (Nat.not_lt_zero _)) e_177 (fun k hk => absurd hk (Nat.not_lt_zero _)) FrO.rf
    have e_188 := fr_187 texts_ _ (by simp only [List.mem_cons, List.not_mem_nil, or_false, not_or]; exact ⟨(nd_ne ND (i := 5) (j := 15) rfl rfl (by decide)), (nd_ne ND (i := 5) (j := 17) rfl rfl (by decide))⟩) e_167
    have e_189 := fr_187 sizes_ _ (by simp only [List.mem_cons, List.not_mem_nil, or_false, not_or]; exact ⟨(nd_ne ND (i := 6) (j := 15) rfl rfl (by decide)), (nd_ne ND (i := 6) (j := 17) rfl rfl (by decide))⟩) e_168
    have e_190 := fr_187 oldTexts_ _ (by simp only [List.mem_cons, List.not_mem_nil, or_false, not_or]; exact ⟨(nd_ne ND (i := 13) (j := 15) rfl rfl (by decide)), (nd_ne ND (i := 13) (j := 17) rfl rfl (by decide))⟩) e_169
    have e_191 := fr_187 oldSizes_ _ (by simp only [List.mem_cons, List.not_mem_nil, or_false, not_or]; exact ⟨(nd_ne ND (i := 14) (j := 15) rfl rfl (by decide)), (nd_ne ND (i := 14) (j := 17) rfl rfl (by decide))⟩) e_170
    have e_192 := fr_187 entries_ _ (by simp only [List.mem_cons, List.not_mem_nil, or_false, not_or]; exact ⟨(nd_ne ND (i := 8) (j := 15) rfl rfl (by decide)), (nd_ne ND (i := 8) (j := 17) rfl rfl (by decide))⟩) e_171
    have e_193 := fr_187 lies_ _ (by simp only [List.mem_cons, List.not_mem_nil, or_false, not_or]; exact ⟨(nd_ne ND (i := 9) (j := 15) rfl rfl (by decide)), (nd_ne ND (i := 9) (j := 17) rfl rfl (by decide))⟩) e_172
    have e_194 := fr_187 live_ _ (by simp only [List.mem_cons, List.not_mem_nil, or_false, not_or]; exact ⟨(nd_ne ND (i := 10) (j := 15) rfl rfl (by decide)), (nd_ne ND (i := 10) (j := 17) rfl rfl (by decide))⟩) e_173
    have e_195 := fr_187 row_ _ (by simp only [List.mem_cons, List.not_mem_nil, or_false, not_or]; exact ⟨(nd_ne ND (i := 11) (j := 15) rfl rfl (by decide)), (nd_ne ND (i := 11) (j := 17) rfl rfl (by decide))⟩) e_174
    have e_196 := fr_187 level_ _ (by simp only [List.mem_cons, List.not_mem_nil, or_false, not_or]; exact ⟨(nd_ne ND (i := 12) (j := 15) rfl rfl (by decide)), (nd_ne ND (i := 12) (j := 17) rfl rfl (by decide))⟩) e_175
    have e_197 := fr_187 oldLive_ _ (by simp only [List.mem_cons, List.not_mem_nil, or_false, not_or]; exact ⟨(Ne.symm (nd_ne ND (i := 15) (j := 16) rfl rfl (by decide))), (nd_ne ND (i := 16) (j := 17) rfl rfl (by decide))⟩) e_164
    have e_198 := fr_187 m _ (by simp only [List.mem_cons, List.not_mem_nil, or_false, not_or]; exact ⟨(Ne.symm (nd_ne ND (i := 15) (j := 0) rfl rfl (by decide))), (Ne.symm (nd_ne ND (i := 17) (j := 0) rfl rfl (by decide)))⟩) e_178
    have r_199 := r_179.trans (fr_187.mono (by simp))
    refine s_Model_begin_141 l_105 e_198 g_112 g_116 ?_
    rw [xw_up_up]
    obtain ⟨h_200, z_206⟩ : ∃ z, z = xw_up h_180 m (.inr (11, ((fs_103.set 26 (.int (nI vs))).set 27 (.int (nI sg))))) := ⟨_, rfl⟩
    rw [← z_206]
    have e_201 : h_200 m = some (.inr (11, ((fs_103.set 26 (.int (nI vs))).set 27 (.int (nI sg))))) := by rw [z_206]; exact xw_up_s _ _ _
    have f_202 : ∀ q, q ≠ m → h_200 q = h_180 q := fun q hq => by rw [z_206]; exact xw_up_n _ _ hq
    clear z_206
    have e_207 := (f_202 texts_ (nd_ne ND (i := 5) (j := 0) rfl rfl (by decide))).trans e_188
    have e_208 := (f_202 sizes_ (nd_ne ND (i := 6) (j := 0) rfl rfl (by decide))).trans e_189
    have e_209 := (f_202 oldTexts_ (nd_ne ND (i := 13) (j := 0) rfl rfl (by decide))).trans e_190
    have e_210 := (f_202 oldSizes_ (nd_ne ND (i := 14) (j := 0) rfl rfl (by decide))).trans e_191
    have e_211 := (f_202 entries_ (nd_ne ND (i := 8) (j := 0) rfl rfl (by decide))).trans e_192
    have e_212 := (f_202 lies_ (nd_ne ND (i := 9) (j := 0) rfl rfl (by decide))).trans e_193
    have e_213 := (f_202 live_ (nd_ne ND (i := 10) (j := 0) rfl rfl (by decide))).trans e_194
    have e_214 := (f_202 row_ (nd_ne ND (i := 11) (j := 0) rfl rfl (by decide))).trans e_195
    have e_215 := (f_202 level_ (nd_ne ND (i := 12) (j := 0) rfl rfl (by decide))).trans e_196
    have e_216 := (f_202 oldLies_ (nd_ne ND (i := 15) (j := 0) rfl rfl (by decide))).trans e_183
    have e_217 := (f_202 oldLive_ (nd_ne ND (i := 16) (j := 0) rfl rfl (by decide))).trans e_197
    have e_218 := (f_202 oldRow_ (nd_ne ND (i := 17) (j := 0) rfl rfl (by decide))).trans e_184
    have r_219 := r_199.up (by simp) f_202
    obtain ⟨fs_220, z_221⟩ : ∃ z, z = (fs_103.set 26 (.int (nI vs))).set 27 (.int (nI sg)) := ⟨_, rfl⟩
    rw [← z_221] at e_201
    have l_222 : fs_220.length = 62 := by rw [z_221]; simp only [List.length_set]; exact l_105
    have g_223 : fs_220[(0 : Nat)]? = some (.int y_44) := by rw [z_221]; exact (xw_gn (by decide) (xw_gn (by decide) g_106))
    have g_224 : fs_220[(7 : Nat)]? = some (.ref texts_) := by rw [z_221]; exact (xw_gn (by decide) (xw_gn (by decide) g_107))
    have g_225 : fs_220[(8 : Nat)]? = some (.ref sizes_) := by rw [z_221]; exact (xw_gn (by decide) (xw_gn (by decide) g_108))
    have g_226 : fs_220[(12 : Nat)]? = some (.ref entries_) := by rw [z_221]; exact (xw_gn (by decide) (xw_gn (by decide) g_109))
    have g_227 : fs_220[(13 : Nat)]? = some (.ref lies_) := by rw [z_221]; exact (xw_gn (by decide) (xw_gn (by decide) g_110))
    have g_228 : fs_220[(14 : Nat)]? = some (.ref live_) := by rw [z_221]; exact (xw_gn (by decide) (xw_gn (by decide) g_111))
    have g_229 : fs_220[(15 : Nat)]? = some (.int (nI vs)) := by rw [z_221]; exact (xw_gn (by decide) (xw_gn (by decide) g_112))
    have g_230 : fs_220[(16 : Nat)]? = some (.int (nI md)) := by rw [z_221]; exact (xw_gn (by decide) (xw_gn (by decide) g_113))
    have g_231 : fs_220[(17 : Nat)]? = some (.ref row_) := by rw [z_221]; exact (xw_gn (by decide) (xw_gn (by decide) g_114))
    have g_232 : fs_220[(18 : Nat)]? = some (.ref level_) := by rw [z_221]; exact (xw_gn (by decide) (xw_gn (by decide) g_115))
    have g_233 : fs_220[(19 : Nat)]? = some (.int (nI sg)) := by rw [z_221]; exact (xw_gn (by decide) (xw_gn (by decide) g_116))
    have g_234 : fs_220[(20 : Nat)]? = some (.int 1) := by rw [z_221]; exact (xw_gn (by decide) (xw_gn (by decide) g_117))
    have g_235 : fs_220[(21 : Nat)]? = some (.ref oldTexts_) := by rw [z_221]; exact (xw_gn (by decide) (xw_gn (by decide) g_118))
    have g_236 : fs_220[(22 : Nat)]? = some (.ref oldSizes_) := by rw [z_221]; exact (xw_gn (by decide) (xw_gn (by decide) g_119))
    have g_237 : fs_220[(23 : Nat)]? = some (.ref oldLies_) := by rw [z_221]; exact (xw_gn (by decide) (xw_gn (by decide) g_120))
    have g_238 : fs_220[(24 : Nat)]? = some (.ref oldLive_) := by rw [z_221]; exact (xw_gn (by decide) (xw_gn (by decide) g_121))
    have g_239 : fs_220[(25 : Nat)]? = some (.ref oldRow_) := by rw [z_221]; exact (xw_gn (by decide) (xw_gn (by decide) g_122))
    have g_240 : fs_220[(26 : Nat)]? = some (.int (nI vs)) := by rw [z_221]; exact (xw_gn (by decide) (xw_gs (by simp [l_105])))
    have g_241 : fs_220[(27 : Nat)]? = some (.int (nI sg)) := by rw [z_221]; exact (xw_gs (by simp [l_105]))
    have ga_242 : ∀ i : Nat, i ∉ [0, 20, 26, 27] → fs_220[i]? = fs[i]? := fun i hi => by rw [z_221]; exact xw_gn (fun z => hi (by rw [z]; simp)) (xw_gn (fun z => hi (by rw [z]; simp)) (ga_125 i hi))
    clear z_221
    have hy0 : y_44 = 0 := hy_45.elim (fun q => q.2.2) (fun q => absurd (q.2.1.symm.trans z_85) (by decide))
    exact ⟨rfl, ⟨_, l_222, e_201, ⟨_, g_223⟩, (KDr.fr ga_242 r_219 (by decide) (pick_dis ND (l := [m, draft_, asked_, prepared_, preparedSize_, texts_, sizes_, weights_, entries_, lies_, live_, row_, level_, oldTexts_, oldSizes_, oldLies_, oldLive_, oldRow_, firstToken_, starred_, tokenAt_, tokenSize_, groupKind_, groupPhrase_, groupSize_, groupMask_, groupFar_, out_, top_, masks_, begins_, lasts_, truth_, answers_, order_, scores_]) (is := [1]) (js := [0, 13, 14, 15, 16, 17]) (by decide))), (KPr.fr ga_242 r_219 (by decide) (pick_dis ND (l := [m, draft_, asked_, prepared_, preparedSize_, texts_, sizes_, weights_, entries_, lies_, live_, row_, level_, oldTexts_, oldSizes_, oldLies_, oldLive_, oldRow_, firstToken_, starred_, tokenAt_, tokenSize_, groupKind_, groupPhrase_, groupSize_, groupMask_, groupFar_, out_, top_, masks_, begins_, lasts_, truth_, answers_, order_, scores_]) (is := [3, 4]) (js := [0, 13, 14, 15, 16, 17]) (by decide))), (KTx.fr ga_242 r_219 (by decide) (pick_dis ND (l := [m, draft_, asked_, prepared_, preparedSize_, texts_, sizes_, weights_, entries_, lies_, live_, row_, level_, oldTexts_, oldSizes_, oldLies_, oldLive_, oldRow_, firstToken_, starred_, tokenAt_, tokenSize_, groupKind_, groupPhrase_, groupSize_, groupMask_, groupFar_, out_, top_, masks_, begins_, lasts_, truth_, answers_, order_, scores_]) (is := [5, 6]) (js := [0, 13, 14, 15, 16, 17]) (by decide))), ⟨_, _, g_235, e_209, g_236, e_210, fun i hi => by rw [C_147 i hi]; exact hSZ i hi⟩, ⟨vs, md, sg, 1, vs, sg, _, _, _, _, _, _, _, _, g_229, g_230, g_233, g_234, g_240, g_241, g_226, e_211, g_227, e_212, g_228, e_213, g_231, e_214, g_232, e_215, g_237, e_216, g_238, e_217, g_239, e_218, by omega, by omega, by omega, Nat.le_refl _, by omega, hLI, hRO, hLV, fun v hv => by rw [C_185 v (by omega)]; exact hLI v hv, fun k hk => by rw [C_186 k (by omega)]; exact hRO k hk, fun _ r hr => by rw [C_165 r hr]; exact hLV r hr, by omega⟩, (KMo.fr ga_242 r_219 (by decide) (fun _ z => nomatch z)), (KWe.fr ga_242 r_219 (by decide) (pick_dis ND (l := [m, draft_, asked_, prepared_, preparedSize_, texts_, sizes_, weights_, entries_, lies_, live_, row_, level_, oldTexts_, oldSizes_, oldLies_, oldLive_, oldRow_, firstToken_, starred_, tokenAt_, tokenSize_, groupKind_, groupPhrase_, groupSize_, groupMask_, groupFar_, out_, top_, masks_, begins_, lasts_, truth_, answers_, order_, scores_]) (is := [7]) (js := [0, 13, 14, 15, 16, 17]) (by decide))), (KBe.fr ga_242 r_219 (by decide) (pick_dis ND (l := [m, draft_, asked_, prepared_, preparedSize_, texts_, sizes_, weights_, entries_, lies_, live_, row_, level_, oldTexts_, oldSizes_, oldLies_, oldLive_, oldRow_, firstToken_, starred_, tokenAt_, tokenSize_, groupKind_, groupPhrase_, groupSize_, groupMask_, groupFar_, out_, top_, masks_, begins_, lasts_, truth_, answers_, order_, scores_]) (is := [30, 31]) (js := [0, 13, 14, 15, 16, 17]) (by decide))), (KAn.fr ga_242 r_219 (by decide) (pick_dis ND (l := [m, draft_, asked_, prepared_, preparedSize_, texts_, sizes_, weights_, entries_, lies_, live_, row_, level_, oldTexts_, oldSizes_, oldLies_, oldLive_, oldRow_, firstToken_, starred_, tokenAt_, tokenSize_, groupKind_, groupPhrase_, groupSize_, groupMask_, groupFar_, out_, top_, masks_, begins_, lasts_, truth_, answers_, order_, scores_]) (is := [33, 34, 35]) (js := [0, 13, 14, 15, 16, 17]) (by decide))), (KQu.fr ga_242 r_219 (by decide) (pick_dis ND (l := [m, draft_, asked_, prepared_, preparedSize_, texts_, sizes_, weights_, entries_, lies_, live_, row_, level_, oldTexts_, oldSizes_, oldLies_, oldLive_, oldRow_, firstToken_, starred_, tokenAt_, tokenSize_, groupKind_, groupPhrase_, groupSize_, groupMask_, groupFar_, out_, top_, masks_, begins_, lasts_, truth_, answers_, order_, scores_]) (is := [2, 18, 19, 20, 21, 22, 23, 24, 25, 26, 27, 28, 29, 32]) (js := [0, 13, 14, 15, 16, 17]) (by decide)))⟩, r_219.mono (by simp), r_219, FF.of e e_201 ga_242, (fun opw hpw Kw => by obtain rfl : opw = 0 := (nI_eq (by omega) (by omega)).mp (Value.int.inj (Kw.inj ⟨_, e, g_open⟩)); exact Or.inr ⟨rfl, ⟨_, e_201, by rw [← hy0]; exact g_223⟩, ⟨_, e_201, g_234⟩, fun fvw ew => by obtain rfl := cinj ew e_live; exact ⟨_, e_217, C_165⟩⟩), (fun opw hpw Kw => by obtain rfl : opw = 0 := (nI_eq (by omega) (by omega)).mp (Value.int.inj (Kw.inj ⟨_, e, g_open⟩)); exact Or.inr ⟨rfl, fun ftw fzw w3 w4 => by obtain rfl := cinj w3 e_texts; obtain rfl := cinj w4 e_sizes; exact ⟨_, _, e_209, e_210, C_129, C_147⟩⟩), fun Xw nvw fow fww ovw osw kX kv hnv kO => by obtain rfl := kX.eq e g_made g_segments e_lies e_row e_level (by omega) (by omega); obtain rfl : nvw = vs := (nI_eq (by omega) (by omega)).mp (Value.int.inj (kv.inj ⟨_, e, g_versions⟩)); obtain ⟨rfl, rfl, rfl, rfl⟩ := kO.eq e g_oldVersions g_oldSegments e_oldLies e_oldRow (by omega) (by omega); exact Or.inr ⟨⟨_, e_201, by rw [← hy0]; exact g_223⟩, _, _, ⟨e_216, e_218, ⟨_, e_201, g_240⟩, ⟨_, e_201, g_241⟩, (by omega), (by dsimp only; omega)⟩, C_185, C_186⟩⟩
  · skip
    refine s_Model_begin_17 ?_
    have hop1 : op = 1 := by rcases (show op = 0 ∨ op = 1 by omega) with q | q; (exact absurd (hy_45.elim (fun q2 => q2.2.1) (fun q2 => absurd (by rw [q]; rfl) q2.1)) z_86); (exact q)
    have hy1 : y_44 = 1 := hy_45.elim (fun q2 => absurd q2.2.1 z_86) (fun q2 => q2.2.2)
    have q20 : Rf m 20 (.int (nI 1)) h_49 := by have q9 : Rf m 20 (.int (nI op)) h_49 := ⟨_, e_42, g_62⟩; rw [hop1] at q9; exact q9
    exact ⟨rfl, ⟨_, l_41, e_42, ⟨_, g_46⟩, (KDr.fr ga_83 r_84 (by decide) (pick_dis ND (l := [m, draft_, asked_, prepared_, preparedSize_, texts_, sizes_, weights_, entries_, lies_, live_, row_, level_, oldTexts_, oldSizes_, oldLies_, oldLive_, oldRow_, firstToken_, starred_, tokenAt_, tokenSize_, groupKind_, groupPhrase_, groupSize_, groupMask_, groupFar_, out_, top_, masks_, begins_, lasts_, truth_, answers_, order_, scores_]) (is := [1]) (js := [0, 13, 14, 15, 16, 17]) (by decide))), (KPr.fr ga_83 r_84 (by decide) (pick_dis ND (l := [m, draft_, asked_, prepared_, preparedSize_, texts_, sizes_, weights_, entries_, lies_, live_, row_, level_, oldTexts_, oldSizes_, oldLies_, oldLive_, oldRow_, firstToken_, starred_, tokenAt_, tokenSize_, groupKind_, groupPhrase_, groupSize_, groupMask_, groupFar_, out_, top_, masks_, begins_, lasts_, truth_, answers_, order_, scores_]) (is := [3, 4]) (js := [0, 13, 14, 15, 16, 17]) (by decide))), (KTx.fr ga_83 r_84 (by decide) (pick_dis ND (l := [m, draft_, asked_, prepared_, preparedSize_, texts_, sizes_, weights_, entries_, lies_, live_, row_, level_, oldTexts_, oldSizes_, oldLies_, oldLive_, oldRow_, firstToken_, starred_, tokenAt_, tokenSize_, groupKind_, groupPhrase_, groupSize_, groupMask_, groupFar_, out_, top_, masks_, begins_, lasts_, truth_, answers_, order_, scores_]) (is := [5, 6]) (js := [0, 13, 14, 15, 16, 17]) (by decide))), ⟨_, _, g_63, e_73, g_64, e_74, hOZ⟩, ⟨vs, md, sg, op, ov, os, _, _, _, _, _, _, _, _, g_57, g_58, g_61, g_62, g_68, g_69, g_54, e_75, g_55, e_76, g_56, e_77, g_59, e_78, g_60, e_79, g_65, e_80, g_66, e_81, g_67, e_82, by omega, by omega, by omega, by omega, by omega, hLI, hRO, hLV, hOI, hOR, hOV, by omega⟩, (KMo.fr ga_83 r_84 (by decide) (fun _ z => nomatch z)), (KWe.fr ga_83 r_84 (by decide) (pick_dis ND (l := [m, draft_, asked_, prepared_, preparedSize_, texts_, sizes_, weights_, entries_, lies_, live_, row_, level_, oldTexts_, oldSizes_, oldLies_, oldLive_, oldRow_, firstToken_, starred_, tokenAt_, tokenSize_, groupKind_, groupPhrase_, groupSize_, groupMask_, groupFar_, out_, top_, masks_, begins_, lasts_, truth_, answers_, order_, scores_]) (is := [7]) (js := [0, 13, 14, 15, 16, 17]) (by decide))), (KBe.fr ga_83 r_84 (by decide) (pick_dis ND (l := [m, draft_, asked_, prepared_, preparedSize_, texts_, sizes_, weights_, entries_, lies_, live_, row_, level_, oldTexts_, oldSizes_, oldLies_, oldLive_, oldRow_, firstToken_, starred_, tokenAt_, tokenSize_, groupKind_, groupPhrase_, groupSize_, groupMask_, groupFar_, out_, top_, masks_, begins_, lasts_, truth_, answers_, order_, scores_]) (is := [30, 31]) (js := [0, 13, 14, 15, 16, 17]) (by decide))), (KAn.fr ga_83 r_84 (by decide) (pick_dis ND (l := [m, draft_, asked_, prepared_, preparedSize_, texts_, sizes_, weights_, entries_, lies_, live_, row_, level_, oldTexts_, oldSizes_, oldLies_, oldLive_, oldRow_, firstToken_, starred_, tokenAt_, tokenSize_, groupKind_, groupPhrase_, groupSize_, groupMask_, groupFar_, out_, top_, masks_, begins_, lasts_, truth_, answers_, order_, scores_]) (is := [33, 34, 35]) (js := [0, 13, 14, 15, 16, 17]) (by decide))), (KQu.fr ga_83 r_84 (by decide) (pick_dis ND (l := [m, draft_, asked_, prepared_, preparedSize_, texts_, sizes_, weights_, entries_, lies_, live_, row_, level_, oldTexts_, oldSizes_, oldLies_, oldLive_, oldRow_, firstToken_, starred_, tokenAt_, tokenSize_, groupKind_, groupPhrase_, groupSize_, groupMask_, groupFar_, out_, top_, masks_, begins_, lasts_, truth_, answers_, order_, scores_]) (is := [2, 18, 19, 20, 21, 22, 23, 24, 25, 26, 27, 28, 29, 32]) (js := [0, 13, 14, 15, 16, 17]) (by decide)))⟩, r_84.mono (by simp), r_84, FF.of e e_42 ga_83, (fun opw hpw Kw => by obtain rfl : opw = op := (nI_eq (by omega) (by omega)).mp (Value.int.inj (Kw.inj ⟨_, e, g_open⟩)); exact Or.inl ⟨hop1, ⟨_, e_42, by rw [← hy1]; exact g_46⟩, q20, fun fvw ew => by obtain rfl := cinj ew e_oldLive; exact e_81⟩), (fun opw hpw Kw => by obtain rfl : opw = op := (nI_eq (by omega) (by omega)).mp (Value.int.inj (Kw.inj ⟨_, e, g_open⟩)); exact Or.inl ⟨hop1, (fun fvw ew => by obtain rfl := cinj ew e_oldTexts; exact e_73), fun fvw ew => by obtain rfl := cinj ew e_oldSizes; exact e_74⟩), fun Xw nvw fow fww ovw osw kX kv hnv kO => by obtain rfl := kX.eq e g_made g_segments e_lies e_row e_level (by omega) (by omega); obtain rfl : nvw = vs := (nI_eq (by omega) (by omega)).mp (Value.int.inj (kv.inj ⟨_, e, g_versions⟩)); obtain ⟨rfl, rfl, rfl, rfl⟩ := kO.eq e g_oldVersions g_oldSegments e_oldLies e_oldRow (by omega) (by omega); exact Or.inl ⟨⟨_, e_42, by rw [← hy1]; exact g_46⟩, e_80, e_82, ⟨_, e_42, g_68⟩, ⟨_, e_42, g_69⟩, (by omega), by omega⟩⟩
set_option maxHeartbeats 2000000 in
theorem r_rollback {G : xw_G} {F L : Nat} {h : xw_A}  {m draft_ asked_ prepared_ preparedSize_ texts_ sizes_ weights_ entries_ lies_ live_ row_ level_ oldTexts_ oldSizes_ oldLies_ oldLive_ oldRow_ firstToken_ starred_ tokenAt_ tokenSize_ groupKind_ groupPhrase_ groupSize_ groupMask_ groupFar_ out_ top_ masks_ begins_ lasts_ truth_ answers_ order_ scores_ T : Nat} (R : RI m draft_ asked_ prepared_ preparedSize_ texts_ sizes_ weights_ entries_ lies_ live_ row_ level_ oldTexts_ oldSizes_ oldLies_ oldLive_ oldRow_ firstToken_ starred_ tokenAt_ tokenSize_ groupKind_ groupPhrase_ groupSize_ groupMask_ groupFar_ out_ top_ masks_ begins_ lasts_ truth_ answers_ order_ scores_ T h) (ND : NDl [m, draft_, asked_, prepared_, preparedSize_, texts_, sizes_, weights_, entries_, lies_, live_, row_, level_, oldTexts_, oldSizes_, oldLies_, oldLive_, oldRow_, firstToken_, starred_, tokenAt_, tokenSize_, groupKind_, groupPhrase_, groupSize_, groupMask_, groupFar_, out_, top_, masks_, begins_, lasts_, truth_, answers_, order_, scores_]) (hT : T < 512) (hF : 2 ≤ F) (hL : 42 ≤ L) :
    xw_Met G m_Model_rollback F L 0 0 [.ref m] h (fun v h' => (∃ y : Int32, v = some (.int y)) ∧ RI m draft_ asked_ prepared_ preparedSize_ texts_ sizes_ weights_ entries_ lies_ live_ row_ level_ oldTexts_ oldSizes_ oldLies_ oldLive_ oldRow_ firstToken_ starred_ tokenAt_ tokenSize_ groupKind_ groupPhrase_ groupSize_ groupMask_ groupFar_ out_ top_ masks_ begins_ lasts_ truth_ answers_ order_ scores_ (T + 1) h' ∧ FrO [m, draft_, asked_, prepared_, preparedSize_, texts_, sizes_, weights_, entries_, lies_, live_, row_, level_, oldTexts_, oldSizes_, oldLies_, oldLive_, oldRow_, firstToken_, starred_, tokenAt_, tokenSize_, groupKind_, groupPhrase_, groupSize_, groupMask_, groupFar_, out_, top_, masks_, begins_, lasts_, truth_, answers_, order_, scores_] h h' ∧ FrO [m, texts_, sizes_, lies_, live_, row_] h h' ∧ FF m [0, 19, 20] h h' ∧ (∀ op : Nat, op ≤ 1 → Rf m 20 (.int (nI op)) h → ((op = 0 ∧ Rf m 0 (.int 1) h' ∧ Rf m 20 (.int (nI 0)) h' ∧ ∀ fv : Nat → Int32, h live_ = some (.inl (0, 24, .inl fv)) → h' live_ = some (.inl (0, 24, .inl fv))) ∨ (op = 1 ∧ Rf m 0 (.int 0) h' ∧ Rf m 20 (.int (nI 0)) h' ∧ ∀ fov : Nat → Int32, h oldLive_ = some (.inl (0, 24, .inl fov)) → ∃ fv : Nat → Int32, h' live_ = some (.inl (0, 24, .inl fv)) ∧ (∀ k, k < 24 → fv k = fov k) ∧ v = some (.int (nI (cntL fv 24)))))) ∧ (∀ op : Nat, op ≤ 1 → Rf m 20 (.int (nI op)) h → ((op = 0 ∧ (∀ f : Nat → Int32, h texts_ = some (.inl (0, 2304, .inl f)) → h' texts_ = some (.inl (0, 2304, .inl f))) ∧ ∀ f : Nat → Int32, h sizes_ = some (.inl (0, 48, .inl f)) → h' sizes_ = some (.inl (0, 48, .inl f))) ∨ (op = 1 ∧ (∀ ft fz : Nat → Int32, h oldTexts_ = some (.inl (0, 2304, .inl ft)) → h oldSizes_ = some (.inl (0, 48, .inl fz)) → ∃ f g : Nat → Int32, h' texts_ = some (.inl (0, 2304, .inl f)) ∧ h' sizes_ = some (.inl (0, 48, .inl g)) ∧ (∀ k, k < 2304 → f k = ft k) ∧ ∀ k, k < 48 → g k = fz k)))) ∧ (∀ (X : RSt) (nv : Nat) (fo fw : Nat → Int32) (ov os : Nat), SgC m lies_ row_ level_ X h → Rf m 15 (.int (nI nv)) h → nv < 600 → OgC m oldLies_ oldRow_ fo fw ov os h → (Rf m 0 (.int 1) h' ∧ SgC m lies_ row_ level_ X h') ∨ (Rf m 0 (.int 0) h' ∧ ∃ fi' fr' : Nat → Int32, SgC m lies_ row_ level_ (fi', fr', X.2.2.1, X.2.2.2.1, os) h' ∧ (∀ k, k < 600 → (k < ov ∧ fi' k = fo k) ∨ (ov ≤ k ∧ fi' k = -1)) ∧ ∀ k, k < 600 → fr' k = fw k))) (fun _ _ => False) := by
  refine xw_Met.of rfl (by decide) (Nat.le_of_ble_eq_true rfl) ?_
  obtain ⟨fs, l, e, ⟨er, g_err⟩, KDr, KPr, KTx, KOt, KSt, KMo, KWe, KBe, KAn, KQu⟩ := R
  obtain ⟨ft, fz, g_texts, e_texts, g_sizes, e_sizes, hSZ⟩ := id KTx
  obtain ⟨fot, foz, g_oldTexts, e_oldTexts, g_oldSizes, e_oldSizes, hOZ⟩ := id KOt
  obtain ⟨vs, md, sg, op, ov, os, fe, fi, fv, fr, fL, foi, fov, fow, g_versions, g_made, g_segments, g_open, g_oldVersions, g_oldSegments, g_entries, e_entries, g_lies, e_lies, g_live, e_live, g_row, e_row, g_level, e_level, g_oldLies, e_oldLies, g_oldLive, e_oldLive, g_oldRow, e_oldRow, hvs, hsg, hop, hov, hos, hLI, hRO, hLV, hOI, hOR, hOV, hpot⟩ := id KSt
  have ga0 : ∀ i : Nat, i ∉ [0, 19, 20] → fs[i]? = fs[i]? := fun _ _ => rfl
  have r0 : FrO [m, texts_, sizes_, lies_, live_, row_] h h := FrO.rf
  refine s_Model_rollback_0 l e g_open (fun z_1 => ?_) (fun z_2 => ?_)
  · skip
    refine x_u1 (fun h_3 e_4 f_5 => ?_)
    have e_6 := (f_5 texts_ (nd_ne ND (i := 5) (j := 0) rfl rfl (by decide))).trans e_texts
    have e_7 := (f_5 sizes_ (nd_ne ND (i := 6) (j := 0) rfl rfl (by decide))).trans e_sizes
    have e_8 := (f_5 oldTexts_ (nd_ne ND (i := 13) (j := 0) rfl rfl (by decide))).trans e_oldTexts
    have e_9 := (f_5 oldSizes_ (nd_ne ND (i := 14) (j := 0) rfl rfl (by decide))).trans e_oldSizes
    have e_10 := (f_5 entries_ (nd_ne ND (i := 8) (j := 0) rfl rfl (by decide))).trans e_entries
    have e_11 := (f_5 lies_ (nd_ne ND (i := 9) (j := 0) rfl rfl (by decide))).trans e_lies
    have e_12 := (f_5 live_ (nd_ne ND (i := 10) (j := 0) rfl rfl (by decide))).trans e_live
    have e_13 := (f_5 row_ (nd_ne ND (i := 11) (j := 0) rfl rfl (by decide))).trans e_row
    have e_14 := (f_5 level_ (nd_ne ND (i := 12) (j := 0) rfl rfl (by decide))).trans e_level
    have e_15 := (f_5 oldLies_ (nd_ne ND (i := 15) (j := 0) rfl rfl (by decide))).trans e_oldLies
    have e_16 := (f_5 oldLive_ (nd_ne ND (i := 16) (j := 0) rfl rfl (by decide))).trans e_oldLive
    have e_17 := (f_5 oldRow_ (nd_ne ND (i := 17) (j := 0) rfl rfl (by decide))).trans e_oldRow
    have r_18 := r0.up (by simp) f_5
    obtain ⟨fs_19, z_20⟩ : ∃ z, z = fs.set 0 (.int 0) := ⟨_, rfl⟩
    rw [← z_20] at e_4
    have l_21 : fs_19.length = 62 := by rw [z_20]; simp only [List.length_set]; exact l
    have g_22 : fs_19[(0 : Nat)]? = some (.int 0) := by rw [z_20]; exact (xw_gs (by simp [l]))
    have g_23 : fs_19[(7 : Nat)]? = some (.ref texts_) := by rw [z_20]; exact (xw_gn (by decide) g_texts)
    have g_24 : fs_19[(8 : Nat)]? = some (.ref sizes_) := by rw [z_20]; exact (xw_gn (by decide) g_sizes)
    have g_25 : fs_19[(12 : Nat)]? = some (.ref entries_) := by rw [z_20]; exact (xw_gn (by decide) g_entries)
    have g_26 : fs_19[(13 : Nat)]? = some (.ref lies_) := by rw [z_20]; exact (xw_gn (by decide) g_lies)
    have g_27 : fs_19[(14 : Nat)]? = some (.ref live_) := by rw [z_20]; exact (xw_gn (by decide) g_live)
    have g_28 : fs_19[(15 : Nat)]? = some (.int (nI vs)) := by rw [z_20]; exact (xw_gn (by decide) g_versions)
    have g_29 : fs_19[(16 : Nat)]? = some (.int (nI md)) := by rw [z_20]; exact (xw_gn (by decide) g_made)
    have g_30 : fs_19[(17 : Nat)]? = some (.ref row_) := by rw [z_20]; exact (xw_gn (by decide) g_row)
    have g_31 : fs_19[(18 : Nat)]? = some (.ref level_) := by rw [z_20]; exact (xw_gn (by decide) g_level)
    have g_32 : fs_19[(19 : Nat)]? = some (.int (nI sg)) := by rw [z_20]; exact (xw_gn (by decide) g_segments)
    have g_33 : fs_19[(20 : Nat)]? = some (.int (nI op)) := by rw [z_20]; exact (xw_gn (by decide) g_open)
    have g_34 : fs_19[(21 : Nat)]? = some (.ref oldTexts_) := by rw [z_20]; exact (xw_gn (by decide) g_oldTexts)
    have g_35 : fs_19[(22 : Nat)]? = some (.ref oldSizes_) := by rw [z_20]; exact (xw_gn (by decide) g_oldSizes)
    have g_36 : fs_19[(23 : Nat)]? = some (.ref oldLies_) := by rw [z_20]; exact (xw_gn (by decide) g_oldLies)
    have g_37 : fs_19[(24 : Nat)]? = some (.ref oldLive_) := by rw [z_20]; exact (xw_gn (by decide) g_oldLive)
    have g_38 : fs_19[(25 : Nat)]? = some (.ref oldRow_) := by rw [z_20]; exact (xw_gn (by decide) g_oldRow)
    have g_39 : fs_19[(26 : Nat)]? = some (.int (nI ov)) := by rw [z_20]; exact (xw_gn (by decide) g_oldVersions)
    have g_40 : fs_19[(27 : Nat)]? = some (.int (nI os)) := by rw [z_20]; exact (xw_gn (by decide) g_oldSegments)
    have ga_41 : ∀ i : Nat, i ∉ [0, 19, 20] → fs_19[i]? = fs[i]? := fun i hi => by rw [z_20]; exact xw_gn (fun z => hi (by rw [z]; simp)) (ga0 i hi)
    clear z_20
    refine s_Model_rollback_17 ?_
    refine s_Model_rollback_18 ?_
    refine x_callV (As := [.int 0, .int 1]) (b := m) (rest := []) (F1 := 1) (L1 := 20) (mc := 0) (ms := 0) d_Model_rollback_19 cV_Model_139 (f_fails0 l_21 e_4 g_22 (by omega) (by omega)) e_4 ⟨by decide, rfl⟩ ⟨by omega, by show 8 + (3 + 11) + 20 ≤ _; omega⟩ ⟨by omega, by omega⟩ (Nat.le_of_ble_eq_true rfl) (fun v_43 h_42 p_44 => ?_)
    obtain ⟨rfl, rfl⟩ := p_44
    refine s_Model_rollback_22 (fun z_45 => ?_) (fun z => absurd z (by decide))
    obtain rfl : op = 1 := (by rcases (show op = 0 ∨ op = 1 by omega) with q | q <;> first | exact q | exact absurd (by rw [q]; rfl) z_1)
    refine s_Model_rollback_27 l_21 e_4 ?_
    refine x_u1 (fun h_46 e_47 f_48 => ?_)
    have e_49 := (f_48 texts_ (nd_ne ND (i := 5) (j := 0) rfl rfl (by decide))).trans e_6
    have e_50 := (f_48 sizes_ (nd_ne ND (i := 6) (j := 0) rfl rfl (by decide))).trans e_7
    have e_51 := (f_48 oldTexts_ (nd_ne ND (i := 13) (j := 0) rfl rfl (by decide))).trans e_8
    have e_52 := (f_48 oldSizes_ (nd_ne ND (i := 14) (j := 0) rfl rfl (by decide))).trans e_9
    have e_53 := (f_48 entries_ (nd_ne ND (i := 8) (j := 0) rfl rfl (by decide))).trans e_10
    have e_54 := (f_48 lies_ (nd_ne ND (i := 9) (j := 0) rfl rfl (by decide))).trans e_11
    have e_55 := (f_48 live_ (nd_ne ND (i := 10) (j := 0) rfl rfl (by decide))).trans e_12
    have e_56 := (f_48 row_ (nd_ne ND (i := 11) (j := 0) rfl rfl (by decide))).trans e_13
    have e_57 := (f_48 level_ (nd_ne ND (i := 12) (j := 0) rfl rfl (by decide))).trans e_14
    have e_58 := (f_48 oldLies_ (nd_ne ND (i := 15) (j := 0) rfl rfl (by decide))).trans e_15
    have e_59 := (f_48 oldLive_ (nd_ne ND (i := 16) (j := 0) rfl rfl (by decide))).trans e_16
    have e_60 := (f_48 oldRow_ (nd_ne ND (i := 17) (j := 0) rfl rfl (by decide))).trans e_17
    have r_61 := r_18.up (by simp) f_48
    obtain ⟨fs_62, z_63⟩ : ∃ z, z = fs_19.set 20 (.int 0) := ⟨_, rfl⟩
    rw [← z_63] at e_47
    have l_64 : fs_62.length = 62 := by rw [z_63]; simp only [List.length_set]; exact l_21
    have g_65 : fs_62[(0 : Nat)]? = some (.int 0) := by rw [z_63]; exact (xw_gn (by decide) g_22)
    have g_66 : fs_62[(7 : Nat)]? = some (.ref texts_) := by rw [z_63]; exact (xw_gn (by decide) g_23)
    have g_67 : fs_62[(8 : Nat)]? = some (.ref sizes_) := by rw [z_63]; exact (xw_gn (by decide) g_24)
    have g_68 : fs_62[(12 : Nat)]? = some (.ref entries_) := by rw [z_63]; exact (xw_gn (by decide) g_25)
    have g_69 : fs_62[(13 : Nat)]? = some (.ref lies_) := by rw [z_63]; exact (xw_gn (by decide) g_26)
    have g_70 : fs_62[(14 : Nat)]? = some (.ref live_) := by rw [z_63]; exact (xw_gn (by decide) g_27)
    have g_71 : fs_62[(15 : Nat)]? = some (.int (nI vs)) := by rw [z_63]; exact (xw_gn (by decide) g_28)
    have g_72 : fs_62[(16 : Nat)]? = some (.int (nI md)) := by rw [z_63]; exact (xw_gn (by decide) g_29)
    have g_73 : fs_62[(17 : Nat)]? = some (.ref row_) := by rw [z_63]; exact (xw_gn (by decide) g_30)
    have g_74 : fs_62[(18 : Nat)]? = some (.ref level_) := by rw [z_63]; exact (xw_gn (by decide) g_31)
    have g_75 : fs_62[(19 : Nat)]? = some (.int (nI sg)) := by rw [z_63]; exact (xw_gn (by decide) g_32)
    have g_76 : fs_62[(20 : Nat)]? = some (.int 0) := by rw [z_63]; exact (xw_gs (by simp [l_21]))
    have g_77 : fs_62[(21 : Nat)]? = some (.ref oldTexts_) := by rw [z_63]; exact (xw_gn (by decide) g_34)
    have g_78 : fs_62[(22 : Nat)]? = some (.ref oldSizes_) := by rw [z_63]; exact (xw_gn (by decide) g_35)
    have g_79 : fs_62[(23 : Nat)]? = some (.ref oldLies_) := by rw [z_63]; exact (xw_gn (by decide) g_36)
    have g_80 : fs_62[(24 : Nat)]? = some (.ref oldLive_) := by rw [z_63]; exact (xw_gn (by decide) g_37)
    have g_81 : fs_62[(25 : Nat)]? = some (.ref oldRow_) := by rw [z_63]; exact (xw_gn (by decide) g_38)
    have g_82 : fs_62[(26 : Nat)]? = some (.int (nI ov)) := by rw [z_63]; exact (xw_gn (by decide) g_39)
    have g_83 : fs_62[(27 : Nat)]? = some (.int (nI os)) := by rw [z_63]; exact (xw_gn (by decide) g_40)
    have ga_84 : ∀ i : Nat, i ∉ [0, 19, 20] → fs_62[i]? = fs[i]? := fun i hi => by rw [z_63]; exact xw_gn (fun z => hi (by rw [z]; simp)) (ga_41 i hi)
    clear z_63
    refine lp_rol0 (gs := fs_62) (h0 := h_46) l_64 e_47 g_77 g_66 e_51 ⟨_, e_49⟩ (Ne.symm (nd_ne ND (i := 5) (j := 13) rfl rfl (by decide))) (fun h_85 c_86 e_87 C_88 fr_89 => ?_) 2304 0 _ _ rfl e_49 (fun k hk => absurd hk (Nat.not_lt_zero _)) FrO.rf
    have e_90 := fr_89 sizes_ _ (by simp only [List.mem_cons, List.not_mem_nil, or_false, not_or]; exact (Ne.symm (nd_ne ND (i := 5) (j := 6) rfl rfl (by decide)))) e_50
    have e_91 := fr_89 oldTexts_ _ (by simp only [List.mem_cons, List.not_mem_nil, or_false, not_or]; exact (Ne.symm (nd_ne ND (i := 5) (j := 13) rfl rfl (by decide)))) e_51
    have e_92 := fr_89 oldSizes_ _ (by simp only [List.mem_cons, List.not_mem_nil, or_false, not_or]; exact (Ne.symm (nd_ne ND (i := 5) (j := 14) rfl rfl (by decide)))) e_52
    have e_93 := fr_89 entries_ _ (by simp only [List.mem_cons, List.not_mem_nil, or_false, not_or]; exact (Ne.symm (nd_ne ND (i := 5) (j := 8) rfl rfl (by decide)))) e_53
    have e_94 := fr_89 lies_ _ (by simp only [List.mem_cons, List.not_mem_nil, or_false, not_or]; exact (Ne.symm (nd_ne ND (i := 5) (j := 9) rfl rfl (by decide)))) e_54
    have e_95 := fr_89 live_ _ (by simp only [List.mem_cons, List.not_mem_nil, or_false, not_or]; exact (Ne.symm (nd_ne ND (i := 5) (j := 10) rfl rfl (by decide)))) e_55
    have e_96 := fr_89 row_ _ (by simp only [List.mem_cons, List.not_mem_nil, or_false, not_or]; exact (Ne.symm (nd_ne ND (i := 5) (j := 11) rfl rfl (by decide)))) e_56
    have e_97 := fr_89 level_ _ (by simp only [List.mem_cons, List.not_mem_nil, or_false, not_or]; exact (Ne.symm (nd_ne ND (i := 5) (j := 12) rfl rfl (by decide)))) e_57
    have e_98 := fr_89 oldLies_ _ (by simp only [List.mem_cons, List.not_mem_nil, or_false, not_or]; exact (Ne.symm (nd_ne ND (i := 5) (j := 15) rfl rfl (by decide)))) e_58
    have e_99 := fr_89 oldLive_ _ (by simp only [List.mem_cons, List.not_mem_nil, or_false, not_or]; exact (Ne.symm (nd_ne ND (i := 5) (j := 16) rfl rfl (by decide)))) e_59
    have e_100 := fr_89 oldRow_ _ (by simp only [List.mem_cons, List.not_mem_nil, or_false, not_or]; exact (Ne.symm (nd_ne ND (i := 5) (j := 17) rfl rfl (by decide)))) e_60
    have e_101 := fr_89 m _ (by simp only [List.mem_cons, List.not_mem_nil, or_false, not_or]; exact (Ne.symm (nd_ne ND (i := 5) (j := 0) rfl rfl (by decide)))) e_47
    have r_102 := r_61.trans (fr_89.mono (by simp))
    refine s_Model_rollback_59 ?_
    refine lp_rol1 (gs := fs_62) (h0 := h_85) l_64 e_101 g_78 g_67 e_92 ⟨_, e_90⟩ (Ne.symm (nd_ne ND (i := 6) (j := 14) rfl rfl (by decide))) (fun h_103 c_104 e_105 C_106 fr_107 => ?_) 48 0 _ _ rfl e_90 (fun k hk => absurd hk (Nat.not_lt_zero _)) FrO.rf
    have e_108 := fr_107 texts_ _ (by simp only [List.mem_cons, List.not_mem_nil, or_false, not_or]; exact (nd_ne ND (i := 5) (j := 6) rfl rfl (by decide))) e_87
    have e_109 := fr_107 oldTexts_ _ (by simp only [List.mem_cons, List.not_mem_nil, or_false, not_or]; exact (Ne.symm (nd_ne ND (i := 6) (j := 13) rfl rfl (by decide)))) e_91
    have e_110 := fr_107 oldSizes_ _ (by simp only [List.mem_cons, List.not_mem_nil, or_false, not_or]; exact (Ne.symm (nd_ne ND (i := 6) (j := 14) rfl rfl (by decide)))) e_92
    have e_111 := fr_107 entries_ _ (by simp only [List.mem_cons, List.not_mem_nil, or_false, not_or]; exact (Ne.symm (nd_ne ND (i := 6) (j := 8) rfl rfl (by decide)))) e_93
    have e_112 := fr_107 lies_ _ (by simp only [List.mem_cons, List.not_mem_nil, or_false, not_or]; exact (Ne.symm (nd_ne ND (i := 6) (j := 9) rfl rfl (by decide)))) e_94
    have e_113 := fr_107 live_ _ (by simp only [List.mem_cons, List.not_mem_nil, or_false, not_or]; exact (Ne.symm (nd_ne ND (i := 6) (j := 10) rfl rfl (by decide)))) e_95
    have e_114 := fr_107 row_ _ (by simp only [List.mem_cons, List.not_mem_nil, or_false, not_or]; exact (Ne.symm (nd_ne ND (i := 6) (j := 11) rfl rfl (by decide)))) e_96
    have e_115 := fr_107 level_ _ (by simp only [List.mem_cons, List.not_mem_nil, or_false, not_or]; exact (Ne.symm (nd_ne ND (i := 6) (j := 12) rfl rfl (by decide)))) e_97
    have e_116 := fr_107 oldLies_ _ (by simp only [List.mem_cons, List.not_mem_nil, or_false, not_or]; exact (Ne.symm (nd_ne ND (i := 6) (j := 15) rfl rfl (by decide)))) e_98
    have e_117 := fr_107 oldLive_ _ (by simp only [List.mem_cons, List.not_mem_nil, or_false, not_or]; exact (Ne.symm (nd_ne ND (i := 6) (j := 16) rfl rfl (by decide)))) e_99
    have e_118 := fr_107 oldRow_ _ (by simp only [List.mem_cons, List.not_mem_nil, or_false, not_or]; exact (Ne.symm (nd_ne ND (i := 6) (j := 17) rfl rfl (by decide)))) e_100
    have e_119 := fr_107 m _ (by simp only [List.mem_cons, List.not_mem_nil, or_false, not_or]; exact (Ne.symm (nd_ne ND (i := 6) (j := 0) rfl rfl (by decide)))) e_101
    have r_120 := r_102.trans (fr_107.mono (by simp))
    refine s_Model_rollback_85 ?_
    refine lp_rol2 (gs := fs_62) (h0 := h_103) l_64 e_119 g_80 g_70 e_117 ⟨_, e_113⟩ (Ne.symm (nd_ne ND (i := 10) (j := 16) rfl rfl (by decide))) (fun h_121 c_122 e_123 C_124 fr_125 => ?_) 24 0 _ _ rfl e_113 (fun k hk => absurd hk (Nat.not_lt_zero _)) FrO.rf
    have e_126 := fr_125 texts_ _ (by simp only [List.mem_cons, List.not_mem_nil, or_false, not_or]; exact (nd_ne ND (i := 5) (j := 10) rfl rfl (by decide))) e_108
    have e_127 := fr_125 sizes_ _ (by simp only [List.mem_cons, List.not_mem_nil, or_false, not_or]; exact (nd_ne ND (i := 6) (j := 10) rfl rfl (by decide))) e_105
    have e_128 := fr_125 oldTexts_ _ (by simp only [List.mem_cons, List.not_mem_nil, or_false, not_or]; exact (nd_ne ND (i := 13) (j := 10) rfl rfl (by decide))) e_109
    have e_129 := fr_125 oldSizes_ _ (by simp only [List.mem_cons, List.not_mem_nil, or_false, not_or]; exact (nd_ne ND (i := 14) (j := 10) rfl rfl (by decide))) e_110
    have e_130 := fr_125 entries_ _ (by simp only [List.mem_cons, List.not_mem_nil, or_false, not_or]; exact (nd_ne ND (i := 8) (j := 10) rfl rfl (by decide))) e_111
    have e_131 := fr_125 lies_ _ (by simp only [List.mem_cons, List.not_mem_nil, or_false, not_or]; exact (nd_ne ND (i := 9) (j := 10) rfl rfl (by decide))) e_112
    have e_132 := fr_125 row_ _ (by simp only [List.mem_cons, List.not_mem_nil, or_false, not_or]; exact (Ne.symm (nd_ne ND (i := 10) (j := 11) rfl rfl (by decide)))) e_114
    have e_133 := fr_125 level_ _ (by simp only [List.mem_cons, List.not_mem_nil, or_false, not_or]; exact (Ne.symm (nd_ne ND (i := 10) (j := 12) rfl rfl (by decide)))) e_115
    have e_134 := fr_125 oldLies_ _ (by simp only [List.mem_cons, List.not_mem_nil, or_false, not_or]; exact (Ne.symm (nd_ne ND (i := 10) (j := 15) rfl rfl (by decide)))) e_116
    have e_135 := fr_125 oldLive_ _ (by simp only [List.mem_cons, List.not_mem_nil, or_false, not_or]; exact (Ne.symm (nd_ne ND (i := 10) (j := 16) rfl rfl (by decide)))) e_117
    have e_136 := fr_125 oldRow_ _ (by simp only [List.mem_cons, List.not_mem_nil, or_false, not_or]; exact (Ne.symm (nd_ne ND (i := 10) (j := 17) rfl rfl (by decide)))) e_118
    have e_137 := fr_125 m _ (by simp only [List.mem_cons, List.not_mem_nil, or_false, not_or]; exact (Ne.symm (nd_ne ND (i := 10) (j := 0) rfl rfl (by decide)))) e_119
    have r_138 := r_120.trans (fr_125.mono (by simp))
    refine s_Model_rollback_111 ?_
    refine lp_rol3 (gs := fs_62) (h0 := h_121) l_64 e_137 g_79 g_81 g_69 g_73 e_134 e_136 ⟨_, e_131⟩ ⟨_, e_132⟩ (nd_ne ND (i := 15) (j := 17) rfl rfl (by decide)) (Ne.symm (nd_ne ND (i := 9) (j := 15) rfl rfl (by decide))) (Ne.symm (nd_ne ND (i := 11) (j := 15) rfl rfl (by decide))) (Ne.symm (nd_ne ND (i := 9) (j := 17) rfl rfl (by decide))) (Ne.symm (nd_ne ND (i := 11) (j := 17) rfl rfl (by decide))) (nd_ne ND (i := 9) (j := 11) rfl rfl (by decide)) g_82 (by omega) (fun h_139 c_140 c_141 e_142 C_144 e_143 C_145 fr_146 => ?_) 600 0 _ _ _ rfl e_131 (fun k hk => absurd hk (Nat.not_lt_zero _)) e_132 (fun k hk => absurd hk (Nat.not_lt_zero _)) FrO.rf
    have e_147 := fr_146 texts_ _ (by simp only [List.mem_cons, List.not_mem_nil, or_false, not_or]; exact ⟨(nd_ne ND (i := 5) (j := 9) rfl rfl (by decide)), (nd_ne ND (i := 5) (j := 11) rfl rfl (by decide))⟩) e_126
    have e_148 := fr_146 sizes_ _ (by simp only [List.mem_cons, List.not_mem_nil, or_false, not_or]; exact ⟨(nd_ne ND (i := 6) (j := 9) rfl rfl (by decide)), (nd_ne ND (i := 6) (j := 11) rfl rfl (by decide))⟩) e_127
    have e_149 := fr_146 oldTexts_ _ (by simp only [List.mem_cons, List.not_mem_nil, or_false, not_or]; exact ⟨(nd_ne ND (i := 13) (j := 9) rfl rfl (by decide)), (nd_ne ND (i := 13) (j := 11) rfl rfl (by decide))⟩) e_128
    have e_150 := fr_146 oldSizes_ _ (by simp only [List.mem_cons, List.not_mem_nil, or_false, not_or]; exact ⟨(nd_ne ND (i := 14) (j := 9) rfl rfl (by decide)), (nd_ne ND (i := 14) (j := 11) rfl rfl (by decide))⟩) e_129
    have e_151 := fr_146 entries_ _ (by simp only [List.mem_cons, List.not_mem_nil, or_false, not_or]; exact ⟨(nd_ne ND (i := 8) (j := 9) rfl rfl (by decide)), (nd_ne ND (i := 8) (j := 11) rfl rfl (by decide))⟩) e_130
    have e_152 := fr_146 live_ _ (by simp only [List.mem_cons, List.not_mem_nil, or_false, not_or]; exact ⟨(Ne.symm (nd_ne ND (i := 9) (j := 10) rfl rfl (by decide))), (nd_ne ND (i := 10) (j := 11) rfl rfl (by decide))⟩) e_123
    have e_153 := fr_146 level_ _ (by simp only [List.mem_cons, List.not_mem_nil, or_false, not_or]; exact ⟨(Ne.symm (nd_ne ND (i := 9) (j := 12) rfl rfl (by decide))), (Ne.symm (nd_ne ND (i := 11) (j := 12) rfl rfl (by decide)))⟩) e_133
    have e_154 := fr_146 oldLies_ _ (by simp only [List.mem_cons, List.not_mem_nil, or_false, not_or]; exact ⟨(Ne.symm (nd_ne ND (i := 9) (j := 15) rfl rfl (by decide))), (Ne.symm (nd_ne ND (i := 11) (j := 15) rfl rfl (by decide)))⟩) e_134
    have e_155 := fr_146 oldLive_ _ (by simp only [List.mem_cons, List.not_mem_nil, or_false, not_or]; exact ⟨(Ne.symm (nd_ne ND (i := 9) (j := 16) rfl rfl (by decide))), (Ne.symm (nd_ne ND (i := 11) (j := 16) rfl rfl (by decide)))⟩) e_135
    have e_156 := fr_146 oldRow_ _ (by simp only [List.mem_cons, List.not_mem_nil, or_false, not_or]; exact ⟨(Ne.symm (nd_ne ND (i := 9) (j := 17) rfl rfl (by decide))), (Ne.symm (nd_ne ND (i := 11) (j := 17) rfl rfl (by decide)))⟩) e_136
    have e_157 := fr_146 m _ (by simp only [List.mem_cons, List.not_mem_nil, or_false, not_or]; exact ⟨(Ne.symm (nd_ne ND (i := 9) (j := 0) rfl rfl (by decide))), (Ne.symm (nd_ne ND (i := 11) (j := 0) rfl rfl (by decide)))⟩) e_137
    have r_158 := r_138.trans (fr_146.mono (by simp))
    refine s_Model_rollback_162 l_64 e_157 g_83 ?_
    refine x_u1 (fun h_159 e_160 f_161 => ?_)
    have e_162 := (f_161 texts_ (nd_ne ND (i := 5) (j := 0) rfl rfl (by decide))).trans e_147
    have e_163 := (f_161 sizes_ (nd_ne ND (i := 6) (j := 0) rfl rfl (by decide))).trans e_148
    have e_164 := (f_161 oldTexts_ (nd_ne ND (i := 13) (j := 0) rfl rfl (by decide))).trans e_149
    have e_165 := (f_161 oldSizes_ (nd_ne ND (i := 14) (j := 0) rfl rfl (by decide))).trans e_150
    have e_166 := (f_161 entries_ (nd_ne ND (i := 8) (j := 0) rfl rfl (by decide))).trans e_151
    have e_167 := (f_161 lies_ (nd_ne ND (i := 9) (j := 0) rfl rfl (by decide))).trans e_142
    have e_168 := (f_161 live_ (nd_ne ND (i := 10) (j := 0) rfl rfl (by decide))).trans e_152
    have e_169 := (f_161 row_ (nd_ne ND (i := 11) (j := 0) rfl rfl (by decide))).trans e_143
    have e_170 := (f_161 level_ (nd_ne ND (i := 12) (j := 0) rfl rfl (by decide))).trans e_153
    have e_171 := (f_161 oldLies_ (nd_ne ND (i := 15) (j := 0) rfl rfl (by decide))).trans e_154
    have e_172 := (f_161 oldLive_ (nd_ne ND (i := 16) (j := 0) rfl rfl (by decide))).trans e_155
    have e_173 := (f_161 oldRow_ (nd_ne ND (i := 17) (j := 0) rfl rfl (by decide))).trans e_156
    have r_174 := r_158.up (by simp) f_161
    obtain ⟨fs_175, z_176⟩ : ∃ z, z = fs_62.set 19 (.int (nI os)) := ⟨_, rfl⟩
    rw [← z_176] at e_160
    have l_177 : fs_175.length = 62 := by rw [z_176]; simp only [List.length_set]; exact l_64
    have g_178 : fs_175[(0 : Nat)]? = some (.int 0) := by rw [z_176]; exact (xw_gn (by decide) g_65)
    have g_179 : fs_175[(7 : Nat)]? = some (.ref texts_) := by rw [z_176]; exact (xw_gn (by decide) g_66)
    have g_180 : fs_175[(8 : Nat)]? = some (.ref sizes_) := by rw [z_176]; exact (xw_gn (by decide) g_67)
    have g_181 : fs_175[(12 : Nat)]? = some (.ref entries_) := by rw [z_176]; exact (xw_gn (by decide) g_68)
    have g_182 : fs_175[(13 : Nat)]? = some (.ref lies_) := by rw [z_176]; exact (xw_gn (by decide) g_69)
    have g_183 : fs_175[(14 : Nat)]? = some (.ref live_) := by rw [z_176]; exact (xw_gn (by decide) g_70)
    have g_184 : fs_175[(15 : Nat)]? = some (.int (nI vs)) := by rw [z_176]; exact (xw_gn (by decide) g_71)
    have g_185 : fs_175[(16 : Nat)]? = some (.int (nI md)) := by rw [z_176]; exact (xw_gn (by decide) g_72)
    have g_186 : fs_175[(17 : Nat)]? = some (.ref row_) := by rw [z_176]; exact (xw_gn (by decide) g_73)
    have g_187 : fs_175[(18 : Nat)]? = some (.ref level_) := by rw [z_176]; exact (xw_gn (by decide) g_74)
    have g_188 : fs_175[(19 : Nat)]? = some (.int (nI os)) := by rw [z_176]; exact (xw_gs (by simp [l_64]))
    have g_189 : fs_175[(20 : Nat)]? = some (.int 0) := by rw [z_176]; exact (xw_gn (by decide) g_76)
    have g_190 : fs_175[(21 : Nat)]? = some (.ref oldTexts_) := by rw [z_176]; exact (xw_gn (by decide) g_77)
    have g_191 : fs_175[(22 : Nat)]? = some (.ref oldSizes_) := by rw [z_176]; exact (xw_gn (by decide) g_78)
    have g_192 : fs_175[(23 : Nat)]? = some (.ref oldLies_) := by rw [z_176]; exact (xw_gn (by decide) g_79)
    have g_193 : fs_175[(24 : Nat)]? = some (.ref oldLive_) := by rw [z_176]; exact (xw_gn (by decide) g_80)
    have g_194 : fs_175[(25 : Nat)]? = some (.ref oldRow_) := by rw [z_176]; exact (xw_gn (by decide) g_81)
    have g_195 : fs_175[(26 : Nat)]? = some (.int (nI ov)) := by rw [z_176]; exact (xw_gn (by decide) g_82)
    have g_196 : fs_175[(27 : Nat)]? = some (.int (nI os)) := by rw [z_176]; exact (xw_gn (by decide) g_83)
    have ga_197 : ∀ i : Nat, i ∉ [0, 19, 20] → fs_175[i]? = fs[i]? := fun i hi => by rw [z_176]; exact xw_gn (fun z => hi (by rw [z]; simp)) (ga_84 i hi)
    clear z_176
    refine x_callV (As := []) (b := m) (rest := []) (F1 := 1) (L1 := 20) (mc := 0) (ms := 0) d_Model_rollback_171 cV_Model_209 (f_rows l_177 e_160 g_183 e_168 (by omega) (by omega)) e_160 ⟨by decide, rfl⟩ ⟨by omega, by show 8 + (3 + 11) + 20 ≤ _; omega⟩ ⟨by omega, by omega⟩ (Nat.le_of_ble_eq_true rfl) (fun v_202 h_201 p_203 => ?_)
    obtain ⟨⟨c_198, rfl, hc_199, hv_200⟩, rfl⟩ := p_203
    refine x_le (xw_le_n (xw_le_n xw_le_e)) ?_
    refine s_Model_rollback_174 ?_
    have hp7 := gmC_5le (lvC fL c_141 os)
    exact ⟨⟨_, rfl⟩, ⟨_, l_177, e_160, ⟨_, g_178⟩, (KDr.fr ga_197 r_174 (by decide) (pick_dis ND (l := [m, draft_, asked_, prepared_, preparedSize_, texts_, sizes_, weights_, entries_, lies_, live_, row_, level_, oldTexts_, oldSizes_, oldLies_, oldLive_, oldRow_, firstToken_, starred_, tokenAt_, tokenSize_, groupKind_, groupPhrase_, groupSize_, groupMask_, groupFar_, out_, top_, masks_, begins_, lasts_, truth_, answers_, order_, scores_]) (is := [1]) (js := [0, 5, 6, 9, 10, 11]) (by decide))), (KPr.fr ga_197 r_174 (by decide) (pick_dis ND (l := [m, draft_, asked_, prepared_, preparedSize_, texts_, sizes_, weights_, entries_, lies_, live_, row_, level_, oldTexts_, oldSizes_, oldLies_, oldLive_, oldRow_, firstToken_, starred_, tokenAt_, tokenSize_, groupKind_, groupPhrase_, groupSize_, groupMask_, groupFar_, out_, top_, masks_, begins_, lasts_, truth_, answers_, order_, scores_]) (is := [3, 4]) (js := [0, 5, 6, 9, 10, 11]) (by decide))), ⟨_, _, g_179, e_162, g_180, e_163, fun i hi => by rw [C_106 i hi]; exact hOZ i hi⟩, (KOt.fr ga_197 r_174 (by decide) (pick_dis ND (l := [m, draft_, asked_, prepared_, preparedSize_, texts_, sizes_, weights_, entries_, lies_, live_, row_, level_, oldTexts_, oldSizes_, oldLies_, oldLive_, oldRow_, firstToken_, starred_, tokenAt_, tokenSize_, groupKind_, groupPhrase_, groupSize_, groupMask_, groupFar_, out_, top_, masks_, begins_, lasts_, truth_, answers_, order_, scores_]) (is := [13, 14]) (js := [0, 5, 6, 9, 10, 11]) (by decide))), ⟨vs, md, os, 0, ov, os, _, _, _, _, _, _, _, _, g_184, g_185, g_188, g_189, g_195, g_196, g_181, e_166, g_182, e_167, g_183, e_168, g_186, e_169, g_187, e_170, g_192, e_171, g_193, e_172, g_194, e_173, by omega, by omega, by omega, by omega, by omega, fun v hv => (C_144 v (by omega)).elim (fun q => by rw [q.2]; exact hOI v q.1) (fun q => Or.inl (by rw [q.2]; decide)), fun k hk => by rw [C_145 k (by omega)]; exact hOR k hk, fun r hr => by rw [C_124 r hr]; exact hOV rfl r hr, hOI, hOR, fun q => absurd q (by decide), by omega⟩, (KMo.fr ga_197 r_174 (by decide) (fun _ z => nomatch z)), (KWe.fr ga_197 r_174 (by decide) (pick_dis ND (l := [m, draft_, asked_, prepared_, preparedSize_, texts_, sizes_, weights_, entries_, lies_, live_, row_, level_, oldTexts_, oldSizes_, oldLies_, oldLive_, oldRow_, firstToken_, starred_, tokenAt_, tokenSize_, groupKind_, groupPhrase_, groupSize_, groupMask_, groupFar_, out_, top_, masks_, begins_, lasts_, truth_, answers_, order_, scores_]) (is := [7]) (js := [0, 5, 6, 9, 10, 11]) (by decide))), (KBe.fr ga_197 r_174 (by decide) (pick_dis ND (l := [m, draft_, asked_, prepared_, preparedSize_, texts_, sizes_, weights_, entries_, lies_, live_, row_, level_, oldTexts_, oldSizes_, oldLies_, oldLive_, oldRow_, firstToken_, starred_, tokenAt_, tokenSize_, groupKind_, groupPhrase_, groupSize_, groupMask_, groupFar_, out_, top_, masks_, begins_, lasts_, truth_, answers_, order_, scores_]) (is := [30, 31]) (js := [0, 5, 6, 9, 10, 11]) (by decide))), (KAn.fr ga_197 r_174 (by decide) (pick_dis ND (l := [m, draft_, asked_, prepared_, preparedSize_, texts_, sizes_, weights_, entries_, lies_, live_, row_, level_, oldTexts_, oldSizes_, oldLies_, oldLive_, oldRow_, firstToken_, starred_, tokenAt_, tokenSize_, groupKind_, groupPhrase_, groupSize_, groupMask_, groupFar_, out_, top_, masks_, begins_, lasts_, truth_, answers_, order_, scores_]) (is := [33, 34, 35]) (js := [0, 5, 6, 9, 10, 11]) (by decide))), (KQu.fr ga_197 r_174 (by decide) (pick_dis ND (l := [m, draft_, asked_, prepared_, preparedSize_, texts_, sizes_, weights_, entries_, lies_, live_, row_, level_, oldTexts_, oldSizes_, oldLies_, oldLive_, oldRow_, firstToken_, starred_, tokenAt_, tokenSize_, groupKind_, groupPhrase_, groupSize_, groupMask_, groupFar_, out_, top_, masks_, begins_, lasts_, truth_, answers_, order_, scores_]) (is := [2, 18, 19, 20, 21, 22, 23, 24, 25, 26, 27, 28, 29, 32]) (js := [0, 5, 6, 9, 10, 11]) (by decide)))⟩, r_174.mono (by simp), r_174, FF.of e e_160 ga_197, (fun opw hpw Kw => by obtain rfl : opw = 1 := (nI_eq (by omega) (by omega)).mp (Value.int.inj (Kw.inj ⟨_, e, g_open⟩)); exact Or.inr ⟨rfl, ⟨_, e_160, g_178⟩, ⟨_, e_160, g_189⟩, fun fvw ew => by obtain rfl := cinj ew e_oldLive; exact ⟨_, e_168, C_124, by rw [hv_200]⟩⟩), (fun opw hpw Kw => by obtain rfl : opw = 1 := (nI_eq (by omega) (by omega)).mp (Value.int.inj (Kw.inj ⟨_, e, g_open⟩)); exact Or.inr ⟨rfl, fun ftw fzw w3 w4 => by obtain rfl := cinj w3 e_oldTexts; obtain rfl := cinj w4 e_oldSizes; exact ⟨_, _, e_162, e_163, C_88, C_106⟩⟩), fun Xw nvw fow fww ovw osw kX kv hnv kO => by obtain rfl := kX.eq e g_made g_segments e_lies e_row e_level (by omega) (by omega); obtain rfl : nvw = vs := (nI_eq (by omega) (by omega)).mp (Value.int.inj (kv.inj ⟨_, e, g_versions⟩)); obtain ⟨rfl, rfl, rfl, rfl⟩ := kO.eq e g_oldVersions g_oldSegments e_oldLies e_oldRow (by omega) (by omega); exact Or.inr ⟨⟨_, e_160, g_178⟩, _, _, ⟨e_167, e_169, e_170, ⟨_, e_160, g_185⟩, ⟨_, e_160, g_188⟩, (by dsimp only; omega), (by dsimp only; omega)⟩, C_144, C_145⟩⟩
  · skip
    refine x_u1 (fun h_204 e_205 f_206 => ?_)
    have e_207 := (f_206 texts_ (nd_ne ND (i := 5) (j := 0) rfl rfl (by decide))).trans e_texts
    have e_208 := (f_206 sizes_ (nd_ne ND (i := 6) (j := 0) rfl rfl (by decide))).trans e_sizes
    have e_209 := (f_206 oldTexts_ (nd_ne ND (i := 13) (j := 0) rfl rfl (by decide))).trans e_oldTexts
    have e_210 := (f_206 oldSizes_ (nd_ne ND (i := 14) (j := 0) rfl rfl (by decide))).trans e_oldSizes
    have e_211 := (f_206 entries_ (nd_ne ND (i := 8) (j := 0) rfl rfl (by decide))).trans e_entries
    have e_212 := (f_206 lies_ (nd_ne ND (i := 9) (j := 0) rfl rfl (by decide))).trans e_lies
    have e_213 := (f_206 live_ (nd_ne ND (i := 10) (j := 0) rfl rfl (by decide))).trans e_live
    have e_214 := (f_206 row_ (nd_ne ND (i := 11) (j := 0) rfl rfl (by decide))).trans e_row
    have e_215 := (f_206 level_ (nd_ne ND (i := 12) (j := 0) rfl rfl (by decide))).trans e_level
    have e_216 := (f_206 oldLies_ (nd_ne ND (i := 15) (j := 0) rfl rfl (by decide))).trans e_oldLies
    have e_217 := (f_206 oldLive_ (nd_ne ND (i := 16) (j := 0) rfl rfl (by decide))).trans e_oldLive
    have e_218 := (f_206 oldRow_ (nd_ne ND (i := 17) (j := 0) rfl rfl (by decide))).trans e_oldRow
    have r_219 := r0.up (by simp) f_206
    obtain ⟨fs_220, z_221⟩ : ∃ z, z = fs.set 0 (.int 0) := ⟨_, rfl⟩
    rw [← z_221] at e_205
    have l_222 : fs_220.length = 62 := by rw [z_221]; simp only [List.length_set]; exact l
    have g_223 : fs_220[(0 : Nat)]? = some (.int 0) := by rw [z_221]; exact (xw_gs (by simp [l]))
    have g_224 : fs_220[(7 : Nat)]? = some (.ref texts_) := by rw [z_221]; exact (xw_gn (by decide) g_texts)
    have g_225 : fs_220[(8 : Nat)]? = some (.ref sizes_) := by rw [z_221]; exact (xw_gn (by decide) g_sizes)
    have g_226 : fs_220[(12 : Nat)]? = some (.ref entries_) := by rw [z_221]; exact (xw_gn (by decide) g_entries)
    have g_227 : fs_220[(13 : Nat)]? = some (.ref lies_) := by rw [z_221]; exact (xw_gn (by decide) g_lies)
    have g_228 : fs_220[(14 : Nat)]? = some (.ref live_) := by rw [z_221]; exact (xw_gn (by decide) g_live)
    have g_229 : fs_220[(15 : Nat)]? = some (.int (nI vs)) := by rw [z_221]; exact (xw_gn (by decide) g_versions)
    have g_230 : fs_220[(16 : Nat)]? = some (.int (nI md)) := by rw [z_221]; exact (xw_gn (by decide) g_made)
    have g_231 : fs_220[(17 : Nat)]? = some (.ref row_) := by rw [z_221]; exact (xw_gn (by decide) g_row)
    have g_232 : fs_220[(18 : Nat)]? = some (.ref level_) := by rw [z_221]; exact (xw_gn (by decide) g_level)
    have g_233 : fs_220[(19 : Nat)]? = some (.int (nI sg)) := by rw [z_221]; exact (xw_gn (by decide) g_segments)
    have g_234 : fs_220[(20 : Nat)]? = some (.int (nI op)) := by rw [z_221]; exact (xw_gn (by decide) g_open)
    have g_235 : fs_220[(21 : Nat)]? = some (.ref oldTexts_) := by rw [z_221]; exact (xw_gn (by decide) g_oldTexts)
    have g_236 : fs_220[(22 : Nat)]? = some (.ref oldSizes_) := by rw [z_221]; exact (xw_gn (by decide) g_oldSizes)
    have g_237 : fs_220[(23 : Nat)]? = some (.ref oldLies_) := by rw [z_221]; exact (xw_gn (by decide) g_oldLies)
    have g_238 : fs_220[(24 : Nat)]? = some (.ref oldLive_) := by rw [z_221]; exact (xw_gn (by decide) g_oldLive)
    have g_239 : fs_220[(25 : Nat)]? = some (.ref oldRow_) := by rw [z_221]; exact (xw_gn (by decide) g_oldRow)
    have g_240 : fs_220[(26 : Nat)]? = some (.int (nI ov)) := by rw [z_221]; exact (xw_gn (by decide) g_oldVersions)
    have g_241 : fs_220[(27 : Nat)]? = some (.int (nI os)) := by rw [z_221]; exact (xw_gn (by decide) g_oldSegments)
    have ga_242 : ∀ i : Nat, i ∉ [0, 19, 20] → fs_220[i]? = fs[i]? := fun i hi => by rw [z_221]; exact xw_gn (fun z => hi (by rw [z]; simp)) (ga0 i hi)
    clear z_221
    refine s_Model_rollback_13 ?_
    refine s_Model_rollback_18 ?_
    refine x_callV (As := [.int 1, .int 1]) (b := m) (rest := []) (F1 := 1) (L1 := 20) (mc := 0) (ms := 0) d_Model_rollback_19 cV_Model_139 (f_fails1 (c := 1) l_222 e_205 g_223 (by decide) (by omega) (by omega)) e_205 ⟨by decide, rfl⟩ ⟨by omega, by show 8 + (3 + 11) + 20 ≤ _; omega⟩ ⟨by omega, by omega⟩ (Nat.le_of_ble_eq_true rfl) (fun v_250 h_249 p_251 => ?_)
    obtain ⟨rfl, fs_243, l_244, e_245, g_247, ga_246, fr_248⟩ := p_251
    have g_252 : fs_243[(7 : Nat)]? = some (.ref texts_) := (ga_246 7 (by decide)).trans g_224
    have g_253 : fs_243[(8 : Nat)]? = some (.ref sizes_) := (ga_246 8 (by decide)).trans g_225
    have g_254 : fs_243[(12 : Nat)]? = some (.ref entries_) := (ga_246 12 (by decide)).trans g_226
    have g_255 : fs_243[(13 : Nat)]? = some (.ref lies_) := (ga_246 13 (by decide)).trans g_227
    have g_256 : fs_243[(14 : Nat)]? = some (.ref live_) := (ga_246 14 (by decide)).trans g_228
    have g_257 : fs_243[(15 : Nat)]? = some (.int (nI vs)) := (ga_246 15 (by decide)).trans g_229
    have g_258 : fs_243[(16 : Nat)]? = some (.int (nI md)) := (ga_246 16 (by decide)).trans g_230
    have g_259 : fs_243[(17 : Nat)]? = some (.ref row_) := (ga_246 17 (by decide)).trans g_231
    have g_260 : fs_243[(18 : Nat)]? = some (.ref level_) := (ga_246 18 (by decide)).trans g_232
    have g_261 : fs_243[(19 : Nat)]? = some (.int (nI sg)) := (ga_246 19 (by decide)).trans g_233
    have g_262 : fs_243[(20 : Nat)]? = some (.int (nI op)) := (ga_246 20 (by decide)).trans g_234
    have g_263 : fs_243[(21 : Nat)]? = some (.ref oldTexts_) := (ga_246 21 (by decide)).trans g_235
    have g_264 : fs_243[(22 : Nat)]? = some (.ref oldSizes_) := (ga_246 22 (by decide)).trans g_236
    have g_265 : fs_243[(23 : Nat)]? = some (.ref oldLies_) := (ga_246 23 (by decide)).trans g_237
    have g_266 : fs_243[(24 : Nat)]? = some (.ref oldLive_) := (ga_246 24 (by decide)).trans g_238
    have g_267 : fs_243[(25 : Nat)]? = some (.ref oldRow_) := (ga_246 25 (by decide)).trans g_239
    have g_268 : fs_243[(26 : Nat)]? = some (.int (nI ov)) := (ga_246 26 (by decide)).trans g_240
    have g_269 : fs_243[(27 : Nat)]? = some (.int (nI os)) := (ga_246 27 (by decide)).trans g_241
    have e_270 := fr_248 texts_ _ (by simp only [List.mem_cons, List.not_mem_nil, or_false, not_or]; exact (nd_ne ND (i := 5) (j := 0) rfl rfl (by decide))) e_207
    have e_271 := fr_248 sizes_ _ (by simp only [List.mem_cons, List.not_mem_nil, or_false, not_or]; exact (nd_ne ND (i := 6) (j := 0) rfl rfl (by decide))) e_208
    have e_272 := fr_248 oldTexts_ _ (by simp only [List.mem_cons, List.not_mem_nil, or_false, not_or]; exact (nd_ne ND (i := 13) (j := 0) rfl rfl (by decide))) e_209
    have e_273 := fr_248 oldSizes_ _ (by simp only [List.mem_cons, List.not_mem_nil, or_false, not_or]; exact (nd_ne ND (i := 14) (j := 0) rfl rfl (by decide))) e_210
    have e_274 := fr_248 entries_ _ (by simp only [List.mem_cons, List.not_mem_nil, or_false, not_or]; exact (nd_ne ND (i := 8) (j := 0) rfl rfl (by decide))) e_211
    have e_275 := fr_248 lies_ _ (by simp only [List.mem_cons, List.not_mem_nil, or_false, not_or]; exact (nd_ne ND (i := 9) (j := 0) rfl rfl (by decide))) e_212
    have e_276 := fr_248 live_ _ (by simp only [List.mem_cons, List.not_mem_nil, or_false, not_or]; exact (nd_ne ND (i := 10) (j := 0) rfl rfl (by decide))) e_213
    have e_277 := fr_248 row_ _ (by simp only [List.mem_cons, List.not_mem_nil, or_false, not_or]; exact (nd_ne ND (i := 11) (j := 0) rfl rfl (by decide))) e_214
    have e_278 := fr_248 level_ _ (by simp only [List.mem_cons, List.not_mem_nil, or_false, not_or]; exact (nd_ne ND (i := 12) (j := 0) rfl rfl (by decide))) e_215
    have e_279 := fr_248 oldLies_ _ (by simp only [List.mem_cons, List.not_mem_nil, or_false, not_or]; exact (nd_ne ND (i := 15) (j := 0) rfl rfl (by decide))) e_216
    have e_280 := fr_248 oldLive_ _ (by simp only [List.mem_cons, List.not_mem_nil, or_false, not_or]; exact (nd_ne ND (i := 16) (j := 0) rfl rfl (by decide))) e_217
    have e_281 := fr_248 oldRow_ _ (by simp only [List.mem_cons, List.not_mem_nil, or_false, not_or]; exact (nd_ne ND (i := 17) (j := 0) rfl rfl (by decide))) e_218
    have ga_282 : ∀ i : Nat, i ∉ [0, 19, 20] → fs_243[i]? = fs[i]? := fun i hi => (ga_246 i (fun z => hi (by simp only [List.mem_cons, List.not_mem_nil, or_false] at z ⊢; omega))).trans (ga_242 i hi)
    have r_283 := r_219.trans (fr_248.mono (by simp))
    refine s_Model_rollback_22 (fun z => absurd z (by decide)) (fun z_284 => ?_)
    refine s_Model_rollback_25 ?_
    have hop0 : op = 0 := (nI_eq (a := op) (b := 0) (by omega) (by decide)).mp z_2
    have q20 : Rf m 20 (.int (nI 0)) h_249 := by have q9 : Rf m 20 (.int (nI op)) h_249 := ⟨_, e_245, g_262⟩; rw [hop0] at q9; exact q9
    exact ⟨⟨_, rfl⟩, ⟨_, l_244, e_245, ⟨_, g_247⟩, (KDr.fr ga_282 r_283 (by decide) (pick_dis ND (l := [m, draft_, asked_, prepared_, preparedSize_, texts_, sizes_, weights_, entries_, lies_, live_, row_, level_, oldTexts_, oldSizes_, oldLies_, oldLive_, oldRow_, firstToken_, starred_, tokenAt_, tokenSize_, groupKind_, groupPhrase_, groupSize_, groupMask_, groupFar_, out_, top_, masks_, begins_, lasts_, truth_, answers_, order_, scores_]) (is := [1]) (js := [0, 5, 6, 9, 10, 11]) (by decide))), (KPr.fr ga_282 r_283 (by decide) (pick_dis ND (l := [m, draft_, asked_, prepared_, preparedSize_, texts_, sizes_, weights_, entries_, lies_, live_, row_, level_, oldTexts_, oldSizes_, oldLies_, oldLive_, oldRow_, firstToken_, starred_, tokenAt_, tokenSize_, groupKind_, groupPhrase_, groupSize_, groupMask_, groupFar_, out_, top_, masks_, begins_, lasts_, truth_, answers_, order_, scores_]) (is := [3, 4]) (js := [0, 5, 6, 9, 10, 11]) (by decide))), ⟨_, _, g_252, e_270, g_253, e_271, hSZ⟩, (KOt.fr ga_282 r_283 (by decide) (pick_dis ND (l := [m, draft_, asked_, prepared_, preparedSize_, texts_, sizes_, weights_, entries_, lies_, live_, row_, level_, oldTexts_, oldSizes_, oldLies_, oldLive_, oldRow_, firstToken_, starred_, tokenAt_, tokenSize_, groupKind_, groupPhrase_, groupSize_, groupMask_, groupFar_, out_, top_, masks_, begins_, lasts_, truth_, answers_, order_, scores_]) (is := [13, 14]) (js := [0, 5, 6, 9, 10, 11]) (by decide))), ⟨vs, md, sg, op, ov, os, _, _, _, _, _, _, _, _, g_257, g_258, g_261, g_262, g_268, g_269, g_254, e_274, g_255, e_275, g_256, e_276, g_259, e_277, g_260, e_278, g_265, e_279, g_266, e_280, g_267, e_281, by omega, by omega, by omega, by omega, by omega, hLI, hRO, hLV, hOI, hOR, hOV, by omega⟩, (KMo.fr ga_282 r_283 (by decide) (fun _ z => nomatch z)), (KWe.fr ga_282 r_283 (by decide) (pick_dis ND (l := [m, draft_, asked_, prepared_, preparedSize_, texts_, sizes_, weights_, entries_, lies_, live_, row_, level_, oldTexts_, oldSizes_, oldLies_, oldLive_, oldRow_, firstToken_, starred_, tokenAt_, tokenSize_, groupKind_, groupPhrase_, groupSize_, groupMask_, groupFar_, out_, top_, masks_, begins_, lasts_, truth_, answers_, order_, scores_]) (is := [7]) (js := [0, 5, 6, 9, 10, 11]) (by decide))), (KBe.fr ga_282 r_283 (by decide) (pick_dis ND (l := [m, draft_, asked_, prepared_, preparedSize_, texts_, sizes_, weights_, entries_, lies_, live_, row_, level_, oldTexts_, oldSizes_, oldLies_, oldLive_, oldRow_, firstToken_, starred_, tokenAt_, tokenSize_, groupKind_, groupPhrase_, groupSize_, groupMask_, groupFar_, out_, top_, masks_, begins_, lasts_, truth_, answers_, order_, scores_]) (is := [30, 31]) (js := [0, 5, 6, 9, 10, 11]) (by decide))), (KAn.fr ga_282 r_283 (by decide) (pick_dis ND (l := [m, draft_, asked_, prepared_, preparedSize_, texts_, sizes_, weights_, entries_, lies_, live_, row_, level_, oldTexts_, oldSizes_, oldLies_, oldLive_, oldRow_, firstToken_, starred_, tokenAt_, tokenSize_, groupKind_, groupPhrase_, groupSize_, groupMask_, groupFar_, out_, top_, masks_, begins_, lasts_, truth_, answers_, order_, scores_]) (is := [33, 34, 35]) (js := [0, 5, 6, 9, 10, 11]) (by decide))), (KQu.fr ga_282 r_283 (by decide) (pick_dis ND (l := [m, draft_, asked_, prepared_, preparedSize_, texts_, sizes_, weights_, entries_, lies_, live_, row_, level_, oldTexts_, oldSizes_, oldLies_, oldLive_, oldRow_, firstToken_, starred_, tokenAt_, tokenSize_, groupKind_, groupPhrase_, groupSize_, groupMask_, groupFar_, out_, top_, masks_, begins_, lasts_, truth_, answers_, order_, scores_]) (is := [2, 18, 19, 20, 21, 22, 23, 24, 25, 26, 27, 28, 29, 32]) (js := [0, 5, 6, 9, 10, 11]) (by decide)))⟩, r_283.mono (by simp), r_283, FF.of e e_245 ga_282, (fun opw hpw Kw => by obtain rfl : opw = op := (nI_eq (by omega) (by omega)).mp (Value.int.inj (Kw.inj ⟨_, e, g_open⟩)); exact Or.inl ⟨hop0, ⟨_, e_245, g_247⟩, q20, fun fvw ew => by obtain rfl := cinj ew e_live; exact e_276⟩), (fun opw hpw Kw => by obtain rfl : opw = op := (nI_eq (by omega) (by omega)).mp (Value.int.inj (Kw.inj ⟨_, e, g_open⟩)); exact Or.inl ⟨hop0, (fun fvw ew => by obtain rfl := cinj ew e_texts; exact e_270), fun fvw ew => by obtain rfl := cinj ew e_sizes; exact e_271⟩), fun Xw nvw fow fww ovw osw kX kv hnv kO => by obtain rfl := kX.eq e g_made g_segments e_lies e_row e_level (by omega) (by omega); obtain rfl : nvw = vs := (nI_eq (by omega) (by omega)).mp (Value.int.inj (kv.inj ⟨_, e, g_versions⟩)); obtain ⟨rfl, rfl, rfl, rfl⟩ := kO.eq e g_oldVersions g_oldSegments e_oldLies e_oldRow (by omega) (by omega); exact Or.inl ⟨⟨_, e_245, g_247⟩, ⟨e_275, e_277, e_278, ⟨_, e_245, g_258⟩, ⟨_, e_245, g_261⟩, (by dsimp only; omega), (by dsimp only; omega)⟩⟩⟩
