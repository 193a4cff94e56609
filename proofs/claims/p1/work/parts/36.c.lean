/-! ONE CALL ON A FRESH OBJECT: THE REFERENCE: by program (wip/tools/p1l.py) -/
theorem ixa {a : Int32} {n i N : Nat} (ha : a = nI n) (h : n + i < N) (hN : N < 2 ^ 31) : vp_in (a + nI i) N := by
  rw [ha, nI_add]
  exact vp_in_nI h hN
set_option maxHeartbeats 400000 in
theorem fm_opens_0 {G : xw_G} {F L : Nat} {h : xw_A} {fz : Nat → Int32} {sizes_ : Nat} {m : Nat} {fs : List Value} (l : fs.length = 62) (e : h m = some (.inr (11, fs))) (g_sizes : fs[(8 : Nat)]? = some (.ref sizes_)) (e_sizes : h sizes_ = some (.inl (0, 48, .inl (fz)))) (hz : fz 0 = 0) (hF : 1 ≤ F) (hL : 20 ≤ L) :
    xw_Met G m_Model_opens F L 0 0 [.ref m, .int 0, .int 0] h (fun v h' => v = none ∧ h' = xw_up h m (.inr (11, fs.set 55 (.int 0)))) (fun _ _ => False) := by
  refine xw_Met.of rfl (by decide) (Nat.le_of_ble_eq_true rfl) ?_
  refine s_Model_opens_0 l e g_sizes e_sizes (by unfold vp_in; decide) ?_
  refine s_Model_opens_30 (fun z_1 => ?_) (fun z => absurd (by show fz 0 ≤ (0 : Int32); rw [hz]; decide) z)
  refine s_Model_opens_123 ?_
  exact ⟨rfl, rfl⟩
set_option maxHeartbeats 1000000 in
theorem lp_gets0 {G : xw_G} {F L bc bs : Nat} {pr : Option Value → xw_A → Prop} {px : String → xw_A → Prop} {h0 : xw_A} {fp : Nat → Int32} {prepared_ texts_ : Nat} {m : Nat} {fs : List Value} (l : fs.length = 62) (g_prepared : fs[(5 : Nat)]? = some (.ref prepared_)) (g_texts : fs[(7 : Nat)]? = some (.ref texts_))  
    (k : ∀ (h : xw_A) (f_texts : Nat → Int32), h m = some (.inr (11, fs)) → h prepared_ = some (.inl (0, 96, .inl (fp))) → h texts_ = some (.inl (0, 2304, .inl (f_texts))) → FrO [texts_] h0 h → xw G m_Model_gets F L bc bs pr px 64 [some (.ref m), some (.int 0), some (.int 0), none] [] h) :
    ∀ (d i : Nat) (h : xw_A) (f_texts : Nat → Int32), i + d = 48 → h m = some (.inr (11, fs)) → h prepared_ = some (.inl (0, 96, .inl (fp))) → h texts_ = some (.inl (0, 2304, .inl (f_texts))) → FrO [texts_] h0 h → xw G m_Model_gets F L bc bs pr px 25 [some (.ref m), some (.int 0), some (.int 0), some (.int (nI i))] [] h := by
  intro d
  induction d with
  | zero =>
    intro i h f_texts hi e e_prepared e_texts r0
    obtain rfl : i = 48 := by omega
    refine s_Model_gets_25 (fun z_1 => ?_) (fun z => absurd z (by decide))
    exact k _ _ e e_prepared e_texts r0
  | succ d ih =>
    intro i h f_texts hi e e_prepared e_texts r0
    refine s_Model_gets_25 (fun z => absurd z (nI_ge (b := 48) (show i < 48 by omega) (by decide))) (fun z_1 => ?_)
    refine s_Model_gets_31 l e g_texts g_prepared e_prepared (ixa (n := 0) (by decide) (by omega) (by decide)) e_texts (ixa (n := 0) (by decide) (by omega) (by decide)) ?_
    refine x_u1 (fun h_2 e_3 f_4 => ?_)
    have e_5 := (f_4 prepared_ (xw_neC e_prepared e_texts (by simp))).trans e_prepared
    have e_6 := (f_4 m (xw_neC e e_texts (by simp))).trans e
    have r_7 := r0.up (by simp) f_4
    rw [nI_1]
    exact ih (i + 1) _ _ (by omega) e_6 e_5 e_3 r_7
set_option maxHeartbeats 400000 in
theorem fm_opens_1 {G : xw_G} {F L : Nat} {h : xw_A} {fz : Nat → Int32} {sizes_ : Nat} {m : Nat} {fs : List Value} (l : fs.length = 62) (e : h m = some (.inr (11, fs))) (g_sizes : fs[(8 : Nat)]? = some (.ref sizes_)) (e_sizes : h sizes_ = some (.inl (0, 48, .inl (fz)))) (hz : fz 1 = 0) (hF : 1 ≤ F) (hL : 20 ≤ L) :
    xw_Met G m_Model_opens F L 0 0 [.ref m, .int 0, .int 1] h (fun v h' => v = none ∧ h' = xw_up h m (.inr (11, fs.set 55 (.int 0)))) (fun _ _ => False) := by
  refine xw_Met.of rfl (by decide) (Nat.le_of_ble_eq_true rfl) ?_
  refine s_Model_opens_0 l e g_sizes e_sizes (by unfold vp_in; decide) ?_
  refine s_Model_opens_30 (fun z_1 => ?_) (fun z => absurd (by show fz 1 ≤ (0 : Int32); rw [hz]; decide) z)
  refine s_Model_opens_123 ?_
  exact ⟨rfl, rfl⟩
set_option maxHeartbeats 1000000 in
theorem lp_gets1 {G : xw_G} {F L bc bs : Nat} {pr : Option Value → xw_A → Prop} {px : String → xw_A → Prop} {h0 : xw_A} {fp : Nat → Int32} {prepared_ texts_ : Nat} {m : Nat} {fs : List Value} (l : fs.length = 62) (g_prepared : fs[(5 : Nat)]? = some (.ref prepared_)) (g_texts : fs[(7 : Nat)]? = some (.ref texts_))  
    (k : ∀ (h : xw_A) (f_texts : Nat → Int32), h m = some (.inr (11, fs)) → h prepared_ = some (.inl (0, 96, .inl (fp))) → h texts_ = some (.inl (0, 2304, .inl (f_texts))) → FrO [texts_] h0 h → xw G m_Model_gets F L bc bs pr px 64 [some (.ref m), some (.int 0), some (.int 1), none] [] h) :
    ∀ (d i : Nat) (h : xw_A) (f_texts : Nat → Int32), i + d = 48 → h m = some (.inr (11, fs)) → h prepared_ = some (.inl (0, 96, .inl (fp))) → h texts_ = some (.inl (0, 2304, .inl (f_texts))) → FrO [texts_] h0 h → xw G m_Model_gets F L bc bs pr px 25 [some (.ref m), some (.int 0), some (.int 1), some (.int (nI i))] [] h := by
  intro d
  induction d with
  | zero =>
    intro i h f_texts hi e e_prepared e_texts r0
    obtain rfl : i = 48 := by omega
    refine s_Model_gets_25 (fun z_1 => ?_) (fun z => absurd z (by decide))
    exact k _ _ e e_prepared e_texts r0
  | succ d ih =>
    intro i h f_texts hi e e_prepared e_texts r0
    refine s_Model_gets_25 (fun z => absurd z (nI_ge (b := 48) (show i < 48 by omega) (by decide))) (fun z_1 => ?_)
    refine s_Model_gets_31 l e g_texts g_prepared e_prepared (ixa (n := 48) (by decide) (by omega) (by decide)) e_texts (ixa (n := 48) (by decide) (by omega) (by decide)) ?_
    refine x_u1 (fun h_2 e_3 f_4 => ?_)
    have e_5 := (f_4 prepared_ (xw_neC e_prepared e_texts (by simp))).trans e_prepared
    have e_6 := (f_4 m (xw_neC e e_texts (by simp))).trans e
    have r_7 := r0.up (by simp) f_4
    rw [nI_1]
    exact ih (i + 1) _ _ (by omega) e_6 e_5 e_3 r_7
set_option maxHeartbeats 400000 in
theorem fm_entriesOf {G : xw_G} {F L : Nat} {h : xw_A} {fz : Nat → Int32} {sizes_ : Nat} {m : Nat} {fs : List Value} (l : fs.length = 62) (e : h m = some (.inr (11, fs))) (g_column : fs[(55 : Nat)]? = some (.int 0)) (g_sizes : fs[(8 : Nat)]? = some (.ref sizes_)) (e_sizes : h sizes_ = some (.inl (0, 48, .inl (fz)))) (hz0 : fz 0 = 0) (hz1 : fz 1 = 0) (hF : 2 ≤ F) (hL : 45 ≤ L) :
    xw_Met G m_Model_entriesOf F L 0 0 [.ref m, .int 0] h (fun v h' => v = some (.int 0) ∧ (∃ fs' : List Value, fs'.length = 62 ∧ (∀ i : Nat, i ∉ [55] → fs'[i]? = fs[i]?) ∧ h' m = some (.inr (11, fs'))) ∧ FrO [m] h h') (fun _ _ => False) := by
  refine xw_Met.of rfl (by decide) (Nat.le_of_ble_eq_true rfl) ?_
  have ga0 : ∀ i : Nat, i ∉ [55] → fs[i]? = fs[i]? := fun _ _ => rfl
  have r0 : FrO [m] h h := FrO.rf
  refine s_Model_entriesOf_0 ?_
  refine s_Model_entriesOf_4 (fun z => absurd z (by decide)) (fun z_1 => ?_)
  refine s_Model_entriesOf_9 ?_
  refine x_callV (As := [.int 0, .int 0]) (b := m) (rest := []) (F1 := 1) (L1 := 20) (mc := 0) (ms := 0) d_Model_entriesOf_12 cV_Model_153 (fm_opens_0 l e g_sizes e_sizes hz0 (by omega) (by omega)) e ⟨by decide, rfl⟩ ⟨by omega, by show 8 + (6 + 11) + 20 ≤ _; omega⟩ ⟨by omega, by omega⟩ (Nat.le_of_ble_eq_true rfl) (fun v_3 h_2 p_4 => ?_)
  obtain ⟨rfl, rfl⟩ := p_4
  refine x_u1 (fun h_5 e_6 f_7 => ?_)
  have e_8 := (f_7 sizes_ (xw_neC e_sizes e (by simp))).trans e_sizes
  have r_9 := r0.up (by simp) f_7
  obtain ⟨fs_10, z_11⟩ : ∃ z, z = fs.set 55 (.int 0) := ⟨_, rfl⟩
  rw [← z_11] at e_6
  have l_12 : fs_10.length = 62 := by rw [z_11]; simp only [List.length_set]; exact l
  have g_13 : fs_10[(8 : Nat)]? = some (.ref sizes_) := by rw [z_11]; exact (xw_gn (by decide) g_sizes)
  have g_14 : fs_10[(55 : Nat)]? = some (.int 0) := by rw [z_11]; exact (xw_gs (by simp [l]))
  have ga_15 : ∀ i : Nat, i ∉ [55] → fs_10[i]? = fs[i]? := fun i hi => by rw [z_11]; exact xw_gn (fun z => hi (by rw [z]; simp)) (ga0 i hi)
  clear z_11
  refine s_Model_entriesOf_15 ?_
  refine s_Model_entriesOf_18 l_12 e_6 g_14 (fun z_16 => ?_) (fun z => absurd z (by decide))
  refine s_Model_entriesOf_81 ?_
  refine s_Model_entriesOf_4 (fun z => absurd z (by decide)) (fun z_17 => ?_)
  refine s_Model_entriesOf_9 ?_
  refine x_callV (As := [.int 0, .int (0 + 1)]) (b := m) (rest := []) (F1 := 1) (L1 := 20) (mc := 0) (ms := 0) d_Model_entriesOf_12 cV_Model_153 (fm_opens_1 l_12 e_6 g_13 e_8 hz1 (by omega) (by omega)) e_6 ⟨by decide, rfl⟩ ⟨by omega, by show 8 + (6 + 11) + 20 ≤ _; omega⟩ ⟨by omega, by omega⟩ (Nat.le_of_ble_eq_true rfl) (fun v_19 h_18 p_20 => ?_)
  obtain ⟨rfl, rfl⟩ := p_20
  refine x_u1 (fun h_21 e_22 f_23 => ?_)
  have e_24 := (f_23 sizes_ (xw_neC e_8 e_6 (by simp))).trans e_8
  have r_25 := r_9.up (by simp) f_23
  obtain ⟨fs_26, z_27⟩ : ∃ z, z = fs_10.set 55 (.int 0) := ⟨_, rfl⟩
  rw [← z_27] at e_22
  have l_28 : fs_26.length = 62 := by rw [z_27]; simp only [List.length_set]; exact l_12
  have g_29 : fs_26[(8 : Nat)]? = some (.ref sizes_) := by rw [z_27]; exact (xw_gn (by decide) g_13)
  have g_30 : fs_26[(55 : Nat)]? = some (.int 0) := by rw [z_27]; exact (xw_gs (by simp [l_12]))
  have ga_31 : ∀ i : Nat, i ∉ [55] → fs_26[i]? = fs[i]? := fun i hi => by rw [z_27]; exact xw_gn (fun z => hi (by rw [z]; simp)) (ga_15 i hi)
  clear z_27
  refine s_Model_entriesOf_15 ?_
  refine s_Model_entriesOf_18 l_28 e_22 g_30 (fun z_32 => ?_) (fun z => absurd z (by decide))
  refine s_Model_entriesOf_81 ?_
  refine s_Model_entriesOf_4 (fun z_33 => ?_) (fun z => absurd z (by decide))
  refine s_Model_entriesOf_87 ?_
  exact ⟨rfl, ⟨fs_26, l_28, ga_31, e_22⟩, r_25⟩
set_option maxHeartbeats 400000 in
theorem fm_pending1 {G : xw_G} {F L : Nat} {h : xw_A} {fe fl : Nat → Int32} {entries_ lies_ : Nat} {m : Nat} {fs : List Value} (l : fs.length = 62) (e : h m = some (.inr (11, fs))) (g_entries : fs[(12 : Nat)]? = some (.ref entries_)) (g_lies : fs[(13 : Nat)]? = some (.ref lies_)) (e_entries : h entries_ = some (.inl (0, 600, .inl (fe)))) (e_lies : h lies_ = some (.inl (0, 600, .inl (fl)))) (n_entries_lies : entries_ ≠ lies_) (g_versions : fs[(15 : Nat)]? = some (.int (0 + 1))) (hv : fl 0 = -2) (he : fe 0 = 0) (hF : 1 ≤ F) (hL : 20 ≤ L) :
    xw_Met G m_Model_pending F L 0 0 [.ref m] h (fun v h' => v = some (.int 0) ∧ h = h') (fun _ _ => False) := by
  refine xw_Met.of rfl (by decide) (Nat.le_of_ble_eq_true rfl) ?_
  refine s_Model_pending_0 ?_
  refine s_Model_pending_4 l e g_versions (fun z => absurd z (by decide)) (fun z_1 => ?_)
  refine s_Model_pending_12 l e g_lies e_lies (by unfold vp_in; decide) (fun z => absurd hv z) (fun z_2 => ?_)
  refine s_Model_pending_23 l e g_entries e_entries (by unfold vp_in; decide) ?_
  refine s_Model_pending_32 ?_
  refine s_Model_pending_4 l e g_versions (fun z_3 => ?_) (fun z => absurd z (by decide))
  refine s_Model_pending_38 ?_
  exact ⟨congrArg (fun z => some (Value.int z)) (by show (0 : Int32) + fe 0 = 0; rw [he]; rfl), rfl⟩
set_option maxHeartbeats 2000000 in
theorem fm_gets {G : xw_G} {F L : Nat} {h : xw_A} {lf : Nat → Int32} {sizes_ preparedSize_ prepared_ texts_ entries_ lies_ live_ : Nat} {m : Nat} {fs : List Value} (l : fs.length = 62) (e : h m = some (.inr (11, fs))) (g_limit : fs[(2 : Nat)]? = some (.int 20)) (g_versions : fs[(15 : Nat)]? = some (.int 0)) (g_column : fs[(55 : Nat)]? = some (.int 0)) (g_sizes : fs[(8 : Nat)]? = some (.ref sizes_)) (e_sizes : h sizes_ = some (.inl (0, 48, .inl (fun _ => 0)))) (g_preparedSize : fs[(6 : Nat)]? = some (.ref preparedSize_)) (e_preparedSize : h preparedSize_ = some (.inl (0, 2, .inl (fun _ => 0)))) (g_prepared : fs[(5 : Nat)]? = some (.ref prepared_)) (e_prepared : h prepared_ = some (.inl (0, 96, .inl (fun _ => 0)))) (g_texts : fs[(7 : Nat)]? = some (.ref texts_)) (e_texts : h texts_ = some (.inl (0, 2304, .inl (fun _ => 0)))) (g_entries : fs[(12 : Nat)]? = some (.ref entries_)) (e_entries : h entries_ = some (.inl (0, 600, .inl (fun _ => 0)))) (g_lies : fs[(13 : Nat)]? = some (.ref lies_)) (e_lies : h lies_ = some (.inl (0, 600, .inl (fun _ => 0)))) (g_live : fs[(14 : Nat)]? = some (.ref live_)) (e_live : h live_ = some (.inl (0, 24, .inl (lf)))) (n_entries_lies : entries_ ≠ lies_) (hF : 3 ≤ F) (hL : 71 ≤ L) :
    xw_Met G m_Model_gets F L 0 0 [.ref m, .int 0] h (fun v h' => (∃ r : Int32, v = some (.int r)) ∧ (∃ fs' : List Value, fs'.length = 62 ∧ (∀ i : Nat, i ∉ [15, 55] → fs'[i]? = fs[i]?) ∧ h' m = some (.inr (11, fs'))) ∧ FrO [m, sizes_, texts_, entries_, lies_, live_] h h') (fun _ _ => False) := by
  refine xw_Met.of rfl (by decide) (Nat.le_of_ble_eq_true rfl) ?_
  have ga0 : ∀ i : Nat, i ∉ [15, 55] → fs[i]? = fs[i]? := fun _ _ => rfl
  have r0 : FrO [m, sizes_, texts_, entries_, lies_, live_] h h := FrO.rf
  refine s_Model_gets_0 ?_
  refine s_Model_gets_2 (fun z => absurd z (by decide)) (fun z_1 => ?_)
  refine s_Model_gets_7 l e g_sizes g_preparedSize e_preparedSize (by unfold vp_in; decide) e_sizes (by unfold vp_in; decide) ?_
  refine x_u1 (fun h_2 e_3 f_4 => ?_)
  have e_5 := (f_4 preparedSize_ (xw_neC e_preparedSize e_sizes (by simp))).trans e_preparedSize
  have e_6 := (f_4 prepared_ (xw_neC e_prepared e_sizes (by simp))).trans e_prepared
  have e_7 := (f_4 texts_ (xw_neC e_texts e_sizes (by simp))).trans e_texts
  have e_8 := (f_4 entries_ (xw_neC e_entries e_sizes (by simp))).trans e_entries
  have e_9 := (f_4 lies_ (xw_neC e_lies e_sizes (by simp))).trans e_lies
  have e_10 := (f_4 live_ (xw_neC e_live e_sizes (by simp))).trans e_live
  have e_11 := (f_4 m (xw_neC e e_sizes (by simp))).trans e
  have r_12 := r0.up (by simp) f_4
  refine lp_gets0 l g_prepared g_texts  (fun h_13 f_14 e_15 e_16 e_17 r_18 => ?_) 48 0 _ _ (by omega) e_11 e_6 e_7 FrO.rf
  have e_19 := r_18 sizes_ _ (by simp only [List.mem_cons, List.not_mem_nil, or_false, not_or]; exact (xw_neC e_3 e_7 (by simp))) e_3
  have e_20 := r_18 preparedSize_ _ (by simp only [List.mem_cons, List.not_mem_nil, or_false, not_or]; exact (xw_neC e_5 e_7 (by simp))) e_5
  have e_21 := r_18 entries_ _ (by simp only [List.mem_cons, List.not_mem_nil, or_false, not_or]; exact (xw_neC e_8 e_7 (by simp))) e_8
  have e_22 := r_18 lies_ _ (by simp only [List.mem_cons, List.not_mem_nil, or_false, not_or]; exact (xw_neC e_9 e_7 (by simp))) e_9
  have e_23 := r_18 live_ _ (by simp only [List.mem_cons, List.not_mem_nil, or_false, not_or]; exact (xw_neC e_10 e_7 (by simp))) e_10
  have r_24 := r_12.trans (r_18.mono (by simp))
  refine s_Model_gets_64 ?_
  refine s_Model_gets_2 (fun z => absurd z (by decide)) (fun z_25 => ?_)
  refine s_Model_gets_7 l e_15 g_sizes g_preparedSize e_20 (by unfold vp_in; decide) e_19 (by unfold vp_in; decide) ?_
  refine x_u1 (fun h_26 e_27 f_28 => ?_)
  have e_29 := (f_28 m (xw_neC e_15 e_19 (by simp))).trans e_15
  have e_30 := (f_28 prepared_ (xw_neC e_16 e_19 (by simp))).trans e_16
  have e_31 := (f_28 texts_ (xw_neC e_17 e_19 (by simp))).trans e_17
  have e_32 := (f_28 preparedSize_ (xw_neC e_20 e_19 (by simp))).trans e_20
  have e_33 := (f_28 entries_ (xw_neC e_21 e_19 (by simp))).trans e_21
  have e_34 := (f_28 lies_ (xw_neC e_22 e_19 (by simp))).trans e_22
  have e_35 := (f_28 live_ (xw_neC e_23 e_19 (by simp))).trans e_23
  have r_36 := r_24.up (by simp) f_28
  refine lp_gets1 l g_prepared g_texts  (fun h_37 f_38 e_39 e_40 e_41 r_42 => ?_) 48 0 _ _ (by omega) e_29 e_30 e_31 FrO.rf
  have e_43 := r_42 sizes_ _ (by simp only [List.mem_cons, List.not_mem_nil, or_false, not_or]; exact (xw_neC e_27 e_31 (by simp))) e_27
  have e_44 := r_42 preparedSize_ _ (by simp only [List.mem_cons, List.not_mem_nil, or_false, not_or]; exact (xw_neC e_32 e_31 (by simp))) e_32
  have e_45 := r_42 entries_ _ (by simp only [List.mem_cons, List.not_mem_nil, or_false, not_or]; exact (xw_neC e_33 e_31 (by simp))) e_33
  have e_46 := r_42 lies_ _ (by simp only [List.mem_cons, List.not_mem_nil, or_false, not_or]; exact (xw_neC e_34 e_31 (by simp))) e_34
  have e_47 := r_42 live_ _ (by simp only [List.mem_cons, List.not_mem_nil, or_false, not_or]; exact (xw_neC e_35 e_31 (by simp))) e_35
  have r_48 := r_36.trans (r_42.mono (by simp))
  refine s_Model_gets_64 ?_
  refine s_Model_gets_2 (fun z_49 => ?_) (fun z => absurd z (by decide))
  have hz0 : (upd (upd (fun _ => 0) (((2 * 0) + 0) : Int32).toNatClampNeg ((fun _ => 0) (0 : Int32).toNatClampNeg)) (((2 * 0) + (0 + 1)) : Int32).toNatClampNeg ((fun _ => 0) (0 + 1 : Int32).toNatClampNeg)) 0 = 0 := (pk_un (by decide)).trans pk_us
  have hz1 : (upd (upd (fun _ => 0) (((2 * 0) + 0) : Int32).toNatClampNeg ((fun _ => 0) (0 : Int32).toNatClampNeg)) (((2 * 0) + (0 + 1)) : Int32).toNatClampNeg ((fun _ => 0) (0 + 1 : Int32).toNatClampNeg)) 1 = 0 := pk_us
  refine s_Model_gets_70 (entries_a0 := some entries_) l e_39 g_versions g_entries ?_
  refine x_u1 (fun h_50 e_51 f_52 => ?_)
  have e_53 := (f_52 prepared_ (xw_neC e_40 e_39 (by simp))).trans e_40
  have e_54 := (f_52 texts_ (xw_neC e_41 e_39 (by simp))).trans e_41
  have e_55 := (f_52 sizes_ (xw_neC e_43 e_39 (by simp))).trans e_43
  have e_56 := (f_52 preparedSize_ (xw_neC e_44 e_39 (by simp))).trans e_44
  have e_57 := (f_52 entries_ (xw_neC e_45 e_39 (by simp))).trans e_45
  have e_58 := (f_52 lies_ (xw_neC e_46 e_39 (by simp))).trans e_46
  have e_59 := (f_52 live_ (xw_neC e_47 e_39 (by simp))).trans e_47
  have r_60 := r_48.up (by simp) f_52
  obtain ⟨fs_61, z_62⟩ : ∃ z, z = fs.set 15 (.int (0 + 1)) := ⟨_, rfl⟩
  rw [← z_62] at e_51
  have l_63 : fs_61.length = 62 := by rw [z_62]; simp only [List.length_set]; exact l
  have g_64 : fs_61[(2 : Nat)]? = some (.int 20) := by rw [z_62]; exact (xw_gn (by decide) g_limit)
  have g_65 : fs_61[(5 : Nat)]? = some (.ref prepared_) := by rw [z_62]; exact (xw_gn (by decide) g_prepared)
  have g_66 : fs_61[(6 : Nat)]? = some (.ref preparedSize_) := by rw [z_62]; exact (xw_gn (by decide) g_preparedSize)
  have g_67 : fs_61[(7 : Nat)]? = some (.ref texts_) := by rw [z_62]; exact (xw_gn (by decide) g_texts)
  have g_68 : fs_61[(8 : Nat)]? = some (.ref sizes_) := by rw [z_62]; exact (xw_gn (by decide) g_sizes)
  have g_69 : fs_61[(12 : Nat)]? = some (.ref entries_) := by rw [z_62]; exact (xw_gn (by decide) g_entries)
  have g_70 : fs_61[(13 : Nat)]? = some (.ref lies_) := by rw [z_62]; exact (xw_gn (by decide) g_lies)
  have g_71 : fs_61[(14 : Nat)]? = some (.ref live_) := by rw [z_62]; exact (xw_gn (by decide) g_live)
  have g_72 : fs_61[(15 : Nat)]? = some (.int (0 + 1)) := by rw [z_62]; exact (xw_gs (by simp [l]))
  have g_73 : fs_61[(55 : Nat)]? = some (.int 0) := by rw [z_62]; exact (xw_gn (by decide) g_column)
  have ga_74 : ∀ i : Nat, i ∉ [15, 55] → fs_61[i]? = fs[i]? := fun i hi => by rw [z_62]; exact xw_gn (fun z => hi (by rw [z]; simp)) (ga0 i hi)
  clear z_62
  refine x_callV (As := [.int 0]) (b := m) (rest := [.int 0, .ref entries_]) (F1 := 2) (L1 := 45) (mc := 0) (ms := 0) d_Model_gets_92 cV_Model_168 (fm_entriesOf l_63 e_51 g_73 g_68 e_55 hz0 hz1 (by omega) (by omega)) e_51 ⟨by decide, rfl⟩ ⟨by omega, by show 8 + (7 + 11) + 45 ≤ _; omega⟩ ⟨by omega, by omega⟩ (Nat.le_of_ble_eq_true rfl) (fun v_80 h_79 p_81 => ?_)
  obtain ⟨rfl, ⟨fs_75, l_76, ga_77, e_78⟩, fr_9⟩ := p_81
  have e_82 := fr_9 prepared_ _ (by simp only [List.mem_cons, List.not_mem_nil, or_false, not_or]; exact (xw_neC e_53 e_51 (by simp))) e_53
  have e_83 := fr_9 texts_ _ (by simp only [List.mem_cons, List.not_mem_nil, or_false, not_or]; exact (xw_neC e_54 e_51 (by simp))) e_54
  have e_84 := fr_9 sizes_ _ (by simp only [List.mem_cons, List.not_mem_nil, or_false, not_or]; exact (xw_neC e_55 e_51 (by simp))) e_55
  have e_85 := fr_9 preparedSize_ _ (by simp only [List.mem_cons, List.not_mem_nil, or_false, not_or]; exact (xw_neC e_56 e_51 (by simp))) e_56
  have e_86 := fr_9 entries_ _ (by simp only [List.mem_cons, List.not_mem_nil, or_false, not_or]; exact (xw_neC e_57 e_51 (by simp))) e_57
  have e_87 := fr_9 lies_ _ (by simp only [List.mem_cons, List.not_mem_nil, or_false, not_or]; exact (xw_neC e_58 e_51 (by simp))) e_58
  have e_88 := fr_9 live_ _ (by simp only [List.mem_cons, List.not_mem_nil, or_false, not_or]; exact (xw_neC e_59 e_51 (by simp))) e_59
  have g_89 : fs_75[(2 : Nat)]? = some (.int 20) := (ga_77 2 (by decide)).trans g_64
  have g_90 : fs_75[(5 : Nat)]? = some (.ref prepared_) := (ga_77 5 (by decide)).trans g_65
  have g_91 : fs_75[(6 : Nat)]? = some (.ref preparedSize_) := (ga_77 6 (by decide)).trans g_66
  have g_92 : fs_75[(7 : Nat)]? = some (.ref texts_) := (ga_77 7 (by decide)).trans g_67
  have g_93 : fs_75[(8 : Nat)]? = some (.ref sizes_) := (ga_77 8 (by decide)).trans g_68
  have g_94 : fs_75[(12 : Nat)]? = some (.ref entries_) := (ga_77 12 (by decide)).trans g_69
  have g_95 : fs_75[(13 : Nat)]? = some (.ref lies_) := (ga_77 13 (by decide)).trans g_70
  have g_96 : fs_75[(14 : Nat)]? = some (.ref live_) := (ga_77 14 (by decide)).trans g_71
  have g_97 : fs_75[(15 : Nat)]? = some (.int (0 + 1)) := (ga_77 15 (by decide)).trans g_72
  have ga_98 : ∀ i : Nat, i ∉ [15, 55] → fs_75[i]? = fs[i]? := fun i hi => (ga_77 i (fun z => hi (by simp only [List.mem_cons, List.not_mem_nil, or_false] at z ⊢; omega))).trans (ga_74 i hi)
  have r_99 := r_60.trans (fr_9.mono (by simp))
  refine s_Model_gets_95 e_86 (by unfold vp_in; decide) l_76 e_78 g_95 e_87 (by unfold vp_in; decide) (Ne.symm n_entries_lies) g_96 e_88 (by unfold vp_in; decide) (xw_neC e_88 e_87 (by simp)) (xw_neC e_88 e_86 (by simp)) ?_
  refine x_u3 (fun h_100 e_101 f_102 h_103 e_104 f_105 h_106 e_107 f_108 => ?_)
  have e_109 := (f_102 prepared_ (xw_neC e_82 e_86 (by simp))).trans e_82
  have e_110 := (f_102 texts_ (xw_neC e_83 e_86 (by simp))).trans e_83
  have e_111 := (f_102 sizes_ (xw_neC e_84 e_86 (by simp))).trans e_84
  have e_112 := (f_102 preparedSize_ (xw_neC e_85 e_86 (by simp))).trans e_85
  have e_113 := (f_102 lies_ (Ne.symm n_entries_lies)).trans e_87
  have e_114 := (f_102 live_ (xw_neC e_88 e_86 (by simp))).trans e_88
  have e_115 := (f_102 m (xw_neC e_78 e_86 (by simp))).trans e_78
  have r_116 := r_99.up (by simp) f_102
  have e_117 := (f_105 prepared_ (xw_neC e_109 e_113 (by simp))).trans e_109
  have e_118 := (f_105 texts_ (xw_neC e_110 e_113 (by simp))).trans e_110
  have e_119 := (f_105 sizes_ (xw_neC e_111 e_113 (by simp))).trans e_111
  have e_120 := (f_105 preparedSize_ (xw_neC e_112 e_113 (by simp))).trans e_112
  have e_121 := (f_105 entries_ n_entries_lies).trans e_101
  have e_122 := (f_105 live_ (xw_neC e_114 e_113 (by simp))).trans e_114
  have e_123 := (f_105 m (xw_neC e_115 e_113 (by simp))).trans e_115
  have r_124 := r_116.up (by simp) f_105
  have e_125 := (f_108 prepared_ (xw_neC e_117 e_122 (by simp))).trans e_117
  have e_126 := (f_108 texts_ (xw_neC e_118 e_122 (by simp))).trans e_118
  have e_127 := (f_108 sizes_ (xw_neC e_119 e_122 (by simp))).trans e_119
  have e_128 := (f_108 preparedSize_ (xw_neC e_120 e_122 (by simp))).trans e_120
  have e_129 := (f_108 entries_ (xw_neC e_121 e_122 (by simp))).trans e_121
  have e_130 := (f_108 lies_ (xw_neC e_104 e_122 (by simp))).trans e_104
  have e_131 := (f_108 m (xw_neC e_123 e_122 (by simp))).trans e_123
  have r_132 := r_124.up (by simp) f_108
  refine x_callV (As := []) (b := m) (rest := []) (F1 := 1) (L1 := 20) (mc := 0) (ms := 0) d_Model_gets_112 cV_Model_171 (fm_pending1 l_76 e_131 g_94 g_95 e_129 e_130 n_entries_lies g_97 pk_us pk_us (by omega) (by omega)) e_131 ⟨by decide, rfl⟩ ⟨by omega, by show 8 + (3 + 11) + 20 ≤ _; omega⟩ ⟨by omega, by omega⟩ (Nat.le_of_ble_eq_true rfl) (fun v_134 h_133 p_135 => ?_)
  obtain ⟨rfl, rfl⟩ := p_135
  refine x_le (xw_le_s (xw_le_n (xw_le_s (xw_le_n xw_le_e)))) ?_
  refine s_Model_gets_115 l_76 e_131 g_89 (fun z_136 => ?_) (fun z => absurd z (by decide))
  refine s_Model_gets_126 l_76 e_131 g_94 e_129 (by unfold vp_in; decide) ?_
  exact ⟨⟨_, rfl⟩, ⟨fs_75, l_76, ga_98, e_131⟩, r_132⟩
set_option maxHeartbeats 1000000 in
theorem fm_insert {G : xw_G} {F L : Nat} {h : xw_A} {lf : Nat → Int32} {sizes_ preparedSize_ prepared_ texts_ entries_ lies_ live_ : Nat} {m : Nat} {fs : List Value} (l : fs.length = 62) (e : h m = some (.inr (11, fs))) (g_err : fs[(0 : Nat)]? = some (.int 0)) (g_limit : fs[(2 : Nat)]? = some (.int 20)) (g_versions : fs[(15 : Nat)]? = some (.int 0)) (g_column : fs[(55 : Nat)]? = some (.int 0)) (g_sizes : fs[(8 : Nat)]? = some (.ref sizes_)) (e_sizes : h sizes_ = some (.inl (0, 48, .inl (fun _ => 0)))) (g_preparedSize : fs[(6 : Nat)]? = some (.ref preparedSize_)) (e_preparedSize : h preparedSize_ = some (.inl (0, 2, .inl (fun _ => 0)))) (g_prepared : fs[(5 : Nat)]? = some (.ref prepared_)) (e_prepared : h prepared_ = some (.inl (0, 96, .inl (fun _ => 0)))) (g_texts : fs[(7 : Nat)]? = some (.ref texts_)) (e_texts : h texts_ = some (.inl (0, 2304, .inl (fun _ => 0)))) (g_entries : fs[(12 : Nat)]? = some (.ref entries_)) (e_entries : h entries_ = some (.inl (0, 600, .inl (fun _ => 0)))) (g_lies : fs[(13 : Nat)]? = some (.ref lies_)) (e_lies : h lies_ = some (.inl (0, 600, .inl (fun _ => 0)))) (g_live : fs[(14 : Nat)]? = some (.ref live_)) (e_live : h live_ = some (.inl (0, 24, .inl (lf)))) (n_entries_lies : entries_ ≠ lies_)  (hl : ∀ j, j < 24 → lf j = -1) (hF : 4 ≤ F) (hL : 94 ≤ L) :
    xw_Met G m_Model_insert F L 0 0 [.ref m] h (fun v h' => v = some (.int 1) ∧ MP [m, sizes_, texts_, entries_, lies_, live_] m 0 h h') (fun _ _ => False) := by
  refine xw_Met.of rfl (by decide) (Nat.le_of_ble_eq_true rfl) ?_
  have r0 : FrO [m, sizes_, texts_, entries_, lies_, live_] h h := FrO.rf
  refine s_Model_insert_0 l e ?_
  refine x_u1 (fun h_1 e_2 f_3 => ?_)
  have e_4 := (f_3 sizes_ (xw_neC e_sizes e (by simp))).trans e_sizes
  have e_5 := (f_3 preparedSize_ (xw_neC e_preparedSize e (by simp))).trans e_preparedSize
  have e_6 := (f_3 prepared_ (xw_neC e_prepared e (by simp))).trans e_prepared
  have e_7 := (f_3 texts_ (xw_neC e_texts e (by simp))).trans e_texts
  have e_8 := (f_3 entries_ (xw_neC e_entries e (by simp))).trans e_entries
  have e_9 := (f_3 lies_ (xw_neC e_lies e (by simp))).trans e_lies
  have e_10 := (f_3 live_ (xw_neC e_live e (by simp))).trans e_live
  have r_11 := r0.up (by simp) f_3
  obtain ⟨fs_12, z_13⟩ : ∃ z, z = fs.set 0 (.int 0) := ⟨_, rfl⟩
  rw [← z_13] at e_2
  have l_14 : fs_12.length = 62 := by rw [z_13]; simp only [List.length_set]; exact l
  have g_15 : fs_12[(0 : Nat)]? = some (.int 0) := by rw [z_13]; exact (xw_gs (by simp [l]))
  have g_16 : fs_12[(2 : Nat)]? = some (.int 20) := by rw [z_13]; exact (xw_gn (by decide) g_limit)
  have g_17 : fs_12[(5 : Nat)]? = some (.ref prepared_) := by rw [z_13]; exact (xw_gn (by decide) g_prepared)
  have g_18 : fs_12[(6 : Nat)]? = some (.ref preparedSize_) := by rw [z_13]; exact (xw_gn (by decide) g_preparedSize)
  have g_19 : fs_12[(7 : Nat)]? = some (.ref texts_) := by rw [z_13]; exact (xw_gn (by decide) g_texts)
  have g_20 : fs_12[(8 : Nat)]? = some (.ref sizes_) := by rw [z_13]; exact (xw_gn (by decide) g_sizes)
  have g_21 : fs_12[(12 : Nat)]? = some (.ref entries_) := by rw [z_13]; exact (xw_gn (by decide) g_entries)
  have g_22 : fs_12[(13 : Nat)]? = some (.ref lies_) := by rw [z_13]; exact (xw_gn (by decide) g_lies)
  have g_23 : fs_12[(14 : Nat)]? = some (.ref live_) := by rw [z_13]; exact (xw_gn (by decide) g_live)
  have g_24 : fs_12[(15 : Nat)]? = some (.int 0) := by rw [z_13]; exact (xw_gn (by decide) g_versions)
  have g_25 : fs_12[(55 : Nat)]? = some (.int 0) := by rw [z_13]; exact (xw_gn (by decide) g_column)
  clear z_13
  refine s_Model_insert_7 (fun z => absurd z (by decide)) (fun z_26 => ?_)
  refine s_Model_insert_13 l_14 e_2 g_23 e_10 (by unfold vp_in; decide) (fun z_27 => ?_) (fun z => absurd (by rw [show lf (0 : Int32).toNatClampNeg = -1 from hl 0 (by decide)]; decide) z)
  refine s_Model_insert_28 (fun z_28 => ?_) (fun z => absurd z (by decide))
  refine s_Model_insert_39 ?_
  refine s_Model_insert_40 ?_
  refine x_callV (As := [.int 0, .int 1]) (b := m) (rest := []) (F1 := 1) (L1 := 20) (mc := 0) (ms := 0) d_Model_insert_41 cV_Model_139 (f_fails_no l_14 e_2 g_15 (by omega) (by omega)) e_2 ⟨by decide, rfl⟩ ⟨by omega, by show 8 + (3 + 11) + 20 ≤ _; omega⟩ ⟨by omega, by omega⟩ (Nat.le_of_ble_eq_true rfl) (fun v_30 h_29 p_31 => ?_)
  obtain ⟨rfl, rfl⟩ := p_31
  refine s_Model_insert_44 (fun z_32 => ?_) (fun z => absurd z (by decide))
  refine s_Model_insert_49 ?_
  refine x_callV (As := [.int 0]) (b := m) (rest := []) (F1 := 3) (L1 := 71) (mc := 0) (ms := 0) d_Model_insert_51 cV_Model_178 (fm_gets l_14 e_2 g_16 g_24 g_25 g_20 e_4 g_18 e_5 g_17 e_6 g_19 e_7 g_21 e_8 g_22 e_9 g_23 e_10 n_entries_lies (by omega) (by omega)) e_2 ⟨by decide, rfl⟩ ⟨by omega, by show 8 + (4 + 11) + 71 ≤ _; omega⟩ ⟨by omega, by omega⟩ (Nat.le_of_ble_eq_true rfl) (fun v_38 h_37 p_39 => ?_)
  obtain ⟨⟨_, rfl⟩, ⟨fs_33, l_34, ga_35, e_36⟩, fr_9⟩ := p_39
  have e_40 := fr_9 preparedSize_ _ (by simp only [List.mem_cons, List.not_mem_nil, or_false, not_or]; exact ⟨(xw_neC e_5 e_2 (by simp)), (xw_neC e_5 e_4 (by simp)), (xw_neC e_5 e_7 (by simp)), (xw_neC e_5 e_8 (by simp)), (xw_neC e_5 e_9 (by simp)), (xw_neC e_5 e_10 (by simp))⟩) e_5
  have e_41 := fr_9 prepared_ _ (by simp only [List.mem_cons, List.not_mem_nil, or_false, not_or]; exact ⟨(xw_neC e_6 e_2 (by simp)), (xw_neC e_6 e_4 (by simp)), (xw_neC e_6 e_7 (by simp)), (xw_neC e_6 e_8 (by simp)), (xw_neC e_6 e_9 (by simp)), (xw_neC e_6 e_10 (by simp))⟩) e_6
  have g_42 : fs_33[(0 : Nat)]? = some (.int 0) := (ga_35 0 (by decide)).trans g_15
  have g_43 : fs_33[(2 : Nat)]? = some (.int 20) := (ga_35 2 (by decide)).trans g_16
  have g_44 : fs_33[(5 : Nat)]? = some (.ref prepared_) := (ga_35 5 (by decide)).trans g_17
  have g_45 : fs_33[(6 : Nat)]? = some (.ref preparedSize_) := (ga_35 6 (by decide)).trans g_18
  have g_46 : fs_33[(7 : Nat)]? = some (.ref texts_) := (ga_35 7 (by decide)).trans g_19
  have g_47 : fs_33[(8 : Nat)]? = some (.ref sizes_) := (ga_35 8 (by decide)).trans g_20
  have g_48 : fs_33[(12 : Nat)]? = some (.ref entries_) := (ga_35 12 (by decide)).trans g_21
  have g_49 : fs_33[(13 : Nat)]? = some (.ref lies_) := (ga_35 13 (by decide)).trans g_22
  have g_50 : fs_33[(14 : Nat)]? = some (.ref live_) := (ga_35 14 (by decide)).trans g_23
  have r_51 := r_11.trans (fr_9.mono (by simp))
  refine x_le (xw_le_n (xw_le_s xw_le_e)) ?_
  refine s_Model_insert_54 ?_
  exact ⟨rfl, ⟨fs_33, l_34, e_36, g_42⟩, r_51⟩
set_option maxHeartbeats 400000 in
theorem fm_gathers0 {G : xw_G} {F L : Nat} {h : xw_A} {m : Nat} {fs : List Value} (l : fs.length = 62) (e : h m = some (.inr (11, fs))) (g_made : fs[(16 : Nat)]? = some (.int 0)) (g_versions : fs[(15 : Nat)]? = some (.int 0)) (g_segments : fs[(19 : Nat)]? = some (.int 0)) (hF : 1 ≤ F) (hL : 20 ≤ L) :
    xw_Met G m_Model_gathers F L 0 0 [.ref m, .int (-2), .int 0] h (fun v h' => v = none ∧ ∃ fs' : List Value, fs'[(19 : Nat)]? = some (.int 0) ∧ fs'.length = 62 ∧ (∀ i : Nat, i ∉ [19] → fs'[i]? = fs[i]?) ∧ h' m = some (.inr (11, fs')) ∧ FrO [m] h h') (fun _ _ => False) := by
  refine xw_Met.of rfl (by decide) (Nat.le_of_ble_eq_true rfl) ?_
  have ga0 : ∀ i : Nat, i ∉ [19] → fs[i]? = fs[i]? := fun _ _ => rfl
  have r0 : FrO [m] h h := FrO.rf
  refine s_Model_gathers_0 l e g_made ?_
  refine s_Model_gathers_11 l e g_versions (fun z_1 => ?_) (fun z => absurd z (by decide))
  refine s_Model_gathers_148 ?_
  refine s_Model_gathers_154 l e g_segments (fun z_2 => ?_) (fun z => absurd z (by decide))
  refine s_Model_gathers_212 l e (fun z => absurd z (by decide)) (fun z_3 => ?_)
  refine x_u1 (fun h_4 e_5 f_6 => ?_)
  have r_7 := r0.up (by simp) f_6
  obtain ⟨fs_8, z_9⟩ : ∃ z, z = fs.set 19 (.int 0) := ⟨_, rfl⟩
  rw [← z_9] at e_5
  have l_10 : fs_8.length = 62 := by rw [z_9]; simp only [List.length_set]; exact l
  have g_11 : fs_8[(15 : Nat)]? = some (.int 0) := by rw [z_9]; exact (xw_gn (by decide) g_versions)
  have g_12 : fs_8[(16 : Nat)]? = some (.int 0) := by rw [z_9]; exact (xw_gn (by decide) g_made)
  have g_13 : fs_8[(19 : Nat)]? = some (.int 0) := by rw [z_9]; exact (xw_gs (by simp [l]))
  have ga_14 : ∀ i : Nat, i ∉ [19] → fs_8[i]? = fs[i]? := fun i hi => by rw [z_9]; exact xw_gn (fun z => hi (by rw [z]; simp)) (ga0 i hi)
  clear z_9
  refine s_Model_gathers_223 ?_
  exact ⟨rfl, fs_8, g_13, l_10, ga_14, e_5, r_7⟩
set_option maxHeartbeats 400000 in
theorem fm_flushes0 {G : xw_G} {F L : Nat} {h : xw_A} {m : Nat} {fs : List Value} (l : fs.length = 62) (e : h m = some (.inr (11, fs))) (g_made : fs[(16 : Nat)]? = some (.int 0)) (g_versions : fs[(15 : Nat)]? = some (.int 0)) (g_segments : fs[(19 : Nat)]? = some (.int 0)) (g_most : fs[(1 : Nat)]? = some (.int 3)) (hF : 2 ≤ F) (hL : 47 ≤ L) :
    xw_Met G m_Model_flushes F L 0 0 [.ref m] h (fun v h' => v = none ∧ ∃ fs' : List Value, fs'[(19 : Nat)]? = some (.int 0) ∧ fs'.length = 62 ∧ (∀ i : Nat, i ∉ [19] → fs'[i]? = fs[i]?) ∧ h' m = some (.inr (11, fs')) ∧ FrO [m] h h') (fun _ _ => False) := by
  refine xw_Met.of rfl (by decide) (Nat.le_of_ble_eq_true rfl) ?_
  have ga0 : ∀ i : Nat, i ∉ [19] → fs[i]? = fs[i]? := fun _ _ => rfl
  have r0 : FrO [m] h h := FrO.rf
  refine s_Model_flushes_0 ?_
  refine x_callV (As := [.int ((-2)), .int 0]) (b := m) (rest := []) (F1 := 1) (L1 := 20) (mc := 0) (ms := 0) d_Model_flushes_4 cV_Model_196 (fm_gathers0 l e g_made g_versions g_segments (by omega) (by omega)) e ⟨by decide, rfl⟩ ⟨by omega, by show 8 + (8 + 11) + 20 ≤ _; omega⟩ ⟨by omega, by omega⟩ (Nat.le_of_ble_eq_true rfl) (fun v_7 h_6 p_8 => ?_)
  obtain ⟨rfl, fs_1, g_5, l_2, ga_3, e_4, fr_9⟩ := p_8
  have g_9 : fs_1[(16 : Nat)]? = some (.int 0) := (ga_3 16 (by decide)).trans g_made
  have g_10 : fs_1[(15 : Nat)]? = some (.int 0) := (ga_3 15 (by decide)).trans g_versions
  have g_11 : fs_1[(1 : Nat)]? = some (.int 3) := (ga_3 1 (by decide)).trans g_most
  have ga_12 : ∀ i : Nat, i ∉ [19] → fs_1[i]? = fs[i]? := fun i hi => (ga_3 i (fun z => hi (by simp only [List.mem_cons, List.not_mem_nil, or_false] at z ⊢; omega))).trans (ga0 i hi)
  have r_13 := r0.trans (fr_9.mono (by simp))
  refine s_Model_flushes_7 ?_
  refine s_Model_flushes_9 (fun z => absurd z (by decide)) (fun z_14 => ?_)
  refine s_Model_flushes_14 ?_
  refine s_Model_flushes_18 l_2 e_4 g_5 (fun z_15 => ?_) (fun z => absurd z (by decide))
  refine s_Model_flushes_50 l_2 e_4 g_11 (fun z_16 => ?_) (fun z => absurd z (by decide))
  refine s_Model_flushes_66 ?_
  refine s_Model_flushes_9 (fun z => absurd z (by decide)) (fun z_17 => ?_)
  refine s_Model_flushes_14 ?_
  refine s_Model_flushes_18 l_2 e_4 g_5 (fun z_18 => ?_) (fun z => absurd z (by decide))
  refine s_Model_flushes_50 l_2 e_4 g_11 (fun z_19 => ?_) (fun z => absurd z (by decide))
  refine s_Model_flushes_66 ?_
  refine s_Model_flushes_9 (fun z => absurd z (by decide)) (fun z_20 => ?_)
  refine s_Model_flushes_14 ?_
  refine s_Model_flushes_18 l_2 e_4 g_5 (fun z_21 => ?_) (fun z => absurd z (by decide))
  refine s_Model_flushes_50 l_2 e_4 g_11 (fun z_22 => ?_) (fun z => absurd z (by decide))
  refine s_Model_flushes_66 ?_
  refine s_Model_flushes_9 (fun z => absurd z (by decide)) (fun z_23 => ?_)
  refine s_Model_flushes_14 ?_
  refine s_Model_flushes_18 l_2 e_4 g_5 (fun z_24 => ?_) (fun z => absurd z (by decide))
  refine s_Model_flushes_50 l_2 e_4 g_11 (fun z_25 => ?_) (fun z => absurd z (by decide))
  refine s_Model_flushes_66 ?_
  refine s_Model_flushes_9 (fun z => absurd z (by decide)) (fun z_26 => ?_)
  refine s_Model_flushes_14 ?_
  refine s_Model_flushes_18 l_2 e_4 g_5 (fun z_27 => ?_) (fun z => absurd z (by decide))
  refine s_Model_flushes_50 l_2 e_4 g_11 (fun z_28 => ?_) (fun z => absurd z (by decide))
  refine s_Model_flushes_66 ?_
  refine s_Model_flushes_9 (fun z_29 => ?_) (fun z => absurd z (by decide))
  refine s_Model_flushes_72 ?_
  exact ⟨rfl, fs_1, g_5, l_2, ga_12, e_4, r_13⟩
set_option maxHeartbeats 1000000 in
theorem fm_flush {G : xw_G} {F L : Nat} {h : xw_A} {m : Nat} {fs : List Value} (l : fs.length = 62) (e : h m = some (.inr (11, fs))) (g_err : fs[(0 : Nat)]? = some (.int 0)) (g_made : fs[(16 : Nat)]? = some (.int 0)) (g_versions : fs[(15 : Nat)]? = some (.int 0)) (g_segments : fs[(19 : Nat)]? = some (.int 0)) (g_most : fs[(1 : Nat)]? = some (.int 3)) (hF : 3 ≤ F) (hL : 70 ≤ L) :
    xw_Met G m_Model_flush F L 0 0 [.ref m] h (fun v h' => v = some (.int 0) ∧ MP [m] m 0 h h') (fun _ _ => False) := by
  refine xw_Met.of rfl (by decide) (Nat.le_of_ble_eq_true rfl) ?_
  have r0 : FrO [m] h h := FrO.rf
  refine s_Model_flush_0 l e ?_
  refine x_u1 (fun h_1 e_2 f_3 => ?_)
  have r_4 := r0.up (by simp) f_3
  obtain ⟨fs_5, z_6⟩ : ∃ z, z = fs.set 0 (.int 0) := ⟨_, rfl⟩
  rw [← z_6] at e_2
  have l_7 : fs_5.length = 62 := by rw [z_6]; simp only [List.length_set]; exact l
  have g_8 : fs_5[(0 : Nat)]? = some (.int 0) := by rw [z_6]; exact (xw_gs (by simp [l]))
  have g_9 : fs_5[(1 : Nat)]? = some (.int 3) := by rw [z_6]; exact (xw_gn (by decide) g_most)
  have g_10 : fs_5[(15 : Nat)]? = some (.int 0) := by rw [z_6]; exact (xw_gn (by decide) g_versions)
  have g_11 : fs_5[(16 : Nat)]? = some (.int 0) := by rw [z_6]; exact (xw_gn (by decide) g_made)
  have g_12 : fs_5[(19 : Nat)]? = some (.int 0) := by rw [z_6]; exact (xw_gn (by decide) g_segments)
  clear z_6
  refine x_callV (As := []) (b := m) (rest := []) (F1 := 2) (L1 := 47) (mc := 0) (ms := 0) d_Model_flush_6 cV_Model_175 (fm_flushes0 l_7 e_2 g_11 g_10 g_12 g_9 (by omega) (by omega)) e_2 ⟨by decide, rfl⟩ ⟨by omega, by show 8 + (4 + 11) + 47 ≤ _; omega⟩ ⟨by omega, by omega⟩ (Nat.le_of_ble_eq_true rfl) (fun v_19 h_18 p_20 => ?_)
  obtain ⟨rfl, fs_13, g_17, l_14, ga_15, e_16, fr_9⟩ := p_20
  have g_21 : fs_13[(0 : Nat)]? = some (.int 0) := (ga_15 0 (by decide)).trans g_8
  have g_22 : fs_13[(1 : Nat)]? = some (.int 3) := (ga_15 1 (by decide)).trans g_9
  have g_23 : fs_13[(15 : Nat)]? = some (.int 0) := (ga_15 15 (by decide)).trans g_10
  have g_24 : fs_13[(16 : Nat)]? = some (.int 0) := (ga_15 16 (by decide)).trans g_11
  have r_25 := r_4.trans (fr_9.mono (by simp))
  refine s_Model_flush_9 l_14 e_16 g_17 ?_
  exact ⟨rfl, ⟨fs_13, l_14, e_16, g_21⟩, r_25⟩
set_option maxHeartbeats 400000 in
theorem fm_q0 {G : xw_G} {F L : Nat} {h : xw_A} {m : Nat} {fs : List Value} (l : fs.length = 62) (e : h m = some (.inr (11, fs))) (g_askedSize : fs[(11 : Nat)]? = some (.int 0)) (hF : 1 ≤ F) (hL : 20 ≤ L) :
    xw_Met G m_Model_q F L 0 0 [.ref m, .int 0] h (fun v h' => v = some (.int 0) ∧ h = h') (fun _ _ => False) := by
  refine xw_Met.of rfl (by decide) (Nat.le_of_ble_eq_true rfl) ?_
  refine s_Model_q_0 l e g_askedSize (fun z_1 => ?_) (fun z => absurd z (by decide))
  refine s_Model_q_17 ?_
  refine s_Model_q_18 ?_
  exact ⟨rfl, rfl⟩
set_option maxHeartbeats 400000 in
theorem fm_part0 {G : xw_G} {F L : Nat} {h : xw_A} {m : Nat} {fs : List Value} (l : fs.length = 62) (e : h m = some (.inr (11, fs))) (g_at : fs[(28 : Nat)]? = some (.int 0)) (g_askedSize : fs[(11 : Nat)]? = some (.int 0)) (hF : 2 ≤ F) (hL : 41 ≤ L) :
    xw_Met G m_Model_part F L 0 0 [.ref m] h (fun v h' => v = none ∧ ∃ fs' : List Value, fs'[(28 : Nat)]? = some (.int 0) ∧ fs'[(29 : Nat)]? = some (.int 0) ∧ fs'[(30 : Nat)]? = some (.int 0) ∧ fs'.length = 62 ∧ (∀ i : Nat, i ∉ [28, 29, 30, 31] → fs'[i]? = fs[i]?) ∧ h' m = some (.inr (11, fs')) ∧ FrO [m] h h') (fun _ _ => False) := by
  refine xw_Met.of rfl (by decide) (Nat.le_of_ble_eq_true rfl) ?_
  have ga0 : ∀ i : Nat, i ∉ [28, 29, 30, 31] → fs[i]? = fs[i]? := fun _ _ => rfl
  have r0 : FrO [m] h h := FrO.rf
  refine s_Model_part_0 l e g_at ?_
  refine x_callV (As := [.int 0]) (b := m) (rest := []) (F1 := 1) (L1 := 20) (mc := 0) (ms := 0) d_Model_part_5 cV_Model_221 (fm_q0 l e g_askedSize (by omega) (by omega)) e ⟨by decide, rfl⟩ ⟨by omega, by show 8 + (2 + 11) + 20 ≤ _; omega⟩ ⟨by omega, by omega⟩ (Nat.le_of_ble_eq_true rfl) (fun v_2 h_1 p_3 => ?_)
  obtain ⟨rfl, rfl⟩ := p_3
  refine s_Model_part_8 (fun z_4 => ?_) (fun z => absurd z (by decide))
  refine s_Model_part_26 l e g_at ?_
  rw [xw_up_up]
  refine x_u1 (fun h_5 e_6 f_7 => ?_)
  have r_8 := r0.up (by simp) f_7
  obtain ⟨fs_9, z_10⟩ : ∃ z, z = (fs.set 30 (.int 0)).set 31 (.int (0 + 1)) := ⟨_, rfl⟩
  rw [← z_10] at e_6
  have l_11 : fs_9.length = 62 := by rw [z_10]; simp only [List.length_set]; exact l
  have g_12 : fs_9[(11 : Nat)]? = some (.int 0) := by rw [z_10]; exact (xw_gn (by decide) (xw_gn (by decide) g_askedSize))
  have g_13 : fs_9[(28 : Nat)]? = some (.int 0) := by rw [z_10]; exact (xw_gn (by decide) (xw_gn (by decide) g_at))
  have g_14 : fs_9[(30 : Nat)]? = some (.int 0) := by rw [z_10]; exact (xw_gn (by decide) (xw_gs (by simp [l])))
  have g_15 : fs_9[(31 : Nat)]? = some (.int (0 + 1)) := by rw [z_10]; exact (xw_gs (by simp [l]))
  have ga_16 : ∀ i : Nat, i ∉ [28, 29, 30, 31] → fs_9[i]? = fs[i]? := fun i hi => by rw [z_10]; exact xw_gn (fun z => hi (by rw [z]; simp)) (xw_gn (fun z => hi (by rw [z]; simp)) (ga0 i hi))
  clear z_10
  refine x_callV (As := [.int 0]) (b := m) (rest := []) (F1 := 1) (L1 := 20) (mc := 0) (ms := 0) d_Model_part_49 cV_Model_221 (fm_q0 l_11 e_6 g_12 (by omega) (by omega)) e_6 ⟨by decide, rfl⟩ ⟨by omega, by show 8 + (2 + 11) + 20 ≤ _; omega⟩ ⟨by omega, by omega⟩ (Nat.le_of_ble_eq_true rfl) (fun v_18 h_17 p_19 => ?_)
  obtain ⟨rfl, rfl⟩ := p_19
  refine s_Model_part_52 l_11 e_6 g_13 g_12 (fun z => absurd z (by decide)) (fun z_20 => ?_)
  refine s_Model_part_64 l_11 e_6 g_13 ?_
  rw [xw_up_up]
  refine x_u1 (fun h_21 e_22 f_23 => ?_)
  have r_24 := r_8.up (by simp) f_23
  obtain ⟨fs_25, z_26⟩ : ∃ z, z = (fs_9.set 29 (.int 0)).set 31 (.int 0) := ⟨_, rfl⟩
  rw [← z_26] at e_22
  have l_27 : fs_25.length = 62 := by rw [z_26]; simp only [List.length_set]; exact l_11
  have g_28 : fs_25[(11 : Nat)]? = some (.int 0) := by rw [z_26]; exact (xw_gn (by decide) (xw_gn (by decide) g_12))
  have g_29 : fs_25[(28 : Nat)]? = some (.int 0) := by rw [z_26]; exact (xw_gn (by decide) (xw_gn (by decide) g_13))
  have g_30 : fs_25[(29 : Nat)]? = some (.int 0) := by rw [z_26]; exact (xw_gn (by decide) (xw_gs (by simp [l_11])))
  have g_31 : fs_25[(30 : Nat)]? = some (.int 0) := by rw [z_26]; exact (xw_gn (by decide) (xw_gn (by decide) g_14))
  have g_32 : fs_25[(31 : Nat)]? = some (.int 0) := by rw [z_26]; exact (xw_gs (by simp [l_11]))
  have ga_33 : ∀ i : Nat, i ∉ [28, 29, 30, 31] → fs_25[i]? = fs[i]? := fun i hi => by rw [z_26]; exact xw_gn (fun z => hi (by rw [z]; simp)) (xw_gn (fun z => hi (by rw [z]; simp)) (ga_16 i hi))
  clear z_26
  refine s_Model_part_366 ?_
  exact ⟨rfl, fs_25, g_29, g_30, g_31, l_27, ga_33, e_22, r_24⟩
set_option maxHeartbeats 400000 in
theorem fm_isFilter0 {G : xw_G} {F L : Nat} {h : xw_A} {m : Nat} {fs : List Value} (l : fs.length = 62) (e : h m = some (.inr (11, fs))) (g_kind : fs[(29 : Nat)]? = some (.int 0)) (hF : 1 ≤ F) (hL : 20 ≤ L) :
    xw_Met G m_Model_isFilter F L 0 0 [.ref m] h (fun v h' => v = some (.int 0) ∧ h = h') (fun _ _ => False) := by
  refine xw_Met.of rfl (by decide) (Nat.le_of_ble_eq_true rfl) ?_
  refine s_Model_isFilter_0 l e g_kind (fun z_1 => ?_) (fun z => absurd z (by decide))
  refine s_Model_isFilter_25 ?_
  refine s_Model_isFilter_26 rfl ?_
  exact ⟨rfl, rfl⟩
set_option maxHeartbeats 400000 in
theorem fm_isString0 {G : xw_G} {F L : Nat} {h : xw_A} {m : Nat} {fs : List Value} (l : fs.length = 62) (e : h m = some (.inr (11, fs))) (g_kind : fs[(29 : Nat)]? = some (.int 0)) (hF : 1 ≤ F) (hL : 20 ≤ L) :
    xw_Met G m_Model_isString F L 0 0 [.ref m] h (fun v h' => v = some (.int 0) ∧ h = h') (fun _ _ => False) := by
  refine xw_Met.of rfl (by decide) (Nat.le_of_ble_eq_true rfl) ?_
  refine s_Model_isString_0 l e g_kind (fun z => absurd z (by decide)) (fun z_1 => ?_)
  refine s_Model_isString_8 l e g_kind (fun z_2 => ?_) (fun z => absurd z (by decide))
  refine s_Model_isString_27 ?_
  refine s_Model_isString_28 rfl ?_
  exact ⟨rfl, rfl⟩
set_option maxHeartbeats 400000 in
theorem fm_wrongs_yes {G : xw_G} {F L : Nat} {h : xw_A} {x : Int32} {m : Nat} {fs : List Value} (l : fs.length = 62) (e : h m = some (.inr (11, fs))) (g_bad : fs[(33 : Nat)]? = some (.int (-1))) (hF : 1 ≤ F) (hL : 20 ≤ L) :
    xw_Met G m_Model_wrongs F L 0 0 [.ref m, .int 1, .int x] h (fun v h' => v = none ∧ h' = xw_up h m (.inr (11, fs.set 33 (.int x)))) (fun _ _ => False) := by
  refine xw_Met.of rfl (by decide) (Nat.le_of_ble_eq_true rfl) ?_
  refine s_Model_wrongs_0 (fun z => absurd z (by decide)) (fun z_1 => ?_)
  refine s_Model_wrongs_4 l e g_bad (fun z => absurd z (by decide)) (fun z_2 => ?_)
  refine s_Model_wrongs_11 l e ?_
  refine s_Model_wrongs_16 ?_
  exact ⟨rfl, rfl⟩
set_option maxHeartbeats 400000 in
theorem fm_wrongs_no {G : xw_G} {F L : Nat} {h : xw_A} {x : Int32} {m : Nat} {fs : List Value} (l : fs.length = 62) (e : h m = some (.inr (11, fs))) (hF : 1 ≤ F) (hL : 20 ≤ L) :
    xw_Met G m_Model_wrongs F L 0 0 [.ref m, .int 0, .int x] h (fun v h' => v = none ∧ h = h') (fun _ _ => False) := by
  refine xw_Met.of rfl (by decide) (Nat.le_of_ble_eq_true rfl) ?_
  refine s_Model_wrongs_0 (fun z_1 => ?_) (fun z => absurd z (by decide))
  refine s_Model_wrongs_16 ?_
  exact ⟨rfl, rfl⟩
set_option maxHeartbeats 400000 in
theorem fm_atom0 {G : xw_G} {F L : Nat} {h : xw_A} {m : Nat} {fs : List Value} (l : fs.length = 62) (e : h m = some (.inr (11, fs))) (g_kind : fs[(29 : Nat)]? = some (.int 0)) (g_from : fs[(30 : Nat)]? = some (.int 0)) (g_bad : fs[(33 : Nat)]? = some (.int (-1))) (hF : 2 ≤ F) (hL : 42 ≤ L) :
    xw_Met G m_Model_atom F L 0 0 [.ref m] h (fun v h' => v = none ∧ ∃ fs' : List Value, fs'[(33 : Nat)]? = some (.int 0) ∧ fs'.length = 62 ∧ (∀ i : Nat, i ∉ [33] → fs'[i]? = fs[i]?) ∧ h' m = some (.inr (11, fs')) ∧ FrO [m] h h') (fun _ _ => False) := by
  refine xw_Met.of rfl (by decide) (Nat.le_of_ble_eq_true rfl) ?_
  have ga0 : ∀ i : Nat, i ∉ [33] → fs[i]? = fs[i]? := fun _ _ => rfl
  have r0 : FrO [m] h h := FrO.rf
  refine s_Model_atom_0 l e g_kind (fun z_1 => ?_) (fun z => absurd z (by decide))
  refine s_Model_atom_42 l e g_kind (fun z => absurd z (by decide)) (fun z_2 => ?_)
  refine s_Model_atom_51 ?_
  refine x_callV (As := []) (b := m) (rest := []) (F1 := 1) (L1 := 20) (mc := 0) (ms := 0) d_Model_atom_52 cV_Model_237 (fm_isFilter0 l e g_kind (by omega) (by omega)) e ⟨by decide, rfl⟩ ⟨by omega, by show 8 + (1 + 11) + 20 ≤ _; omega⟩ ⟨by omega, by omega⟩ (Nat.le_of_ble_eq_true rfl) (fun v_4 h_3 p_5 => ?_)
  obtain ⟨rfl, rfl⟩ := p_5
  refine s_Model_atom_55 (fun z_6 => ?_) (fun z => absurd z (by decide))
  refine s_Model_atom_65 l e g_kind (fun z => absurd z (by decide)) (fun z_7 => ?_)
  refine s_Model_atom_74 l e g_kind (fun z => absurd z (by decide)) (fun z_8 => ?_)
  refine s_Model_atom_83 ?_
  refine x_callV (As := []) (b := m) (rest := []) (F1 := 1) (L1 := 20) (mc := 0) (ms := 0) d_Model_atom_84 cV_Model_244 (fm_isString0 l e g_kind (by omega) (by omega)) e ⟨by decide, rfl⟩ ⟨by omega, by show 8 + (1 + 11) + 20 ≤ _; omega⟩ ⟨by omega, by omega⟩ (Nat.le_of_ble_eq_true rfl) (fun v_10 h_9 p_11 => ?_)
  obtain ⟨rfl, rfl⟩ := p_11
  refine s_Model_atom_87 (fun z_12 => ?_) (fun z => absurd z (by decide))
  refine s_Model_atom_102 l e g_from ?_
  refine x_callV (As := [.int 1, .int 0]) (b := m) (rest := []) (F1 := 1) (L1 := 20) (mc := 0) (ms := 0) d_Model_atom_108 cV_Model_250 (fm_wrongs_yes l e g_bad (by omega) (by omega)) e ⟨by decide, rfl⟩ ⟨by omega, by show 8 + (3 + 11) + 20 ≤ _; omega⟩ ⟨by omega, by omega⟩ (Nat.le_of_ble_eq_true rfl) (fun v_14 h_13 p_15 => ?_)
  obtain ⟨rfl, rfl⟩ := p_15
  refine x_u1 (fun h_16 e_17 f_18 => ?_)
  have r_19 := r0.up (by simp) f_18
  obtain ⟨fs_20, z_21⟩ : ∃ z, z = fs.set 33 (.int 0) := ⟨_, rfl⟩
  rw [← z_21] at e_17
  have l_22 : fs_20.length = 62 := by rw [z_21]; simp only [List.length_set]; exact l
  have g_23 : fs_20[(29 : Nat)]? = some (.int 0) := by rw [z_21]; exact (xw_gn (by decide) g_kind)
  have g_24 : fs_20[(30 : Nat)]? = some (.int 0) := by rw [z_21]; exact (xw_gn (by decide) g_from)
  have g_25 : fs_20[(33 : Nat)]? = some (.int 0) := by rw [z_21]; exact (xw_gs (by simp [l]))
  have ga_26 : ∀ i : Nat, i ∉ [33] → fs_20[i]? = fs[i]? := fun i hi => by rw [z_21]; exact xw_gn (fun z => hi (by rw [z]; simp)) (ga0 i hi)
  clear z_21
  refine x_le (xw_le_n xw_le_e) ?_
  refine s_Model_atom_111 ?_
  exact ⟨rfl, fs_20, g_25, l_22, ga_26, e_17, r_19⟩
set_option maxHeartbeats 400000 in
theorem fm_reduces0 {G : xw_G} {F L : Nat} {h : xw_A} {m : Nat} {fs : List Value} (l : fs.length = 62) (e : h m = some (.inr (11, fs))) (g_tops : fs[(38 : Nat)]? = some (.int 0)) (hF : 1 ≤ F) (hL : 20 ≤ L) :
    xw_Met G m_Model_reduces F L 0 0 [.ref m, .int 1] h (fun v h' => v = none ∧ h = h') (fun _ _ => False) := by
  refine xw_Met.of rfl (by decide) (Nat.le_of_ble_eq_true rfl) ?_
  refine s_Model_reduces_0 l e g_tops (fun z_1 => ?_) (fun z => absurd z (by decide))
  refine s_Model_reduces_79 ?_
  exact ⟨rfl, rfl⟩
set_option maxHeartbeats 1000000 in
theorem fm_reads0 {G : xw_G} {F L : Nat} {h : xw_A} {m : Nat} {fs : List Value} (l : fs.length = 62) (e : h m = some (.inr (11, fs))) (g_askedSize : fs[(11 : Nat)]? = some (.int 0)) (hF : 3 ≤ F) (hL : 62 ≤ L) :
    xw_Met G m_Model_reads F L 0 0 [.ref m] h (fun v h' => v = none ∧ ∃ fs' : List Value, fs'[(33 : Nat)]? = some (.int 0) ∧ fs'.length = 62 ∧ (∀ i : Nat, i ∉ [28, 29, 30, 31, 33, 34, 35, 36, 37, 38, 39, 61] → fs'[i]? = fs[i]?) ∧ h' m = some (.inr (11, fs')) ∧ FrO [m] h h') (fun _ _ => False) := by
  refine xw_Met.of rfl (by decide) (Nat.le_of_ble_eq_true rfl) ?_
  have ga0 : ∀ i : Nat, i ∉ [28, 29, 30, 31, 33, 34, 35, 36, 37, 38, 39, 61] → fs[i]? = fs[i]? := fun _ _ => rfl
  have r0 : FrO [m] h h := FrO.rf
  refine s_Model_reads_0 l e ?_
  rw [xw_up_up, xw_up_up, xw_up_up]
  refine x_u1 (fun h_1 e_2 f_3 => ?_)
  have r_4 := r0.up (by simp) f_3
  obtain ⟨fs_5, z_6⟩ : ∃ z, z = (((fs.set 28 (.int 0)).set 33 (.int ((-1)))).set 34 (.int 0)).set 35 (.int 0) := ⟨_, rfl⟩
  rw [← z_6] at e_2
  have l_7 : fs_5.length = 62 := by rw [z_6]; simp only [List.length_set]; exact l
  have g_8 : fs_5[(11 : Nat)]? = some (.int 0) := by rw [z_6]; exact (xw_gn (by decide) (xw_gn (by decide) (xw_gn (by decide) (xw_gn (by decide) g_askedSize))))
  have g_9 : fs_5[(28 : Nat)]? = some (.int 0) := by rw [z_6]; exact (xw_gn (by decide) (xw_gn (by decide) (xw_gn (by decide) (xw_gs (by simp [l])))))
  have g_10 : fs_5[(33 : Nat)]? = some (.int ((-1))) := by rw [z_6]; exact (xw_gn (by decide) (xw_gn (by decide) (xw_gs (by simp [l]))))
  have g_11 : fs_5[(34 : Nat)]? = some (.int 0) := by rw [z_6]; exact (xw_gn (by decide) (xw_gs (by simp [l])))
  have g_12 : fs_5[(35 : Nat)]? = some (.int 0) := by rw [z_6]; exact (xw_gs (by simp [l]))
  have ga_13 : ∀ i : Nat, i ∉ [28, 29, 30, 31, 33, 34, 35, 36, 37, 38, 39, 61] → fs_5[i]? = fs[i]? := fun i hi => by rw [z_6]; exact xw_gn (fun z => hi (by rw [z]; simp)) (xw_gn (fun z => hi (by rw [z]; simp)) (xw_gn (fun z => hi (by rw [z]; simp)) (xw_gn (fun z => hi (by rw [z]; simp)) (ga0 i hi))))
  clear z_6
  refine s_Model_reads_20 l_7 e_2 ?_
  rw [xw_up_up, xw_up_up, xw_up_up]
  refine x_u1 (fun h_14 e_15 f_16 => ?_)
  have r_17 := r_4.up (by simp) f_16
  obtain ⟨fs_18, z_19⟩ : ∃ z, z = (((fs_5.set 36 (.int 0)).set 37 (.int 0)).set 38 (.int 0)).set 39 (.int 3) := ⟨_, rfl⟩
  rw [← z_19] at e_15
  have l_20 : fs_18.length = 62 := by rw [z_19]; simp only [List.length_set]; exact l_7
  have g_21 : fs_18[(11 : Nat)]? = some (.int 0) := by rw [z_19]; exact (xw_gn (by decide) (xw_gn (by decide) (xw_gn (by decide) (xw_gn (by decide) g_8))))
  have g_22 : fs_18[(28 : Nat)]? = some (.int 0) := by rw [z_19]; exact (xw_gn (by decide) (xw_gn (by decide) (xw_gn (by decide) (xw_gn (by decide) g_9))))
  have g_23 : fs_18[(33 : Nat)]? = some (.int ((-1))) := by rw [z_19]; exact (xw_gn (by decide) (xw_gn (by decide) (xw_gn (by decide) (xw_gn (by decide) g_10))))
  have g_24 : fs_18[(34 : Nat)]? = some (.int 0) := by rw [z_19]; exact (xw_gn (by decide) (xw_gn (by decide) (xw_gn (by decide) (xw_gn (by decide) g_11))))
  have g_25 : fs_18[(35 : Nat)]? = some (.int 0) := by rw [z_19]; exact (xw_gn (by decide) (xw_gn (by decide) (xw_gn (by decide) (xw_gn (by decide) g_12))))
  have g_26 : fs_18[(36 : Nat)]? = some (.int 0) := by rw [z_19]; exact (xw_gn (by decide) (xw_gn (by decide) (xw_gn (by decide) (xw_gs (by simp [l_7])))))
  have g_27 : fs_18[(37 : Nat)]? = some (.int 0) := by rw [z_19]; exact (xw_gn (by decide) (xw_gn (by decide) (xw_gs (by simp [l_7]))))
  have g_28 : fs_18[(38 : Nat)]? = some (.int 0) := by rw [z_19]; exact (xw_gn (by decide) (xw_gs (by simp [l_7])))
  have g_29 : fs_18[(39 : Nat)]? = some (.int 3) := by rw [z_19]; exact (xw_gs (by simp [l_7]))
  have ga_30 : ∀ i : Nat, i ∉ [28, 29, 30, 31, 33, 34, 35, 36, 37, 38, 39, 61] → fs_18[i]? = fs[i]? := fun i hi => by rw [z_19]; exact xw_gn (fun z => hi (by rw [z]; simp)) (xw_gn (fun z => hi (by rw [z]; simp)) (xw_gn (fun z => hi (by rw [z]; simp)) (xw_gn (fun z => hi (by rw [z]; simp)) (ga_13 i hi))))
  clear z_19
  refine s_Model_reads_40 l_20 e_15 ?_
  refine x_u1 (fun h_31 e_32 f_33 => ?_)
  have r_34 := r_17.up (by simp) f_33
  obtain ⟨fs_35, z_36⟩ : ∃ z, z = fs_18.set 61 (.int 0) := ⟨_, rfl⟩
  rw [← z_36] at e_32
  have l_37 : fs_35.length = 62 := by rw [z_36]; simp only [List.length_set]; exact l_20
  have g_38 : fs_35[(11 : Nat)]? = some (.int 0) := by rw [z_36]; exact (xw_gn (by decide) g_21)
  have g_39 : fs_35[(28 : Nat)]? = some (.int 0) := by rw [z_36]; exact (xw_gn (by decide) g_22)
  have g_40 : fs_35[(33 : Nat)]? = some (.int ((-1))) := by rw [z_36]; exact (xw_gn (by decide) g_23)
  have g_41 : fs_35[(34 : Nat)]? = some (.int 0) := by rw [z_36]; exact (xw_gn (by decide) g_24)
  have g_42 : fs_35[(35 : Nat)]? = some (.int 0) := by rw [z_36]; exact (xw_gn (by decide) g_25)
  have g_43 : fs_35[(36 : Nat)]? = some (.int 0) := by rw [z_36]; exact (xw_gn (by decide) g_26)
  have g_44 : fs_35[(37 : Nat)]? = some (.int 0) := by rw [z_36]; exact (xw_gn (by decide) g_27)
  have g_45 : fs_35[(38 : Nat)]? = some (.int 0) := by rw [z_36]; exact (xw_gn (by decide) g_28)
  have g_46 : fs_35[(39 : Nat)]? = some (.int 3) := by rw [z_36]; exact (xw_gn (by decide) g_29)
  have g_47 : fs_35[(61 : Nat)]? = some (.int 0) := by rw [z_36]; exact (xw_gs (by simp [l_20]))
  have ga_48 : ∀ i : Nat, i ∉ [28, 29, 30, 31, 33, 34, 35, 36, 37, 38, 39, 61] → fs_35[i]? = fs[i]? := fun i hi => by rw [z_36]; exact xw_gn (fun z => hi (by rw [z]; simp)) (ga_30 i hi)
  clear z_36
  refine x_callV (As := []) (b := m) (rest := []) (F1 := 2) (L1 := 41) (mc := 0) (ms := 0) d_Model_reads_46 cV_Model_234 (fm_part0 l_37 e_32 g_39 g_38 (by omega) (by omega)) e_32 ⟨by decide, rfl⟩ ⟨by omega, by show 8 + (2 + 11) + 41 ≤ _; omega⟩ ⟨by omega, by omega⟩ (Nat.le_of_ble_eq_true rfl) (fun v_57 h_56 p_58 => ?_)
  obtain ⟨rfl, fs_49, g_53, g_54, g_55, l_50, ga_51, e_52, fr_9⟩ := p_58
  have g_59 : fs_49[(11 : Nat)]? = some (.int 0) := (ga_51 11 (by decide)).trans g_38
  have g_60 : fs_49[(33 : Nat)]? = some (.int ((-1))) := (ga_51 33 (by decide)).trans g_40
  have g_61 : fs_49[(34 : Nat)]? = some (.int 0) := (ga_51 34 (by decide)).trans g_41
  have g_62 : fs_49[(35 : Nat)]? = some (.int 0) := (ga_51 35 (by decide)).trans g_42
  have g_63 : fs_49[(36 : Nat)]? = some (.int 0) := (ga_51 36 (by decide)).trans g_43
  have g_64 : fs_49[(37 : Nat)]? = some (.int 0) := (ga_51 37 (by decide)).trans g_44
  have g_65 : fs_49[(38 : Nat)]? = some (.int 0) := (ga_51 38 (by decide)).trans g_45
  have g_66 : fs_49[(39 : Nat)]? = some (.int 3) := (ga_51 39 (by decide)).trans g_46
  have g_67 : fs_49[(61 : Nat)]? = some (.int 0) := (ga_51 61 (by decide)).trans g_47
  have ga_68 : ∀ i : Nat, i ∉ [28, 29, 30, 31, 33, 34, 35, 36, 37, 38, 39, 61] → fs_49[i]? = fs[i]? := fun i hi => (ga_51 i (fun z => hi (by simp only [List.mem_cons, List.not_mem_nil, or_false] at z ⊢; omega))).trans (ga_48 i hi)
  have r_69 := r_34.trans (fr_9.mono (by simp))
  refine s_Model_reads_49 l_50 e_52 g_60 (fun z => absurd z (by decide)) (fun z_70 => ?_)
  refine s_Model_reads_56 l_50 e_52 g_54 (fun z => absurd z (by decide)) (fun z_71 => ?_)
  refine s_Model_reads_63 l_50 e_52 g_67 (fun z => absurd z (by decide)) (fun z_72 => ?_)
  refine s_Model_reads_70 l_50 e_52 g_67 (fun z_73 => ?_) (fun z => absurd z (by decide))
  refine s_Model_reads_84 ?_
  refine x_callV (As := []) (b := m) (rest := []) (F1 := 2) (L1 := 42) (mc := 0) (ms := 0) d_Model_reads_85 cV_Model_306 (fm_atom0 l_50 e_52 g_54 g_55 g_60 (by omega) (by omega)) e_52 ⟨by decide, rfl⟩ ⟨by omega, by show 8 + (1 + 11) + 42 ≤ _; omega⟩ ⟨by omega, by omega⟩ (Nat.le_of_ble_eq_true rfl) (fun v_80 h_79 p_81 => ?_)
  obtain ⟨rfl, fs_74, g_78, l_75, ga_76, e_77, fr_9⟩ := p_81
  have g_82 : fs_74[(11 : Nat)]? = some (.int 0) := (ga_76 11 (by decide)).trans g_59
  have g_83 : fs_74[(34 : Nat)]? = some (.int 0) := (ga_76 34 (by decide)).trans g_61
  have g_84 : fs_74[(35 : Nat)]? = some (.int 0) := (ga_76 35 (by decide)).trans g_62
  have g_85 : fs_74[(36 : Nat)]? = some (.int 0) := (ga_76 36 (by decide)).trans g_63
  have g_86 : fs_74[(37 : Nat)]? = some (.int 0) := (ga_76 37 (by decide)).trans g_64
  have g_87 : fs_74[(38 : Nat)]? = some (.int 0) := (ga_76 38 (by decide)).trans g_65
  have g_88 : fs_74[(39 : Nat)]? = some (.int 3) := (ga_76 39 (by decide)).trans g_66
  have g_89 : fs_74[(61 : Nat)]? = some (.int 0) := (ga_76 61 (by decide)).trans g_67
  have g_90 : fs_74[(28 : Nat)]? = some (.int 0) := (ga_76 28 (by decide)).trans g_53
  have g_91 : fs_74[(29 : Nat)]? = some (.int 0) := (ga_76 29 (by decide)).trans g_54
  have g_92 : fs_74[(30 : Nat)]? = some (.int 0) := (ga_76 30 (by decide)).trans g_55
  have ga_93 : ∀ i : Nat, i ∉ [28, 29, 30, 31, 33, 34, 35, 36, 37, 38, 39, 61] → fs_74[i]? = fs[i]? := fun i hi => (ga_76 i (fun z => hi (by simp only [List.mem_cons, List.not_mem_nil, or_false] at z ⊢; omega))).trans (ga_68 i hi)
  have r_94 := r_69.trans (fr_9.mono (by simp))
  refine s_Model_reads_88 ?_
  refine s_Model_reads_49 l_75 e_77 g_78 (fun z_95 => ?_) (fun z => absurd z (by decide))
  refine s_Model_reads_91 ?_
  refine x_callV (As := [.int 1]) (b := m) (rest := []) (F1 := 1) (L1 := 20) (mc := 0) (ms := 0) d_Model_reads_93 cV_Model_281 (fm_reduces0 l_75 e_77 g_87 (by omega) (by omega)) e_77 ⟨by decide, rfl⟩ ⟨by omega, by show 8 + (2 + 11) + 20 ≤ _; omega⟩ ⟨by omega, by omega⟩ (Nat.le_of_ble_eq_true rfl) (fun v_97 h_96 p_98 => ?_)
  obtain ⟨rfl, rfl⟩ := p_98
  refine s_Model_reads_96 l_75 e_77 g_87 (fun z_99 => ?_) (fun z => absurd z (by decide))
  refine s_Model_reads_108 ?_
  refine s_Model_reads_109 l_75 e_77 g_82 ?_
  refine x_callV (As := [.int 0, .int 0]) (b := m) (rest := []) (F1 := 1) (L1 := 20) (mc := 0) (ms := 0) d_Model_reads_113 cV_Model_250 (fm_wrongs_no l_75 e_77 (by omega) (by omega)) e_77 ⟨by decide, rfl⟩ ⟨by omega, by show 8 + (3 + 11) + 20 ≤ _; omega⟩ ⟨by omega, by omega⟩ (Nat.le_of_ble_eq_true rfl) (fun v_101 h_100 p_102 => ?_)
  obtain ⟨rfl, rfl⟩ := p_102
  refine x_le (xw_le_n xw_le_e) ?_
  refine s_Model_reads_116 ?_
  exact ⟨rfl, fs_74, g_78, l_75, ga_93, e_77, r_94⟩
set_option maxHeartbeats 1000000 in
theorem fm_ask {G : xw_G} {F L : Nat} {h : xw_A} {m : Nat} {fs : List Value} (l : fs.length = 62) (e : h m = some (.inr (11, fs))) (g_err : fs[(0 : Nat)]? = some (.int 0)) (g_drafted : fs[(10 : Nat)]? = some (.int 0)) (g_askedSize : fs[(11 : Nat)]? = some (.int 0)) (hF : 4 ≤ F) (hL : 82 ≤ L) :
    xw_Met G m_Model_ask F L 0 0 [.ref m] h (fun v h' => v = some (.int 0) ∧ MP [m] m 1 h h') (fun _ _ => False) := by
  refine xw_Met.of rfl (by decide) (Nat.le_of_ble_eq_true rfl) ?_
  have r0 : FrO [m] h h := FrO.rf
  refine s_Model_ask_0 l e ?_
  refine x_u1 (fun h_1 e_2 f_3 => ?_)
  have r_4 := r0.up (by simp) f_3
  obtain ⟨fs_5, z_6⟩ : ∃ z, z = fs.set 0 (.int 0) := ⟨_, rfl⟩
  rw [← z_6] at e_2
  have l_7 : fs_5.length = 62 := by rw [z_6]; simp only [List.length_set]; exact l
  have g_8 : fs_5[(0 : Nat)]? = some (.int 0) := by rw [z_6]; exact (xw_gs (by simp [l]))
  have g_9 : fs_5[(10 : Nat)]? = some (.int 0) := by rw [z_6]; exact (xw_gn (by decide) g_drafted)
  have g_10 : fs_5[(11 : Nat)]? = some (.int 0) := by rw [z_6]; exact (xw_gn (by decide) g_askedSize)
  clear z_6
  refine s_Model_ask_7 l_7 e_2 g_9 (fun z_11 => ?_) (fun z => absurd z (by decide))
  refine s_Model_ask_33 l_7 e_2 g_9 ?_
  rw [xw_up_up]
  refine x_u1 (fun h_12 e_13 f_14 => ?_)
  have r_15 := r_4.up (by simp) f_14
  obtain ⟨fs_16, z_17⟩ : ∃ z, z = (fs_5.set 11 (.int 0)).set 10 (.int 0) := ⟨_, rfl⟩
  rw [← z_17] at e_13
  have l_18 : fs_16.length = 62 := by rw [z_17]; simp only [List.length_set]; exact l_7
  have g_19 : fs_16[(0 : Nat)]? = some (.int 0) := by rw [z_17]; exact (xw_gn (by decide) (xw_gn (by decide) g_8))
  have g_20 : fs_16[(10 : Nat)]? = some (.int 0) := by rw [z_17]; exact (xw_gs (by simp [l_7]))
  have g_21 : fs_16[(11 : Nat)]? = some (.int 0) := by rw [z_17]; exact (xw_gn (by decide) (xw_gs (by simp [l_7])))
  clear z_17
  refine x_callV (As := []) (b := m) (rest := []) (F1 := 3) (L1 := 62) (mc := 0) (ms := 0) d_Model_ask_47 cV_Model_354 (fm_reads0 l_18 e_13 g_21 (by omega) (by omega)) e_13 ⟨by decide, rfl⟩ ⟨by omega, by show 8 + (1 + 11) + 62 ≤ _; omega⟩ ⟨by omega, by omega⟩ (Nat.le_of_ble_eq_true rfl) (fun v_28 h_27 p_29 => ?_)
  obtain ⟨rfl, fs_22, g_26, l_23, ga_24, e_25, fr_9⟩ := p_29
  have g_30 : fs_22[(0 : Nat)]? = some (.int 0) := (ga_24 0 (by decide)).trans g_19
  have g_31 : fs_22[(10 : Nat)]? = some (.int 0) := (ga_24 10 (by decide)).trans g_20
  have g_32 : fs_22[(11 : Nat)]? = some (.int 0) := (ga_24 11 (by decide)).trans g_21
  have r_33 := r_15.trans (fr_9.mono (by simp))
  refine s_Model_ask_50 l_23 e_25 g_26 (fun z => absurd z (by decide)) (fun z_34 => ?_)
  refine x_u1 (fun h_35 e_36 f_37 => ?_)
  have r_38 := r_33.up (by simp) f_37
  obtain ⟨fs_39, z_40⟩ : ∃ z, z = fs_22.set 32 (.int 0) := ⟨_, rfl⟩
  rw [← z_40] at e_36
  have l_41 : fs_39.length = 62 := by rw [z_40]; simp only [List.length_set]; exact l_23
  have g_42 : fs_39[(0 : Nat)]? = some (.int 0) := by rw [z_40]; exact (xw_gn (by decide) g_30)
  have g_43 : fs_39[(10 : Nat)]? = some (.int 0) := by rw [z_40]; exact (xw_gn (by decide) g_31)
  have g_44 : fs_39[(11 : Nat)]? = some (.int 0) := by rw [z_40]; exact (xw_gn (by decide) g_32)
  have g_45 : fs_39[(32 : Nat)]? = some (.int 0) := by rw [z_40]; exact (xw_gs (by simp [l_23]))
  have g_46 : fs_39[(33 : Nat)]? = some (.int 0) := by rw [z_40]; exact (xw_gn (by decide) g_26)
  clear z_40
  refine s_Model_ask_66 ?_
  refine s_Model_ask_71 ?_
  refine x_callV (As := [.int 1, .int 1]) (b := m) (rest := []) (F1 := 1) (L1 := 20) (mc := 0) (ms := 0) d_Model_ask_72 cV_Model_139 (f_fails_yes (c := 1) (by decide) l_41 e_36 g_42 (by omega) (by omega)) e_36 ⟨by decide, rfl⟩ ⟨by omega, by show 8 + (3 + 11) + 20 ≤ _; omega⟩ ⟨by omega, by omega⟩ (Nat.le_of_ble_eq_true rfl) (fun v_48 h_47 p_49 => ?_)
  obtain ⟨rfl, rfl⟩ := p_49
  refine x_u1 (fun h_50 e_51 f_52 => ?_)
  have r_53 := r_38.up (by simp) f_52
  obtain ⟨fs_54, z_55⟩ : ∃ z, z = fs_39.set 0 (.int 1) := ⟨_, rfl⟩
  rw [← z_55] at e_51
  have l_56 : fs_54.length = 62 := by rw [z_55]; simp only [List.length_set]; exact l_41
  have g_57 : fs_54[(0 : Nat)]? = some (.int 1) := by rw [z_55]; exact (xw_gs (by simp [l_41]))
  have g_58 : fs_54[(10 : Nat)]? = some (.int 0) := by rw [z_55]; exact (xw_gn (by decide) g_43)
  have g_59 : fs_54[(11 : Nat)]? = some (.int 0) := by rw [z_55]; exact (xw_gn (by decide) g_44)
  have g_60 : fs_54[(32 : Nat)]? = some (.int 0) := by rw [z_55]; exact (xw_gn (by decide) g_45)
  have g_61 : fs_54[(33 : Nat)]? = some (.int 0) := by rw [z_55]; exact (xw_gn (by decide) g_46)
  clear z_55
  refine s_Model_ask_75 (fun z => absurd z (by decide)) (fun z_62 => ?_)
  refine s_Model_ask_78 ?_
  exact ⟨rfl, ⟨fs_54, l_56, e_51, g_57⟩, r_53⟩
set_option maxHeartbeats 2000000 in
theorem lp_mlet {G : xw_G} {F L bc bs : Nat} {pr : Option Value → xw_A → Prop} {px : String → xw_A → Prop} {h : xw_A} {m : Nat} {w : Int64} {fs : List Value} (l : fs.length = 62) (e : h m = some (.inr (11, fs))) (g : fs[(0 : Nat)]? = some (.int 0)) (hF : 2 ≤ F) (hL : 60 ≤ L)
    (kN : ∀ n : Nat, ltr (oct w) 8 0 = some n → xw G m_Model_letters F L bc bs pr px 83 [some (.ref m), some (.long w), none, some (.int (nI n)), none, none] [] h)
    (kE : ltr (oct w) 8 0 = none → pr (some (.int 0)) (xw_up h m (.inr (11, fs.set 0 (.int 1))))) :
    ∀ d i : Nat, i + d = 8 → ltr (oct w) d i = ltr (oct w) 8 0 → xw G m_Model_letters F L bc bs pr px 10 [some (.ref m), some (.long w), none, some (.int (nI i)), some (.int (nI i)), none] [] h := by
  intro d
  induction d with
  | zero =>
    intro i hi hl
    obtain rfl : i = 8 := by omega
    refine s_Model_letters_10 (fun _ => ?_) (fun z => absurd z (by decide))
    exact kN 8 hl.symm
  | succ d ih =>
    intro i hi hl
    have hoc : ((((w.toUInt64 >>> ((8 * nI i).toInt64.toUInt64 &&& Int64.toUInt64 63)).toInt64) &&& 255).toInt32) = oct w i := octM _
    refine s_Model_letters_10 (fun z => absurd z (nI_ge (b := 8) (show i < 8 by omega) (by decide))) (fun _ => ?_)
    refine s_Model_letters_17 (fun z => absurd rfl z) (fun _ => ?_)
    refine s_Model_letters_23 (fun z => ?_) (fun z => ?_)
    · rw [hoc] at z ⊢
      refine s_Model_letters_59 ?_
      refine s_Model_letters_60 ?_
      refine x_callV (As := [.int 0, .int 1]) (b := m) (rest := []) (F1 := 1) (L1 := 20) (mc := 0) (ms := 0) d_Model_letters_61 cV_Model_139 (f_fails_no l e g (by omega) (by omega)) e ⟨by decide, rfl⟩ ⟨by omega, by show 8 + (3 + 11) + 20 ≤ _; omega⟩ ⟨by omega, by omega⟩ (Nat.le_of_ble_eq_true rfl) (fun v h1 p => ?_)
      obtain ⟨rfl, rfl⟩ := p
      refine s_Model_letters_64 (fun _ => ?_) (fun z => absurd rfl z)
      refine s_Model_letters_69 (fun _ => ?_) (fun z9 => absurd z z9)
      refine s_Model_letters_77 ?_
      have hk := kN i (by rw [← hl]; exact ltr_0 z)
      refine s_Model_letters_10 (fun _ => hk) (fun _ => ?_)
      refine s_Model_letters_17 (fun _ => hk) (fun z9 => absurd z9 (by rw [nI_1, nI_eq (by omega) (by omega)]; omega))
    · rw [hoc] at z ⊢
      refine s_Model_letters_43 ?_
      by_cases hn : oct w i < 32 ∨ 126 < oct w i
      · refine x_callS (As := [.int (oct w i), .int 32, .int 126]) (rest := [.ref m]) (F1 := 1) (L1 := 20) (mc := 0) (ms := 0) d_Model_letters_49 cS_Model_133 (f_in_no hn (by omega) (by omega)) ⟨by omega, by show 8 + (3 + 11) + 20 ≤ _; omega⟩ ⟨by omega, by omega⟩ (Nat.le_of_ble_eq_true rfl) (fun v h1 p => ?_)
        obtain ⟨rfl, rfl⟩ := p
        refine s_Model_letters_52 (fun z => absurd rfl z) (fun _ => ?_)
        refine s_Model_letters_55 ?_
        refine s_Model_letters_60 ?_
        refine x_callV (As := [.int 1, .int 1]) (b := m) (rest := []) (F1 := 1) (L1 := 20) (mc := 0) (ms := 0) d_Model_letters_61 cV_Model_139 (f_fails_yes (by decide) l e g (by omega) (by omega)) e ⟨by decide, rfl⟩ ⟨by omega, by show 8 + (3 + 11) + 20 ≤ _; omega⟩ ⟨by omega, by omega⟩ (Nat.le_of_ble_eq_true rfl) (fun v h1 p => ?_)
        obtain ⟨rfl, rfl⟩ := p
        refine s_Model_letters_64 (fun z => absurd z (by decide)) (fun _ => ?_)
        refine s_Model_letters_67 ?_
        exact kE (by rw [← hl]; exact ltr_n z hn)
      · have hn2 := hn
        rw [not_or] at hn2
        refine x_callS (As := [.int (oct w i), .int 32, .int 126]) (rest := [.ref m]) (F1 := 1) (L1 := 20) (mc := 0) (ms := 0) d_Model_letters_49 cS_Model_133 (f_in_yes hn2.1 hn2.2 (by omega) (by omega)) ⟨by omega, by show 8 + (3 + 11) + 20 ≤ _; omega⟩ ⟨by omega, by omega⟩ (Nat.le_of_ble_eq_true rfl) (fun v h1 p => ?_)
        obtain ⟨rfl, rfl⟩ := p
        refine s_Model_letters_52 (fun _ => ?_) (fun z => absurd z (by decide))
        refine s_Model_letters_59 ?_
        refine s_Model_letters_60 ?_
        refine x_callV (As := [.int 0, .int 1]) (b := m) (rest := []) (F1 := 1) (L1 := 20) (mc := 0) (ms := 0) d_Model_letters_61 cV_Model_139 (f_fails_no l e g (by omega) (by omega)) e ⟨by decide, rfl⟩ ⟨by omega, by show 8 + (3 + 11) + 20 ≤ _; omega⟩ ⟨by omega, by omega⟩ (Nat.le_of_ble_eq_true rfl) (fun v h1 p => ?_)
        obtain ⟨rfl, rfl⟩ := p
        refine s_Model_letters_64 (fun _ => ?_) (fun z => absurd rfl z)
        refine s_Model_letters_69 (fun z9 => absurd z9 z) (fun _ => ?_)
        refine s_Model_letters_74 ?_
        refine s_Model_letters_77 ?_
        rw [nI_1]
        exact ih (i + 1) (by omega) (by rw [← hl]; exact (ltr_s z hn).symm)
set_option maxHeartbeats 1000000 in
theorem fm_letters_no {G : xw_G} {F L : Nat} {h : xw_A} {w : Int64} {m : Nat} {fs : List Value} (l : fs.length = 62) (e : h m = some (.inr (11, fs))) (g_err : fs[(0 : Nat)]? = some (.int 0)) (g_drafted : fs[(10 : Nat)]? = some (.int 0))  (hN : ltr (oct w) 8 0 = none ∨ ltr (oct w) 8 0 = some 0) (hF : 2 ≤ F) (hL : 60 ≤ L) :
    xw_Met G m_Model_letters F L 0 0 [.ref m, .long w] h (fun v h' => v = some (.int 0) ∧ MP [m] m 1 h h') (fun _ _ => False) := by
  refine xw_Met.of rfl (by decide) (Nat.le_of_ble_eq_true rfl) ?_
  have r0 : FrO [m] h h := FrO.rf
  refine s_Model_letters_0 l e ?_
  refine x_u1 (fun h_1 e_2 f_3 => ?_)
  have r_4 := r0.up (by simp) f_3
  obtain ⟨fs_5, z_6⟩ : ∃ z, z = fs.set 0 (.int 0) := ⟨_, rfl⟩
  rw [← z_6] at e_2
  have l_7 : fs_5.length = 62 := by rw [z_6]; simp only [List.length_set]; exact l
  have g_8 : fs_5[(0 : Nat)]? = some (.int 0) := by rw [z_6]; exact (xw_gs (by simp [l]))
  have g_9 : fs_5[(10 : Nat)]? = some (.int 0) := by rw [z_6]; exact (xw_gn (by decide) g_drafted)
  clear z_6
  refine lp_mlet l_7 e_2 g_8 (by omega) (by omega) (fun n_10 q_11 => ?_) (fun q_11 => ?_) 8 0 rfl rfl
  · skip
    obtain rfl : n_10 = 0 := by rcases hN with q | q <;> rw [q] at q_11 <;> first | (cases q_11; rfl) | cases q_11
    show xw G m_Model_letters F L _ _ _ _ 83 [some (.ref m), some (.long w), none, some (.int 0), none, none] [] _
    refine s_Model_letters_83 (fun z => absurd z (by decide)) (fun z_12 => ?_)
    refine s_Model_letters_88 ?_
    refine s_Model_letters_93 ?_
    refine x_callV (As := [.int 1, .int 1]) (b := m) (rest := []) (F1 := 1) (L1 := 20) (mc := 0) (ms := 0) d_Model_letters_94 cV_Model_139 (f_fails_yes (c := 1) (by decide) l_7 e_2 g_8 (by omega) (by omega)) e_2 ⟨by decide, rfl⟩ ⟨by omega, by show 8 + (3 + 11) + 20 ≤ _; omega⟩ ⟨by omega, by omega⟩ (Nat.le_of_ble_eq_true rfl) (fun v_14 h_13 p_15 => ?_)
    obtain ⟨rfl, rfl⟩ := p_15
    refine x_u1 (fun h_16 e_17 f_18 => ?_)
    have r_19 := r_4.up (by simp) f_18
    obtain ⟨fs_20, z_21⟩ : ∃ z, z = fs_5.set 0 (.int 1) := ⟨_, rfl⟩
    rw [← z_21] at e_17
    have l_22 : fs_20.length = 62 := by rw [z_21]; simp only [List.length_set]; exact l_7
    have g_23 : fs_20[(0 : Nat)]? = some (.int 1) := by rw [z_21]; exact (xw_gs (by simp [l_7]))
    have g_24 : fs_20[(10 : Nat)]? = some (.int 0) := by rw [z_21]; exact (xw_gn (by decide) g_9)
    clear z_21
    refine s_Model_letters_97 (fun z_25 => ?_) (fun z => absurd z (by decide))
    refine s_Model_letters_124 ?_
    exact ⟨rfl, ⟨fs_20, l_22, e_17, g_23⟩, r_19⟩
  · skip
    obtain ⟨h_26, z_29⟩ : ∃ z, z = xw_up h_1 m (.inr (11, fs_5.set 0 (.int 1))) := ⟨_, rfl⟩
    rw [← z_29]
    have e_27 : h_26 m = some (.inr (11, fs_5.set 0 (.int 1))) := by rw [z_29]; exact xw_up_s _ _ _
    have f_28 : ∀ q, q ≠ m → h_26 q = h_1 q := fun q hq => by rw [z_29]; exact xw_up_n _ _ hq
    clear z_29
    have r_30 := r_4.up (by simp) f_28
    obtain ⟨fs_31, z_32⟩ : ∃ z, z = fs_5.set 0 (.int 1) := ⟨_, rfl⟩
    rw [← z_32] at e_27
    have l_33 : fs_31.length = 62 := by rw [z_32]; simp only [List.length_set]; exact l_7
    have g_34 : fs_31[(0 : Nat)]? = some (.int 1) := by rw [z_32]; exact (xw_gs (by simp [l_7]))
    have g_35 : fs_31[(10 : Nat)]? = some (.int 0) := by rw [z_32]; exact (xw_gn (by decide) g_9)
    clear z_32
    exact ⟨rfl, ⟨fs_31, l_33, e_27, g_34⟩, r_30⟩
set_option maxHeartbeats 1000000 in
theorem lp_mcpy {G : xw_G} {F L bc bs : Nat} {pr : Option Value → xw_A → Prop} {px : String → xw_A → Prop} {h0 : xw_A} {n : Nat} {w : Int64} {draft_ : Nat} {m : Nat} {fs : List Value} (l : fs.length = 62) (g_drafted : fs[(10 : Nat)]? = some (.int 0)) (g_draft : fs[(3 : Nat)]? = some (.ref draft_)) (hn : n < 8) 
    (k : ∀ (h : xw_A) (f_draft : Nat → Int32), h m = some (.inr (11, fs)) → h draft_ = some (.inl (0, 96, .inl (f_draft))) → FrO [draft_] h0 h → xw G m_Model_letters F L bc bs pr px 165 [some (.ref m), none, none, some (.int (nI (n + 1))), none, none] [] h) :
    ∀ (d i : Nat) (h : xw_A) (f_draft : Nat → Int32), i + d = (n + 1) → h m = some (.inr (11, fs)) → h draft_ = some (.inl (0, 96, .inl (f_draft))) → FrO [draft_] h0 h → xw G m_Model_letters F L bc bs pr px 129 [some (.ref m), some (.long w), none, some (.int (nI (n + 1))), some (.int (nI i)), none] [] h := by
  intro d
  induction d with
  | zero =>
    intro i h f_draft hi e e_draft r0
    obtain rfl : i = (n + 1) := by omega
    refine s_Model_letters_129 (fun z_1 => ?_) (fun z => absurd (nI_le (Nat.le_refl _) (by omega)) z)
    exact k _ _ e e_draft r0
  | succ d ih =>
    intro i h f_draft hi e e_draft r0
    refine s_Model_letters_129 (fun z => absurd z (nI_ge (b := (n + 1)) (show i < (n + 1) by omega) (by omega))) (fun z_1 => ?_)
    refine s_Model_letters_135 l e g_draft g_drafted e_draft (ixa (n := 0) rfl (by omega) (by decide)) ?_
    refine x_u1 (fun h_2 e_3 f_4 => ?_)
    have e_5 := (f_4 m (xw_neC e e_draft (by simp))).trans e
    have r_6 := r0.up (by simp) f_4
    rw [nI_1]
    exact ih (i + 1) _ _ (by omega) e_5 e_3 r_6
