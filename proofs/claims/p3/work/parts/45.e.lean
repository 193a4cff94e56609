/-! the reference in general states: by program (wip/tools/gen3.py, gen4.py, gen5.py) -/
/-- what a flush leaves -/
def FlP (m lies_ row_ level_ : Nat) (gs : List Value) (fe fv fi0 fr fL : Nat → Int32) (vs md sg mo : Nat) (h0 h : xw_A) : Prop :=
  ∃ (md' sg' : Nat) (fs : List Value) (fi fr' fL' : Nat → Int32), md ≤ md' ∧ md' ≤ md + 6 ∧ sg' ≤ sg + 1 ∧ 2 * md' + gmC 5 (lvC fL' fr' sg') ≤ 5 + 2 * md + gmC 5 (lvC fL fr sg) ∧ fs.length = 62 ∧ h m = some (.inr (11, fs)) ∧ fs[(16 : Nat)]? = some (.int (nI md')) ∧ fs[(19 : Nat)]? = some (.int (nI sg')) ∧ (∀ i : Nat, i ∉ [16, 19] → fs[i]? = gs[i]?) ∧ h lies_ = some (.inl (0, 600, .inl fi)) ∧ h row_ = some (.inl (0, 600, .inl fr')) ∧ h level_ = some (.inl (0, 1300, .inl fL')) ∧ (∀ v, v < vs → fi v < 0 ∨ ∃ s, s < md' ∧ fi v = nI s) ∧ (∀ k, k < sg' → ∃ s, s < md' ∧ fr' k = nI s) ∧ (∀ s, s < md → fL' s = fL s) ∧ FluS fe fv vs mo (fi0, fr, fL, md, sg) (fi, fr', fL', md', sg') ∧ FrO [m, lies_, row_, level_] h0 h
set_option maxHeartbeats 1000000 in
theorem lp_fl1 {G : xw_G} {F L bc bs : Nat} {pr : Option Value → xw_A → Prop} {px : String → xw_A → Prop} {h : xw_A} {sg md : Nat} {fr fL : Nat → Int32} {row_ level_ : Nat} {m : Nat} {fs : List Value} (l : fs.length = 62) (e : h m = some (.inr (11, fs))) (g_segments : fs[(19 : Nat)]? = some (.int (nI sg))) (g_row : fs[(17 : Nat)]? = some (.ref row_)) (e_row : h row_ = some (.inl (0, 600, .inl (fr)))) (g_level : fs[(18 : Nat)]? = some (.ref level_)) (e_level : h level_ = some (.inl (0, 1300, .inl (fL)))) (hsg : sg ≤ 600) (hmd : md ≤ 1300) (hRO : ∀ k, k < sg → ∃ s, s < md ∧ fr k = nI s) {x : Nat} (kk : ∀ c : Nat, c ≤ 600 → c = lvC fL fr sg x → xw G m_Model_flushes F L bc bs pr px 50 [some (.ref m), some (.int (nI x)), some (.int (nI c)), none] [] h) :
    ∀ (dd i : Nat) (c : Nat), i + dd = sg → c = cntE (lev fL fr) i (nI x) → xw G m_Model_flushes F L bc bs pr px 18 [some (.ref m), some (.int (nI x)), some (.int (nI c)), some (.int (nI i))] [] h := by
  intro dd
  induction dd with
  | zero =>
    intro i c hi hp
    obtain rfl : i = sg := by omega
    refine s_Model_flushes_18 l e g_segments (fun z_1 => ?_) (fun z => absurd (nI_le (Nat.le_refl _) (by omega)) z)
    exact kk _ (by rw [hp]; exact Nat.le_trans (cntE_le _ _ _) (by omega)) hp
  | succ dd ih =>
    intro i c hi hp
    refine s_Model_flushes_18 l e g_segments (fun z => absurd z (nI_ge (b := sg) (show i < sg by omega) (by omega))) (fun z_1 => ?_)
    obtain ⟨s9, hs9, hs8⟩ := hRO i (by omega)
    refine s_Model_flushes_26 l e g_level g_row e_row (vp_in_nI (by omega) (by omega)) e_level (by rw [nI_clamp (by omega), hs8]; exact vp_in_nI (by omega) (by decide)) (fun z_2 => ?_) (fun z_3 => ?_)
    · skip
      refine s_Model_flushes_44 ?_
      simp only [nI_1]
      exact ih (i + 1) _ (by omega) (by rw [nI_clamp (by omega)] at z_2; rw [cntE, if_neg (show ¬ lev fL fr i = nI x from z_2), Nat.add_zero]; exact hp)
    · skip
      refine s_Model_flushes_41 ?_
      refine s_Model_flushes_44 ?_
      simp only [nI_1]
      exact ih (i + 1) _ (by omega) (by rw [nI_clamp (by omega)] at z_3; rw [cntE, if_pos (show lev fL fr i = nI x from z_3), hp])
set_option maxHeartbeats 2000000 in
theorem lp_fl2 {G : xw_G} {F L bc bs : Nat} {pr : Option Value → xw_A → Prop} {px : String → xw_A → Prop} {m entries_ lies_ live_ row_ level_ vs mo M0 K0 SB md0 : Nat} {X0 : RSt} {gs : List Value} {fe fv fL0 : Nat → Int32} {h0 : xw_A} (q_versions : gs[(15 : Nat)]? = some (.int (nI vs))) (q_most : gs[(1 : Nat)]? = some (.int (nI mo))) (p_entries : gs[(12 : Nat)]? = some (.ref entries_)) (p_lies : gs[(13 : Nat)]? = some (.ref lies_)) (p_live : gs[(14 : Nat)]? = some (.ref live_)) (p_row : gs[(17 : Nat)]? = some (.ref row_)) (p_level : gs[(18 : Nat)]? = some (.ref level_)) (q_m : ∃ vs9, h0 m = some (.inr (11, vs9))) (q_entries : h0 entries_ = some (.inl (0, 600, .inl fe))) (q_live : h0 live_ = some (.inl (0, 24, .inl fv))) (q_level : ∃ f, h0 level_ = some (.inl (0, 1300, .inl f))) (n_entries_lies : entries_ ≠ lies_) (n_entries_row : entries_ ≠ row_) (n_lies_row : lies_ ≠ row_) (hvs : vs ≤ 600) (hmo : 1 ≤ mo ∧ mo ≤ 9) (hM0 : M0 + 5 < 1300) (hSB : SB < 600) (nll : live_ ≠ lies_) (nlr : live_ ≠ row_) (hF : 3 ≤ F) (hL : 69 ≤ L) (kk : ∀ (h : xw_A) (md sg : Nat) (fi fr fL : Nat → Int32) (fs : List Value), fs.length = 62 → h m = some (.inr (11, fs)) → fs[(16 : Nat)]? = some (.int (nI md)) → fs[(19 : Nat)]? = some (.int (nI sg)) → (∀ i : Nat, i ∉ [16, 19] → fs[i]? = gs[i]?) → h lies_ = some (.inl (0, 600, .inl fi)) → h row_ = some (.inl (0, 600, .inl fr)) → h level_ = some (.inl (0, 1300, .inl fL)) → (∀ v, v < vs → fi v < 0 ∨ ∃ s, s < md ∧ fi v = nI s) → (∀ k, k < sg → ∃ s, s < md ∧ fr k = nI s) → (∀ s, s < md0 → fL s = fL0 s) → md0 ≤ md → md ≤ M0 + 5 → sg ≤ SB → 2 * md + gmC 5 (lvC fL fr sg) ≤ K0 → FlS fe fv vs mo 5 0 X0 (fi, fr, fL, md, sg) → FrO [m, lies_, row_, level_] h0 h → pr none h) :
    ∀ (dd i : Nat) (h : xw_A) (md : Nat) (sg : Nat) (fi : Nat → Int32) (fr : Nat → Int32) (fL : Nat → Int32) (fs : List Value), i + dd = 5 → fs.length = 62 → h m = some (.inr (11, fs)) → fs[(16 : Nat)]? = some (.int (nI md)) → fs[(19 : Nat)]? = some (.int (nI sg)) → (∀ i : Nat, i ∉ [16, 19] → fs[i]? = gs[i]?) → h lies_ = some (.inl (0, 600, .inl fi)) → h row_ = some (.inl (0, 600, .inl fr)) → h level_ = some (.inl (0, 1300, .inl fL)) → (∀ v, v < vs → fi v < 0 ∨ ∃ s, s < md ∧ fi v = nI s) → (∀ k, k < sg → ∃ s, s < md ∧ fr k = nI s) → (∀ s, s < md0 → fL s = fL0 s) → md0 ≤ md → md ≤ M0 + i → sg ≤ SB → 2 * md + gmC i (lvC fL fr sg) ≤ K0 → (∀ Z, FlS fe fv vs mo (5 - i) i (fi, fr, fL, md, sg) Z → FlS fe fv vs mo 5 0 X0 Z) → FrO [m, lies_, row_, level_] h0 h → xw G m_Model_flushes F L bc bs pr px 9 [some (.ref m), some (.int (nI i)), none, none] [] h := by
  intro dd
  induction dd with
  | zero =>
    intro i h md sg fi fr fL fs hi l e g_made g_segments ga0 e_lies e_row e_level LI RO FLs hmd0 hmdb hsgb POT CH r0
    obtain rfl : i = 5 := by omega
    have g_versions := (ga0 15 (by decide)).trans q_versions
    have g_most := (ga0 1 (by decide)).trans q_most
    have g_entries := (ga0 12 (by decide)).trans p_entries
    have g_lies := (ga0 13 (by decide)).trans p_lies
    have g_live := (ga0 14 (by decide)).trans p_live
    have g_row := (ga0 17 (by decide)).trans p_row
    have g_level := (ga0 18 (by decide)).trans p_level
    have e_entries := r0 entries_ _ (by obtain ⟨v9, qm9⟩ := q_m; obtain ⟨f9, ql9⟩ := q_level; simp only [List.mem_cons, List.not_mem_nil, or_false, not_or]; exact ⟨xw_neC q_entries qm9 (by simp), n_entries_lies, n_entries_row, xw_neC q_entries ql9 (by simp)⟩) q_entries
    have e_live := r0 live_ _ (by obtain ⟨v9, qm9⟩ := q_m; obtain ⟨f9, ql9⟩ := q_level; simp only [List.mem_cons, List.not_mem_nil, or_false, not_or]; exact ⟨xw_neC q_live qm9 (by simp), nll, nlr, xw_neC q_live ql9 (by simp)⟩) q_live
    refine s_Model_flushes_9 (fun z_1 => ?_) (fun z => absurd z (by decide))
    refine s_Model_flushes_72 ?_
    exact kk _ _ _ _ _ _ _ l e g_made g_segments ga0 e_lies e_row e_level LI RO FLs hmd0 hmdb hsgb POT (CH _ rfl) r0
  | succ dd ih =>
    intro i h md sg fi fr fL fs hi l e g_made g_segments ga0 e_lies e_row e_level LI RO FLs hmd0 hmdb hsgb POT CH r0
    have g_versions := (ga0 15 (by decide)).trans q_versions
    have g_most := (ga0 1 (by decide)).trans q_most
    have g_entries := (ga0 12 (by decide)).trans p_entries
    have g_lies := (ga0 13 (by decide)).trans p_lies
    have g_live := (ga0 14 (by decide)).trans p_live
    have g_row := (ga0 17 (by decide)).trans p_row
    have g_level := (ga0 18 (by decide)).trans p_level
    have e_entries := r0 entries_ _ (by obtain ⟨v9, qm9⟩ := q_m; obtain ⟨f9, ql9⟩ := q_level; simp only [List.mem_cons, List.not_mem_nil, or_false, not_or]; exact ⟨xw_neC q_entries qm9 (by simp), n_entries_lies, n_entries_row, xw_neC q_entries ql9 (by simp)⟩) q_entries
    have e_live := r0 live_ _ (by obtain ⟨v9, qm9⟩ := q_m; obtain ⟨f9, ql9⟩ := q_level; simp only [List.mem_cons, List.not_mem_nil, or_false, not_or]; exact ⟨xw_neC q_live qm9 (by simp), nll, nlr, xw_neC q_live ql9 (by simp)⟩) q_live
    refine s_Model_flushes_9 (fun z => absurd z (nI_ge (b := 5) (show i < 5 by omega) (by decide))) (fun z_1 => ?_)
    refine s_Model_flushes_14 ?_
    refine lp_fl1 (x := i) l e g_segments g_row e_row g_level e_level (by omega) (by omega) RO (fun c_2 hc_3 hc_4 => ?_) sg 0 0 (Nat.zero_add _) rfl
    refine s_Model_flushes_50 l e g_most (fun z_5 => ?_) (fun z_6 => ?_)
    · skip
      refine s_Model_flushes_66 ?_
      rw [nI_1]
      have h59 : 5 - i = (5 - (i + 1)) + 1 := by omega
      rw [h59] at CH
      exact ih (i + 1) _ _ _ _ _ _ _ (by omega) l e g_made g_segments ga0 e_lies e_row e_level LI RO FLs hmd0 (by omega) hsgb (Nat.le_trans (Nat.add_le_add_left (gmC_skip _ (by omega)) _) POT) (fun Z hZ => CH Z ⟨_, Or.inr ⟨(show ¬ mo < lvC fL fr sg i by rw [← hc_4]; exact Nat.not_lt.mpr ((nI_leI (by omega) (by omega)).mp z_5)), rfl⟩, hZ⟩) r0
    · skip
      refine s_Model_flushes_58 ?_
      have hc2 : 2 ≤ lvC fL fr sg i := by rw [← hc_4]; exact Nat.le_of_not_lt (fun q => z_6 (nI_le (show c_2 ≤ mo by omega) (by omega)))
      rw [nI_1]
      refine x_callV (As := [.int (nI i), .int (nI (i + 1))]) (b := m) (rest := []) (F1 := 2) (L1 := 42) (mc := 0) (ms := 0) d_Model_flushes_63 cV_Model_196 (f_gathers (wh := nI i) (to := nI (i + 1)) l e g_made g_versions g_segments g_entries e_entries g_lies e_lies g_live e_live g_row e_row g_level e_level n_entries_lies n_entries_row n_lies_row hvs (by omega) (by omega) (Or.inr (Or.inr (nI_pos (by omega)))) LI RO (by omega) (by omega)) e ⟨by decide, rfl⟩ ⟨by omega, by show 8 + (8 + 11) + 42 ≤ _; omega⟩ ⟨by omega, by omega⟩ (Nat.le_of_ble_eq_true rfl) (fun v_8 h_7 p_9 => ?_)
      obtain ⟨rfl, dl, lf, fs1, fi1, fr1, fL1, hdl, l1, e1, gm1_, gs1, ga1, ei1, er1, el1, LI1, RO1, FL1, FN1, CN1, w1, w2, w3, hlf, GV1, r1⟩ := p_9
      refine s_Model_flushes_66 ?_
      rw [nI_1]
      have h59 : 5 - i = (5 - (i + 1)) + 1 := by omega
      rw [h59] at CH
      have hlf2 : lf + lvC fL fr sg i = sg := w2 (nI_pos (by omega))
      have hgm : 2 * dl + gmC (i + 1) (lvC fL1 fr1 (lf + dl)) ≤ gmC i (lvC fL fr sg) := gmC_merge (by omega) hc2 hdl (fun x hx => by unfold lvC; rw [CN1 (nI x)]; exact lvStep (by omega) hx)
      exact ih (i + 1) _ _ _ _ _ _ _ (by omega) l1 e1 gm1_ gs1 (fun j hj => (ga1 j hj).trans (ga0 j hj)) ei1 er1 el1 LI1 RO1 (fun s hs => (FL1 s (by omega)).trans (FLs s hs)) (by omega) (by omega) (by omega) (by omega) (fun Z hZ => CH Z ⟨_, Or.inl ⟨(show mo < lvC fL fr sg i by rw [← hc_4]; exact Nat.lt_of_not_le (fun q => z_6 (nI_le q (by omega)))), dl, lf, hdl, rfl, rfl, GV1⟩, hZ⟩) (r0.trans r1)
set_option maxHeartbeats 1000000 in
theorem f_flushes {G : xw_G} {F L : Nat} {h : xw_A} {md vs sg mo : Nat} {fe fi fv fr fL : Nat → Int32} {entries_ lies_ live_ row_ level_ : Nat} {m : Nat} {fs : List Value} (l : fs.length = 62) (e : h m = some (.inr (11, fs))) (g_made : fs[(16 : Nat)]? = some (.int (nI md))) (g_versions : fs[(15 : Nat)]? = some (.int (nI vs))) (g_segments : fs[(19 : Nat)]? = some (.int (nI sg))) (g_most : fs[(1 : Nat)]? = some (.int (nI mo))) (g_entries : fs[(12 : Nat)]? = some (.ref entries_)) (e_entries : h entries_ = some (.inl (0, 600, .inl (fe)))) (g_lies : fs[(13 : Nat)]? = some (.ref lies_)) (e_lies : h lies_ = some (.inl (0, 600, .inl (fi)))) (g_live : fs[(14 : Nat)]? = some (.ref live_)) (e_live : h live_ = some (.inl (0, 24, .inl (fv)))) (g_row : fs[(17 : Nat)]? = some (.ref row_)) (e_row : h row_ = some (.inl (0, 600, .inl (fr)))) (g_level : fs[(18 : Nat)]? = some (.ref level_)) (e_level : h level_ = some (.inl (0, 1300, .inl (fL)))) (n_entries_lies : entries_ ≠ lies_) (n_entries_row : entries_ ≠ row_) (n_lies_row : lies_ ≠ row_) (hvs : vs ≤ 600) (hmd : md + 6 < 1300) (hsg : sg + 1 < 600) (hmo : 1 ≤ mo ∧ mo ≤ 9) (hLI : ∀ v, v < vs → fi v < 0 ∨ ∃ s, s < md ∧ fi v = nI s) (hRO : ∀ k, k < sg → ∃ s, s < md ∧ fr k = nI s) (hF : 3 ≤ F) (hL : 69 ≤ L) :
    xw_Met G m_Model_flushes F L 0 0 [.ref m] h (fun v h' => v = none ∧ FlP m lies_ row_ level_ fs fe fv fi fr fL vs md sg mo h h') (fun _ _ => False) := by
  refine xw_Met.of rfl (by decide) (Nat.le_of_ble_eq_true rfl) ?_
  refine s_Model_flushes_0 ?_
  refine x_callV (As := [.int ((-2)), .int 0]) (b := m) (rest := []) (F1 := 2) (L1 := 42) (mc := 0) (ms := 0) d_Model_flushes_4 cV_Model_196 (f_gathers (wh := -2) (to := 0) l e g_made g_versions g_segments g_entries e_entries g_lies e_lies g_live e_live g_row e_row g_level e_level n_entries_lies n_entries_row n_lies_row hvs (by omega) (by omega) (Or.inl rfl) hLI hRO (by omega) (by omega)) e ⟨by decide, rfl⟩ ⟨by omega, by show 8 + (8 + 11) + 42 ≤ _; omega⟩ ⟨by omega, by omega⟩ (Nat.le_of_ble_eq_true rfl) (fun v_2 h_1 p_3 => ?_)
  obtain ⟨rfl, dl, lf, fs1, fi1, fr1, fL1, hdl, l1, e1, gm1_, gs1, ga1, ei1, er1, el1, LI1, RO1, FL1, FN1, CN1, w1, w2, w3, hlf, GV1, r1⟩ := p_3
  refine s_Model_flushes_7 ?_
  have hlf1 : lf = sg := w1 rfl
  subst hlf1
  have hpe : 2 * dl + gmC 0 (lvC fL1 fr1 (lf + dl)) ≤ 5 + gmC 5 (lvC fL fr lf) := gmC_pend hdl (fun x hx => by unfold lvC; rw [CN1 (nI x), if_pos (Or.inl rfl)]; congr 1; exact lvZero hx)
  exact lp_fl2 (gs := fs) (h0 := h) (M0 := md + 1) (SB := lf + 1) (md0 := md) (fL0 := fL) (K0 := 5 + 2 * md + gmC 5 (lvC fL fr lf)) (X0 := (fi1, fr1, fL1, md + dl, lf + dl)) g_versions g_most g_entries g_lies g_live g_row g_level ⟨_, e⟩ e_entries e_live ⟨_, e_level⟩ n_entries_lies n_entries_row n_lies_row hvs hmo (by omega) (by omega) (xw_neC e_live e_lies (by simp)) (xw_neC e_live e_row (by simp)) (by omega) (by omega) (fun h9 md9 sg9 fi9 fr9 fL9 fs9 a1 a2 a3 a4 a5 a6 a7 a8 a9 b1 b2 b3 b4 b5 b6 b8 b7 => ⟨rfl, md9, sg9, fs9, fi9, fr9, fL9, b3, by omega, b5, b6, a1, a2, a3, a4, a5, a6, a7, a8, a9, b1, b2, ⟨_, ⟨dl, lf, hdl, rfl, rfl, GV1⟩, b8⟩, b7⟩) 5 0 _ _ _ _ _ _ _ rfl l1 e1 gm1_ gs1 ga1 ei1 er1 el1 LI1 RO1 FL1 (by omega) (by omega) (by omega) (by omega) (fun Z hZ => hZ) r1
