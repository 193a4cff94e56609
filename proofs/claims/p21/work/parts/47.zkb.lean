set_option maxHeartbeats 400000 in
theorem f_nextH {G : xw_G} {F L : Nat} {h : xw_A} {x0 asz : Nat} {a0 k0 f0 : Int32} {fa : Nat → Int32} {asked_ : Nat} {m : Nat} {fs : List Value} (l : fs.length = 62) (e : h m = some (.inr (11, fs))) (g_at : fs[(28 : Nat)]? = some (.int a0)) (g_kind : fs[(29 : Nat)]? = some (.int k0)) (g_from : fs[(30 : Nat)]? = some (.int f0)) (g_to : fs[(31 : Nat)]? = some (.int (nI x0))) (g_askedSize : fs[(11 : Nat)]? = some (.int (nI asz))) (g_asked : fs[(4 : Nat)]? = some (.ref asked_)) (e_asked : h asked_ = some (.inl (0, 96, .inl (fa)))) (hx0 : x0 ≤ 97) (hasz : asz ≤ 96) (hF : 4 ≤ F) (hL : 87 ≤ L) :
    xw_Met G m_Model_next F L 0 0 [.ref m] h (fun v h' => v = none ∧ ∃ (y : Nat) (fs' : List Value), PtO fa asz (bl fa asz x0) y (nI (rkd (kdP fa asz x0))) ∧ (¬ kdP fa asz x0 = 1 → y = skP fa asz x0) ∧ fs'.length = 62 ∧ h' m = some (.inr (11, fs')) ∧ fs'[(28 : Nat)]? = some (.int (nI (bl fa asz x0))) ∧ fs'[(29 : Nat)]? = some (.int (nI (rkd (kdP fa asz x0)))) ∧ fs'[(30 : Nat)]? = some (.int (nI (bl fa asz x0))) ∧ fs'[(31 : Nat)]? = some (.int (nI y)) ∧ (∀ i : Nat, i ∉ [28, 29, 30, 31] → fs'[i]? = fs[i]?) ∧ FrO [m] h h') (fun _ _ => False) := by
  refine xw_Met.of rfl (by decide) (Nat.le_of_ble_eq_true rfl) ?_
  have ga0 : ∀ i : Nat, i ∉ [28, 29, 30, 31] → fs[i]? = fs[i]? := fun _ _ => rfl
  have r0 : FrO [m] h h := FrO.rf
  refine s_Model_next_0 l e g_to ?_
  refine x_u1 (fun h_1 e_2 f_3 => ?_)
  have e_4 := (f_3 asked_ (xw_neC e_asked e (by simp))).trans e_asked
  have r_5 := r0.up (by simp) f_3
  obtain ⟨fs_6, z_7⟩ : ∃ z, z = fs.set 28 (.int (nI x0)) := ⟨_, rfl⟩
  rw [← z_7] at e_2
  have l_8 : fs_6.length = 62 := by rw [z_7]; simp only [List.length_set]; exact l
  have g_9 : fs_6[(4 : Nat)]? = some (.ref asked_) := by rw [z_7]; exact (xw_gn (by decide) g_asked)
  have g_10 : fs_6[(11 : Nat)]? = some (.int (nI asz)) := by rw [z_7]; exact (xw_gn (by decide) g_askedSize)
  have g_11 : fs_6[(28 : Nat)]? = some (.int (nI x0)) := by rw [z_7]; exact (xw_gs (by simp [l]))
  have g_12 : fs_6[(29 : Nat)]? = some (.int k0) := by rw [z_7]; exact (xw_gn (by decide) g_kind)
  have g_13 : fs_6[(30 : Nat)]? = some (.int f0) := by rw [z_7]; exact (xw_gn (by decide) g_from)
  have g_14 : fs_6[(31 : Nat)]? = some (.int (nI x0)) := by rw [z_7]; exact (xw_gn (by decide) g_to)
  have ga_15 : ∀ i : Nat, i ∉ [28, 29, 30, 31] → fs_6[i]? = fs[i]? := fun i hi => by rw [z_7]; exact xw_gn (fun z => hi (by rw [z]; simp)) (ga0 i hi)
  clear z_7
  refine x_callV (As := []) (b := m) (rest := []) (F1 := 3) (L1 := 66) (mc := 0) (ms := 0) d_Model_next_9 cV_Model_234 (f_partH l_8 e_2 g_11 g_12 g_13 g_14 g_10 g_9 e_4 hx0 hasz (by omega) (by omega)) e_2 ⟨by decide, rfl⟩ ⟨by omega, by show 8 + (2 + 11) + 66 ≤ _; omega⟩ ⟨by omega, by omega⟩ (Nat.le_of_ble_eq_true rfl) (fun v_17 h_16 p_18 => ?_)
  obtain ⟨rfl, y, fs9, PT9, hy9, l9, e9, ga_at, g_kd, g_fr, g_to, ga9, r9⟩ := p_18
  refine x_le (xw_le_n xw_le_e) ?_
  refine s_Model_next_12 ?_
  exact ⟨rfl, y, fs9, PT9, hy9, l9, e9, ga_at, g_kd, g_fr, g_to, fun i hi => (ga9 i hi).trans (ga_15 i hi), r_5.trans r9⟩
set_option maxHeartbeats 400000 in
theorem f_wrongsH {G : xw_G} {F L : Nat} {h : xw_A} {a bd : Int32} {k : Nat} {m : Nat} {fs : List Value} (l : fs.length = 62) (e : h m = some (.inr (11, fs))) (g_bad : fs[(33 : Nat)]? = some (.int bd)) (hk : k < 1000) (hF : 1 ≤ F) (hL : 20 ≤ L) :
    xw_Met G m_Model_wrongs F L 0 0 [.ref m, .int a, .int (nI k)] h (fun v h' => v = none ∧ ∃ (bd' : Int32) (fs' : List Value), (a = 0 → bd' = bd) ∧ (¬ a = 0 → ¬ bd' < 0) ∧ (¬ bd < 0 → bd' = bd) ∧ fs'.length = 62 ∧ h' m = some (.inr (11, fs')) ∧ fs'[(33 : Nat)]? = some (.int bd') ∧ (∀ i : Nat, i ∉ [33] → fs'[i]? = fs[i]?) ∧ FrO [m] h h') (fun _ _ => False) := by
  refine xw_Met.of rfl (by decide) (Nat.le_of_ble_eq_true rfl) ?_
  have ga0 : ∀ i : Nat, i ∉ [33] → fs[i]? = fs[i]? := fun _ _ => rfl
  have r0 : FrO [m] h h := FrO.rf
  refine s_Model_wrongs_0 (fun z_1 => ?_) (fun z_2 => ?_)
  · skip
    refine s_Model_wrongs_16 ?_
    exact ⟨rfl, bd, fs, fun _ => rfl, fun q => absurd z_1 q, fun _ => rfl, l, e, g_bad, fun _ _ => rfl, FrO.rf⟩
  · skip
    refine s_Model_wrongs_4 l e g_bad (fun z_3 => ?_) (fun z_4 => ?_)
    · skip
      refine s_Model_wrongs_16 ?_
      exact ⟨rfl, bd, fs, fun _ => rfl, fun _ => Int32.not_lt.mpr z_3, fun _ => rfl, l, e, g_bad, fun _ _ => rfl, FrO.rf⟩
    · skip
      refine s_Model_wrongs_11 l e ?_
      refine x_u1 (fun h_5 e_6 f_7 => ?_)
      have r_8 := r0.up (by simp) f_7
      obtain ⟨fs_9, z_10⟩ : ∃ z, z = fs.set 33 (.int (nI k)) := ⟨_, rfl⟩
      rw [← z_10] at e_6
      have l_11 : fs_9.length = 62 := by rw [z_10]; simp only [List.length_set]; exact l
      have g_12 : fs_9[(33 : Nat)]? = some (.int (nI k)) := by rw [z_10]; exact (xw_gs (by simp [l]))
      have ga_13 : ∀ i : Nat, i ∉ [33] → fs_9[i]? = fs[i]? := fun i hi => by rw [z_10]; exact xw_gn (fun z => hi (by rw [z]; simp)) (ga0 i hi)
      clear z_10
      refine s_Model_wrongs_16 ?_
      exact ⟨rfl, _, _, fun q => absurd q z_2, fun _ => nI_pos (by omega), fun q => absurd (Int32.not_le.mp z_4) q, l_11, e_6, g_12, ga_13, r_8⟩
set_option maxHeartbeats 400000 in
theorem f_isFilterH {G : xw_G} {F L : Nat} {h : xw_A} {y pp asz : Nat} {fa : Nat → Int32} {asked_ : Nat} {m : Nat} {fs : List Value} (l : fs.length = 62) (e : h m = some (.inr (11, fs))) (g_kind : fs[(29 : Nat)]? = some (.int (nI (rkd (kdP fa asz pp))))) (g_to : fs[(31 : Nat)]? = some (.int (nI y))) (g_askedSize : fs[(11 : Nat)]? = some (.int (nI asz))) (g_asked : fs[(4 : Nat)]? = some (.ref asked_)) (e_asked : h asked_ = some (.inl (0, 96, .inl (fa)))) (hy : y ≤ 97) (hasz : asz ≤ 96) (hys : ¬ kdP fa asz pp = 1 → y = skP fa asz pp) (hF : 2 ≤ F) (hL : 41 ≤ L) :
    xw_Met G m_Model_isFilter F L 0 0 [.ref m] h (fun v h' => (∃ c : Int32, v = some (.int c) ∧ ((c = 0 ∧ ¬ kdP fa asz pp = 3) ∨ (c = 1 ∧ kdP fa asz pp = 3))) ∧ h = h') (fun _ _ => False) := by
  refine xw_Met.of rfl (by decide) (Nat.le_of_ble_eq_true rfl) ?_
  refine s_Model_isFilter_0 l e g_kind (fun z_1 => ?_) (fun z_2 => ?_)
  · skip
    refine s_Model_isFilter_25 ?_
    refine s_Model_isFilter_26 rfl ?_
    have hk_3 : ¬ (kdP fa asz pp = 2 ∨ kdP fa asz pp = 3) := fun q => z_1 (by rcases q with q | q <;> (rw [q]; rfl))
    exact ⟨⟨_, rfl, Or.inl ⟨rfl, fun q => hk_3 (Or.inr q)⟩⟩, rfl⟩
  · skip
    refine s_Model_isFilter_8 l e g_to ?_
    refine x_callV (As := [.int (nI y)]) (b := m) (rest := []) (F1 := 1) (L1 := 20) (mc := 0) (ms := 0) d_Model_isFilter_13 cV_Model_221 (f_q (x := y) l e g_askedSize g_asked e_asked (by omega) (by omega) (by omega) (by omega)) e ⟨by decide, rfl⟩ ⟨by omega, by show 8 + (2 + 11) + 20 ≤ _; omega⟩ ⟨by omega, by omega⟩ (Nat.le_of_ble_eq_true rfl) (fun v_5 h_4 p_6 => ?_)
    obtain ⟨rfl, rfl⟩ := p_6
    refine x_le (xw_le_n xw_le_e) ?_
    refine s_Model_isFilter_16 (fun z_7 => ?_) (fun z_8 => ?_)
    · skip
      refine s_Model_isFilter_25 ?_
      refine s_Model_isFilter_26 rfl ?_
      have hk_9 : kdP fa asz pp = 2 ∨ kdP fa asz pp = 3 := (rk_1 _ (kdP_le fa asz pp)).mp ((nI_eq (b := 1) (by have := rk_le _ (kdP_le fa asz pp); omega) (by decide)).mp z_2)
      have hys9 := hys (by rcases hk_9 with q | q <;> omega)
      have h3 := kd_3c hk_9
      rw [← hys9] at h3
      exact ⟨⟨_, rfl, Or.inl ⟨rfl, fun q => z_7 ((qv_c (by decide)).mpr (h3.mp q))⟩⟩, rfl⟩
    · skip
      refine s_Model_isFilter_21 ?_
      refine s_Model_isFilter_26 rfl ?_
      have hk_10 : kdP fa asz pp = 2 ∨ kdP fa asz pp = 3 := (rk_1 _ (kdP_le fa asz pp)).mp ((nI_eq (b := 1) (by have := rk_le _ (kdP_le fa asz pp); omega) (by decide)).mp z_2)
      have hys9 := hys (by rcases hk_10 with q | q <;> omega)
      have h3 := kd_3c hk_10
      rw [← hys9] at h3
      exact ⟨⟨_, rfl, Or.inr ⟨rfl, h3.mpr ((qv_c (by decide)).mp z_8)⟩⟩, rfl⟩
set_option maxHeartbeats 400000 in
theorem f_isStringH {G : xw_G} {F L : Nat} {h : xw_A} {y pp asz : Nat} {fa : Nat → Int32} {asked_ : Nat} {m : Nat} {fs : List Value} (l : fs.length = 62) (e : h m = some (.inr (11, fs))) (g_kind : fs[(29 : Nat)]? = some (.int (nI (rkd (kdP fa asz pp))))) (g_to : fs[(31 : Nat)]? = some (.int (nI y))) (g_askedSize : fs[(11 : Nat)]? = some (.int (nI asz))) (g_asked : fs[(4 : Nat)]? = some (.ref asked_)) (e_asked : h asked_ = some (.inl (0, 96, .inl (fa)))) (hy : y ≤ 97) (hasz : asz ≤ 96) (hys : ¬ kdP fa asz pp = 1 → y = skP fa asz pp) (hF : 3 ≤ F) (hL : 61 ≤ L) :
    xw_Met G m_Model_isString F L 0 0 [.ref m] h (fun v h' => (∃ c : Int32, v = some (.int c) ∧ ((c = 0 ∧ ¬ isS (kdP fa asz pp) = true) ∨ (c = 1 ∧ isS (kdP fa asz pp) = true))) ∧ h = h') (fun _ _ => False) := by
  refine xw_Met.of rfl (by decide) (Nat.le_of_ble_eq_true rfl) ?_
  refine s_Model_isString_0 l e g_kind (fun z_1 => ?_) (fun z_2 => ?_)
  · skip
    refine s_Model_isString_23 ?_
    refine s_Model_isString_28 rfl ?_
    have hk_3 : kdP fa asz pp = 4 := ((rk_iff _ (kdP_le fa asz pp)).2.1).mp ((nI_eq (b := 2) (by have := rk_le _ (kdP_le fa asz pp); omega) (by decide)).mp z_1)
    exact ⟨⟨_, rfl, Or.inr ⟨rfl, by rw [hk_3]; rfl⟩⟩, rfl⟩
  · skip
    refine s_Model_isString_8 l e g_kind (fun z_4 => ?_) (fun z_5 => ?_)
    · skip
      refine s_Model_isString_27 ?_
      refine s_Model_isString_28 rfl ?_
      have hk_6 : ¬ kdP fa asz pp = 4 := fun q => z_2 (by rw [q]; rfl)
      have hk_7 : ¬ (kdP fa asz pp = 2 ∨ kdP fa asz pp = 3) := fun q => z_4 (by rcases q with q | q <;> (rw [q]; rfl))
      exact ⟨⟨_, rfl, Or.inl ⟨rfl, fun q => by have q1 := kdP_le fa asz pp; simp [isS] at q; rcases q with q | q; (exact hk_7 (Or.inl q)); (exact hk_6 q)⟩⟩, rfl⟩
    · skip
      refine s_Model_isString_16 ?_
      refine x_callV (As := []) (b := m) (rest := []) (F1 := 2) (L1 := 41) (mc := 0) (ms := 0) d_Model_isString_17 cV_Model_237 (f_isFilterH l e g_kind g_to g_askedSize g_asked e_asked hy hasz hys (by omega) (by omega)) e ⟨by decide, rfl⟩ ⟨by omega, by show 8 + (1 + 11) + 41 ≤ _; omega⟩ ⟨by omega, by omega⟩ (Nat.le_of_ble_eq_true rfl) (fun v_11 h_10 p_12 => ?_)
      obtain ⟨⟨c_8, rfl, hc_9⟩, rfl⟩ := p_12
      refine x_le (xw_le_n xw_le_e) ?_
      refine s_Model_isString_20 (fun z_13 => ?_) (fun z_14 => ?_)
      · skip
        refine s_Model_isString_27 ?_
        refine s_Model_isString_28 rfl ?_
        have hk_15 : ¬ kdP fa asz pp = 4 := fun q => z_2 (by rw [q]; rfl)
        have hk_16 : kdP fa asz pp = 2 ∨ kdP fa asz pp = 3 := (rk_1 _ (kdP_le fa asz pp)).mp ((nI_eq (b := 1) (by have := rk_le _ (kdP_le fa asz pp); omega) (by decide)).mp z_5)
        have h3 := (hc_9.resolve_left (fun q => z_13 q.1)).2
        exact ⟨⟨_, rfl, Or.inl ⟨rfl, fun q => by rw [h3] at q; cases q⟩⟩, rfl⟩
      · skip
        refine s_Model_isString_23 ?_
        refine s_Model_isString_28 rfl ?_
        have hk_17 : ¬ kdP fa asz pp = 4 := fun q => z_2 (by rw [q]; rfl)
        have hk_18 : kdP fa asz pp = 2 ∨ kdP fa asz pp = 3 := (rk_1 _ (kdP_le fa asz pp)).mp ((nI_eq (b := 1) (by have := rk_le _ (kdP_le fa asz pp); omega) (by decide)).mp z_5)
        have h3 := (hc_9.resolve_right (fun q => absurd (q.1.symm.trans z_14) (by decide))).2
        exact ⟨⟨_, rfl, Or.inr ⟨rfl, by rw [hk_18.resolve_right h3]; rfl⟩⟩, rfl⟩
set_option maxHeartbeats 2000000 in
theorem lp_ttH {G : xw_G} {F L bc bs : Nat} {pr : Option Value → xw_A → Prop} {px : String → xw_A → Prop} {m asked_ tokenAt_ tokenSize_ asz x y t0 : Nat} {gs : List Value} {fa ca0 cs0 : Nat → Int32} {h0 : xw_A} (q_asked : gs[(4 : Nat)]? = some (.ref asked_)) (q_askedSize : gs[(11 : Nat)]? = some (.int (nI asz))) (q_from : gs[(30 : Nat)]? = some (.int (nI x))) (q_to : gs[(31 : Nat)]? = some (.int (nI y))) (q_tokenAt : gs[(43 : Nat)]? = some (.ref tokenAt_)) (q_tokenSize : gs[(44 : Nat)]? = some (.ref tokenSize_)) (q_a : h0 asked_ = some (.inl (0, 96, .inl fa))) (na : asked_ ≠ m ∧ asked_ ≠ tokenAt_ ∧ asked_ ≠ tokenSize_) (nts : tokenAt_ ≠ tokenSize_) (hasz : asz ≤ 96) (hya : y ≤ asz) (hroom : t0 + tokN (fun j => fa (x + j)) (y - x) ≤ 48) (hF : 3 ≤ F) (hL : 62 ≤ L) (kk : ∀ (h : xw_A) (t : Nat) (ca cs : Nat → Int32) (fs : List Value), fs.length = 62 → h m = some (.inr (11, fs)) → fs[(35 : Nat)]? = some (.int (nI t)) → (∀ i : Nat, i ∉ [35] → fs[i]? = gs[i]?) → h tokenAt_ = some (.inl (0, 60, .inl ca)) → h tokenSize_ = some (.inl (0, 60, .inl cs)) → TkY fa x t0 ca cs (y - x) → (∀ j, j < t0 → ca j = ca0 j ∧ cs j = cs0 j) → t = t0 + tokN (fun j => fa (x + j)) (y - x) → FrO [m, tokenAt_, tokenSize_] h0 h → pr none h) :
    ∀ (dd i : Nat) (h : xw_A) (t : Nat) (ca : Nat → Int32) (cs : Nat → Int32) (fs : List Value), i + dd = y → fs.length = 62 → h m = some (.inr (11, fs)) → fs[(35 : Nat)]? = some (.int (nI t)) → (∀ i : Nat, i ∉ [35] → fs[i]? = gs[i]?) → h tokenAt_ = some (.inl (0, 60, .inl ca)) → h tokenSize_ = some (.inl (0, 60, .inl cs)) → x ≤ i → TkY fa x t0 ca cs (i - x) → (∀ j, j < t0 → ca j = ca0 j ∧ cs j = cs0 j) → t = t0 + tokN (fun j => fa (x + j)) (i - x) → FrO [m, tokenAt_, tokenSize_] h0 h → xw G m_Model_takeTokens F L bc bs pr px 5 [some (.ref m), some (.int (nI i))] [] h := by
  intro dd
  induction dd with
  | zero =>
    intro i h t ca cs fs hi l e g_tokens ga0 e_tokenAt e_tokenSize hxi TY OLD hT r0
    obtain rfl : i = y := by omega
    have g_asked := (ga0 4 (by decide)).trans q_asked
    have g_askedSize := (ga0 11 (by decide)).trans q_askedSize
    have g_from := (ga0 30 (by decide)).trans q_from
    have g_to := (ga0 31 (by decide)).trans q_to
    have g_tokenAt := (ga0 43 (by decide)).trans q_tokenAt
    have g_tokenSize := (ga0 44 (by decide)).trans q_tokenSize
    have e_asked := r0 asked_ _ (by simp only [List.mem_cons, List.not_mem_nil, or_false, not_or]; exact na) q_a
    have ht48 : t ≤ 48 := by first | (have q9 := tokN_mono (fun j => fa (x + j)) (show i - x ≤ y - x by omega); omega) | omega
    refine s_Model_takeTokens_5 l e g_to (fun z_1 => ?_) (fun z => absurd (nI_le (Nat.le_refl _) (by omega)) z)
    refine s_Model_takeTokens_96 ?_
    exact kk _ _ _ _ _ l e g_tokens ga0 e_tokenAt e_tokenSize TY OLD hT r0
  | succ dd ih =>
    intro i h t ca cs fs hi l e g_tokens ga0 e_tokenAt e_tokenSize hxi TY OLD hT r0
    have g_asked := (ga0 4 (by decide)).trans q_asked
    have g_askedSize := (ga0 11 (by decide)).trans q_askedSize
    have g_from := (ga0 30 (by decide)).trans q_from
    have g_to := (ga0 31 (by decide)).trans q_to
    have g_tokenAt := (ga0 43 (by decide)).trans q_tokenAt
    have g_tokenSize := (ga0 44 (by decide)).trans q_tokenSize
    have e_asked := r0 asked_ _ (by simp only [List.mem_cons, List.not_mem_nil, or_false, not_or]; exact na) q_a
    have ht48 : t ≤ 48 := by first | (have q9 := tokN_mono (fun j => fa (x + j)) (show i - x ≤ y - x by omega); omega) | omega
    refine s_Model_takeTokens_5 l e g_to (fun z => absurd z (nI_ge (b := y) (show i < y by omega) (by omega))) (fun z_1 => ?_)
    refine s_Model_takeTokens_13 ?_
    refine x_callV (As := [.int (nI i)]) (b := m) (rest := []) (F1 := 1) (L1 := 20) (mc := 0) (ms := 0) d_Model_takeTokens_15 cV_Model_221 (f_q (x := i) l e g_askedSize g_asked e_asked (by omega) (by omega) (by omega) (by omega)) e ⟨by decide, rfl⟩ ⟨by omega, by show 8 + (2 + 11) + 20 ≤ _; omega⟩ ⟨by omega, by omega⟩ (Nat.le_of_ble_eq_true rfl) (fun v_3 h_2 p_4 => ?_)
    obtain ⟨rfl, rfl⟩ := p_4
    refine x_callS (As := [.int (qv fa asz i)]) (rest := []) (F1 := 2) (L1 := 42) (mc := 0) (ms := 0) d_Model_takeTokens_18 cS_Model_146 (f_isSign (by omega) (by omega)) ⟨by omega, by show 8 + (1 + 11) + 42 ≤ _; omega⟩ ⟨by omega, by omega⟩ (Nat.le_of_ble_eq_true rfl) (fun v_6 h_5 p_7 => ?_)
    obtain ⟨rfl, rfl⟩ := p_7
    refine s_Model_takeTokens_21 (fun z_8 => ?_) (fun z_9 => ?_)
    · skip
      refine s_Model_takeTokens_90 ?_
      rw [nI_1]
      have hno : isW (fa (x + (i - x))) = false := by rw [show x + (i - x) = i by omega]; have q9 := b01_f z_8; rw [qv_in (by omega)] at q9; exact q9
      exact ih (i + 1) _ _ _ _ _ (by omega) l e g_tokens ga0 e_tokenAt e_tokenSize (by omega) (by rw [show i + 1 - x = (i - x) + 1 by omega]; exact TY.no hno) OLD (by rw [show i + 1 - x = (i - x) + 1 by omega, tokN_n (t := fun j => fa (x + j)) (i := i - x) (Or.inl hno)]; exact hT) r0
    · skip
      refine s_Model_takeTokens_24 l e g_from (fun z_10 => ?_) (fun z_11 => ?_)
      · skip
        have hnew : i - x = 0 ∨ isW (fa (x + (i - x - 1))) = false := Or.inl (by have := (nI_eq (by omega) (by omega)).mp z_10; omega)
        have hyes : isW (fa (x + (i - x))) = true := by rw [show x + (i - x) = i by omega]; exact (qv_w.mp (b01_t z_9)).2
        refine s_Model_takeTokens_45 l e g_tokenAt g_tokens e_tokenAt (vp_in_nI (by omega) (by omega)) g_tokenSize e_tokenSize (vp_in_nI (by omega) (by omega)) (Ne.symm nts) ?_
        refine x_u3 (fun h_12 e_13 f_14 h_15 e_16 f_17 h_18 e_19 f_20 => ?_)
        have e_21 := (f_14 m (xw_neC e e_tokenAt (by simp))).trans e
        have e_22 := (f_14 asked_ na.2.1).trans e_asked
        have e_23 := (f_14 tokenSize_ (Ne.symm nts)).trans e_tokenSize
        have r_24 := r0.up (by simp) f_14
        have e_25 := (f_17 m (xw_neC e_21 e_23 (by simp))).trans e_21
        have e_26 := (f_17 asked_ na.2.2).trans e_22
        have e_27 := (f_17 tokenAt_ nts).trans e_13
        have r_28 := r_24.up (by simp) f_17
        have e_29 := (f_20 asked_ na.1).trans e_26
        have e_30 := (f_20 tokenAt_ (xw_neC e_27 e_25 (by simp))).trans e_27
        have e_31 := (f_20 tokenSize_ (xw_neC e_16 e_25 (by simp))).trans e_16
        have r_32 := r_28.up (by simp) f_20
        obtain ⟨fs_33, z_34⟩ : ∃ z, z = fs.set 35 (.int ((nI t) + 1)) := ⟨_, rfl⟩
        rw [← z_34] at e_19
        have l_35 : fs_33.length = 62 := by rw [z_34]; simp only [List.length_set]; exact l
        have g_36 : fs_33[(4 : Nat)]? = some (.ref asked_) := by rw [z_34]; exact (xw_gn (by decide) g_asked)
        have g_37 : fs_33[(11 : Nat)]? = some (.int (nI asz)) := by rw [z_34]; exact (xw_gn (by decide) g_askedSize)
        have g_38 : fs_33[(30 : Nat)]? = some (.int (nI x)) := by rw [z_34]; exact (xw_gn (by decide) g_from)
        have g_39 : fs_33[(31 : Nat)]? = some (.int (nI y)) := by rw [z_34]; exact (xw_gn (by decide) g_to)
        have g_40 : fs_33[(35 : Nat)]? = some (.int ((nI t) + 1)) := by rw [z_34]; exact (xw_gs (by simp [l]))
        have g_41 : fs_33[(43 : Nat)]? = some (.ref tokenAt_) := by rw [z_34]; exact (xw_gn (by decide) g_tokenAt)
        have g_42 : fs_33[(44 : Nat)]? = some (.ref tokenSize_) := by rw [z_34]; exact (xw_gn (by decide) g_tokenSize)
        have ga_43 : ∀ i : Nat, i ∉ [35] → fs_33[i]? = gs[i]? := fun i hi => by rw [z_34]; exact xw_gn (fun z => hi (by rw [z]; simp)) (ga0 i hi)
        clear z_34
        rw [nI_1] at g_40
        rw [nI_clamp (show t < 2 ^ 31 by omega)] at e_30 e_31
        refine s_Model_takeTokens_75 l_35 e_19 g_42 g_40 e_31 (by rw [nI_pred]; exact vp_in_nI (by omega) (by decide)) (by rw [nI_pred]; exact vp_in_nI (by omega) (by decide)) ?_
        refine x_u1 (fun h_44 e_45 f_46 => ?_)
        have e_47 := (f_46 m (xw_neC e_19 e_31 (by simp))).trans e_19
        have e_48 := (f_46 asked_ na.2.2).trans e_29
        have e_49 := (f_46 tokenAt_ nts).trans e_30
        have r_50 := r_32.up (by simp) f_46
        refine s_Model_takeTokens_90 ?_
        rw [nI_1]
        rw [nI_pred, nI_clamp (show t < 2 ^ 31 by omega)] at e_45
        have TY2 := TY.new hyes hnew hT
        rw [show x + (i - x) = i by omega] at TY2
        exact ih (i + 1) _ _ _ _ _ (by omega) l_35 e_47 g_40 ga_43 e_49 e_45 (by omega) (by rw [show i + 1 - x = (i - x) + 1 by omega]; exact TY2) (fun j hj => by rw [pk_un (by omega), pk_un (by omega), pk_un (by omega)]; exact OLD j hj) (by rw [show i + 1 - x = (i - x) + 1 by omega, tokN_y (t := fun j => fa (x + j)) (i := i - x) hyes hnew]; omega) r_50
      · skip
        refine s_Model_takeTokens_32 ?_
        have hi1 : x < i := Nat.lt_of_le_of_ne hxi (fun q => z_11 (by rw [q]))
        rw [show (nI i) - 1 = nI (i - 1) by rw [show (1 : Int32) = nI 1 from rfl, pk_sub (by omega)]]
        refine x_callV (As := [.int (nI (i - 1))]) (b := m) (rest := []) (F1 := 1) (L1 := 20) (mc := 0) (ms := 0) d_Model_takeTokens_36 cV_Model_221 (f_q (x := i - 1) l e g_askedSize g_asked e_asked (by omega) (by omega) (by omega) (by omega)) e ⟨by decide, rfl⟩ ⟨by omega, by show 8 + (2 + 11) + 20 ≤ _; omega⟩ ⟨by omega, by omega⟩ (Nat.le_of_ble_eq_true rfl) (fun v_52 h_51 p_53 => ?_)
        obtain ⟨rfl, rfl⟩ := p_53
        refine x_callS (As := [.int (qv fa asz (i - 1))]) (rest := []) (F1 := 2) (L1 := 42) (mc := 0) (ms := 0) d_Model_takeTokens_39 cS_Model_146 (f_isSign (by omega) (by omega)) ⟨by omega, by show 8 + (1 + 11) + 42 ≤ _; omega⟩ ⟨by omega, by omega⟩ (Nat.le_of_ble_eq_true rfl) (fun v_55 h_54 p_56 => ?_)
        obtain ⟨rfl, rfl⟩ := p_56
        refine s_Model_takeTokens_42 (fun z_57 => ?_) (fun z_58 => ?_)
        · skip
          have hyes : isW (fa (x + (i - x))) = true := by rw [show x + (i - x) = i by omega]; exact (qv_w.mp (b01_t z_9)).2
          have hold : isW (fa (x + (i - x - 1))) = true := by rw [show x + (i - x - 1) = i - 1 by omega]; exact (qv_w.mp (b01_t z_57)).2
          obtain ⟨k0, hk0⟩ : ∃ k0, k0 + 1 = tokN (fun j => fa (x + j)) (i - x) := by have q9 := tokN_pos (fun j => fa (x + j)) (i - x - 1) hold; rw [show i - x - 1 + 1 = i - x by omega] at q9; exact ⟨tokN (fun j => fa (x + j)) (i - x) - 1, by omega⟩
          obtain ⟨u, rfl⟩ : ∃ u, t = u + 1 := ⟨t - 1, by omega⟩
          have hu : u = t0 + k0 := by omega
          refine s_Model_takeTokens_75 l e g_tokenSize g_tokens e_tokenSize (by rw [nI_pred]; exact vp_in_nI (by omega) (by decide)) (by rw [nI_pred]; exact vp_in_nI (by omega) (by decide)) ?_
          refine x_u1 (fun h_59 e_60 f_61 => ?_)
          have e_62 := (f_61 m (xw_neC e e_tokenSize (by simp))).trans e
          have e_63 := (f_61 asked_ na.2.2).trans e_asked
          have e_64 := (f_61 tokenAt_ nts).trans e_tokenAt
          have r_65 := r0.up (by simp) f_61
          refine s_Model_takeTokens_90 ?_
          rw [nI_1]
          rw [nI_pred, nI_clamp (show u < 2 ^ 31 by omega)] at e_60
          have TY2 := TY.ext hyes (by omega) hold hk0
          rw [← hu] at TY2
          exact ih (i + 1) _ _ _ _ _ (by omega) l e_62 g_tokens ga0 e_64 e_60 (by omega) (by rw [show i + 1 - x = (i - x) + 1 by omega]; exact TY2) (fun j hj => by rw [pk_un (by omega)]; exact OLD j hj) (by rw [show i + 1 - x = (i - x) + 1 by omega, tokN_n (t := fun j => fa (x + j)) (i := i - x) (Or.inr ⟨by omega, hold⟩)]; exact hT) r_65
        · skip
          have hnew : i - x = 0 ∨ isW (fa (x + (i - x - 1))) = false := Or.inr (by rw [show x + (i - x - 1) = i - 1 by omega]; have q9 := b01_f z_58; rw [qv_in (by omega)] at q9; exact q9)
          have hyes : isW (fa (x + (i - x))) = true := by rw [show x + (i - x) = i by omega]; exact (qv_w.mp (b01_t z_9)).2
          refine s_Model_takeTokens_45 l e g_tokenAt g_tokens e_tokenAt (vp_in_nI (by omega) (by omega)) g_tokenSize e_tokenSize (vp_in_nI (by omega) (by omega)) (Ne.symm nts) ?_
          refine x_u3 (fun h_66 e_67 f_68 h_69 e_70 f_71 h_72 e_73 f_74 => ?_)
          have e_75 := (f_68 m (xw_neC e e_tokenAt (by simp))).trans e
          have e_76 := (f_68 asked_ na.2.1).trans e_asked
          have e_77 := (f_68 tokenSize_ (Ne.symm nts)).trans e_tokenSize
          have r_78 := r0.up (by simp) f_68
          have e_79 := (f_71 m (xw_neC e_75 e_77 (by simp))).trans e_75
          have e_80 := (f_71 asked_ na.2.2).trans e_76
          have e_81 := (f_71 tokenAt_ nts).trans e_67
          have r_82 := r_78.up (by simp) f_71
          have e_83 := (f_74 asked_ na.1).trans e_80
          have e_84 := (f_74 tokenAt_ (xw_neC e_81 e_79 (by simp))).trans e_81
          have e_85 := (f_74 tokenSize_ (xw_neC e_70 e_79 (by simp))).trans e_70
          have r_86 := r_82.up (by simp) f_74
          obtain ⟨fs_87, z_88⟩ : ∃ z, z = fs.set 35 (.int ((nI t) + 1)) := ⟨_, rfl⟩
          rw [← z_88] at e_73
          have l_89 : fs_87.length = 62 := by rw [z_88]; simp only [List.length_set]; exact l
          have g_90 : fs_87[(4 : Nat)]? = some (.ref asked_) := by rw [z_88]; exact (xw_gn (by decide) g_asked)
          have g_91 : fs_87[(11 : Nat)]? = some (.int (nI asz)) := by rw [z_88]; exact (xw_gn (by decide) g_askedSize)
          have g_92 : fs_87[(30 : Nat)]? = some (.int (nI x)) := by rw [z_88]; exact (xw_gn (by decide) g_from)
          have g_93 : fs_87[(31 : Nat)]? = some (.int (nI y)) := by rw [z_88]; exact (xw_gn (by decide) g_to)
          have g_94 : fs_87[(35 : Nat)]? = some (.int ((nI t) + 1)) := by rw [z_88]; exact (xw_gs (by simp [l]))
          have g_95 : fs_87[(43 : Nat)]? = some (.ref tokenAt_) := by rw [z_88]; exact (xw_gn (by decide) g_tokenAt)
          have g_96 : fs_87[(44 : Nat)]? = some (.ref tokenSize_) := by rw [z_88]; exact (xw_gn (by decide) g_tokenSize)
          have ga_97 : ∀ i : Nat, i ∉ [35] → fs_87[i]? = gs[i]? := fun i hi => by rw [z_88]; exact xw_gn (fun z => hi (by rw [z]; simp)) (ga0 i hi)
          clear z_88
          rw [nI_1] at g_94
          rw [nI_clamp (show t < 2 ^ 31 by omega)] at e_84 e_85
          refine s_Model_takeTokens_75 l_89 e_73 g_96 g_94 e_85 (by rw [nI_pred]; exact vp_in_nI (by omega) (by decide)) (by rw [nI_pred]; exact vp_in_nI (by omega) (by decide)) ?_
          refine x_u1 (fun h_98 e_99 f_100 => ?_)
          have e_101 := (f_100 m (xw_neC e_73 e_85 (by simp))).trans e_73
          have e_102 := (f_100 asked_ na.2.2).trans e_83
          have e_103 := (f_100 tokenAt_ nts).trans e_84
          have r_104 := r_86.up (by simp) f_100
          refine s_Model_takeTokens_90 ?_
          rw [nI_1]
          rw [nI_pred, nI_clamp (show t < 2 ^ 31 by omega)] at e_99
          have TY2 := TY.new hyes hnew hT
          rw [show x + (i - x) = i by omega] at TY2
          exact ih (i + 1) _ _ _ _ _ (by omega) l_89 e_101 g_94 ga_97 e_103 e_99 (by omega) (by rw [show i + 1 - x = (i - x) + 1 by omega]; exact TY2) (fun j hj => by rw [pk_un (by omega), pk_un (by omega), pk_un (by omega)]; exact OLD j hj) (by rw [show i + 1 - x = (i - x) + 1 by omega, tokN_y (t := fun j => fa (x + j)) (i := i - x) hyes hnew]; omega) r_104
set_option maxHeartbeats 400000 in
theorem f_takeTokensH {G : xw_G} {F L : Nat} {h : xw_A} {x y t asz : Nat} {fa ca cs : Nat → Int32} {ws : List (List Int32)} {asked_ tokenAt_ tokenSize_ : Nat} {m : Nat} {fs : List Value} (l : fs.length = 62) (e : h m = some (.inr (11, fs))) (g_from : fs[(30 : Nat)]? = some (.int (nI x))) (g_to : fs[(31 : Nat)]? = some (.int (nI y))) (g_tokens : fs[(35 : Nat)]? = some (.int (nI t))) (g_askedSize : fs[(11 : Nat)]? = some (.int (nI asz))) (g_asked : fs[(4 : Nat)]? = some (.ref asked_)) (e_asked : h asked_ = some (.inl (0, 96, .inl (fa)))) (g_tokenAt : fs[(43 : Nat)]? = some (.ref tokenAt_)) (e_tokenAt : h tokenAt_ = some (.inl (0, 60, .inl (ca)))) (g_tokenSize : fs[(44 : Nat)]? = some (.ref tokenSize_)) (e_tokenSize : h tokenSize_ = some (.inl (0, 60, .inl (cs)))) (n_tokenAt_tokenSize : tokenAt_ ≠ tokenSize_) (hasz : asz ≤ 96) (hxy : x ≤ y) (hya : y ≤ asz) (TR : TkR ws t ca cs fa) (hroom : t + tokN (fun j => fa (x + j)) (y - x) ≤ 48) (hF : 3 ≤ F) (hL : 62 ≤ L) :
    xw_Met G m_Model_takeTokens F L 0 0 [.ref m] h (fun v h' => v = none ∧ ∃ (ca' cs' : Nat → Int32) (fs' : List Value), TkR (ws ++ wdS fa x y) (t + tokN (fun j => fa (x + j)) (y - x)) ca' cs' fa ∧ fs'.length = 62 ∧ h' m = some (.inr (11, fs')) ∧ fs'[(35 : Nat)]? = some (.int (nI (t + tokN (fun j => fa (x + j)) (y - x)))) ∧ (∀ i : Nat, i ∉ [35] → fs'[i]? = fs[i]?) ∧ h' tokenAt_ = some (.inl (0, 60, .inl ca')) ∧ h' tokenSize_ = some (.inl (0, 60, .inl cs')) ∧ FrO [m, tokenAt_, tokenSize_] h h') (fun _ _ => False) := by
  refine xw_Met.of rfl (by decide) (Nat.le_of_ble_eq_true rfl) ?_
  have r0 : FrO [m, tokenAt_, tokenSize_] h h := FrO.rf
  refine s_Model_takeTokens_0 l e g_from ?_
  exact lp_ttH (gs := fs) (h0 := h) (t0 := t) (ca0 := ca) (cs0 := cs) g_asked g_askedSize g_from g_to g_tokenAt g_tokenSize e_asked ⟨xw_neC e_asked e (by simp), xw_neC e_asked e_tokenAt (by simp), xw_neC e_asked e_tokenSize (by simp)⟩ n_tokenAt_tokenSize hasz hya hroom (by omega) (by omega) (fun h9 t9 ca9 cs9 fs9 a1 a2 a3 a4 a5 a6 a7 a8 a9 b1 => ⟨rfl, ca9, cs9, fs9, TR.add a7 a8 hxy (by omega) rfl, a1, a2, by rw [← a9]; exact a3, a4, a5, a6, b1⟩) (y - x) x _ _ _ _ _ (by omega) l e g_tokens (fun _ _ => rfl) e_tokenAt e_tokenSize (Nat.le_refl _) (by rw [Nat.sub_self]; exact fun s9 q9 => absurd q9 (Nat.not_lt_zero _)) (fun j _ => ⟨rfl, rfl⟩) (by rw [Nat.sub_self]; rfl) FrO.rf
