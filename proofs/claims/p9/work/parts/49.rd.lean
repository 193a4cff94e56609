set_option maxHeartbeats 4000000 in
theorem lp_nrH {G : xw_G} {F L bc bs : Nat} {pr : Option Value → xw_A → Prop} {px : String → xw_A → Prop} {m asked_ firstToken_ starred_ tokenAt_ tokenSize_ asz : Nat} {gs : List Value} {fa : Nat → Int32} {R : Option (Nat × List PHt)} {h0 : xw_A} (q_asked : gs[4]? = some (.ref asked_)) (q_askedSize : gs[11]? = some (.int (nI asz))) (q_firstToken : gs[41]? = some (.ref firstToken_)) (q_starred : gs[42]? = some (.ref starred_)) (q_tokenAt : gs[43]? = some (.ref tokenAt_)) (q_tokenSize : gs[44]? = some (.ref tokenSize_)) (q_a : h0 asked_ = some (.inl (0, 96, .inl fa))) (na : asked_ ≠ m ∧ asked_ ≠ firstToken_ ∧ asked_ ≠ starred_ ∧ asked_ ≠ tokenAt_ ∧ asked_ ≠ tokenSize_) (nfs : firstToken_ ≠ starred_) (nts : tokenAt_ ≠ tokenSize_) (hasz : asz ≤ 96) (hF : 6 ≤ F) (hL : 127 ≤ L) (kk : (∀ (h : xw_A) (i : Nat) (y : Nat) (t : Nat) (bd : Int32) (c1 : Nat → Int32) (c2 : Nat → Int32) (ca : Nat → Int32) (cs : Nat → Int32) (phl : List PHt) (fs : List Value), i < 98 → fs.length = 62 → h m = some (.inr (11, fs)) → fs[28]? = some (.int (nI (bl fa asz i))) → fs[29]? = some (.int (nI (rkd (kdP fa asz i)))) → fs[30]? = some (.int (nI (bl fa asz i))) → fs[31]? = some (.int (nI y)) → fs[33]? = some (.int bd) → fs[34]? = some (.int (nI phl.length)) → fs[35]? = some (.int (nI t)) → (∀ i, i ∉ [28, 29, 30, 31, 33, 34, 35] → fs[i]? = gs[i]?) → h firstToken_ = some (.inl (0, 13, .inl c1)) → h starred_ = some (.inl (0, 13, .inl c2)) → h tokenAt_ = some (.inl (0, 60, .inl ca)) → h tokenSize_ = some (.inl (0, 60, .inl cs)) → PtO fa asz (bl fa asz i) y (nI (rkd (kdP fa asz i))) → (¬ kdP fa asz i = 1 → y = skP fa asz i) → RqT fa asz c1 c2 ca cs t i phl [] → bd < 0 → phl.length ≤ 12 → FrO [m, firstToken_, starred_, tokenAt_, tokenSize_] h0 h → R = some (i, phl) → (kdP fa asz i = 10 ∨ kdP fa asz i = 13) → xw G m_Model_near F L bc bs pr px 72 [some (.ref m), none, none, none] [] h) ∧ (∀ (h : xw_A) (bd : Int32) (c1 c2 ca cs : Nat → Int32) (fs : List Value), fs.length = 62 → h m = some (.inr (11, fs)) → fs[33]? = some (.int bd) → ¬ bd < 0 → INT fs [28, 29, 30, 31, 33, 34, 35] → (∀ i, i ∉ [28, 29, 30, 31, 33, 34, 35] → fs[i]? = gs[i]?) → h firstToken_ = some (.inl (0, 13, .inl c1)) → h starred_ = some (.inl (0, 13, .inl c2)) → h tokenAt_ = some (.inl (0, 60, .inl ca)) → h tokenSize_ = some (.inl (0, 60, .inl cs)) → FrO [m, firstToken_, starred_, tokenAt_, tokenSize_] h0 h → (R = none ∨ ∃ (p2 : Nat) (ph2 : List PHt), R = some (p2, ph2) ∧ ¬ kdP fa asz p2 = 13 ∧ ¬ kdP fa asz p2 = 10) → xw G m_Model_near F L bc bs pr px 72 [some (.ref m), none, none, none] [] h)) :
    ∀ (dd i : Nat) (h : xw_A) (y : Nat) (t : Nat) (bd : Int32) (c1 : Nat → Int32) (c2 : Nat → Int32) (ca : Nat → Int32) (cs : Nat → Int32) (phl : List PHt) (fs : List Value), 98 ≤ i + dd → i < 98 → fs.length = 62 → h m = some (.inr (11, fs)) → fs[28]? = some (.int (nI (bl fa asz i))) → fs[29]? = some (.int (nI (rkd (kdP fa asz i)))) → fs[30]? = some (.int (nI (bl fa asz i))) → fs[31]? = some (.int (nI y)) → fs[33]? = some (.int bd) → fs[34]? = some (.int (nI phl.length)) → fs[35]? = some (.int (nI t)) → (∀ i, i ∉ [28, 29, 30, 31, 33, 34, 35] → fs[i]? = gs[i]?) → h firstToken_ = some (.inl (0, 13, .inl c1)) → h starred_ = some (.inl (0, 13, .inl c2)) → h tokenAt_ = some (.inl (0, 60, .inl ca)) → h tokenSize_ = some (.inl (0, 60, .inl cs)) → PtO fa asz (bl fa asz i) y (nI (rkd (kdP fa asz i))) → (¬ kdP fa asz i = 1 → y = skP fa asz i) → RqT fa asz c1 c2 ca cs t i phl [] → bd < 0 → phl.length ≤ 12 → FrO [m, firstToken_, starred_, tokenAt_, tokenSize_] h0 h → (∀ f, asz - i ≤ f → rdPs fa asz f i phl = R) → xw G m_Model_near F L bc bs pr px 41 [some (.ref m), none, none, none] [] h := by
  intro dd
  induction dd with
  | zero =>
    intro i h y t bd c1 c2 ca cs phl fs hi hb l e g_28 g_29 g_30 g_31 g_33 g_34 g_35 ga0 e_firstToken e_starred e_tokenAt e_tokenSize PT HY RQ hbd hp12 r0 hR
    exact absurd hi (by omega)
  | succ dd ih =>
    intro i h y t bd c1 c2 ca cs phl fs hi hb l e g_28 g_29 g_30 g_31 g_33 g_34 g_35 ga0 e_firstToken e_starred e_tokenAt e_tokenSize PT HY RQ hbd hp12 r0 hR
    have g_asked := (ga0 4 (by decide)).trans q_asked
    have g_askedSize := (ga0 11 (by decide)).trans q_askedSize
    have g_firstToken := (ga0 41 (by decide)).trans q_firstToken
    have g_starred := (ga0 42 (by decide)).trans q_starred
    have g_tokenAt := (ga0 43 (by decide)).trans q_tokenAt
    have g_tokenSize := (ga0 44 (by decide)).trans q_tokenSize
    have e_asked := r0 asked_ _ (by simp only [List.mem_cons, List.not_mem_nil, or_false, not_or]; exact na) q_a
    have hbd2 : ¬ 0 ≤ bd := Int32.not_le.mpr hbd
    have hxy0 := PT.1
    have hy97 := PT.2.1
    refine s_Model_near_41 l e g_33 (fun z => absurd z hbd2) (fun z_1 => ?_)
    refine s_Model_near_48 l e g_29 (fun z_2 => ?_) (fun z_3 => ?_)
    · skip
      have hk_4 : kdP fa asz i = 10 := ((rk_iff _ (kdP_le fa asz i)).2.2.2.1).mp ((nI_eq (b := 4) (by have := rk_le _ (kdP_le fa asz i); omega) (by decide)).mp z_2)
      exact kk.1 _ _ _ _ _ _ _ _ _ phl _ hb l e g_28 g_29 g_30 g_31 g_33 g_34 g_35 ga0 e_firstToken e_starred e_tokenAt e_tokenSize PT HY RQ hbd hp12 r0 (by rw [← hR _ (Nat.le_refl _)]; exact ps_0 (by rw [hk_4]; rfl)) (Or.inl hk_4)
    · skip
      refine s_Model_near_56 l e g_29 (fun z_5 => ?_) (fun z_6 => ?_)
      · skip
        have hk_7 : ¬ kdP fa asz i = 10 := fun q => z_3 (by rw [q]; rfl)
        have hk_8 : kdP fa asz i = 13 := ((rk_iff _ (kdP_le fa asz i)).2.2.2.2.2.2.2.2.2.1).mp ((nI_eq (b := 10) (by have := rk_le _ (kdP_le fa asz i); omega) (by decide)).mp z_5)
        exact kk.1 _ _ _ _ _ _ _ _ _ phl _ hb l e g_28 g_29 g_30 g_31 g_33 g_34 g_35 ga0 e_firstToken e_starred e_tokenAt e_tokenSize PT HY RQ hbd hp12 r0 (by rw [← hR _ (Nat.le_refl _)]; exact ps_0 (by rw [hk_8]; rfl)) (Or.inr hk_8)
      · skip
        refine s_Model_near_65 ?_
        have hk_9 : ¬ kdP fa asz i = 10 := fun q => z_3 (by rw [q]; rfl)
        have hk_10 : ¬ kdP fa asz i = 13 := fun q => z_6 (by rw [q]; rfl)
        refine x_callV (As := []) (b := m) (rest := []) (F1 := 5) (L1 := 107) (mc := 0) (ms := 0) d_Model_near_66 cV_Model_260 (f_phraseH (ph := phl) l e g_28 g_29 g_30 g_31 g_33 g_34 g_35 g_askedSize g_asked e_asked g_firstToken e_firstToken g_starred e_starred g_tokenAt e_tokenAt g_tokenSize e_tokenSize nfs nts hasz PT HY RQ hbd rfl hp12 (by omega) (by omega)) e ⟨by decide, rfl⟩ ⟨by omega, by show 8 + (1 + 11) + 107 ≤ _; omega⟩ ⟨by omega, by omega⟩ (Nat.le_of_ble_eq_true rfl) (fun v_45 h_44 p_46 => ?_)
        rcases p_46 with ⟨rfl, bd_11, c1_12, c2_13, ca_14, cs_15, fs_16, l_17, e_18, g_19, ga_20, e_21, e_22, e_23, e_24, r_25, ⟨hx_26, nb_27, IN_28⟩ | ⟨p_29, x_30, y_31, t_32, hx_33, hb_34, PT_35, HY_36, g_37, g_38, g_39, g_40, g_41, g_42, RQ_43⟩⟩
        · skip
          have e_47 := r_25 asked_ _ (by simp only [List.mem_cons, List.not_mem_nil, or_false, not_or]; exact ⟨na.1, na.2.1, na.2.2.1, na.2.2.2.1, na.2.2.2.2⟩) e_asked
          have r_48 := r0.trans (r_25.mono (by simp))
          obtain ⟨v_49, g_50⟩ := IN_28 28 (by decide)
          obtain ⟨v_51, g_52⟩ := IN_28 29 (by decide)
          obtain ⟨v_53, g_54⟩ := IN_28 30 (by decide)
          obtain ⟨v_55, g_56⟩ := IN_28 31 (by decide)
          obtain ⟨v_57, g_58⟩ := IN_28 34 (by decide)
          obtain ⟨v_59, g_60⟩ := IN_28 35 (by decide)
          have g_61 : fs_16[4]? = some (.ref asked_) := (ga_20 4 (by decide)).trans g_asked
          have g_62 : fs_16[11]? = some (.int (nI asz)) := (ga_20 11 (by decide)).trans g_askedSize
          have g_63 : fs_16[41]? = some (.ref firstToken_) := (ga_20 41 (by decide)).trans g_firstToken
          have g_64 : fs_16[42]? = some (.ref starred_) := (ga_20 42 (by decide)).trans g_starred
          have g_65 : fs_16[43]? = some (.ref tokenAt_) := (ga_20 43 (by decide)).trans g_tokenAt
          have g_66 : fs_16[44]? = some (.ref tokenSize_) := (ga_20 44 (by decide)).trans g_tokenSize
          have ga_67 : ∀ i, i ∉ [28, 29, 30, 31, 33, 34, 35] → fs_16[i]? = gs[i]? := fun i hi => (ga_20 i (fun z => hi (by simp only [List.mem_cons, List.not_mem_nil, or_false] at z ⊢; omega))).trans (ga0 i hi)
          have hb_68 : 0 ≤ bd_11 := Int32.not_lt.mp nb_27
          refine s_Model_near_69 ?_
          refine s_Model_near_41 l_17 e_18 g_19 (fun _ => ?_) (fun z => absurd (Int32.not_lt.mp nb_27) z)
          refine kk.2 _ _ _ _ _ _ _ l_17 e_18 g_19 nb_27 (fun i9 hi9 => by simp only [List.mem_cons, List.not_mem_nil, or_false] at hi9; rcases hi9 with rfl | rfl | rfl | rfl | rfl | rfl | rfl <;> first | exact ⟨_, g_50⟩ | exact ⟨_, g_52⟩ | exact ⟨_, g_54⟩ | exact ⟨_, g_56⟩ | exact ⟨_, g_19⟩ | exact ⟨_, g_58⟩ | exact ⟨_, g_60⟩) ga_67 e_21 e_22 e_23 e_24 r_48 ?_
          cases hq9 : isS (kdP fa asz i) with
          | false => exact Or.inr ⟨i, phl, by rw [← hR _ (Nat.le_refl _)]; exact ps_0 hq9, hk_10, hk_9⟩
          | true => exact Or.inl (by rw [← hR (asz - i + 1) (by omega)]; exact ps_n hq9 hx_26)
        · skip
          have e_69 := r_25 asked_ _ (by simp only [List.mem_cons, List.not_mem_nil, or_false, not_or]; exact ⟨na.1, na.2.1, na.2.2.1, na.2.2.2.1, na.2.2.2.2⟩) e_asked
          have r_70 := r0.trans (r_25.mono (by simp))
          have g_71 : fs_16[4]? = some (.ref asked_) := (ga_20 4 (by decide)).trans g_asked
          have g_72 : fs_16[11]? = some (.int (nI asz)) := (ga_20 11 (by decide)).trans g_askedSize
          have g_73 : fs_16[41]? = some (.ref firstToken_) := (ga_20 41 (by decide)).trans g_firstToken
          have g_74 : fs_16[42]? = some (.ref starred_) := (ga_20 42 (by decide)).trans g_starred
          have g_75 : fs_16[43]? = some (.ref tokenAt_) := (ga_20 43 (by decide)).trans g_tokenAt
          have g_76 : fs_16[44]? = some (.ref tokenSize_) := (ga_20 44 (by decide)).trans g_tokenSize
          have ga_77 : ∀ i, i ∉ [28, 29, 30, 31, 33, 34, 35] → fs_16[i]? = gs[i]? := fun i hi => (ga_20 i (fun z => hi (by simp only [List.mem_cons, List.not_mem_nil, or_false] at z ⊢; omega))).trans (ga0 i hi)
          have hb_78 : ¬ 0 ≤ bd_11 := Int32.not_le.mpr hb_34
          have hb_79 := Nat.le_trans PT_35.1 PT_35.2.1
          refine s_Model_near_69 ?_
          have hq9 := rdPh_str hx_33
          have p9 := rdPh_gt hx_33
          have p7 := (bl_ge fa asz p_29).1
          have l9 : (phl ++ [x_30]).length = phl.length + 1 := by rw [List.length_append]; rfl
          rw [← l9] at g_41
          have l8 := rdPh_12 hx_33
          exact ih p_29 _ _ _ _ _ _ _ _ (phl ++ [x_30]) _ (by omega) (by omega) l_17 e_18 g_37 g_38 g_39 g_40 g_19 g_41 g_42 ga_77 e_21 e_22 e_23 e_24 PT_35 HY_36 RQ_43 hb_34 (by omega) r_70 (fun f hf => by rw [rdPs_any hf (f2 := asz - i) (by omega), ← hR (asz - i + 1) (by omega)]; exact (ps_y hq9 hx_33).symm)
set_option maxHeartbeats 8000000 in
theorem f_nearH {G : xw_G} {F L : Nat} {h : xw_A} {p y t g asz : Nat} {bd : Int32} {fa c1 c2 ca cs c9 : Nat → Int32} {ph : List PHt} {asked_ firstToken_ starred_ tokenAt_ tokenSize_ groupFar_ : Nat} {m : Nat} {fs : List Value} (l : fs.length = 62) (e : h m = some (.inr (11, fs))) (g_at : fs[28]? = some (.int (nI (bl fa asz p)))) (g_kind : fs[29]? = some (.int (nI (rkd (kdP fa asz p))))) (g_from : fs[30]? = some (.int (nI (bl fa asz p)))) (g_to : fs[31]? = some (.int (nI y))) (g_bad : fs[33]? = some (.int bd)) (g_phrases : fs[34]? = some (.int (nI ph.length))) (g_tokens : fs[35]? = some (.int (nI t))) (g_groups : fs[36]? = some (.int (nI g))) (g_askedSize : fs[11]? = some (.int (nI asz))) (g_asked : fs[4]? = some (.ref asked_)) (e_asked : h asked_ = some (.inl (0, 96, .inl (fa)))) (g_firstToken : fs[41]? = some (.ref firstToken_)) (e_firstToken : h firstToken_ = some (.inl (0, 13, .inl (c1)))) (g_starred : fs[42]? = some (.ref starred_)) (e_starred : h starred_ = some (.inl (0, 13, .inl (c2)))) (g_tokenAt : fs[43]? = some (.ref tokenAt_)) (e_tokenAt : h tokenAt_ = some (.inl (0, 60, .inl (ca)))) (g_tokenSize : fs[44]? = some (.ref tokenSize_)) (e_tokenSize : h tokenSize_ = some (.inl (0, 60, .inl (cs)))) (g_groupFar : fs[49]? = some (.ref groupFar_)) (e_groupFar : h groupFar_ = some (.inl (0, 13, .inl (c9)))) (n_firstToken_starred : firstToken_ ≠ starred_) (n_firstToken_groupFar : firstToken_ ≠ groupFar_) (n_starred_groupFar : starred_ ≠ groupFar_) (n_tokenAt_tokenSize : tokenAt_ ≠ tokenSize_) (hasz : asz ≤ 96) (h128 : ∀ j, j < asz → ∃ c, c < 128 ∧ fa j = nI c) (PT : PtO fa asz (bl fa asz p) y (nI (rkd (kdP fa asz p)))) (HY : ¬ kdP fa asz p = 1 → y = skP fa asz p) (RQ : RqT fa asz c1 c2 ca cs t p ph []) (hbd : bd < 0) (hp12 : ph.length ≤ 12) (hg12 : g ≤ 12) (h8 : kdP fa asz p = 8) (h10 : c9 g = nI 10) (hF : 6 ≤ F) (hL : 127 ≤ L) :
    xw_Met G m_Model_near F L 0 0 [.ref m] h (fun v h' => v = none ∧ ∃ (bd' : Int32) (c1' c2' ca' cs' c9' : Nat → Int32) (fs' : List Value), fs'.length = 62 ∧ h' m = some (.inr (11, fs')) ∧ fs'[33]? = some (.int bd') ∧ (∀ i, i ∉ [28, 29, 30, 31, 33, 34, 35] → fs'[i]? = fs[i]?) ∧ h' firstToken_ = some (.inl (0, 13, .inl c1')) ∧ h' starred_ = some (.inl (0, 13, .inl c2')) ∧ h' tokenAt_ = some (.inl (0, 60, .inl ca')) ∧ h' tokenSize_ = some (.inl (0, 60, .inl cs')) ∧ h' groupFar_ = some (.inl (0, 13, .inl c9')) ∧ FrO [m, firstToken_, starred_, tokenAt_, tokenSize_, groupFar_] h h' ∧ ((rdNear fa asz (skP fa asz p) ph = none ∧ ¬ bd' < 0 ∧ INT fs' [28, 29, 30, 31, 33, 34, 35]) ∨ ∃ (p' : Nat) (ph' : List PHt) (d' y' t' : Nat), rdNear fa asz (skP fa asz p) ph = some (p', ph', d') ∧ bd' < 0 ∧ PtO fa asz (bl fa asz p') y' (nI (rkd (kdP fa asz p'))) ∧ (¬ kdP fa asz p' = 1 → y' = skP fa asz p') ∧ fs'[28]? = some (.int (nI (bl fa asz p'))) ∧ fs'[29]? = some (.int (nI (rkd (kdP fa asz p')))) ∧ fs'[30]? = some (.int (nI (bl fa asz p'))) ∧ fs'[31]? = some (.int (nI y')) ∧ fs'[34]? = some (.int (nI ph'.length)) ∧ fs'[35]? = some (.int (nI t')) ∧ RqT fa asz c1' c2' ca' cs' t' p' ph' [] ∧ c9' g = nI d' ∧ ∀ j, j ≠ g → c9' j = c9 j)) (fun _ _ => False) := by
  refine xw_Met.of rfl (by decide) (Nat.le_of_ble_eq_true rfl) ?_
  have hbd2 : ¬ 0 ≤ bd := Int32.not_le.mpr hbd
  have hxy0 := PT.1
  have hy97 := PT.2.1
  have ga0 : ∀ i, i ∉ [28, 29, 30, 31, 33, 34, 35] → fs[i]? = fs[i]? := fun _ _ => rfl
  have r0 : FrO [m, firstToken_, starred_, tokenAt_, tokenSize_, groupFar_] h h := FrO.rf
  refine s_Model_near_0 ?_
  have hE_13 := HY (by rw [h8]; decide)
  rw [hE_13] at g_to
  refine x_callV (As := []) (b := m) (rest := []) (F1 := 4) (L1 := 87) (mc := 0) (ms := 0) d_Model_near_1 cV_Model_257 (f_nextH (x0 := (skP fa asz p)) l e g_at g_kind g_from g_to g_askedSize g_asked e_asked (by rw [← hE_13]; exact PT.2.1) hasz (by omega) (by omega)) e ⟨by decide, rfl⟩ ⟨by omega, by show 8 + (1 + 11) + 87 ≤ _; omega⟩ ⟨by omega, by omega⟩ (Nat.le_of_ble_eq_true rfl) (fun v_15 h_14 p_16 => ?_)
  obtain ⟨rfl, y_1, fs_2, PT_3, HY_4, l_5, e_6, g_7, g_8, g_9, g_10, ga_11, r_12⟩ := p_16
  have e_17 := r_12 asked_ _ (by simp only [List.mem_cons, List.not_mem_nil, or_false, not_or]; exact (xw_neC e_asked e (by simp))) e_asked
  have e_18 := r_12 firstToken_ _ (by simp only [List.mem_cons, List.not_mem_nil, or_false, not_or]; exact (xw_neC e_firstToken e (by simp))) e_firstToken
  have e_19 := r_12 starred_ _ (by simp only [List.mem_cons, List.not_mem_nil, or_false, not_or]; exact (xw_neC e_starred e (by simp))) e_starred
  have e_20 := r_12 tokenAt_ _ (by simp only [List.mem_cons, List.not_mem_nil, or_false, not_or]; exact (xw_neC e_tokenAt e (by simp))) e_tokenAt
  have e_21 := r_12 tokenSize_ _ (by simp only [List.mem_cons, List.not_mem_nil, or_false, not_or]; exact (xw_neC e_tokenSize e (by simp))) e_tokenSize
  have e_22 := r_12 groupFar_ _ (by simp only [List.mem_cons, List.not_mem_nil, or_false, not_or]; exact (xw_neC e_groupFar e (by simp))) e_groupFar
  have r_23 := r0.trans (r_12.mono (by simp))
  have g_24 : fs_2[33]? = some (.int bd) := (ga_11 33 (by decide)).trans g_bad
  have g_25 : fs_2[34]? = some (.int (nI ph.length)) := (ga_11 34 (by decide)).trans g_phrases
  have g_26 : fs_2[35]? = some (.int (nI t)) := (ga_11 35 (by decide)).trans g_tokens
  have g_27 : fs_2[36]? = some (.int (nI g)) := (ga_11 36 (by decide)).trans g_groups
  have g_28 : fs_2[11]? = some (.int (nI asz)) := (ga_11 11 (by decide)).trans g_askedSize
  have g_29 : fs_2[4]? = some (.ref asked_) := (ga_11 4 (by decide)).trans g_asked
  have g_30 : fs_2[41]? = some (.ref firstToken_) := (ga_11 41 (by decide)).trans g_firstToken
  have g_31 : fs_2[42]? = some (.ref starred_) := (ga_11 42 (by decide)).trans g_starred
  have g_32 : fs_2[43]? = some (.ref tokenAt_) := (ga_11 43 (by decide)).trans g_tokenAt
  have g_33 : fs_2[44]? = some (.ref tokenSize_) := (ga_11 44 (by decide)).trans g_tokenSize
  have g_34 : fs_2[49]? = some (.ref groupFar_) := (ga_11 49 (by decide)).trans g_groupFar
  have ga_35 : ∀ i, i ∉ [28, 29, 30, 31, 33, 34, 35] → fs_2[i]? = fs[i]? := fun i hi => (ga_11 i (fun z => hi (by simp only [List.mem_cons, List.not_mem_nil, or_false] at z ⊢; omega))).trans (ga0 i hi)
  have RQ_36 := RQ.next (by rw [h8]; decide) (by rw [h8]; decide)
  have hb_37 := Nat.le_trans PT_3.1 PT_3.2.1
  refine s_Model_near_4 l_5 e_6 g_8 (fun z_38 => ?_) (fun z_39 => ?_)
  · skip
    refine s_Model_near_17 ?_
    refine s_Model_near_18 l_5 e_6 g_9 ?_
    refine x_callV (As := [.int 0, .int (nI (bl fa asz (skP fa asz p)))]) (b := m) (rest := []) (F1 := 1) (L1 := 20) (mc := 0) (ms := 0) d_Model_near_22 cV_Model_250 (f_wrongsH (k := bl fa asz (skP fa asz p)) l_5 e_6 g_24 (by omega) (by omega) (by omega)) e_6 ⟨by decide, rfl⟩ ⟨by omega, by show 8 + (3 + 11) + 20 ≤ _; omega⟩ ⟨by omega, by omega⟩ (Nat.le_of_ble_eq_true rfl) (fun v_51 h_50 p_52 => ?_)
    obtain ⟨rfl, bd_40, fs_41, hw_42, hw_43, hw_44, l_45, e_46, g_47, ga_48, r_49⟩ := p_52
    have e_53 := r_49 asked_ _ (by simp only [List.mem_cons, List.not_mem_nil, or_false, not_or]; exact (xw_neC e_17 e_6 (by simp))) e_17
    have e_54 := r_49 firstToken_ _ (by simp only [List.mem_cons, List.not_mem_nil, or_false, not_or]; exact (xw_neC e_18 e_6 (by simp))) e_18
    have e_55 := r_49 starred_ _ (by simp only [List.mem_cons, List.not_mem_nil, or_false, not_or]; exact (xw_neC e_19 e_6 (by simp))) e_19
    have e_56 := r_49 tokenAt_ _ (by simp only [List.mem_cons, List.not_mem_nil, or_false, not_or]; exact (xw_neC e_20 e_6 (by simp))) e_20
    have e_57 := r_49 tokenSize_ _ (by simp only [List.mem_cons, List.not_mem_nil, or_false, not_or]; exact (xw_neC e_21 e_6 (by simp))) e_21
    have e_58 := r_49 groupFar_ _ (by simp only [List.mem_cons, List.not_mem_nil, or_false, not_or]; exact (xw_neC e_22 e_6 (by simp))) e_22
    have r_59 := r_23.trans (r_49.mono (by simp))
    have g_60 : fs_41[34]? = some (.int (nI ph.length)) := (ga_48 34 (by decide)).trans g_25
    have g_61 : fs_41[35]? = some (.int (nI t)) := (ga_48 35 (by decide)).trans g_26
    have g_62 : fs_41[36]? = some (.int (nI g)) := (ga_48 36 (by decide)).trans g_27
    have g_63 : fs_41[11]? = some (.int (nI asz)) := (ga_48 11 (by decide)).trans g_28
    have g_64 : fs_41[4]? = some (.ref asked_) := (ga_48 4 (by decide)).trans g_29
    have g_65 : fs_41[41]? = some (.ref firstToken_) := (ga_48 41 (by decide)).trans g_30
    have g_66 : fs_41[42]? = some (.ref starred_) := (ga_48 42 (by decide)).trans g_31
    have g_67 : fs_41[43]? = some (.ref tokenAt_) := (ga_48 43 (by decide)).trans g_32
    have g_68 : fs_41[44]? = some (.ref tokenSize_) := (ga_48 44 (by decide)).trans g_33
    have g_69 : fs_41[49]? = some (.ref groupFar_) := (ga_48 49 (by decide)).trans g_34
    have g_70 : fs_41[28]? = some (.int (nI (bl fa asz (skP fa asz p)))) := (ga_48 28 (by decide)).trans g_7
    have g_71 : fs_41[29]? = some (.int (nI (rkd (kdP fa asz (skP fa asz p))))) := (ga_48 29 (by decide)).trans g_8
    have g_72 : fs_41[30]? = some (.int (nI (bl fa asz (skP fa asz p)))) := (ga_48 30 (by decide)).trans g_9
    have g_73 : fs_41[31]? = some (.int (nI y_1)) := (ga_48 31 (by decide)).trans g_10
    have ga_74 : ∀ i, i ∉ [28, 29, 30, 31, 33, 34, 35] → fs_41[i]? = fs[i]? := fun i hi => (ga_48 i (fun z => hi (by simp only [List.mem_cons, List.not_mem_nil, or_false] at z ⊢; omega))).trans (ga_35 i hi)
    have hb_75 : bd_40 < 0 := by rw [hw_42 rfl]; exact hbd
    have hb_76 : ¬ 0 ≤ bd_40 := Int32.not_le.mpr hb_75
    refine s_Model_near_25 l_45 e_46 g_47 (fun z_77 => ?_) (fun z => absurd hb_75 z)
    refine s_Model_near_33 ?_
    have hk_78 : kdP fa asz (skP fa asz p) = 9 := ((rk_iff _ (kdP_le fa asz (skP fa asz p))).2.2.1).mp ((nI_eq (b := 3) (by have := rk_le _ (kdP_le fa asz (skP fa asz p)); omega) (by decide)).mp z_38)
    have hE_91 := HY_4 (by rw [hk_78]; decide)
    rw [hE_91] at g_73
    refine x_callV (As := []) (b := m) (rest := []) (F1 := 4) (L1 := 87) (mc := 0) (ms := 0) d_Model_near_34 cV_Model_257 (f_nextH (x0 := (skP fa asz (skP fa asz p))) l_45 e_46 g_70 g_71 g_72 g_73 g_63 g_64 e_53 (by rw [← hE_91]; exact PT_3.2.1) hasz (by omega) (by omega)) e_46 ⟨by decide, rfl⟩ ⟨by omega, by show 8 + (1 + 11) + 87 ≤ _; omega⟩ ⟨by omega, by omega⟩ (Nat.le_of_ble_eq_true rfl) (fun v_93 h_92 p_94 => ?_)
    obtain ⟨rfl, y_79, fs_80, PT_81, HY_82, l_83, e_84, g_85, g_86, g_87, g_88, ga_89, r_90⟩ := p_94
    have e_95 := r_90 asked_ _ (by simp only [List.mem_cons, List.not_mem_nil, or_false, not_or]; exact (xw_neC e_53 e_46 (by simp))) e_53
    have e_96 := r_90 firstToken_ _ (by simp only [List.mem_cons, List.not_mem_nil, or_false, not_or]; exact (xw_neC e_54 e_46 (by simp))) e_54
    have e_97 := r_90 starred_ _ (by simp only [List.mem_cons, List.not_mem_nil, or_false, not_or]; exact (xw_neC e_55 e_46 (by simp))) e_55
    have e_98 := r_90 tokenAt_ _ (by simp only [List.mem_cons, List.not_mem_nil, or_false, not_or]; exact (xw_neC e_56 e_46 (by simp))) e_56
    have e_99 := r_90 tokenSize_ _ (by simp only [List.mem_cons, List.not_mem_nil, or_false, not_or]; exact (xw_neC e_57 e_46 (by simp))) e_57
    have e_100 := r_90 groupFar_ _ (by simp only [List.mem_cons, List.not_mem_nil, or_false, not_or]; exact (xw_neC e_58 e_46 (by simp))) e_58
    have r_101 := r_59.trans (r_90.mono (by simp))
    have g_102 : fs_80[34]? = some (.int (nI ph.length)) := (ga_89 34 (by decide)).trans g_60
    have g_103 : fs_80[35]? = some (.int (nI t)) := (ga_89 35 (by decide)).trans g_61
    have g_104 : fs_80[36]? = some (.int (nI g)) := (ga_89 36 (by decide)).trans g_62
    have g_105 : fs_80[11]? = some (.int (nI asz)) := (ga_89 11 (by decide)).trans g_63
    have g_106 : fs_80[4]? = some (.ref asked_) := (ga_89 4 (by decide)).trans g_64
    have g_107 : fs_80[41]? = some (.ref firstToken_) := (ga_89 41 (by decide)).trans g_65
    have g_108 : fs_80[42]? = some (.ref starred_) := (ga_89 42 (by decide)).trans g_66
    have g_109 : fs_80[43]? = some (.ref tokenAt_) := (ga_89 43 (by decide)).trans g_67
    have g_110 : fs_80[44]? = some (.ref tokenSize_) := (ga_89 44 (by decide)).trans g_68
    have g_111 : fs_80[49]? = some (.ref groupFar_) := (ga_89 49 (by decide)).trans g_69
    have g_112 : fs_80[33]? = some (.int bd_40) := (ga_89 33 (by decide)).trans g_47
    have ga_113 : ∀ i, i ∉ [28, 29, 30, 31, 33, 34, 35] → fs_80[i]? = fs[i]? := fun i hi => (ga_89 i (fun z => hi (by simp only [List.mem_cons, List.not_mem_nil, or_false] at z ⊢; omega))).trans (ga_74 i hi)
    have RQ_114 := RQ_36.next (by rw [hk_78]; decide) (by rw [hk_78]; decide)
    have hb_115 := Nat.le_trans PT_81.1 PT_81.2.1
    refine s_Model_near_37 ?_
    refine x_callV (As := []) (b := m) (rest := []) (F1 := 5) (L1 := 107) (mc := 0) (ms := 0) d_Model_near_38 cV_Model_260 (f_phraseH (ph := ph) l_83 e_84 g_85 g_86 g_87 g_88 g_112 g_102 g_103 g_105 g_106 e_95 g_107 e_96 g_108 e_97 g_109 e_98 g_110 e_99 n_firstToken_starred n_tokenAt_tokenSize hasz PT_81 HY_82 RQ_114 hb_75 rfl hp12 (by omega) (by omega)) e_84 ⟨by decide, rfl⟩ ⟨by omega, by show 8 + (1 + 11) + 107 ≤ _; omega⟩ ⟨by omega, by omega⟩ (Nat.le_of_ble_eq_true rfl) (fun v_150 h_149 p_151 => ?_)
    rcases p_151 with ⟨rfl, bd_116, c1_117, c2_118, ca_119, cs_120, fs_121, l_122, e_123, g_124, ga_125, e_126, e_127, e_128, e_129, r_130, ⟨hx_131, nb_132, IN_133⟩ | ⟨p_134, x_135, y_136, t_137, hx_138, hb_139, PT_140, HY_141, g_142, g_143, g_144, g_145, g_146, g_147, RQ_148⟩⟩
    · skip
      have e_152 := r_130 asked_ _ (by simp only [List.mem_cons, List.not_mem_nil, or_false, not_or]; exact ⟨(xw_neC e_95 e_84 (by simp)), (xw_neC e_95 e_96 (by simp)), (xw_neC e_95 e_97 (by simp)), (xw_neC e_95 e_98 (by simp)), (xw_neC e_95 e_99 (by simp))⟩) e_95
      have e_153 := r_130 groupFar_ _ (by simp only [List.mem_cons, List.not_mem_nil, or_false, not_or]; exact ⟨(xw_neC e_100 e_84 (by simp)), (Ne.symm n_firstToken_groupFar), (Ne.symm n_starred_groupFar), (xw_neC e_100 e_98 (by simp)), (xw_neC e_100 e_99 (by simp))⟩) e_100
      have r_154 := r_101.trans (r_130.mono (by simp))
      obtain ⟨v_155, g_156⟩ := IN_133 28 (by decide)
      obtain ⟨v_157, g_158⟩ := IN_133 29 (by decide)
      obtain ⟨v_159, g_160⟩ := IN_133 30 (by decide)
      obtain ⟨v_161, g_162⟩ := IN_133 31 (by decide)
      obtain ⟨v_163, g_164⟩ := IN_133 34 (by decide)
      obtain ⟨v_165, g_166⟩ := IN_133 35 (by decide)
      have g_167 : fs_121[36]? = some (.int (nI g)) := (ga_125 36 (by decide)).trans g_104
      have g_168 : fs_121[11]? = some (.int (nI asz)) := (ga_125 11 (by decide)).trans g_105
      have g_169 : fs_121[4]? = some (.ref asked_) := (ga_125 4 (by decide)).trans g_106
      have g_170 : fs_121[41]? = some (.ref firstToken_) := (ga_125 41 (by decide)).trans g_107
      have g_171 : fs_121[42]? = some (.ref starred_) := (ga_125 42 (by decide)).trans g_108
      have g_172 : fs_121[43]? = some (.ref tokenAt_) := (ga_125 43 (by decide)).trans g_109
      have g_173 : fs_121[44]? = some (.ref tokenSize_) := (ga_125 44 (by decide)).trans g_110
      have g_174 : fs_121[49]? = some (.ref groupFar_) := (ga_125 49 (by decide)).trans g_111
      have ga_175 : ∀ i, i ∉ [28, 29, 30, 31, 33, 34, 35] → fs_121[i]? = fs[i]? := fun i hi => (ga_125 i (fun z => hi (by simp only [List.mem_cons, List.not_mem_nil, or_false] at z ⊢; omega))).trans (ga_113 i hi)
      have hb_176 : 0 ≤ bd_116 := Int32.not_lt.mp nb_132
      refine s_Model_near_41 l_122 e_123 g_124 (fun z_177 => ?_) (fun z => absurd hb_176 z)
      refine s_Model_near_72 l_122 e_123 g_124 (fun z => absurd z nb_132) (fun z_178 => ?_)
      refine s_Model_near_79 ?_
      exact ⟨rfl, _, _, _, _, _, _, _, l_122, e_123, g_124, ga_175, e_126, e_127, e_128, e_129, e_153, r_154, Or.inl ⟨nr_1 hk_78 hx_131, nb_132, (fun i9 hi9 => by simp only [List.mem_cons, List.not_mem_nil, or_false] at hi9; rcases hi9 with rfl | rfl | rfl | rfl | rfl | rfl | rfl <;> first | exact ⟨_, g_156⟩ | exact ⟨_, g_158⟩ | exact ⟨_, g_160⟩ | exact ⟨_, g_162⟩ | exact ⟨_, g_124⟩ | exact ⟨_, g_164⟩ | exact ⟨_, g_166⟩)⟩⟩
    · skip
      have e_179 := r_130 asked_ _ (by simp only [List.mem_cons, List.not_mem_nil, or_false, not_or]; exact ⟨(xw_neC e_95 e_84 (by simp)), (xw_neC e_95 e_96 (by simp)), (xw_neC e_95 e_97 (by simp)), (xw_neC e_95 e_98 (by simp)), (xw_neC e_95 e_99 (by simp))⟩) e_95
      have e_180 := r_130 groupFar_ _ (by simp only [List.mem_cons, List.not_mem_nil, or_false, not_or]; exact ⟨(xw_neC e_100 e_84 (by simp)), (Ne.symm n_firstToken_groupFar), (Ne.symm n_starred_groupFar), (xw_neC e_100 e_98 (by simp)), (xw_neC e_100 e_99 (by simp))⟩) e_100
      have r_181 := r_101.trans (r_130.mono (by simp))
      have g_182 : fs_121[36]? = some (.int (nI g)) := (ga_125 36 (by decide)).trans g_104
      have g_183 : fs_121[11]? = some (.int (nI asz)) := (ga_125 11 (by decide)).trans g_105
      have g_184 : fs_121[4]? = some (.ref asked_) := (ga_125 4 (by decide)).trans g_106
      have g_185 : fs_121[41]? = some (.ref firstToken_) := (ga_125 41 (by decide)).trans g_107
      have g_186 : fs_121[42]? = some (.ref starred_) := (ga_125 42 (by decide)).trans g_108
      have g_187 : fs_121[43]? = some (.ref tokenAt_) := (ga_125 43 (by decide)).trans g_109
      have g_188 : fs_121[44]? = some (.ref tokenSize_) := (ga_125 44 (by decide)).trans g_110
      have g_189 : fs_121[49]? = some (.ref groupFar_) := (ga_125 49 (by decide)).trans g_111
      have ga_190 : ∀ i, i ∉ [28, 29, 30, 31, 33, 34, 35] → fs_121[i]? = fs[i]? := fun i hi => (ga_125 i (fun z => hi (by simp only [List.mem_cons, List.not_mem_nil, or_false] at z ⊢; omega))).trans (ga_113 i hi)
      have hb_191 : ¬ 0 ≤ bd_116 := Int32.not_le.mpr hb_139
      have hb_192 := Nat.le_trans PT_140.1 PT_140.2.1
      have l9_ : (ph ++ [x_135]).length = ph.length + 1 := by rw [List.length_append]; rfl
      rw [← l9_] at g_146
      have l8_ := rdPh_12 hx_138
      have p7 := (bl_ge fa asz p_134).1
      refine lp_nrH (gs := fs_121) (h0 := h_149) (R := rdPs fa asz 96 p_134 (ph ++ [x_135])) g_184 g_183 g_185 g_186 g_187 g_188 e_179 ⟨(xw_neC e_179 e_123 (by simp)), (xw_neC e_179 e_126 (by simp)), (xw_neC e_179 e_127 (by simp)), (xw_neC e_179 e_128 (by simp)), (xw_neC e_179 e_129 (by simp))⟩ n_firstToken_starred n_tokenAt_tokenSize hasz (by omega) (by omega) ⟨fun h9 i9 y9 t9 bd9 c19 c29 ca9 cs9 ph9 fs9 hi9 l9 e9 g28_ g29_ g30_ g31_ g33_ g34_ g35_ ga9 ef9 est9 ea9 es9 PT9 HY9 RQ9 hbd9 hp9 r9 hR9 hk9 => ?_, fun h9 bd9 c19 c29 ca9 cs9 fs9 l9 e9 g33_ nb9 IN9 ga9 ef9 est9 ea9 es9 r9 hR9 => ?_⟩ 98 p_134 _ _ _ _ _ _ _ _ (ph ++ [x_135]) _ (by omega) (by omega) l_122 e_123 g_142 g_143 g_144 g_145 g_124 g_146 g_147 (fun _ _ => rfl) e_126 e_127 e_128 e_129 PT_140 HY_141 RQ_148 hb_139 (by omega) FrO.rf (fun f hf => rdPs_any hf (by omega))
      · skip
        have e_193 := r9 asked_ _ (by simp only [List.mem_cons, List.not_mem_nil, or_false, not_or]; exact ⟨(xw_neC e_179 e_123 (by simp)), (xw_neC e_179 e_126 (by simp)), (xw_neC e_179 e_127 (by simp)), (xw_neC e_179 e_128 (by simp)), (xw_neC e_179 e_129 (by simp))⟩) e_179
        have e_194 := r9 groupFar_ _ (by simp only [List.mem_cons, List.not_mem_nil, or_false, not_or]; exact ⟨(xw_neC e_180 e_123 (by simp)), (Ne.symm n_firstToken_groupFar), (Ne.symm n_starred_groupFar), (xw_neC e_180 e_128 (by simp)), (xw_neC e_180 e_129 (by simp))⟩) e_180
        have r_195 := r_181.trans (r9.mono (by simp))
        have g_196 : fs9[36]? = some (.int (nI g)) := (ga9 36 (by decide)).trans g_182
        have g_197 : fs9[11]? = some (.int (nI asz)) := (ga9 11 (by decide)).trans g_183
        have g_198 : fs9[4]? = some (.ref asked_) := (ga9 4 (by decide)).trans g_184
        have g_199 : fs9[41]? = some (.ref firstToken_) := (ga9 41 (by decide)).trans g_185
        have g_200 : fs9[42]? = some (.ref starred_) := (ga9 42 (by decide)).trans g_186
        have g_201 : fs9[43]? = some (.ref tokenAt_) := (ga9 43 (by decide)).trans g_187
        have g_202 : fs9[44]? = some (.ref tokenSize_) := (ga9 44 (by decide)).trans g_188
        have g_203 : fs9[49]? = some (.ref groupFar_) := (ga9 49 (by decide)).trans g_189
        have ga_204 : ∀ i, i ∉ [28, 29, 30, 31, 33, 34, 35] → fs9[i]? = fs[i]? := fun i hi => (ga9 i (fun z => hi (by simp only [List.mem_cons, List.not_mem_nil, or_false] at z ⊢; omega))).trans (ga_190 i hi)
        have hb9 := Nat.le_trans PT9.1 PT9.2.1
        have hb_205 : ¬ 0 ≤ bd9 := Int32.not_le.mpr hbd9
        refine s_Model_near_72 l9 e9 g33_ (fun z_206 => ?_) (fun z => absurd hbd9 z)
        refine s_Model_near_80 l9 e9 g29_ (fun z_207 => ?_) (fun z_208 => ?_)
        · skip
          have hk_209 : ¬ kdP fa asz i9 = 13 := fun q => z_207 (by rw [q]; rfl)
          have hk_210 : kdP fa asz i9 = 10 := hk9.resolve_right hk_209
          refine s_Model_near_269 ?_
          have hE_223 := HY9 (by rw [hk_210]; decide)
          rw [hE_223] at g31_
          refine x_callV (As := []) (b := m) (rest := []) (F1 := 4) (L1 := 87) (mc := 0) (ms := 0) d_Model_near_270 cV_Model_257 (f_nextH (x0 := (skP fa asz i9)) l9 e9 g28_ g29_ g30_ g31_ g_197 g_198 e_193 (by rw [← hE_223]; exact PT9.2.1) hasz (by omega) (by omega)) e9 ⟨by decide, rfl⟩ ⟨by omega, by show 8 + (1 + 11) + 87 ≤ _; omega⟩ ⟨by omega, by omega⟩ (Nat.le_of_ble_eq_true rfl) (fun v_225 h_224 p_226 => ?_)
          obtain ⟨rfl, y_211, fs_212, PT_213, HY_214, l_215, e_216, g_217, g_218, g_219, g_220, ga_221, r_222⟩ := p_226
          have e_227 := r_222 asked_ _ (by simp only [List.mem_cons, List.not_mem_nil, or_false, not_or]; exact (xw_neC e_193 e9 (by simp))) e_193
          have e_228 := r_222 firstToken_ _ (by simp only [List.mem_cons, List.not_mem_nil, or_false, not_or]; exact (xw_neC ef9 e9 (by simp))) ef9
          have e_229 := r_222 starred_ _ (by simp only [List.mem_cons, List.not_mem_nil, or_false, not_or]; exact (xw_neC est9 e9 (by simp))) est9
          have e_230 := r_222 tokenAt_ _ (by simp only [List.mem_cons, List.not_mem_nil, or_false, not_or]; exact (xw_neC ea9 e9 (by simp))) ea9
          have e_231 := r_222 tokenSize_ _ (by simp only [List.mem_cons, List.not_mem_nil, or_false, not_or]; exact (xw_neC es9 e9 (by simp))) es9
          have e_232 := r_222 groupFar_ _ (by simp only [List.mem_cons, List.not_mem_nil, or_false, not_or]; exact (xw_neC e_194 e9 (by simp))) e_194
          have r_233 := r_195.trans (r_222.mono (by simp))
          have g_234 : fs_212[36]? = some (.int (nI g)) := (ga_221 36 (by decide)).trans g_196
          have g_235 : fs_212[11]? = some (.int (nI asz)) := (ga_221 11 (by decide)).trans g_197
          have g_236 : fs_212[4]? = some (.ref asked_) := (ga_221 4 (by decide)).trans g_198
          have g_237 : fs_212[41]? = some (.ref firstToken_) := (ga_221 41 (by decide)).trans g_199
          have g_238 : fs_212[42]? = some (.ref starred_) := (ga_221 42 (by decide)).trans g_200
          have g_239 : fs_212[43]? = some (.ref tokenAt_) := (ga_221 43 (by decide)).trans g_201
          have g_240 : fs_212[44]? = some (.ref tokenSize_) := (ga_221 44 (by decide)).trans g_202
          have g_241 : fs_212[49]? = some (.ref groupFar_) := (ga_221 49 (by decide)).trans g_203
          have g_242 : fs_212[33]? = some (.int bd9) := (ga_221 33 (by decide)).trans g33_
          have g_243 : fs_212[34]? = some (.int (nI ph9.length)) := (ga_221 34 (by decide)).trans g34_
          have g_244 : fs_212[35]? = some (.int (nI t9)) := (ga_221 35 (by decide)).trans g35_
          have ga_245 : ∀ i, i ∉ [28, 29, 30, 31, 33, 34, 35] → fs_212[i]? = fs[i]? := fun i hi => (ga_221 i (fun z => hi (by simp only [List.mem_cons, List.not_mem_nil, or_false] at z ⊢; omega))).trans (ga_204 i hi)
          have RQ_246 := RQ9.next (by rw [hk_210]; decide) (by rw [hk_210]; decide)
          have hb_247 := Nat.le_trans PT_213.1 PT_213.2.1
          refine x_le (xw_le_n (xw_le_n (xw_le_n (xw_le_n xw_le_e)))) ?_
          refine s_Model_near_273 ?_
          have hk_248 : ¬ kdP fa asz i9 = 13 := fun q => z_207 (by rw [q]; rfl)
          have hk10 : kdP fa asz i9 = 10 := hk9.resolve_right hk_248
          exact ⟨rfl, _, _, _, _, _, _, _, l_215, e_216, g_242, ga_245, e_228, e_229, e_230, e_231, e_232, r_233, Or.inr ⟨(skP fa asz i9), ph9, _, _, _, nr_7 hk_78 hx_138 hR9 hk_248 hk10, hbd9, PT_213, HY_214, g_217, g_218, g_219, g_220, g_243, g_244, RQ_246, ⟨h10, fun _ _ => rfl⟩⟩⟩
        · skip
          refine s_Model_near_89 ?_
          have hk_249 : kdP fa asz i9 = 13 := ((rk_iff _ (kdP_le fa asz i9)).2.2.2.2.2.2.2.2.2.1).mp ((nI_eq (b := 10) (by have := rk_le _ (kdP_le fa asz i9); omega) (by decide)).mp z_208)
          have hE_262 := HY9 (by rw [hk_249]; decide)
          rw [hE_262] at g31_
          refine x_callV (As := []) (b := m) (rest := []) (F1 := 4) (L1 := 87) (mc := 0) (ms := 0) d_Model_near_90 cV_Model_257 (f_nextH (x0 := (skP fa asz i9)) l9 e9 g28_ g29_ g30_ g31_ g_197 g_198 e_193 (by rw [← hE_262]; exact PT9.2.1) hasz (by omega) (by omega)) e9 ⟨by decide, rfl⟩ ⟨by omega, by show 8 + (1 + 11) + 87 ≤ _; omega⟩ ⟨by omega, by omega⟩ (Nat.le_of_ble_eq_true rfl) (fun v_264 h_263 p_265 => ?_)
          obtain ⟨rfl, y_250, fs_251, PT_252, HY_253, l_254, e_255, g_256, g_257, g_258, g_259, ga_260, r_261⟩ := p_265
          have e_266 := r_261 asked_ _ (by simp only [List.mem_cons, List.not_mem_nil, or_false, not_or]; exact (xw_neC e_193 e9 (by simp))) e_193
          have e_267 := r_261 firstToken_ _ (by simp only [List.mem_cons, List.not_mem_nil, or_false, not_or]; exact (xw_neC ef9 e9 (by simp))) ef9
          have e_268 := r_261 starred_ _ (by simp only [List.mem_cons, List.not_mem_nil, or_false, not_or]; exact (xw_neC est9 e9 (by simp))) est9
          have e_269 := r_261 tokenAt_ _ (by simp only [List.mem_cons, List.not_mem_nil, or_false, not_or]; exact (xw_neC ea9 e9 (by simp))) ea9
          have e_270 := r_261 tokenSize_ _ (by simp only [List.mem_cons, List.not_mem_nil, or_false, not_or]; exact (xw_neC es9 e9 (by simp))) es9
          have e_271 := r_261 groupFar_ _ (by simp only [List.mem_cons, List.not_mem_nil, or_false, not_or]; exact (xw_neC e_194 e9 (by simp))) e_194
          have r_272 := r_195.trans (r_261.mono (by simp))
          have g_273 : fs_251[36]? = some (.int (nI g)) := (ga_260 36 (by decide)).trans g_196
          have g_274 : fs_251[11]? = some (.int (nI asz)) := (ga_260 11 (by decide)).trans g_197
          have g_275 : fs_251[4]? = some (.ref asked_) := (ga_260 4 (by decide)).trans g_198
          have g_276 : fs_251[41]? = some (.ref firstToken_) := (ga_260 41 (by decide)).trans g_199
          have g_277 : fs_251[42]? = some (.ref starred_) := (ga_260 42 (by decide)).trans g_200
          have g_278 : fs_251[43]? = some (.ref tokenAt_) := (ga_260 43 (by decide)).trans g_201
          have g_279 : fs_251[44]? = some (.ref tokenSize_) := (ga_260 44 (by decide)).trans g_202
          have g_280 : fs_251[49]? = some (.ref groupFar_) := (ga_260 49 (by decide)).trans g_203
          have g_281 : fs_251[33]? = some (.int bd9) := (ga_260 33 (by decide)).trans g33_
          have g_282 : fs_251[34]? = some (.int (nI ph9.length)) := (ga_260 34 (by decide)).trans g34_
          have g_283 : fs_251[35]? = some (.int (nI t9)) := (ga_260 35 (by decide)).trans g35_
          have ga_284 : ∀ i, i ∉ [28, 29, 30, 31, 33, 34, 35] → fs_251[i]? = fs[i]? := fun i hi => (ga_260 i (fun z => hi (by simp only [List.mem_cons, List.not_mem_nil, or_false] at z ⊢; omega))).trans (ga_204 i hi)
          have RQ_285 := RQ9.next (by rw [hk_249]; decide) (by rw [hk_249]; decide)
          have hb_286 := Nat.le_trans PT_252.1 PT_252.2.1
          refine s_Model_near_93 l_254 e_255 g_258 ?_
          refine x_callV (As := [.int (nI (bl fa asz (skP fa asz i9)))]) (b := m) (rest := []) (F1 := 1) (L1 := 20) (mc := 0) (ms := 0) d_Model_near_98 cV_Model_221 (f_q (x := bl fa asz (skP fa asz i9)) l_254 e_255 g_274 g_275 e_266 (by omega) (by omega) (by omega) (by omega)) e_255 ⟨by decide, rfl⟩ ⟨by omega, by show 8 + (2 + 11) + 20 ≤ _; omega⟩ ⟨by omega, by omega⟩ (Nat.le_of_ble_eq_true rfl) (fun v_288 h_287 p_289 => ?_)
          obtain ⟨rfl, rfl⟩ := p_289
          refine s_Model_near_101 l_254 e_255 g_258 ?_
          rw [show (nI (bl fa asz (skP fa asz i9))) + 1 = nI ((bl fa asz (skP fa asz i9)) + 1) from nI_1 _]
          refine x_callV (As := [.int (nI ((bl fa asz (skP fa asz i9)) + 1))]) (b := m) (rest := []) (F1 := 1) (L1 := 20) (mc := 0) (ms := 0) d_Model_near_112 cV_Model_221 (f_q (x := (bl fa asz (skP fa asz i9)) + 1) l_254 e_255 g_274 g_275 e_266 (by omega) (by omega) (by omega) (by omega)) e_255 ⟨by decide, rfl⟩ ⟨by omega, by show 8 + (2 + 11) + 20 ≤ _; omega⟩ ⟨by omega, by omega⟩ (Nat.le_of_ble_eq_true rfl) (fun v_291 h_290 p_292 => ?_)
          obtain ⟨rfl, rfl⟩ := p_292
          refine s_Model_near_115 l_254 e_255 g_257 (fun z_293 => ?_) (fun z_294 => ?_)
          · skip
            refine s_Model_near_177 ?_
            refine s_Model_near_178 (fun z => absurd z (by decide)) (fun z_295 => ?_)
            refine s_Model_near_184 ?_
            refine s_Model_near_189 l_254 e_255 g_258 ?_
            have hk_296 : ¬ (kdP fa asz (skP fa asz i9) = 2 ∨ kdP fa asz (skP fa asz i9) = 3) := fun q => z_293 (by rcases q with q | q <;> (rw [q]; rfl))
            have hN_297 := rdN_k (fun q => hk_296 (Or.inl q)) (fun q => hk_296 (Or.inr q))
            refine x_callV (As := [.int 1, .int (nI (bl fa asz (skP fa asz i9)))]) (b := m) (rest := []) (F1 := 1) (L1 := 20) (mc := 0) (ms := 0) d_Model_near_193 cV_Model_250 (f_wrongsH (k := bl fa asz (skP fa asz i9)) l_254 e_255 g_281 (by omega) (by omega) (by omega)) e_255 ⟨by decide, rfl⟩ ⟨by omega, by show 8 + (3 + 11) + 20 ≤ _; omega⟩ ⟨by omega, by omega⟩ (Nat.le_of_ble_eq_true rfl) (fun v_309 h_308 p_310 => ?_)
            obtain ⟨rfl, bd_298, fs_299, hw_300, hw_301, hw_302, l_303, e_304, g_305, ga_306, r_307⟩ := p_310
            have e_311 := r_307 asked_ _ (by simp only [List.mem_cons, List.not_mem_nil, or_false, not_or]; exact (xw_neC e_266 e_255 (by simp))) e_266
            have e_312 := r_307 firstToken_ _ (by simp only [List.mem_cons, List.not_mem_nil, or_false, not_or]; exact (xw_neC e_267 e_255 (by simp))) e_267
            have e_313 := r_307 starred_ _ (by simp only [List.mem_cons, List.not_mem_nil, or_false, not_or]; exact (xw_neC e_268 e_255 (by simp))) e_268
            have e_314 := r_307 tokenAt_ _ (by simp only [List.mem_cons, List.not_mem_nil, or_false, not_or]; exact (xw_neC e_269 e_255 (by simp))) e_269
            have e_315 := r_307 tokenSize_ _ (by simp only [List.mem_cons, List.not_mem_nil, or_false, not_or]; exact (xw_neC e_270 e_255 (by simp))) e_270
            have e_316 := r_307 groupFar_ _ (by simp only [List.mem_cons, List.not_mem_nil, or_false, not_or]; exact (xw_neC e_271 e_255 (by simp))) e_271
            have r_317 := r_272.trans (r_307.mono (by simp))
            have g_318 : fs_299[36]? = some (.int (nI g)) := (ga_306 36 (by decide)).trans g_273
            have g_319 : fs_299[11]? = some (.int (nI asz)) := (ga_306 11 (by decide)).trans g_274
            have g_320 : fs_299[4]? = some (.ref asked_) := (ga_306 4 (by decide)).trans g_275
            have g_321 : fs_299[41]? = some (.ref firstToken_) := (ga_306 41 (by decide)).trans g_276
            have g_322 : fs_299[42]? = some (.ref starred_) := (ga_306 42 (by decide)).trans g_277
            have g_323 : fs_299[43]? = some (.ref tokenAt_) := (ga_306 43 (by decide)).trans g_278
            have g_324 : fs_299[44]? = some (.ref tokenSize_) := (ga_306 44 (by decide)).trans g_279
            have g_325 : fs_299[49]? = some (.ref groupFar_) := (ga_306 49 (by decide)).trans g_280
            have g_326 : fs_299[34]? = some (.int (nI ph9.length)) := (ga_306 34 (by decide)).trans g_282
            have g_327 : fs_299[35]? = some (.int (nI t9)) := (ga_306 35 (by decide)).trans g_283
            have g_328 : fs_299[28]? = some (.int (nI (bl fa asz (skP fa asz i9)))) := (ga_306 28 (by decide)).trans g_256
            have g_329 : fs_299[29]? = some (.int (nI (rkd (kdP fa asz (skP fa asz i9))))) := (ga_306 29 (by decide)).trans g_257
            have g_330 : fs_299[30]? = some (.int (nI (bl fa asz (skP fa asz i9)))) := (ga_306 30 (by decide)).trans g_258
            have g_331 : fs_299[31]? = some (.int (nI y_250)) := (ga_306 31 (by decide)).trans g_259
            have ga_332 : ∀ i, i ∉ [28, 29, 30, 31, 33, 34, 35] → fs_299[i]? = fs[i]? := fun i hi => (ga_306 i (fun z => hi (by simp only [List.mem_cons, List.not_mem_nil, or_false] at z ⊢; omega))).trans (ga_284 i hi)
            have hb_333 : ¬ bd_298 < 0 := hw_301 (by decide)
            have hb_334 : 0 ≤ bd_298 := Int32.not_lt.mp hb_333
            refine s_Model_near_196 l_303 e_304 g_305 (fun z => absurd z hb_333) (fun z_335 => ?_)
            refine s_Model_near_203 ?_
            exact ⟨rfl, _, _, _, _, _, _, _, l_303, e_304, g_305, ga_332, e_312, e_313, e_314, e_315, e_316, r_317, Or.inl ⟨nr_3 hk_78 hx_138 hR9 hk_249 hN_297, hb_333, (fun i9 hi9 => by simp only [List.mem_cons, List.not_mem_nil, or_false] at hi9; rcases hi9 with rfl | rfl | rfl | rfl | rfl | rfl | rfl <;> first | exact ⟨_, g_328⟩ | exact ⟨_, g_329⟩ | exact ⟨_, g_330⟩ | exact ⟨_, g_331⟩ | exact ⟨_, g_305⟩ | exact ⟨_, g_326⟩ | exact ⟨_, g_327⟩)⟩⟩
          · skip
            refine s_Model_near_127 ?_
            refine x_callS (As := [.int ((qv fa asz (bl fa asz (skP fa asz i9))) - 48), .int 0, .int 9]) (rest := []) (F1 := 1) (L1 := 20) (mc := 0) (ms := 0) d_Model_near_131 cS_Model_133 (f_inB (by omega) (by omega)) ⟨by omega, by show 8 + (3 + 11) + 20 ≤ _; omega⟩ ⟨by omega, by omega⟩ (Nat.le_of_ble_eq_true rfl) (fun v_337 h_336 p_338 => ?_)
            obtain ⟨rfl, rfl⟩ := p_338
            refine s_Model_near_134 (fun z_339 => ?_) (fun z_340 => ?_)
            · skip
              refine s_Model_near_177 ?_
              refine s_Model_near_178 (fun z => absurd z (by decide)) (fun z_341 => ?_)
              refine s_Model_near_184 ?_
              refine s_Model_near_189 l_254 e_255 g_258 ?_
              have hk_342 : kdP fa asz (skP fa asz i9) = 2 ∨ kdP fa asz (skP fa asz i9) = 3 := (rk_1 _ (kdP_le fa asz (skP fa asz i9))).mp ((nI_eq (b := 1) (by have := rk_le _ (kdP_le fa asz (skP fa asz i9)); omega) (by decide)).mp z_294)
              have kw9 := kd_w hk_342
              have hE_343 := HY_253 (by rcases hk_342 with q | q <;> (rw [q]; decide))
              have hd0 : dig (qv fa asz (bl fa asz (skP fa asz i9))) = false := by rw [← dgq h128]; exact b01_f z_339
              rw [qv_in (by omega)] at hd0
              have hN_344 := rn_d0 hd0
              refine x_callV (As := [.int 1, .int (nI (bl fa asz (skP fa asz i9)))]) (b := m) (rest := []) (F1 := 1) (L1 := 20) (mc := 0) (ms := 0) d_Model_near_193 cV_Model_250 (f_wrongsH (k := bl fa asz (skP fa asz i9)) l_254 e_255 g_281 (by omega) (by omega) (by omega)) e_255 ⟨by decide, rfl⟩ ⟨by omega, by show 8 + (3 + 11) + 20 ≤ _; omega⟩ ⟨by omega, by omega⟩ (Nat.le_of_ble_eq_true rfl) (fun v_356 h_355 p_357 => ?_)
              obtain ⟨rfl, bd_345, fs_346, hw_347, hw_348, hw_349, l_350, e_351, g_352, ga_353, r_354⟩ := p_357
              have e_358 := r_354 asked_ _ (by simp only [List.mem_cons, List.not_mem_nil, or_false, not_or]; exact (xw_neC e_266 e_255 (by simp))) e_266
              have e_359 := r_354 firstToken_ _ (by simp only [List.mem_cons, List.not_mem_nil, or_false, not_or]; exact (xw_neC e_267 e_255 (by simp))) e_267
              have e_360 := r_354 starred_ _ (by simp only [List.mem_cons, List.not_mem_nil, or_false, not_or]; exact (xw_neC e_268 e_255 (by simp))) e_268
              have e_361 := r_354 tokenAt_ _ (by simp only [List.mem_cons, List.not_mem_nil, or_false, not_or]; exact (xw_neC e_269 e_255 (by simp))) e_269
              have e_362 := r_354 tokenSize_ _ (by simp only [List.mem_cons, List.not_mem_nil, or_false, not_or]; exact (xw_neC e_270 e_255 (by simp))) e_270
              have e_363 := r_354 groupFar_ _ (by simp only [List.mem_cons, List.not_mem_nil, or_false, not_or]; exact (xw_neC e_271 e_255 (by simp))) e_271
              have r_364 := r_272.trans (r_354.mono (by simp))
              have g_365 : fs_346[36]? = some (.int (nI g)) := (ga_353 36 (by decide)).trans g_273
              have g_366 : fs_346[11]? = some (.int (nI asz)) := (ga_353 11 (by decide)).trans g_274
              have g_367 : fs_346[4]? = some (.ref asked_) := (ga_353 4 (by decide)).trans g_275
              have g_368 : fs_346[41]? = some (.ref firstToken_) := (ga_353 41 (by decide)).trans g_276
              have g_369 : fs_346[42]? = some (.ref starred_) := (ga_353 42 (by decide)).trans g_277
              have g_370 : fs_346[43]? = some (.ref tokenAt_) := (ga_353 43 (by decide)).trans g_278
              have g_371 : fs_346[44]? = some (.ref tokenSize_) := (ga_353 44 (by decide)).trans g_279
              have g_372 : fs_346[49]? = some (.ref groupFar_) := (ga_353 49 (by decide)).trans g_280
              have g_373 : fs_346[34]? = some (.int (nI ph9.length)) := (ga_353 34 (by decide)).trans g_282
              have g_374 : fs_346[35]? = some (.int (nI t9)) := (ga_353 35 (by decide)).trans g_283
              have g_375 : fs_346[28]? = some (.int (nI (bl fa asz (skP fa asz i9)))) := (ga_353 28 (by decide)).trans g_256
              have g_376 : fs_346[29]? = some (.int (nI (rkd (kdP fa asz (skP fa asz i9))))) := (ga_353 29 (by decide)).trans g_257
              have g_377 : fs_346[30]? = some (.int (nI (bl fa asz (skP fa asz i9)))) := (ga_353 30 (by decide)).trans g_258
              have g_378 : fs_346[31]? = some (.int (nI y_250)) := (ga_353 31 (by decide)).trans g_259
              have ga_379 : ∀ i, i ∉ [28, 29, 30, 31, 33, 34, 35] → fs_346[i]? = fs[i]? := fun i hi => (ga_353 i (fun z => hi (by simp only [List.mem_cons, List.not_mem_nil, or_false] at z ⊢; omega))).trans (ga_284 i hi)
              have hb_380 : ¬ bd_345 < 0 := hw_348 (by decide)
              have hb_381 : 0 ≤ bd_345 := Int32.not_lt.mp hb_380
              refine s_Model_near_196 l_350 e_351 g_352 (fun z => absurd z hb_380) (fun z_382 => ?_)
              refine s_Model_near_203 ?_
              exact ⟨rfl, _, _, _, _, _, _, _, l_350, e_351, g_352, ga_379, e_359, e_360, e_361, e_362, e_363, r_364, Or.inl ⟨nr_3 hk_78 hx_138 hR9 hk_249 hN_344, hb_380, (fun i9 hi9 => by simp only [List.mem_cons, List.not_mem_nil, or_false] at hi9; rcases hi9 with rfl | rfl | rfl | rfl | rfl | rfl | rfl <;> first | exact ⟨_, g_375⟩ | exact ⟨_, g_376⟩ | exact ⟨_, g_377⟩ | exact ⟨_, g_378⟩ | exact ⟨_, g_352⟩ | exact ⟨_, g_373⟩ | exact ⟨_, g_374⟩)⟩⟩
            · skip
              refine s_Model_near_137 l_254 e_255 g_259 g_258 (fun z_383 => ?_) (fun z_384 => ?_)
              · skip
                refine s_Model_near_173 ?_
                refine s_Model_near_178 (fun z_385 => ?_) (fun z => absurd z (by decide))
                refine s_Model_near_188 ?_
                refine s_Model_near_189 l_254 e_255 g_258 ?_
                have hk_386 : kdP fa asz (skP fa asz i9) = 2 ∨ kdP fa asz (skP fa asz i9) = 3 := (rk_1 _ (kdP_le fa asz (skP fa asz i9))).mp ((nI_eq (b := 1) (by have := rk_le _ (kdP_le fa asz (skP fa asz i9)); omega) (by decide)).mp z_294)
                have kw9 := kd_w hk_386
                have hE_387 := HY_253 (by rcases hk_386 with q | q <;> (rw [q]; decide))
                have hd0 : dig (qv fa asz (bl fa asz (skP fa asz i9))) = true := by rw [← dgq h128]; exact b01_t z_340
                rw [qv_in (by omega)] at hd0
                rw [hE_387, pk_sub (by omega)] at z_383
                have hl_388 : skP fa asz (skP fa asz i9) = bl fa asz (skP fa asz i9) + 1 := by have := (nI_eq (b := 1) (by omega) (by decide)).mp z_383; omega
                have hN_389 := rn_1 hk_386 hd0 hl_388
                refine x_callV (As := [.int 0, .int (nI (bl fa asz (skP fa asz i9)))]) (b := m) (rest := []) (F1 := 1) (L1 := 20) (mc := 0) (ms := 0) d_Model_near_193 cV_Model_250 (f_wrongsH (k := bl fa asz (skP fa asz i9)) l_254 e_255 g_281 (by omega) (by omega) (by omega)) e_255 ⟨by decide, rfl⟩ ⟨by omega, by show 8 + (3 + 11) + 20 ≤ _; omega⟩ ⟨by omega, by omega⟩ (Nat.le_of_ble_eq_true rfl) (fun v_401 h_400 p_402 => ?_)
                obtain ⟨rfl, bd_390, fs_391, hw_392, hw_393, hw_394, l_395, e_396, g_397, ga_398, r_399⟩ := p_402
                have e_403 := r_399 asked_ _ (by simp only [List.mem_cons, List.not_mem_nil, or_false, not_or]; exact (xw_neC e_266 e_255 (by simp))) e_266
                have e_404 := r_399 firstToken_ _ (by simp only [List.mem_cons, List.not_mem_nil, or_false, not_or]; exact (xw_neC e_267 e_255 (by simp))) e_267
                have e_405 := r_399 starred_ _ (by simp only [List.mem_cons, List.not_mem_nil, or_false, not_or]; exact (xw_neC e_268 e_255 (by simp))) e_268
                have e_406 := r_399 tokenAt_ _ (by simp only [List.mem_cons, List.not_mem_nil, or_false, not_or]; exact (xw_neC e_269 e_255 (by simp))) e_269
                have e_407 := r_399 tokenSize_ _ (by simp only [List.mem_cons, List.not_mem_nil, or_false, not_or]; exact (xw_neC e_270 e_255 (by simp))) e_270
                have e_408 := r_399 groupFar_ _ (by simp only [List.mem_cons, List.not_mem_nil, or_false, not_or]; exact (xw_neC e_271 e_255 (by simp))) e_271
                have r_409 := r_272.trans (r_399.mono (by simp))
                have g_410 : fs_391[36]? = some (.int (nI g)) := (ga_398 36 (by decide)).trans g_273
                have g_411 : fs_391[11]? = some (.int (nI asz)) := (ga_398 11 (by decide)).trans g_274
                have g_412 : fs_391[4]? = some (.ref asked_) := (ga_398 4 (by decide)).trans g_275
                have g_413 : fs_391[41]? = some (.ref firstToken_) := (ga_398 41 (by decide)).trans g_276
                have g_414 : fs_391[42]? = some (.ref starred_) := (ga_398 42 (by decide)).trans g_277
                have g_415 : fs_391[43]? = some (.ref tokenAt_) := (ga_398 43 (by decide)).trans g_278
                have g_416 : fs_391[44]? = some (.ref tokenSize_) := (ga_398 44 (by decide)).trans g_279
                have g_417 : fs_391[49]? = some (.ref groupFar_) := (ga_398 49 (by decide)).trans g_280
                have g_418 : fs_391[34]? = some (.int (nI ph9.length)) := (ga_398 34 (by decide)).trans g_282
                have g_419 : fs_391[35]? = some (.int (nI t9)) := (ga_398 35 (by decide)).trans g_283
                have g_420 : fs_391[28]? = some (.int (nI (bl fa asz (skP fa asz i9)))) := (ga_398 28 (by decide)).trans g_256
                have g_421 : fs_391[29]? = some (.int (nI (rkd (kdP fa asz (skP fa asz i9))))) := (ga_398 29 (by decide)).trans g_257
                have g_422 : fs_391[30]? = some (.int (nI (bl fa asz (skP fa asz i9)))) := (ga_398 30 (by decide)).trans g_258
                have g_423 : fs_391[31]? = some (.int (nI y_250)) := (ga_398 31 (by decide)).trans g_259
                have ga_424 : ∀ i, i ∉ [28, 29, 30, 31, 33, 34, 35] → fs_391[i]? = fs[i]? := fun i hi => (ga_398 i (fun z => hi (by simp only [List.mem_cons, List.not_mem_nil, or_false] at z ⊢; omega))).trans (ga_284 i hi)
                have hb_425 : bd_390 < 0 := by rw [hw_392 rfl]; exact hbd9
                have hb_426 : ¬ 0 ≤ bd_390 := Int32.not_le.mpr hb_425
                refine s_Model_near_196 l_395 e_396 g_397 (fun z_427 => ?_) (fun z => absurd hb_425 z)
                refine s_Model_near_204 (groupFar_a0 := some groupFar_) l_395 e_396 g_417 g_410 g_423 g_422 (fun z => absurd z_383 z) (fun z_428 => ?_)
                refine s_Model_near_225 ?_
                have q0 := dgw (k := bl fa asz (skP fa asz i9)) h128 (by rw [qv_in (by omega)]; exact hd0)
                rw [q0.1]
                refine s_Model_near_235 e_408 (vp_in_nI (by omega) (by omega)) ?_
                refine x_u1 (fun h_429 e_430 f_431 => ?_)
                have e_432 := (f_431 asked_ (xw_neC e_403 e_408 (by simp))).trans e_403
                have e_433 := (f_431 firstToken_ n_firstToken_groupFar).trans e_404
                have e_434 := (f_431 starred_ n_starred_groupFar).trans e_405
                have e_435 := (f_431 tokenAt_ (xw_neC e_406 e_408 (by simp))).trans e_406
                have e_436 := (f_431 tokenSize_ (xw_neC e_407 e_408 (by simp))).trans e_407
                have e_437 := (f_431 m (xw_neC e_396 e_408 (by simp))).trans e_396
                have r_438 := r_409.up (by simp) f_431
                have hE_451 := HY_253 (by rcases hk_386 with q | q <;> (rw [q]; decide))
                rw [hE_451] at g_423
                refine x_callV (As := []) (b := m) (rest := []) (F1 := 4) (L1 := 87) (mc := 0) (ms := 0) d_Model_near_237 cV_Model_257 (f_nextH (x0 := (skP fa asz (skP fa asz i9))) l_395 e_437 g_420 g_421 g_422 g_423 g_411 g_412 e_432 (by rw [← hE_451]; exact PT_252.2.1) hasz (by omega) (by omega)) e_437 ⟨by decide, rfl⟩ ⟨by omega, by show 8 + (1 + 11) + 87 ≤ _; omega⟩ ⟨by omega, by omega⟩ (Nat.le_of_ble_eq_true rfl) (fun v_453 h_452 p_454 => ?_)
                obtain ⟨rfl, y_439, fs_440, PT_441, HY_442, l_443, e_444, g_445, g_446, g_447, g_448, ga_449, r_450⟩ := p_454
                have e_455 := r_450 asked_ _ (by simp only [List.mem_cons, List.not_mem_nil, or_false, not_or]; exact (xw_neC e_432 e_437 (by simp))) e_432
                have e_456 := r_450 firstToken_ _ (by simp only [List.mem_cons, List.not_mem_nil, or_false, not_or]; exact (xw_neC e_433 e_437 (by simp))) e_433
                have e_457 := r_450 starred_ _ (by simp only [List.mem_cons, List.not_mem_nil, or_false, not_or]; exact (xw_neC e_434 e_437 (by simp))) e_434
                have e_458 := r_450 tokenAt_ _ (by simp only [List.mem_cons, List.not_mem_nil, or_false, not_or]; exact (xw_neC e_435 e_437 (by simp))) e_435
                have e_459 := r_450 tokenSize_ _ (by simp only [List.mem_cons, List.not_mem_nil, or_false, not_or]; exact (xw_neC e_436 e_437 (by simp))) e_436
                have e_460 := r_450 groupFar_ _ (by simp only [List.mem_cons, List.not_mem_nil, or_false, not_or]; exact (xw_neC e_430 e_437 (by simp))) e_430
                have r_461 := r_438.trans (r_450.mono (by simp))
                have g_462 : fs_440[36]? = some (.int (nI g)) := (ga_449 36 (by decide)).trans g_410
                have g_463 : fs_440[11]? = some (.int (nI asz)) := (ga_449 11 (by decide)).trans g_411
                have g_464 : fs_440[4]? = some (.ref asked_) := (ga_449 4 (by decide)).trans g_412
                have g_465 : fs_440[41]? = some (.ref firstToken_) := (ga_449 41 (by decide)).trans g_413
                have g_466 : fs_440[42]? = some (.ref starred_) := (ga_449 42 (by decide)).trans g_414
                have g_467 : fs_440[43]? = some (.ref tokenAt_) := (ga_449 43 (by decide)).trans g_415
                have g_468 : fs_440[44]? = some (.ref tokenSize_) := (ga_449 44 (by decide)).trans g_416
                have g_469 : fs_440[49]? = some (.ref groupFar_) := (ga_449 49 (by decide)).trans g_417
                have g_470 : fs_440[34]? = some (.int (nI ph9.length)) := (ga_449 34 (by decide)).trans g_418
                have g_471 : fs_440[35]? = some (.int (nI t9)) := (ga_449 35 (by decide)).trans g_419
                have g_472 : fs_440[33]? = some (.int bd_390) := (ga_449 33 (by decide)).trans g_397
                have ga_473 : ∀ i, i ∉ [28, 29, 30, 31, 33, 34, 35] → fs_440[i]? = fs[i]? := fun i hi => (ga_449 i (fun z => hi (by simp only [List.mem_cons, List.not_mem_nil, or_false] at z ⊢; omega))).trans (ga_424 i hi)
                have RQ_474 := RQ_285.next (by rcases hk_386 with q | q <;> (rw [q]; decide)) (by rcases hk_386 with q | q <;> (rw [q]; decide))
                have hb_475 := Nat.le_trans PT_441.1 PT_441.2.1
                refine s_Model_near_240 l_443 e_444 g_446 (fun z_476 => ?_) (fun z_477 => ?_)
                · skip
                  refine s_Model_near_253 ?_
                  refine s_Model_near_254 l_443 e_444 g_447 ?_
                  refine x_callV (As := [.int 0, .int (nI (bl fa asz (skP fa asz (skP fa asz i9))))]) (b := m) (rest := []) (F1 := 1) (L1 := 20) (mc := 0) (ms := 0) d_Model_near_258 cV_Model_250 (f_wrongsH (k := bl fa asz (skP fa asz (skP fa asz i9))) l_443 e_444 g_472 (by omega) (by omega) (by omega)) e_444 ⟨by decide, rfl⟩ ⟨by omega, by show 8 + (3 + 11) + 20 ≤ _; omega⟩ ⟨by omega, by omega⟩ (Nat.le_of_ble_eq_true rfl) (fun v_489 h_488 p_490 => ?_)
                  obtain ⟨rfl, bd_478, fs_479, hw_480, hw_481, hw_482, l_483, e_484, g_485, ga_486, r_487⟩ := p_490
                  have e_491 := r_487 asked_ _ (by simp only [List.mem_cons, List.not_mem_nil, or_false, not_or]; exact (xw_neC e_455 e_444 (by simp))) e_455
                  have e_492 := r_487 firstToken_ _ (by simp only [List.mem_cons, List.not_mem_nil, or_false, not_or]; exact (xw_neC e_456 e_444 (by simp))) e_456
                  have e_493 := r_487 starred_ _ (by simp only [List.mem_cons, List.not_mem_nil, or_false, not_or]; exact (xw_neC e_457 e_444 (by simp))) e_457
                  have e_494 := r_487 tokenAt_ _ (by simp only [List.mem_cons, List.not_mem_nil, or_false, not_or]; exact (xw_neC e_458 e_444 (by simp))) e_458
                  have e_495 := r_487 tokenSize_ _ (by simp only [List.mem_cons, List.not_mem_nil, or_false, not_or]; exact (xw_neC e_459 e_444 (by simp))) e_459
                  have e_496 := r_487 groupFar_ _ (by simp only [List.mem_cons, List.not_mem_nil, or_false, not_or]; exact (xw_neC e_460 e_444 (by simp))) e_460
                  have r_497 := r_461.trans (r_487.mono (by simp))
                  have g_498 : fs_479[36]? = some (.int (nI g)) := (ga_486 36 (by decide)).trans g_462
                  have g_499 : fs_479[11]? = some (.int (nI asz)) := (ga_486 11 (by decide)).trans g_463
                  have g_500 : fs_479[4]? = some (.ref asked_) := (ga_486 4 (by decide)).trans g_464
                  have g_501 : fs_479[41]? = some (.ref firstToken_) := (ga_486 41 (by decide)).trans g_465
                  have g_502 : fs_479[42]? = some (.ref starred_) := (ga_486 42 (by decide)).trans g_466
                  have g_503 : fs_479[43]? = some (.ref tokenAt_) := (ga_486 43 (by decide)).trans g_467
                  have g_504 : fs_479[44]? = some (.ref tokenSize_) := (ga_486 44 (by decide)).trans g_468
                  have g_505 : fs_479[49]? = some (.ref groupFar_) := (ga_486 49 (by decide)).trans g_469
                  have g_506 : fs_479[34]? = some (.int (nI ph9.length)) := (ga_486 34 (by decide)).trans g_470
                  have g_507 : fs_479[35]? = some (.int (nI t9)) := (ga_486 35 (by decide)).trans g_471
                  have g_508 : fs_479[28]? = some (.int (nI (bl fa asz (skP fa asz (skP fa asz i9))))) := (ga_486 28 (by decide)).trans g_445
                  have g_509 : fs_479[29]? = some (.int (nI (rkd (kdP fa asz (skP fa asz (skP fa asz i9)))))) := (ga_486 29 (by decide)).trans g_446
                  have g_510 : fs_479[30]? = some (.int (nI (bl fa asz (skP fa asz (skP fa asz i9))))) := (ga_486 30 (by decide)).trans g_447
                  have g_511 : fs_479[31]? = some (.int (nI y_439)) := (ga_486 31 (by decide)).trans g_448
                  have ga_512 : ∀ i, i ∉ [28, 29, 30, 31, 33, 34, 35] → fs_479[i]? = fs[i]? := fun i hi => (ga_486 i (fun z => hi (by simp only [List.mem_cons, List.not_mem_nil, or_false] at z ⊢; omega))).trans (ga_473 i hi)
                  have hb_513 : bd_478 < 0 := by rw [hw_480 rfl]; exact hb_425
                  have hb_514 : ¬ 0 ≤ bd_478 := Int32.not_le.mpr hb_513
                  refine s_Model_near_261 l_483 e_484 g_485 (fun z_515 => ?_) (fun z => absurd hb_513 z)
                  have hk_516 : kdP fa asz (skP fa asz (skP fa asz i9)) = 10 := ((rk_iff _ (kdP_le fa asz (skP fa asz (skP fa asz i9)))).2.2.2.1).mp ((nI_eq (b := 4) (by have := rk_le _ (kdP_le fa asz (skP fa asz (skP fa asz i9))); omega) (by decide)).mp z_476)
                  refine s_Model_near_269 ?_
                  have hE_529 := HY_442 (by rw [hk_516]; decide)
                  rw [hE_529] at g_511
                  refine x_callV (As := []) (b := m) (rest := []) (F1 := 4) (L1 := 87) (mc := 0) (ms := 0) d_Model_near_270 cV_Model_257 (f_nextH (x0 := (skP fa asz (skP fa asz (skP fa asz i9)))) l_483 e_484 g_508 g_509 g_510 g_511 g_499 g_500 e_491 (by rw [← hE_529]; exact PT_441.2.1) hasz (by omega) (by omega)) e_484 ⟨by decide, rfl⟩ ⟨by omega, by show 8 + (1 + 11) + 87 ≤ _; omega⟩ ⟨by omega, by omega⟩ (Nat.le_of_ble_eq_true rfl) (fun v_531 h_530 p_532 => ?_)
                  obtain ⟨rfl, y_517, fs_518, PT_519, HY_520, l_521, e_522, g_523, g_524, g_525, g_526, ga_527, r_528⟩ := p_532
                  have e_533 := r_528 asked_ _ (by simp only [List.mem_cons, List.not_mem_nil, or_false, not_or]; exact (xw_neC e_491 e_484 (by simp))) e_491
                  have e_534 := r_528 firstToken_ _ (by simp only [List.mem_cons, List.not_mem_nil, or_false, not_or]; exact (xw_neC e_492 e_484 (by simp))) e_492
                  have e_535 := r_528 starred_ _ (by simp only [List.mem_cons, List.not_mem_nil, or_false, not_or]; exact (xw_neC e_493 e_484 (by simp))) e_493
                  have e_536 := r_528 tokenAt_ _ (by simp only [List.mem_cons, List.not_mem_nil, or_false, not_or]; exact (xw_neC e_494 e_484 (by simp))) e_494
                  have e_537 := r_528 tokenSize_ _ (by simp only [List.mem_cons, List.not_mem_nil, or_false, not_or]; exact (xw_neC e_495 e_484 (by simp))) e_495
                  have e_538 := r_528 groupFar_ _ (by simp only [List.mem_cons, List.not_mem_nil, or_false, not_or]; exact (xw_neC e_496 e_484 (by simp))) e_496
                  have r_539 := r_497.trans (r_528.mono (by simp))
                  have g_540 : fs_518[36]? = some (.int (nI g)) := (ga_527 36 (by decide)).trans g_498
                  have g_541 : fs_518[11]? = some (.int (nI asz)) := (ga_527 11 (by decide)).trans g_499
                  have g_542 : fs_518[4]? = some (.ref asked_) := (ga_527 4 (by decide)).trans g_500
                  have g_543 : fs_518[41]? = some (.ref firstToken_) := (ga_527 41 (by decide)).trans g_501
                  have g_544 : fs_518[42]? = some (.ref starred_) := (ga_527 42 (by decide)).trans g_502
                  have g_545 : fs_518[43]? = some (.ref tokenAt_) := (ga_527 43 (by decide)).trans g_503
                  have g_546 : fs_518[44]? = some (.ref tokenSize_) := (ga_527 44 (by decide)).trans g_504
                  have g_547 : fs_518[49]? = some (.ref groupFar_) := (ga_527 49 (by decide)).trans g_505
                  have g_548 : fs_518[34]? = some (.int (nI ph9.length)) := (ga_527 34 (by decide)).trans g_506
                  have g_549 : fs_518[35]? = some (.int (nI t9)) := (ga_527 35 (by decide)).trans g_507
                  have g_550 : fs_518[33]? = some (.int bd_478) := (ga_527 33 (by decide)).trans g_485
                  have ga_551 : ∀ i, i ∉ [28, 29, 30, 31, 33, 34, 35] → fs_518[i]? = fs[i]? := fun i hi => (ga_527 i (fun z => hi (by simp only [List.mem_cons, List.not_mem_nil, or_false] at z ⊢; omega))).trans (ga_512 i hi)
                  have RQ_552 := RQ_474.next (by rw [hk_516]; decide) (by rw [hk_516]; decide)
                  have hb_553 := Nat.le_trans PT_519.1 PT_519.2.1
                  refine x_le (xw_le_n (xw_le_n (xw_le_n (xw_le_n xw_le_e)))) ?_
                  refine s_Model_near_273 ?_
                  rw [nI_clamp (show g < 2 ^ 31 by omega)] at e_538
                  have hnq := hN_389
                  rw [← qv_in (f := fa) (n := asz) (k := bl fa asz (skP fa asz i9)) (by omega)] at hnq
                  exact ⟨rfl, _, _, _, _, _, _, _, l_521, e_522, g_550, ga_551, e_534, e_535, e_536, e_537, e_538, r_539, Or.inr ⟨(skP fa asz (skP fa asz (skP fa asz i9))), ph9, _, _, _, nr_5 hk_78 hx_138 hR9 hk_249 hnq hk_516, hb_513, PT_519, HY_520, g_523, g_524, g_525, g_526, g_548, g_549, RQ_552, ⟨pk_us, fun j hj => pk_un hj⟩⟩⟩
                · skip
                  refine s_Model_near_249 ?_
                  refine s_Model_near_254 l_443 e_444 g_447 ?_
                  refine x_callV (As := [.int 1, .int (nI (bl fa asz (skP fa asz (skP fa asz i9))))]) (b := m) (rest := []) (F1 := 1) (L1 := 20) (mc := 0) (ms := 0) d_Model_near_258 cV_Model_250 (f_wrongsH (k := bl fa asz (skP fa asz (skP fa asz i9))) l_443 e_444 g_472 (by omega) (by omega) (by omega)) e_444 ⟨by decide, rfl⟩ ⟨by omega, by show 8 + (3 + 11) + 20 ≤ _; omega⟩ ⟨by omega, by omega⟩ (Nat.le_of_ble_eq_true rfl) (fun v_565 h_564 p_566 => ?_)
                  obtain ⟨rfl, bd_554, fs_555, hw_556, hw_557, hw_558, l_559, e_560, g_561, ga_562, r_563⟩ := p_566
                  have e_567 := r_563 asked_ _ (by simp only [List.mem_cons, List.not_mem_nil, or_false, not_or]; exact (xw_neC e_455 e_444 (by simp))) e_455
                  have e_568 := r_563 firstToken_ _ (by simp only [List.mem_cons, List.not_mem_nil, or_false, not_or]; exact (xw_neC e_456 e_444 (by simp))) e_456
                  have e_569 := r_563 starred_ _ (by simp only [List.mem_cons, List.not_mem_nil, or_false, not_or]; exact (xw_neC e_457 e_444 (by simp))) e_457
                  have e_570 := r_563 tokenAt_ _ (by simp only [List.mem_cons, List.not_mem_nil, or_false, not_or]; exact (xw_neC e_458 e_444 (by simp))) e_458
                  have e_571 := r_563 tokenSize_ _ (by simp only [List.mem_cons, List.not_mem_nil, or_false, not_or]; exact (xw_neC e_459 e_444 (by simp))) e_459
                  have e_572 := r_563 groupFar_ _ (by simp only [List.mem_cons, List.not_mem_nil, or_false, not_or]; exact (xw_neC e_460 e_444 (by simp))) e_460
                  have r_573 := r_461.trans (r_563.mono (by simp))
                  have g_574 : fs_555[36]? = some (.int (nI g)) := (ga_562 36 (by decide)).trans g_462
                  have g_575 : fs_555[11]? = some (.int (nI asz)) := (ga_562 11 (by decide)).trans g_463
                  have g_576 : fs_555[4]? = some (.ref asked_) := (ga_562 4 (by decide)).trans g_464
                  have g_577 : fs_555[41]? = some (.ref firstToken_) := (ga_562 41 (by decide)).trans g_465
                  have g_578 : fs_555[42]? = some (.ref starred_) := (ga_562 42 (by decide)).trans g_466
                  have g_579 : fs_555[43]? = some (.ref tokenAt_) := (ga_562 43 (by decide)).trans g_467
                  have g_580 : fs_555[44]? = some (.ref tokenSize_) := (ga_562 44 (by decide)).trans g_468
                  have g_581 : fs_555[49]? = some (.ref groupFar_) := (ga_562 49 (by decide)).trans g_469
                  have g_582 : fs_555[34]? = some (.int (nI ph9.length)) := (ga_562 34 (by decide)).trans g_470
                  have g_583 : fs_555[35]? = some (.int (nI t9)) := (ga_562 35 (by decide)).trans g_471
                  have g_584 : fs_555[28]? = some (.int (nI (bl fa asz (skP fa asz (skP fa asz i9))))) := (ga_562 28 (by decide)).trans g_445
                  have g_585 : fs_555[29]? = some (.int (nI (rkd (kdP fa asz (skP fa asz (skP fa asz i9)))))) := (ga_562 29 (by decide)).trans g_446
                  have g_586 : fs_555[30]? = some (.int (nI (bl fa asz (skP fa asz (skP fa asz i9))))) := (ga_562 30 (by decide)).trans g_447
                  have g_587 : fs_555[31]? = some (.int (nI y_439)) := (ga_562 31 (by decide)).trans g_448
                  have ga_588 : ∀ i, i ∉ [28, 29, 30, 31, 33, 34, 35] → fs_555[i]? = fs[i]? := fun i hi => (ga_562 i (fun z => hi (by simp only [List.mem_cons, List.not_mem_nil, or_false] at z ⊢; omega))).trans (ga_473 i hi)
                  have hb_589 : ¬ bd_554 < 0 := hw_557 (by decide)
                  have hb_590 : 0 ≤ bd_554 := Int32.not_lt.mp hb_589
                  refine s_Model_near_261 l_559 e_560 g_561 (fun z => absurd z hb_589) (fun z_591 => ?_)
                  refine s_Model_near_268 ?_
                  have hk_592 : ¬ kdP fa asz (skP fa asz (skP fa asz i9)) = 10 := fun q => z_477 (by rw [q]; rfl)
                  exact ⟨rfl, _, _, _, _, _, _, _, l_559, e_560, g_561, ga_588, e_568, e_569, e_570, e_571, e_572, r_573, Or.inl ⟨nr_4 hk_78 hx_138 hR9 hk_249 hN_389 hk_592, hb_589, (fun i9 hi9 => by simp only [List.mem_cons, List.not_mem_nil, or_false] at hi9; rcases hi9 with rfl | rfl | rfl | rfl | rfl | rfl | rfl <;> first | exact ⟨_, g_584⟩ | exact ⟨_, g_585⟩ | exact ⟨_, g_586⟩ | exact ⟨_, g_587⟩ | exact ⟨_, g_561⟩ | exact ⟨_, g_582⟩ | exact ⟨_, g_583⟩)⟩⟩
              · skip
                refine s_Model_near_150 l_254 e_255 g_259 g_258 (fun z_593 => ?_) (fun z_594 => ?_)
                · skip
                  refine s_Model_near_177 ?_
                  refine s_Model_near_178 (fun z => absurd z (by decide)) (fun z_595 => ?_)
                  refine s_Model_near_184 ?_
                  refine s_Model_near_189 l_254 e_255 g_258 ?_
                  have hk_596 : kdP fa asz (skP fa asz i9) = 2 ∨ kdP fa asz (skP fa asz i9) = 3 := (rk_1 _ (kdP_le fa asz (skP fa asz i9))).mp ((nI_eq (b := 1) (by have := rk_le _ (kdP_le fa asz (skP fa asz i9)); omega) (by decide)).mp z_294)
                  have kw9 := kd_w hk_596
                  have hE_597 := HY_253 (by rcases hk_596 with q | q <;> (rw [q]; decide))
                  have hd0 : dig (qv fa asz (bl fa asz (skP fa asz i9))) = true := by rw [← dgq h128]; exact b01_t z_340
                  rw [qv_in (by omega)] at hd0
                  rw [hE_597, pk_sub (by omega)] at z_384
                  rw [hE_597, pk_sub (by omega)] at z_593
                  have hl_598 : ¬ skP fa asz (skP fa asz i9) = bl fa asz (skP fa asz i9) + 1 := fun q => z_384 (by rw [show skP fa asz (skP fa asz i9) - bl fa asz (skP fa asz i9) = 1 by omega]; rfl)
                  have hl_599 : ¬ skP fa asz (skP fa asz i9) = bl fa asz (skP fa asz i9) + 2 := fun q => z_593 (by rw [show skP fa asz (skP fa asz i9) - bl fa asz (skP fa asz i9) = 2 by omega]; rfl)
                  have hN_600 := rn_l hl_598 hl_599
                  refine x_callV (As := [.int 1, .int (nI (bl fa asz (skP fa asz i9)))]) (b := m) (rest := []) (F1 := 1) (L1 := 20) (mc := 0) (ms := 0) d_Model_near_193 cV_Model_250 (f_wrongsH (k := bl fa asz (skP fa asz i9)) l_254 e_255 g_281 (by omega) (by omega) (by omega)) e_255 ⟨by decide, rfl⟩ ⟨by omega, by show 8 + (3 + 11) + 20 ≤ _; omega⟩ ⟨by omega, by omega⟩ (Nat.le_of_ble_eq_true rfl) (fun v_612 h_611 p_613 => ?_)
                  obtain ⟨rfl, bd_601, fs_602, hw_603, hw_604, hw_605, l_606, e_607, g_608, ga_609, r_610⟩ := p_613
                  have e_614 := r_610 asked_ _ (by simp only [List.mem_cons, List.not_mem_nil, or_false, not_or]; exact (xw_neC e_266 e_255 (by simp))) e_266
                  have e_615 := r_610 firstToken_ _ (by simp only [List.mem_cons, List.not_mem_nil, or_false, not_or]; exact (xw_neC e_267 e_255 (by simp))) e_267
                  have e_616 := r_610 starred_ _ (by simp only [List.mem_cons, List.not_mem_nil, or_false, not_or]; exact (xw_neC e_268 e_255 (by simp))) e_268
                  have e_617 := r_610 tokenAt_ _ (by simp only [List.mem_cons, List.not_mem_nil, or_false, not_or]; exact (xw_neC e_269 e_255 (by simp))) e_269
                  have e_618 := r_610 tokenSize_ _ (by simp only [List.mem_cons, List.not_mem_nil, or_false, not_or]; exact (xw_neC e_270 e_255 (by simp))) e_270
                  have e_619 := r_610 groupFar_ _ (by simp only [List.mem_cons, List.not_mem_nil, or_false, not_or]; exact (xw_neC e_271 e_255 (by simp))) e_271
                  have r_620 := r_272.trans (r_610.mono (by simp))
                  have g_621 : fs_602[36]? = some (.int (nI g)) := (ga_609 36 (by decide)).trans g_273
                  have g_622 : fs_602[11]? = some (.int (nI asz)) := (ga_609 11 (by decide)).trans g_274
                  have g_623 : fs_602[4]? = some (.ref asked_) := (ga_609 4 (by decide)).trans g_275
                  have g_624 : fs_602[41]? = some (.ref firstToken_) := (ga_609 41 (by decide)).trans g_276
                  have g_625 : fs_602[42]? = some (.ref starred_) := (ga_609 42 (by decide)).trans g_277
                  have g_626 : fs_602[43]? = some (.ref tokenAt_) := (ga_609 43 (by decide)).trans g_278
                  have g_627 : fs_602[44]? = some (.ref tokenSize_) := (ga_609 44 (by decide)).trans g_279
                  have g_628 : fs_602[49]? = some (.ref groupFar_) := (ga_609 49 (by decide)).trans g_280
                  have g_629 : fs_602[34]? = some (.int (nI ph9.length)) := (ga_609 34 (by decide)).trans g_282
                  have g_630 : fs_602[35]? = some (.int (nI t9)) := (ga_609 35 (by decide)).trans g_283
                  have g_631 : fs_602[28]? = some (.int (nI (bl fa asz (skP fa asz i9)))) := (ga_609 28 (by decide)).trans g_256
                  have g_632 : fs_602[29]? = some (.int (nI (rkd (kdP fa asz (skP fa asz i9))))) := (ga_609 29 (by decide)).trans g_257
                  have g_633 : fs_602[30]? = some (.int (nI (bl fa asz (skP fa asz i9)))) := (ga_609 30 (by decide)).trans g_258
                  have g_634 : fs_602[31]? = some (.int (nI y_250)) := (ga_609 31 (by decide)).trans g_259
                  have ga_635 : ∀ i, i ∉ [28, 29, 30, 31, 33, 34, 35] → fs_602[i]? = fs[i]? := fun i hi => (ga_609 i (fun z => hi (by simp only [List.mem_cons, List.not_mem_nil, or_false] at z ⊢; omega))).trans (ga_284 i hi)
                  have hb_636 : ¬ bd_601 < 0 := hw_604 (by decide)
                  have hb_637 : 0 ≤ bd_601 := Int32.not_lt.mp hb_636
                  refine s_Model_near_196 l_606 e_607 g_608 (fun z => absurd z hb_636) (fun z_638 => ?_)
                  refine s_Model_near_203 ?_
                  exact ⟨rfl, _, _, _, _, _, _, _, l_606, e_607, g_608, ga_635, e_615, e_616, e_617, e_618, e_619, r_620, Or.inl ⟨nr_3 hk_78 hx_138 hR9 hk_249 hN_600, hb_636, (fun i9 hi9 => by simp only [List.mem_cons, List.not_mem_nil, or_false] at hi9; rcases hi9 with rfl | rfl | rfl | rfl | rfl | rfl | rfl <;> first | exact ⟨_, g_631⟩ | exact ⟨_, g_632⟩ | exact ⟨_, g_633⟩ | exact ⟨_, g_634⟩ | exact ⟨_, g_608⟩ | exact ⟨_, g_629⟩ | exact ⟨_, g_630⟩)⟩⟩
                · skip
                  refine s_Model_near_163 ?_
                  refine x_callS (As := [.int ((qv fa asz ((bl fa asz (skP fa asz i9)) + 1)) - 48), .int 0, .int 9]) (rest := []) (F1 := 1) (L1 := 20) (mc := 0) (ms := 0) d_Model_near_167 cS_Model_133 (f_inB (by omega) (by omega)) ⟨by omega, by show 8 + (3 + 11) + 20 ≤ _; omega⟩ ⟨by omega, by omega⟩ (Nat.le_of_ble_eq_true rfl) (fun v_640 h_639 p_641 => ?_)
                  obtain ⟨rfl, rfl⟩ := p_641
                  refine s_Model_near_170 (fun z_642 => ?_) (fun z_643 => ?_)
                  · skip
                    refine s_Model_near_177 ?_
                    refine s_Model_near_178 (fun z => absurd z (by decide)) (fun z_644 => ?_)
                    refine s_Model_near_184 ?_
                    refine s_Model_near_189 l_254 e_255 g_258 ?_
                    have hk_645 : kdP fa asz (skP fa asz i9) = 2 ∨ kdP fa asz (skP fa asz i9) = 3 := (rk_1 _ (kdP_le fa asz (skP fa asz i9))).mp ((nI_eq (b := 1) (by have := rk_le _ (kdP_le fa asz (skP fa asz i9)); omega) (by decide)).mp z_294)
                    have kw9 := kd_w hk_645
                    have hE_646 := HY_253 (by rcases hk_645 with q | q <;> (rw [q]; decide))
                    have hd0 : dig (qv fa asz (bl fa asz (skP fa asz i9))) = true := by rw [← dgq h128]; exact b01_t z_340
                    rw [qv_in (by omega)] at hd0
                    rw [hE_646, pk_sub (by omega)] at z_384
                    rw [hE_646, pk_sub (by omega)] at z_594
                    have hl_647 : ¬ skP fa asz (skP fa asz i9) = bl fa asz (skP fa asz i9) + 1 := fun q => z_384 (by rw [show skP fa asz (skP fa asz i9) - bl fa asz (skP fa asz i9) = 1 by omega]; rfl)
                    have hl_648 : skP fa asz (skP fa asz i9) = bl fa asz (skP fa asz i9) + 2 := by have := (nI_eq (b := 2) (by omega) (by decide)).mp z_594; omega
                    have hd1 : dig (qv fa asz (bl fa asz (skP fa asz i9) + 1)) = false := by rw [← dgq h128]; exact b01_f z_642
                    rw [qv_in (by omega)] at hd1
                    have hN_649 := rn_d1 hl_647 hd1
                    refine x_callV (As := [.int 1, .int (nI (bl fa asz (skP fa asz i9)))]) (b := m) (rest := []) (F1 := 1) (L1 := 20) (mc := 0) (ms := 0) d_Model_near_193 cV_Model_250 (f_wrongsH (k := bl fa asz (skP fa asz i9)) l_254 e_255 g_281 (by omega) (by omega) (by omega)) e_255 ⟨by decide, rfl⟩ ⟨by omega, by show 8 + (3 + 11) + 20 ≤ _; omega⟩ ⟨by omega, by omega⟩ (Nat.le_of_ble_eq_true rfl) (fun v_661 h_660 p_662 => ?_)
                    obtain ⟨rfl, bd_650, fs_651, hw_652, hw_653, hw_654, l_655, e_656, g_657, ga_658, r_659⟩ := p_662
                    have e_663 := r_659 asked_ _ (by simp only [List.mem_cons, List.not_mem_nil, or_false, not_or]; exact (xw_neC e_266 e_255 (by simp))) e_266
                    have e_664 := r_659 firstToken_ _ (by simp only [List.mem_cons, List.not_mem_nil, or_false, not_or]; exact (xw_neC e_267 e_255 (by simp))) e_267
                    have e_665 := r_659 starred_ _ (by simp only [List.mem_cons, List.not_mem_nil, or_false, not_or]; exact (xw_neC e_268 e_255 (by simp))) e_268
                    have e_666 := r_659 tokenAt_ _ (by simp only [List.mem_cons, List.not_mem_nil, or_false, not_or]; exact (xw_neC e_269 e_255 (by simp))) e_269
                    have e_667 := r_659 tokenSize_ _ (by simp only [List.mem_cons, List.not_mem_nil, or_false, not_or]; exact (xw_neC e_270 e_255 (by simp))) e_270
                    have e_668 := r_659 groupFar_ _ (by simp only [List.mem_cons, List.not_mem_nil, or_false, not_or]; exact (xw_neC e_271 e_255 (by simp))) e_271
                    have r_669 := r_272.trans (r_659.mono (by simp))
                    have g_670 : fs_651[36]? = some (.int (nI g)) := (ga_658 36 (by decide)).trans g_273
                    have g_671 : fs_651[11]? = some (.int (nI asz)) := (ga_658 11 (by decide)).trans g_274
                    have g_672 : fs_651[4]? = some (.ref asked_) := (ga_658 4 (by decide)).trans g_275
                    have g_673 : fs_651[41]? = some (.ref firstToken_) := (ga_658 41 (by decide)).trans g_276
                    have g_674 : fs_651[42]? = some (.ref starred_) := (ga_658 42 (by decide)).trans g_277
                    have g_675 : fs_651[43]? = some (.ref tokenAt_) := (ga_658 43 (by decide)).trans g_278
                    have g_676 : fs_651[44]? = some (.ref tokenSize_) := (ga_658 44 (by decide)).trans g_279
                    have g_677 : fs_651[49]? = some (.ref groupFar_) := (ga_658 49 (by decide)).trans g_280
                    have g_678 : fs_651[34]? = some (.int (nI ph9.length)) := (ga_658 34 (by decide)).trans g_282
                    have g_679 : fs_651[35]? = some (.int (nI t9)) := (ga_658 35 (by decide)).trans g_283
                    have g_680 : fs_651[28]? = some (.int (nI (bl fa asz (skP fa asz i9)))) := (ga_658 28 (by decide)).trans g_256
                    have g_681 : fs_651[29]? = some (.int (nI (rkd (kdP fa asz (skP fa asz i9))))) := (ga_658 29 (by decide)).trans g_257
                    have g_682 : fs_651[30]? = some (.int (nI (bl fa asz (skP fa asz i9)))) := (ga_658 30 (by decide)).trans g_258
                    have g_683 : fs_651[31]? = some (.int (nI y_250)) := (ga_658 31 (by decide)).trans g_259
                    have ga_684 : ∀ i, i ∉ [28, 29, 30, 31, 33, 34, 35] → fs_651[i]? = fs[i]? := fun i hi => (ga_658 i (fun z => hi (by simp only [List.mem_cons, List.not_mem_nil, or_false] at z ⊢; omega))).trans (ga_284 i hi)
                    have hb_685 : ¬ bd_650 < 0 := hw_653 (by decide)
                    have hb_686 : 0 ≤ bd_650 := Int32.not_lt.mp hb_685
                    refine s_Model_near_196 l_655 e_656 g_657 (fun z => absurd z hb_685) (fun z_687 => ?_)
                    refine s_Model_near_203 ?_
                    exact ⟨rfl, _, _, _, _, _, _, _, l_655, e_656, g_657, ga_684, e_664, e_665, e_666, e_667, e_668, r_669, Or.inl ⟨nr_3 hk_78 hx_138 hR9 hk_249 hN_649, hb_685, (fun i9 hi9 => by simp only [List.mem_cons, List.not_mem_nil, or_false] at hi9; rcases hi9 with rfl | rfl | rfl | rfl | rfl | rfl | rfl <;> first | exact ⟨_, g_680⟩ | exact ⟨_, g_681⟩ | exact ⟨_, g_682⟩ | exact ⟨_, g_683⟩ | exact ⟨_, g_657⟩ | exact ⟨_, g_678⟩ | exact ⟨_, g_679⟩)⟩⟩
                  · skip
                    refine s_Model_near_173 ?_
                    refine s_Model_near_178 (fun z_688 => ?_) (fun z => absurd z (by decide))
                    refine s_Model_near_188 ?_
                    refine s_Model_near_189 l_254 e_255 g_258 ?_
                    have hk_689 : kdP fa asz (skP fa asz i9) = 2 ∨ kdP fa asz (skP fa asz i9) = 3 := (rk_1 _ (kdP_le fa asz (skP fa asz i9))).mp ((nI_eq (b := 1) (by have := rk_le _ (kdP_le fa asz (skP fa asz i9)); omega) (by decide)).mp z_294)
                    have kw9 := kd_w hk_689
                    have hE_690 := HY_253 (by rcases hk_689 with q | q <;> (rw [q]; decide))
                    have hd0 : dig (qv fa asz (bl fa asz (skP fa asz i9))) = true := by rw [← dgq h128]; exact b01_t z_340
                    rw [qv_in (by omega)] at hd0
                    rw [hE_690, pk_sub (by omega)] at z_384
                    rw [hE_690, pk_sub (by omega)] at z_594
                    have hl_691 : ¬ skP fa asz (skP fa asz i9) = bl fa asz (skP fa asz i9) + 1 := fun q => z_384 (by rw [show skP fa asz (skP fa asz i9) - bl fa asz (skP fa asz i9) = 1 by omega]; rfl)
                    have hl_692 : skP fa asz (skP fa asz i9) = bl fa asz (skP fa asz i9) + 2 := by have := (nI_eq (b := 2) (by omega) (by decide)).mp z_594; omega
                    have hd1 : dig (qv fa asz (bl fa asz (skP fa asz i9) + 1)) = true := by rw [← dgq h128]; exact b01_t z_643
                    rw [qv_in (by omega)] at hd1
                    have hN_693 := rn_2 hk_689 hd0 hl_692 hd1
                    refine x_callV (As := [.int 0, .int (nI (bl fa asz (skP fa asz i9)))]) (b := m) (rest := []) (F1 := 1) (L1 := 20) (mc := 0) (ms := 0) d_Model_near_193 cV_Model_250 (f_wrongsH (k := bl fa asz (skP fa asz i9)) l_254 e_255 g_281 (by omega) (by omega) (by omega)) e_255 ⟨by decide, rfl⟩ ⟨by omega, by show 8 + (3 + 11) + 20 ≤ _; omega⟩ ⟨by omega, by omega⟩ (Nat.le_of_ble_eq_true rfl) (fun v_705 h_704 p_706 => ?_)
                    obtain ⟨rfl, bd_694, fs_695, hw_696, hw_697, hw_698, l_699, e_700, g_701, ga_702, r_703⟩ := p_706
                    have e_707 := r_703 asked_ _ (by simp only [List.mem_cons, List.not_mem_nil, or_false, not_or]; exact (xw_neC e_266 e_255 (by simp))) e_266
                    have e_708 := r_703 firstToken_ _ (by simp only [List.mem_cons, List.not_mem_nil, or_false, not_or]; exact (xw_neC e_267 e_255 (by simp))) e_267
                    have e_709 := r_703 starred_ _ (by simp only [List.mem_cons, List.not_mem_nil, or_false, not_or]; exact (xw_neC e_268 e_255 (by simp))) e_268
                    have e_710 := r_703 tokenAt_ _ (by simp only [List.mem_cons, List.not_mem_nil, or_false, not_or]; exact (xw_neC e_269 e_255 (by simp))) e_269
                    have e_711 := r_703 tokenSize_ _ (by simp only [List.mem_cons, List.not_mem_nil, or_false, not_or]; exact (xw_neC e_270 e_255 (by simp))) e_270
                    have e_712 := r_703 groupFar_ _ (by simp only [List.mem_cons, List.not_mem_nil, or_false, not_or]; exact (xw_neC e_271 e_255 (by simp))) e_271
                    have r_713 := r_272.trans (r_703.mono (by simp))
                    have g_714 : fs_695[36]? = some (.int (nI g)) := (ga_702 36 (by decide)).trans g_273
                    have g_715 : fs_695[11]? = some (.int (nI asz)) := (ga_702 11 (by decide)).trans g_274
                    have g_716 : fs_695[4]? = some (.ref asked_) := (ga_702 4 (by decide)).trans g_275
                    have g_717 : fs_695[41]? = some (.ref firstToken_) := (ga_702 41 (by decide)).trans g_276
                    have g_718 : fs_695[42]? = some (.ref starred_) := (ga_702 42 (by decide)).trans g_277
                    have g_719 : fs_695[43]? = some (.ref tokenAt_) := (ga_702 43 (by decide)).trans g_278
                    have g_720 : fs_695[44]? = some (.ref tokenSize_) := (ga_702 44 (by decide)).trans g_279
                    have g_721 : fs_695[49]? = some (.ref groupFar_) := (ga_702 49 (by decide)).trans g_280
                    have g_722 : fs_695[34]? = some (.int (nI ph9.length)) := (ga_702 34 (by decide)).trans g_282
                    have g_723 : fs_695[35]? = some (.int (nI t9)) := (ga_702 35 (by decide)).trans g_283
                    have g_724 : fs_695[28]? = some (.int (nI (bl fa asz (skP fa asz i9)))) := (ga_702 28 (by decide)).trans g_256
                    have g_725 : fs_695[29]? = some (.int (nI (rkd (kdP fa asz (skP fa asz i9))))) := (ga_702 29 (by decide)).trans g_257
                    have g_726 : fs_695[30]? = some (.int (nI (bl fa asz (skP fa asz i9)))) := (ga_702 30 (by decide)).trans g_258
                    have g_727 : fs_695[31]? = some (.int (nI y_250)) := (ga_702 31 (by decide)).trans g_259
                    have ga_728 : ∀ i, i ∉ [28, 29, 30, 31, 33, 34, 35] → fs_695[i]? = fs[i]? := fun i hi => (ga_702 i (fun z => hi (by simp only [List.mem_cons, List.not_mem_nil, or_false] at z ⊢; omega))).trans (ga_284 i hi)
                    have hb_729 : bd_694 < 0 := by rw [hw_696 rfl]; exact hbd9
                    have hb_730 : ¬ 0 ≤ bd_694 := Int32.not_le.mpr hb_729
                    refine s_Model_near_196 l_699 e_700 g_701 (fun z_731 => ?_) (fun z => absurd hb_729 z)
                    refine s_Model_near_204 (groupFar_a0 := some groupFar_) l_699 e_700 g_721 g_714 g_727 g_726 (fun z_732 => ?_) (fun z => absurd z z_384)
                    refine s_Model_near_229 ?_
                    have q0 := dgw (k := bl fa asz (skP fa asz i9)) h128 (by rw [qv_in (by omega)]; exact hd0)
                    have q1 := dgw (k := bl fa asz (skP fa asz i9) + 1) h128 (by rw [qv_in (by omega)]; exact hd1)
                    rw [q0.1, q1.1, show (10 : Int32) = nI 10 from rfl, pk_mul, nI_add]
                    refine s_Model_near_235 e_712 (vp_in_nI (by omega) (by omega)) ?_
                    refine x_u1 (fun h_733 e_734 f_735 => ?_)
                    have e_736 := (f_735 asked_ (xw_neC e_707 e_712 (by simp))).trans e_707
                    have e_737 := (f_735 firstToken_ n_firstToken_groupFar).trans e_708
                    have e_738 := (f_735 starred_ n_starred_groupFar).trans e_709
                    have e_739 := (f_735 tokenAt_ (xw_neC e_710 e_712 (by simp))).trans e_710
                    have e_740 := (f_735 tokenSize_ (xw_neC e_711 e_712 (by simp))).trans e_711
                    have e_741 := (f_735 m (xw_neC e_700 e_712 (by simp))).trans e_700
                    have r_742 := r_713.up (by simp) f_735
                    have hE_755 := HY_253 (by rcases hk_689 with q | q <;> (rw [q]; decide))
                    rw [hE_755] at g_727
                    refine x_callV (As := []) (b := m) (rest := []) (F1 := 4) (L1 := 87) (mc := 0) (ms := 0) d_Model_near_237 cV_Model_257 (f_nextH (x0 := (skP fa asz (skP fa asz i9))) l_699 e_741 g_724 g_725 g_726 g_727 g_715 g_716 e_736 (by rw [← hE_755]; exact PT_252.2.1) hasz (by omega) (by omega)) e_741 ⟨by decide, rfl⟩ ⟨by omega, by show 8 + (1 + 11) + 87 ≤ _; omega⟩ ⟨by omega, by omega⟩ (Nat.le_of_ble_eq_true rfl) (fun v_757 h_756 p_758 => ?_)
                    obtain ⟨rfl, y_743, fs_744, PT_745, HY_746, l_747, e_748, g_749, g_750, g_751, g_752, ga_753, r_754⟩ := p_758
                    have e_759 := r_754 asked_ _ (by simp only [List.mem_cons, List.not_mem_nil, or_false, not_or]; exact (xw_neC e_736 e_741 (by simp))) e_736
                    have e_760 := r_754 firstToken_ _ (by simp only [List.mem_cons, List.not_mem_nil, or_false, not_or]; exact (xw_neC e_737 e_741 (by simp))) e_737
                    have e_761 := r_754 starred_ _ (by simp only [List.mem_cons, List.not_mem_nil, or_false, not_or]; exact (xw_neC e_738 e_741 (by simp))) e_738
                    have e_762 := r_754 tokenAt_ _ (by simp only [List.mem_cons, List.not_mem_nil, or_false, not_or]; exact (xw_neC e_739 e_741 (by simp))) e_739
                    have e_763 := r_754 tokenSize_ _ (by simp only [List.mem_cons, List.not_mem_nil, or_false, not_or]; exact (xw_neC e_740 e_741 (by simp))) e_740
                    have e_764 := r_754 groupFar_ _ (by simp only [List.mem_cons, List.not_mem_nil, or_false, not_or]; exact (xw_neC e_734 e_741 (by simp))) e_734
                    have r_765 := r_742.trans (r_754.mono (by simp))
                    have g_766 : fs_744[36]? = some (.int (nI g)) := (ga_753 36 (by decide)).trans g_714
                    have g_767 : fs_744[11]? = some (.int (nI asz)) := (ga_753 11 (by decide)).trans g_715
                    have g_768 : fs_744[4]? = some (.ref asked_) := (ga_753 4 (by decide)).trans g_716
                    have g_769 : fs_744[41]? = some (.ref firstToken_) := (ga_753 41 (by decide)).trans g_717
                    have g_770 : fs_744[42]? = some (.ref starred_) := (ga_753 42 (by decide)).trans g_718
                    have g_771 : fs_744[43]? = some (.ref tokenAt_) := (ga_753 43 (by decide)).trans g_719
                    have g_772 : fs_744[44]? = some (.ref tokenSize_) := (ga_753 44 (by decide)).trans g_720
                    have g_773 : fs_744[49]? = some (.ref groupFar_) := (ga_753 49 (by decide)).trans g_721
                    have g_774 : fs_744[34]? = some (.int (nI ph9.length)) := (ga_753 34 (by decide)).trans g_722
                    have g_775 : fs_744[35]? = some (.int (nI t9)) := (ga_753 35 (by decide)).trans g_723
                    have g_776 : fs_744[33]? = some (.int bd_694) := (ga_753 33 (by decide)).trans g_701
                    have ga_777 : ∀ i, i ∉ [28, 29, 30, 31, 33, 34, 35] → fs_744[i]? = fs[i]? := fun i hi => (ga_753 i (fun z => hi (by simp only [List.mem_cons, List.not_mem_nil, or_false] at z ⊢; omega))).trans (ga_728 i hi)
                    have RQ_778 := RQ_285.next (by rcases hk_689 with q | q <;> (rw [q]; decide)) (by rcases hk_689 with q | q <;> (rw [q]; decide))
                    have hb_779 := Nat.le_trans PT_745.1 PT_745.2.1
                    refine s_Model_near_240 l_747 e_748 g_750 (fun z_780 => ?_) (fun z_781 => ?_)
                    · skip
                      refine s_Model_near_253 ?_
                      refine s_Model_near_254 l_747 e_748 g_751 ?_
                      refine x_callV (As := [.int 0, .int (nI (bl fa asz (skP fa asz (skP fa asz i9))))]) (b := m) (rest := []) (F1 := 1) (L1 := 20) (mc := 0) (ms := 0) d_Model_near_258 cV_Model_250 (f_wrongsH (k := bl fa asz (skP fa asz (skP fa asz i9))) l_747 e_748 g_776 (by omega) (by omega) (by omega)) e_748 ⟨by decide, rfl⟩ ⟨by omega, by show 8 + (3 + 11) + 20 ≤ _; omega⟩ ⟨by omega, by omega⟩ (Nat.le_of_ble_eq_true rfl) (fun v_793 h_792 p_794 => ?_)
                      obtain ⟨rfl, bd_782, fs_783, hw_784, hw_785, hw_786, l_787, e_788, g_789, ga_790, r_791⟩ := p_794
                      have e_795 := r_791 asked_ _ (by simp only [List.mem_cons, List.not_mem_nil, or_false, not_or]; exact (xw_neC e_759 e_748 (by simp))) e_759
                      have e_796 := r_791 firstToken_ _ (by simp only [List.mem_cons, List.not_mem_nil, or_false, not_or]; exact (xw_neC e_760 e_748 (by simp))) e_760
                      have e_797 := r_791 starred_ _ (by simp only [List.mem_cons, List.not_mem_nil, or_false, not_or]; exact (xw_neC e_761 e_748 (by simp))) e_761
                      have e_798 := r_791 tokenAt_ _ (by simp only [List.mem_cons, List.not_mem_nil, or_false, not_or]; exact (xw_neC e_762 e_748 (by simp))) e_762
                      have e_799 := r_791 tokenSize_ _ (by simp only [List.mem_cons, List.not_mem_nil, or_false, not_or]; exact (xw_neC e_763 e_748 (by simp))) e_763
                      have e_800 := r_791 groupFar_ _ (by simp only [List.mem_cons, List.not_mem_nil, or_false, not_or]; exact (xw_neC e_764 e_748 (by simp))) e_764
                      have r_801 := r_765.trans (r_791.mono (by simp))
                      have g_802 : fs_783[36]? = some (.int (nI g)) := (ga_790 36 (by decide)).trans g_766
                      have g_803 : fs_783[11]? = some (.int (nI asz)) := (ga_790 11 (by decide)).trans g_767
                      have g_804 : fs_783[4]? = some (.ref asked_) := (ga_790 4 (by decide)).trans g_768
                      have g_805 : fs_783[41]? = some (.ref firstToken_) := (ga_790 41 (by decide)).trans g_769
                      have g_806 : fs_783[42]? = some (.ref starred_) := (ga_790 42 (by decide)).trans g_770
                      have g_807 : fs_783[43]? = some (.ref tokenAt_) := (ga_790 43 (by decide)).trans g_771
                      have g_808 : fs_783[44]? = some (.ref tokenSize_) := (ga_790 44 (by decide)).trans g_772
                      have g_809 : fs_783[49]? = some (.ref groupFar_) := (ga_790 49 (by decide)).trans g_773
                      have g_810 : fs_783[34]? = some (.int (nI ph9.length)) := (ga_790 34 (by decide)).trans g_774
                      have g_811 : fs_783[35]? = some (.int (nI t9)) := (ga_790 35 (by decide)).trans g_775
                      have g_812 : fs_783[28]? = some (.int (nI (bl fa asz (skP fa asz (skP fa asz i9))))) := (ga_790 28 (by decide)).trans g_749
                      have g_813 : fs_783[29]? = some (.int (nI (rkd (kdP fa asz (skP fa asz (skP fa asz i9)))))) := (ga_790 29 (by decide)).trans g_750
                      have g_814 : fs_783[30]? = some (.int (nI (bl fa asz (skP fa asz (skP fa asz i9))))) := (ga_790 30 (by decide)).trans g_751
                      have g_815 : fs_783[31]? = some (.int (nI y_743)) := (ga_790 31 (by decide)).trans g_752
                      have ga_816 : ∀ i, i ∉ [28, 29, 30, 31, 33, 34, 35] → fs_783[i]? = fs[i]? := fun i hi => (ga_790 i (fun z => hi (by simp only [List.mem_cons, List.not_mem_nil, or_false] at z ⊢; omega))).trans (ga_777 i hi)
                      have hb_817 : bd_782 < 0 := by rw [hw_784 rfl]; exact hb_729
                      have hb_818 : ¬ 0 ≤ bd_782 := Int32.not_le.mpr hb_817
                      refine s_Model_near_261 l_787 e_788 g_789 (fun z_819 => ?_) (fun z => absurd hb_817 z)
                      have hk_820 : kdP fa asz (skP fa asz (skP fa asz i9)) = 10 := ((rk_iff _ (kdP_le fa asz (skP fa asz (skP fa asz i9)))).2.2.2.1).mp ((nI_eq (b := 4) (by have := rk_le _ (kdP_le fa asz (skP fa asz (skP fa asz i9))); omega) (by decide)).mp z_780)
                      refine s_Model_near_269 ?_
                      have hE_833 := HY_746 (by rw [hk_820]; decide)
                      rw [hE_833] at g_815
                      refine x_callV (As := []) (b := m) (rest := []) (F1 := 4) (L1 := 87) (mc := 0) (ms := 0) d_Model_near_270 cV_Model_257 (f_nextH (x0 := (skP fa asz (skP fa asz (skP fa asz i9)))) l_787 e_788 g_812 g_813 g_814 g_815 g_803 g_804 e_795 (by rw [← hE_833]; exact PT_745.2.1) hasz (by omega) (by omega)) e_788 ⟨by decide, rfl⟩ ⟨by omega, by show 8 + (1 + 11) + 87 ≤ _; omega⟩ ⟨by omega, by omega⟩ (Nat.le_of_ble_eq_true rfl) (fun v_835 h_834 p_836 => ?_)
                      obtain ⟨rfl, y_821, fs_822, PT_823, HY_824, l_825, e_826, g_827, g_828, g_829, g_830, ga_831, r_832⟩ := p_836
                      have e_837 := r_832 asked_ _ (by simp only [List.mem_cons, List.not_mem_nil, or_false, not_or]; exact (xw_neC e_795 e_788 (by simp))) e_795
                      have e_838 := r_832 firstToken_ _ (by simp only [List.mem_cons, List.not_mem_nil, or_false, not_or]; exact (xw_neC e_796 e_788 (by simp))) e_796
                      have e_839 := r_832 starred_ _ (by simp only [List.mem_cons, List.not_mem_nil, or_false, not_or]; exact (xw_neC e_797 e_788 (by simp))) e_797
                      have e_840 := r_832 tokenAt_ _ (by simp only [List.mem_cons, List.not_mem_nil, or_false, not_or]; exact (xw_neC e_798 e_788 (by simp))) e_798
                      have e_841 := r_832 tokenSize_ _ (by simp only [List.mem_cons, List.not_mem_nil, or_false, not_or]; exact (xw_neC e_799 e_788 (by simp))) e_799
                      have e_842 := r_832 groupFar_ _ (by simp only [List.mem_cons, List.not_mem_nil, or_false, not_or]; exact (xw_neC e_800 e_788 (by simp))) e_800
                      have r_843 := r_801.trans (r_832.mono (by simp))
                      have g_844 : fs_822[36]? = some (.int (nI g)) := (ga_831 36 (by decide)).trans g_802
                      have g_845 : fs_822[11]? = some (.int (nI asz)) := (ga_831 11 (by decide)).trans g_803
                      have g_846 : fs_822[4]? = some (.ref asked_) := (ga_831 4 (by decide)).trans g_804
                      have g_847 : fs_822[41]? = some (.ref firstToken_) := (ga_831 41 (by decide)).trans g_805
                      have g_848 : fs_822[42]? = some (.ref starred_) := (ga_831 42 (by decide)).trans g_806
                      have g_849 : fs_822[43]? = some (.ref tokenAt_) := (ga_831 43 (by decide)).trans g_807
                      have g_850 : fs_822[44]? = some (.ref tokenSize_) := (ga_831 44 (by decide)).trans g_808
                      have g_851 : fs_822[49]? = some (.ref groupFar_) := (ga_831 49 (by decide)).trans g_809
                      have g_852 : fs_822[34]? = some (.int (nI ph9.length)) := (ga_831 34 (by decide)).trans g_810
                      have g_853 : fs_822[35]? = some (.int (nI t9)) := (ga_831 35 (by decide)).trans g_811
                      have g_854 : fs_822[33]? = some (.int bd_782) := (ga_831 33 (by decide)).trans g_789
                      have ga_855 : ∀ i, i ∉ [28, 29, 30, 31, 33, 34, 35] → fs_822[i]? = fs[i]? := fun i hi => (ga_831 i (fun z => hi (by simp only [List.mem_cons, List.not_mem_nil, or_false] at z ⊢; omega))).trans (ga_816 i hi)
                      have RQ_856 := RQ_778.next (by rw [hk_820]; decide) (by rw [hk_820]; decide)
                      have hb_857 := Nat.le_trans PT_823.1 PT_823.2.1
                      refine x_le (xw_le_n (xw_le_n (xw_le_n (xw_le_n xw_le_e)))) ?_
                      refine s_Model_near_273 ?_
                      rw [nI_clamp (show g < 2 ^ 31 by omega)] at e_842
                      have hnq := hN_693
                      rw [← qv_in (f := fa) (n := asz) (k := bl fa asz (skP fa asz i9)) (by omega), ← qv_in (f := fa) (n := asz) (k := bl fa asz (skP fa asz i9) + 1) (by omega)] at hnq
                      exact ⟨rfl, _, _, _, _, _, _, _, l_825, e_826, g_854, ga_855, e_838, e_839, e_840, e_841, e_842, r_843, Or.inr ⟨(skP fa asz (skP fa asz (skP fa asz i9))), ph9, _, _, _, nr_5 hk_78 hx_138 hR9 hk_249 hnq hk_820, hb_817, PT_823, HY_824, g_827, g_828, g_829, g_830, g_852, g_853, RQ_856, ⟨pk_us, fun j hj => pk_un hj⟩⟩⟩
                    · skip
                      refine s_Model_near_249 ?_
                      refine s_Model_near_254 l_747 e_748 g_751 ?_
                      refine x_callV (As := [.int 1, .int (nI (bl fa asz (skP fa asz (skP fa asz i9))))]) (b := m) (rest := []) (F1 := 1) (L1 := 20) (mc := 0) (ms := 0) d_Model_near_258 cV_Model_250 (f_wrongsH (k := bl fa asz (skP fa asz (skP fa asz i9))) l_747 e_748 g_776 (by omega) (by omega) (by omega)) e_748 ⟨by decide, rfl⟩ ⟨by omega, by show 8 + (3 + 11) + 20 ≤ _; omega⟩ ⟨by omega, by omega⟩ (Nat.le_of_ble_eq_true rfl) (fun v_869 h_868 p_870 => ?_)
                      obtain ⟨rfl, bd_858, fs_859, hw_860, hw_861, hw_862, l_863, e_864, g_865, ga_866, r_867⟩ := p_870
                      have e_871 := r_867 asked_ _ (by simp only [List.mem_cons, List.not_mem_nil, or_false, not_or]; exact (xw_neC e_759 e_748 (by simp))) e_759
                      have e_872 := r_867 firstToken_ _ (by simp only [List.mem_cons, List.not_mem_nil, or_false, not_or]; exact (xw_neC e_760 e_748 (by simp))) e_760
                      have e_873 := r_867 starred_ _ (by simp only [List.mem_cons, List.not_mem_nil, or_false, not_or]; exact (xw_neC e_761 e_748 (by simp))) e_761
                      have e_874 := r_867 tokenAt_ _ (by simp only [List.mem_cons, List.not_mem_nil, or_false, not_or]; exact (xw_neC e_762 e_748 (by simp))) e_762
                      have e_875 := r_867 tokenSize_ _ (by simp only [List.mem_cons, List.not_mem_nil, or_false, not_or]; exact (xw_neC e_763 e_748 (by simp))) e_763
                      have e_876 := r_867 groupFar_ _ (by simp only [List.mem_cons, List.not_mem_nil, or_false, not_or]; exact (xw_neC e_764 e_748 (by simp))) e_764
                      have r_877 := r_765.trans (r_867.mono (by simp))
                      have g_878 : fs_859[36]? = some (.int (nI g)) := (ga_866 36 (by decide)).trans g_766
                      have g_879 : fs_859[11]? = some (.int (nI asz)) := (ga_866 11 (by decide)).trans g_767
                      have g_880 : fs_859[4]? = some (.ref asked_) := (ga_866 4 (by decide)).trans g_768
                      have g_881 : fs_859[41]? = some (.ref firstToken_) := (ga_866 41 (by decide)).trans g_769
                      have g_882 : fs_859[42]? = some (.ref starred_) := (ga_866 42 (by decide)).trans g_770
                      have g_883 : fs_859[43]? = some (.ref tokenAt_) := (ga_866 43 (by decide)).trans g_771
                      have g_884 : fs_859[44]? = some (.ref tokenSize_) := (ga_866 44 (by decide)).trans g_772
                      have g_885 : fs_859[49]? = some (.ref groupFar_) := (ga_866 49 (by decide)).trans g_773
                      have g_886 : fs_859[34]? = some (.int (nI ph9.length)) := (ga_866 34 (by decide)).trans g_774
                      have g_887 : fs_859[35]? = some (.int (nI t9)) := (ga_866 35 (by decide)).trans g_775
                      have g_888 : fs_859[28]? = some (.int (nI (bl fa asz (skP fa asz (skP fa asz i9))))) := (ga_866 28 (by decide)).trans g_749
                      have g_889 : fs_859[29]? = some (.int (nI (rkd (kdP fa asz (skP fa asz (skP fa asz i9)))))) := (ga_866 29 (by decide)).trans g_750
                      have g_890 : fs_859[30]? = some (.int (nI (bl fa asz (skP fa asz (skP fa asz i9))))) := (ga_866 30 (by decide)).trans g_751
                      have g_891 : fs_859[31]? = some (.int (nI y_743)) := (ga_866 31 (by decide)).trans g_752
                      have ga_892 : ∀ i, i ∉ [28, 29, 30, 31, 33, 34, 35] → fs_859[i]? = fs[i]? := fun i hi => (ga_866 i (fun z => hi (by simp only [List.mem_cons, List.not_mem_nil, or_false] at z ⊢; omega))).trans (ga_777 i hi)
                      have hb_893 : ¬ bd_858 < 0 := hw_861 (by decide)
                      have hb_894 : 0 ≤ bd_858 := Int32.not_lt.mp hb_893
                      refine s_Model_near_261 l_863 e_864 g_865 (fun z => absurd z hb_893) (fun z_895 => ?_)
                      refine s_Model_near_268 ?_
                      have hk_896 : ¬ kdP fa asz (skP fa asz (skP fa asz i9)) = 10 := fun q => z_781 (by rw [q]; rfl)
                      exact ⟨rfl, _, _, _, _, _, _, _, l_863, e_864, g_865, ga_892, e_872, e_873, e_874, e_875, e_876, r_877, Or.inl ⟨nr_4 hk_78 hx_138 hR9 hk_249 hN_693 hk_896, hb_893, (fun i9 hi9 => by simp only [List.mem_cons, List.not_mem_nil, or_false] at hi9; rcases hi9 with rfl | rfl | rfl | rfl | rfl | rfl | rfl <;> first | exact ⟨_, g_888⟩ | exact ⟨_, g_889⟩ | exact ⟨_, g_890⟩ | exact ⟨_, g_891⟩ | exact ⟨_, g_865⟩ | exact ⟨_, g_886⟩ | exact ⟨_, g_887⟩)⟩⟩
      · skip
        have e_897 := r9 asked_ _ (by simp only [List.mem_cons, List.not_mem_nil, or_false, not_or]; exact ⟨(xw_neC e_179 e_123 (by simp)), (xw_neC e_179 e_126 (by simp)), (xw_neC e_179 e_127 (by simp)), (xw_neC e_179 e_128 (by simp)), (xw_neC e_179 e_129 (by simp))⟩) e_179
        have e_898 := r9 groupFar_ _ (by simp only [List.mem_cons, List.not_mem_nil, or_false, not_or]; exact ⟨(xw_neC e_180 e_123 (by simp)), (Ne.symm n_firstToken_groupFar), (Ne.symm n_starred_groupFar), (xw_neC e_180 e_128 (by simp)), (xw_neC e_180 e_129 (by simp))⟩) e_180
        have r_899 := r_181.trans (r9.mono (by simp))
        obtain ⟨v_900, g_901⟩ := IN9 28 (by decide)
        obtain ⟨v_902, g_903⟩ := IN9 29 (by decide)
        obtain ⟨v_904, g_905⟩ := IN9 30 (by decide)
        obtain ⟨v_906, g_907⟩ := IN9 31 (by decide)
        obtain ⟨v_908, g_909⟩ := IN9 34 (by decide)
        obtain ⟨v_910, g_911⟩ := IN9 35 (by decide)
        have g_912 : fs9[36]? = some (.int (nI g)) := (ga9 36 (by decide)).trans g_182
        have g_913 : fs9[11]? = some (.int (nI asz)) := (ga9 11 (by decide)).trans g_183
        have g_914 : fs9[4]? = some (.ref asked_) := (ga9 4 (by decide)).trans g_184
        have g_915 : fs9[41]? = some (.ref firstToken_) := (ga9 41 (by decide)).trans g_185
        have g_916 : fs9[42]? = some (.ref starred_) := (ga9 42 (by decide)).trans g_186
        have g_917 : fs9[43]? = some (.ref tokenAt_) := (ga9 43 (by decide)).trans g_187
        have g_918 : fs9[44]? = some (.ref tokenSize_) := (ga9 44 (by decide)).trans g_188
        have g_919 : fs9[49]? = some (.ref groupFar_) := (ga9 49 (by decide)).trans g_189
        have ga_920 : ∀ i, i ∉ [28, 29, 30, 31, 33, 34, 35] → fs9[i]? = fs[i]? := fun i hi => (ga9 i (fun z => hi (by simp only [List.mem_cons, List.not_mem_nil, or_false] at z ⊢; omega))).trans (ga_190 i hi)
        have hb_921 : 0 ≤ bd9 := Int32.not_lt.mp nb9
        refine s_Model_near_72 l9 e9 g33_ (fun z => absurd z nb9) (fun z_922 => ?_)
        refine s_Model_near_79 ?_
        have hnr : rdNear fa asz (skP fa asz p) ph = none := by rcases hR9 with q | ⟨p2, ph2, q, q13, q10⟩; (exact nr_2 hk_78 hx_138 q); (exact nr_6 hk_78 hx_138 q q13 q10)
        exact ⟨rfl, _, _, _, _, _, _, _, l9, e9, g33_, ga_920, ef9, est9, ea9, es9, e_898, r_899, Or.inl ⟨hnr, nb9, (fun i9 hi9 => by simp only [List.mem_cons, List.not_mem_nil, or_false] at hi9; rcases hi9 with rfl | rfl | rfl | rfl | rfl | rfl | rfl <;> first | exact ⟨_, g_901⟩ | exact ⟨_, g_903⟩ | exact ⟨_, g_905⟩ | exact ⟨_, g_907⟩ | exact ⟨_, g33_⟩ | exact ⟨_, g_909⟩ | exact ⟨_, g_911⟩)⟩⟩
  · skip
    refine s_Model_near_13 ?_
    refine s_Model_near_18 l_5 e_6 g_9 ?_
    refine x_callV (As := [.int 1, .int (nI (bl fa asz (skP fa asz p)))]) (b := m) (rest := []) (F1 := 1) (L1 := 20) (mc := 0) (ms := 0) d_Model_near_22 cV_Model_250 (f_wrongsH (k := bl fa asz (skP fa asz p)) l_5 e_6 g_24 (by omega) (by omega) (by omega)) e_6 ⟨by decide, rfl⟩ ⟨by omega, by show 8 + (3 + 11) + 20 ≤ _; omega⟩ ⟨by omega, by omega⟩ (Nat.le_of_ble_eq_true rfl) (fun v_934 h_933 p_935 => ?_)
    obtain ⟨rfl, bd_923, fs_924, hw_925, hw_926, hw_927, l_928, e_929, g_930, ga_931, r_932⟩ := p_935
    have e_936 := r_932 asked_ _ (by simp only [List.mem_cons, List.not_mem_nil, or_false, not_or]; exact (xw_neC e_17 e_6 (by simp))) e_17
    have e_937 := r_932 firstToken_ _ (by simp only [List.mem_cons, List.not_mem_nil, or_false, not_or]; exact (xw_neC e_18 e_6 (by simp))) e_18
    have e_938 := r_932 starred_ _ (by simp only [List.mem_cons, List.not_mem_nil, or_false, not_or]; exact (xw_neC e_19 e_6 (by simp))) e_19
    have e_939 := r_932 tokenAt_ _ (by simp only [List.mem_cons, List.not_mem_nil, or_false, not_or]; exact (xw_neC e_20 e_6 (by simp))) e_20
    have e_940 := r_932 tokenSize_ _ (by simp only [List.mem_cons, List.not_mem_nil, or_false, not_or]; exact (xw_neC e_21 e_6 (by simp))) e_21
    have e_941 := r_932 groupFar_ _ (by simp only [List.mem_cons, List.not_mem_nil, or_false, not_or]; exact (xw_neC e_22 e_6 (by simp))) e_22
    have r_942 := r_23.trans (r_932.mono (by simp))
    have g_943 : fs_924[34]? = some (.int (nI ph.length)) := (ga_931 34 (by decide)).trans g_25
    have g_944 : fs_924[35]? = some (.int (nI t)) := (ga_931 35 (by decide)).trans g_26
    have g_945 : fs_924[36]? = some (.int (nI g)) := (ga_931 36 (by decide)).trans g_27
    have g_946 : fs_924[11]? = some (.int (nI asz)) := (ga_931 11 (by decide)).trans g_28
    have g_947 : fs_924[4]? = some (.ref asked_) := (ga_931 4 (by decide)).trans g_29
    have g_948 : fs_924[41]? = some (.ref firstToken_) := (ga_931 41 (by decide)).trans g_30
    have g_949 : fs_924[42]? = some (.ref starred_) := (ga_931 42 (by decide)).trans g_31
    have g_950 : fs_924[43]? = some (.ref tokenAt_) := (ga_931 43 (by decide)).trans g_32
    have g_951 : fs_924[44]? = some (.ref tokenSize_) := (ga_931 44 (by decide)).trans g_33
    have g_952 : fs_924[49]? = some (.ref groupFar_) := (ga_931 49 (by decide)).trans g_34
    have g_953 : fs_924[28]? = some (.int (nI (bl fa asz (skP fa asz p)))) := (ga_931 28 (by decide)).trans g_7
    have g_954 : fs_924[29]? = some (.int (nI (rkd (kdP fa asz (skP fa asz p))))) := (ga_931 29 (by decide)).trans g_8
    have g_955 : fs_924[30]? = some (.int (nI (bl fa asz (skP fa asz p)))) := (ga_931 30 (by decide)).trans g_9
    have g_956 : fs_924[31]? = some (.int (nI y_1)) := (ga_931 31 (by decide)).trans g_10
    have ga_957 : ∀ i, i ∉ [28, 29, 30, 31, 33, 34, 35] → fs_924[i]? = fs[i]? := fun i hi => (ga_931 i (fun z => hi (by simp only [List.mem_cons, List.not_mem_nil, or_false] at z ⊢; omega))).trans (ga_35 i hi)
    have hb_958 : ¬ bd_923 < 0 := hw_926 (by decide)
    have hb_959 : 0 ≤ bd_923 := Int32.not_lt.mp hb_958
    refine s_Model_near_25 l_928 e_929 g_930 (fun z => absurd z hb_958) (fun z_960 => ?_)
    refine s_Model_near_32 ?_
    have hk_961 : ¬ kdP fa asz (skP fa asz p) = 9 := fun q => z_39 (by rw [q]; rfl)
    exact ⟨rfl, _, _, _, _, _, _, _, l_928, e_929, g_930, ga_957, e_937, e_938, e_939, e_940, e_941, r_942, Or.inl ⟨nr_o hk_961, hb_958, (fun i9 hi9 => by simp only [List.mem_cons, List.not_mem_nil, or_false] at hi9; rcases hi9 with rfl | rfl | rfl | rfl | rfl | rfl | rfl <;> first | exact ⟨_, g_953⟩ | exact ⟨_, g_954⟩ | exact ⟨_, g_955⟩ | exact ⟨_, g_956⟩ | exact ⟨_, g_930⟩ | exact ⟨_, g_943⟩ | exact ⟨_, g_944⟩)⟩⟩
