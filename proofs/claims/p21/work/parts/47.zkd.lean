set_option maxHeartbeats 4000000 in
theorem lp_nrH {G : xw_G} {F L bc bs : Nat} {pr : Option Value → xw_A → Prop} {px : String → xw_A → Prop} {m asked_ firstToken_ starred_ tokenAt_ tokenSize_ asz : Nat} {gs : List Value} {fa : Nat → Int32} {R : Option (Nat × List PHt)} {h0 : xw_A} (q_asked : gs[(4 : Nat)]? = some (.ref asked_)) (q_askedSize : gs[(11 : Nat)]? = some (.int (nI asz))) (q_firstToken : gs[(41 : Nat)]? = some (.ref firstToken_)) (q_starred : gs[(42 : Nat)]? = some (.ref starred_)) (q_tokenAt : gs[(43 : Nat)]? = some (.ref tokenAt_)) (q_tokenSize : gs[(44 : Nat)]? = some (.ref tokenSize_)) (q_a : h0 asked_ = some (.inl (0, 96, .inl fa))) (na : asked_ ≠ m ∧ asked_ ≠ firstToken_ ∧ asked_ ≠ starred_ ∧ asked_ ≠ tokenAt_ ∧ asked_ ≠ tokenSize_) (nfs : firstToken_ ≠ starred_) (nts : tokenAt_ ≠ tokenSize_) (hasz : asz ≤ 96) (hF : 6 ≤ F) (hL : 127 ≤ L) (kk : (∀ (h : xw_A) (i : Nat) (y : Nat) (t : Nat) (bd : Int32) (c1 : Nat → Int32) (c2 : Nat → Int32) (ca : Nat → Int32) (cs : Nat → Int32) (phl : List PHt) (fs : List Value), i < 98 → fs.length = 62 → h m = some (.inr (11, fs)) → fs[(28 : Nat)]? = some (.int (nI (bl fa asz i))) → fs[(29 : Nat)]? = some (.int (nI (rkd (kdP fa asz i)))) → fs[(30 : Nat)]? = some (.int (nI (bl fa asz i))) → fs[(31 : Nat)]? = some (.int (nI y)) → fs[(33 : Nat)]? = some (.int bd) → fs[(34 : Nat)]? = some (.int (nI phl.length)) → fs[(35 : Nat)]? = some (.int (nI t)) → (∀ i : Nat, i ∉ [28, 29, 30, 31, 33, 34, 35] → fs[i]? = gs[i]?) → h firstToken_ = some (.inl (0, 13, .inl c1)) → h starred_ = some (.inl (0, 13, .inl c2)) → h tokenAt_ = some (.inl (0, 60, .inl ca)) → h tokenSize_ = some (.inl (0, 60, .inl cs)) → PtO fa asz (bl fa asz i) y (nI (rkd (kdP fa asz i))) → (¬ kdP fa asz i = 1 → y = skP fa asz i) → RqT fa asz c1 c2 ca cs t i phl [] → bd < 0 → phl.length ≤ 12 → FrO [m, firstToken_, starred_, tokenAt_, tokenSize_] h0 h → R = some (i, phl) → (kdP fa asz i = 10 ∨ kdP fa asz i = 13) → xw G m_Model_near F L bc bs pr px 72 [some (.ref m), none, none, none] [] h) ∧ (∀ (h : xw_A) (bd : Int32) (c1 c2 ca cs : Nat → Int32) (fs : List Value), fs.length = 62 → h m = some (.inr (11, fs)) → fs[(33 : Nat)]? = some (.int bd) → ¬ bd < 0 → INT fs [28, 29, 30, 31, 33, 34, 35] → (∀ i : Nat, i ∉ [28, 29, 30, 31, 33, 34, 35] → fs[i]? = gs[i]?) → h firstToken_ = some (.inl (0, 13, .inl c1)) → h starred_ = some (.inl (0, 13, .inl c2)) → h tokenAt_ = some (.inl (0, 60, .inl ca)) → h tokenSize_ = some (.inl (0, 60, .inl cs)) → FrO [m, firstToken_, starred_, tokenAt_, tokenSize_] h0 h → (R = none ∨ ∃ (p2 : Nat) (ph2 : List PHt), R = some (p2, ph2) ∧ ¬ kdP fa asz p2 = 13 ∧ ¬ kdP fa asz p2 = 10) → xw G m_Model_near F L bc bs pr px 72 [some (.ref m), none, none, none] [] h)) :
    ∀ (dd i : Nat) (h : xw_A) (y : Nat) (t : Nat) (bd : Int32) (c1 : Nat → Int32) (c2 : Nat → Int32) (ca : Nat → Int32) (cs : Nat → Int32) (phl : List PHt) (fs : List Value), 98 ≤ i + dd → i < 98 → fs.length = 62 → h m = some (.inr (11, fs)) → fs[(28 : Nat)]? = some (.int (nI (bl fa asz i))) → fs[(29 : Nat)]? = some (.int (nI (rkd (kdP fa asz i)))) → fs[(30 : Nat)]? = some (.int (nI (bl fa asz i))) → fs[(31 : Nat)]? = some (.int (nI y)) → fs[(33 : Nat)]? = some (.int bd) → fs[(34 : Nat)]? = some (.int (nI phl.length)) → fs[(35 : Nat)]? = some (.int (nI t)) → (∀ i : Nat, i ∉ [28, 29, 30, 31, 33, 34, 35] → fs[i]? = gs[i]?) → h firstToken_ = some (.inl (0, 13, .inl c1)) → h starred_ = some (.inl (0, 13, .inl c2)) → h tokenAt_ = some (.inl (0, 60, .inl ca)) → h tokenSize_ = some (.inl (0, 60, .inl cs)) → PtO fa asz (bl fa asz i) y (nI (rkd (kdP fa asz i))) → (¬ kdP fa asz i = 1 → y = skP fa asz i) → RqT fa asz c1 c2 ca cs t i phl [] → bd < 0 → phl.length ≤ 12 → FrO [m, firstToken_, starred_, tokenAt_, tokenSize_] h0 h → (∀ f, asz - i ≤ f → rdPs fa asz f i phl = R) → xw G m_Model_near F L bc bs pr px 41 [some (.ref m), none, none, none] [] h := by
  intro dd
  induction dd with
  | zero =>
    intro i h y t bd c1 c2 ca cs phl fs hi hb l e g_28 g_29 g_30 g_31 g_33 g_34 g_35 ga0 e_firstToken e_starred e_tokenAt e_tokenSize PT HY RQ hbd hp12 r0 hR
    exact absurd hi (by omega)
  | succ dd ih =>
    intro i h y t bd c1 c2 ca cs phl fs hi hb l e g_28 g_29 g_30 g_31 g_33 g_34 g_35 ga0 e_firstToken e_starred e_tokenAt e_tokenSize PT HY RQ hbd hp12 r0 hR
    have g_asked := (ga0 4 (by decide)).trans q_asked
    have g_askedSize := (ga0 11 (by decide)).trans q_askedSize
    have g_firstToken := (ga0 41 (by decide)).trans q_firstToken
    have g_starred := (ga0 42 (by decide)).trans q_starred
    have g_tokenAt := (ga0 43 (by decide)).trans q_tokenAt
    have g_tokenSize := (ga0 44 (by decide)).trans q_tokenSize
    have e_asked := r0 asked_ _ (by simp only [List.mem_cons, List.not_mem_nil, or_false, not_or]; exact na) q_a
    have hbd2 : ¬ 0 ≤ bd := Int32.not_le.mpr hbd
    have hxy0 := PT.1
    have hy97 := PT.2.1
    refine s_Model_near_41 l e g_33 (fun z => absurd z hbd2) (fun z_1 => ?_)
    refine s_Model_near_48 l e g_29 (fun z_2 => ?_) (fun z_3 => ?_)
    · skip
      have hk_4 : kdP fa asz i = 10 := ((rk_iff _ (kdP_le fa asz i)).2.2.2.1).mp ((nI_eq (b := 4) (by have := rk_le _ (kdP_le fa asz i); omega) (by decide)).mp z_2)
      exact kk.1 _ _ _ _ _ _ _ _ _ phl _ hb l e g_28 g_29 g_30 g_31 g_33 g_34 g_35 ga0 e_firstToken e_starred e_tokenAt e_tokenSize PT HY RQ hbd hp12 r0 (by rw [← hR _ (Nat.le_refl _)]; exact ps_0 (by rw [hk_4]; rfl)) (Or.inl hk_4)
    · skip
      refine s_Model_near_56 l e g_29 (fun z_5 => ?_) (fun z_6 => ?_)
      · skip
        have hk_7 : ¬ kdP fa asz i = 10 := fun q => z_3 (by rw [q]; rfl)
        have hk_8 : kdP fa asz i = 13 := ((rk_iff _ (kdP_le fa asz i)).2.2.2.2.2.2.2.2.2.1).mp ((nI_eq (b := 10) (by have := rk_le _ (kdP_le fa asz i); omega) (by decide)).mp z_5)
        exact kk.1 _ _ _ _ _ _ _ _ _ phl _ hb l e g_28 g_29 g_30 g_31 g_33 g_34 g_35 ga0 e_firstToken e_starred e_tokenAt e_tokenSize PT HY RQ hbd hp12 r0 (by rw [← hR _ (Nat.le_refl _)]; exact ps_0 (by rw [hk_8]; rfl)) (Or.inr hk_8)
      · skip
        refine s_Model_near_65 ?_
        have hk_9 : ¬ kdP fa asz i = 10 := fun q => z_3 (by rw [q]; rfl)
        have hk_10 : ¬ kdP fa asz i = 13 := fun q => z_6 (by rw [q]; rfl)
        refine x_callV (As := []) (b := m) (rest := []) (F1 := 5) (L1 := 107) (mc := 0) (ms := 0) d_Model_near_66 cV_Model_260 (f_phraseH (ph := phl) l e g_28 g_29 g_30 g_31 g_33 g_34 g_35 g_askedSize g_asked e_asked g_firstToken e_firstToken g_starred e_starred g_tokenAt e_tokenAt g_tokenSize e_tokenSize nfs nts hasz PT HY RQ hbd rfl hp12 (by omega) (by omega)) e ⟨by decide, rfl⟩ ⟨by omega, by show 8 + (1 + 11) + 107 ≤ _; omega⟩ ⟨by omega, by omega⟩ (Nat.le_of_ble_eq_true rfl) (fun v_45 h_44 p_46 => ?_)
        rcases p_46 with ⟨rfl, bd_11, c1_12, c2_13, ca_14, cs_15, fs_16, l_17, e_18, g_19, ga_20, e_21, e_22, e_23, e_24, r_25, ⟨hx_26, nb_27, IN_28⟩ | ⟨p_29, x_30, y_31, t_32, hx_33, hb_34, PT_35, HY_36, g_37, g_38, g_39, g_40, g_41, g_42, RQ_43⟩⟩
        · skip
          have e_47 := r_25 asked_ _ (by simp only [List.mem_cons, List.not_mem_nil, or_false, not_or]; exact ⟨na.1, na.2.1, na.2.2.1, na.2.2.2.1, na.2.2.2.2⟩) e_asked
          have r_48 := r0.trans (r_25.mono (by simp))
          obtain ⟨v_49, g_50⟩ := IN_28 28 (by decide)
          obtain ⟨v_51, g_52⟩ := IN_28 29 (by decide)
          obtain ⟨v_53, g_54⟩ := IN_28 30 (by decide)
          obtain ⟨v_55, g_56⟩ := IN_28 31 (by decide)
          obtain ⟨v_57, g_58⟩ := IN_28 34 (by decide)
          obtain ⟨v_59, g_60⟩ := IN_28 35 (by decide)
          have g_61 : fs_16[(4 : Nat)]? = some (.ref asked_) := (ga_20 4 (by decide)).trans g_asked
          have g_62 : fs_16[(11 : Nat)]? = some (.int (nI asz)) := (ga_20 11 (by decide)).trans g_askedSize
          have g_63 : fs_16[(41 : Nat)]? = some (.ref firstToken_) := (ga_20 41 (by decide)).trans g_firstToken
          have g_64 : fs_16[(42 : Nat)]? = some (.ref starred_) := (ga_20 42 (by decide)).trans g_starred
          have g_65 : fs_16[(43 : Nat)]? = some (.ref tokenAt_) := (ga_20 43 (by decide)).trans g_tokenAt
          have g_66 : fs_16[(44 : Nat)]? = some (.ref tokenSize_) := (ga_20 44 (by decide)).trans g_tokenSize
          have ga_67 : ∀ i : Nat, i ∉ [28, 29, 30, 31, 33, 34, 35] → fs_16[i]? = gs[i]? := fun i hi => (ga_20 i (fun z => hi (by simp only [List.mem_cons, List.not_mem_nil, or_false] at z ⊢; omega))).trans (ga0 i hi)
          have hb_68 : 0 ≤ bd_11 := Int32.not_lt.mp nb_27
          refine s_Model_near_69 ?_
          refine s_Model_near_41 l_17 e_18 g_19 (fun _ => ?_) (fun z => absurd (Int32.not_lt.mp nb_27) z)
          refine kk.2 _ _ _ _ _ _ _ l_17 e_18 g_19 nb_27 (fun i9 hi9 => by simp only [List.mem_cons, List.not_mem_nil, or_false] at hi9; rcases hi9 with rfl | rfl | rfl | rfl | rfl | rfl | rfl <;> first | exact ⟨_, g_50⟩ | exact ⟨_, g_52⟩ | exact ⟨_, g_54⟩ | exact ⟨_, g_56⟩ | exact ⟨_, g_19⟩ | exact ⟨_, g_58⟩ | exact ⟨_, g_60⟩) ga_67 e_21 e_22 e_23 e_24 r_48 ?_
          cases hq9 : isS (kdP fa asz i) with
          | false => exact Or.inr ⟨i, phl, by rw [← hR _ (Nat.le_refl _)]; exact ps_0 hq9, hk_10, hk_9⟩
          | true => exact Or.inl (by rw [← hR (asz - i + 1) (by omega)]; exact ps_n hq9 hx_26)
        · skip
          have e_69 := r_25 asked_ _ (by simp only [List.mem_cons, List.not_mem_nil, or_false, not_or]; exact ⟨na.1, na.2.1, na.2.2.1, na.2.2.2.1, na.2.2.2.2⟩) e_asked
          have r_70 := r0.trans (r_25.mono (by simp))
          have g_71 : fs_16[(4 : Nat)]? = some (.ref asked_) := (ga_20 4 (by decide)).trans g_asked
          have g_72 : fs_16[(11 : Nat)]? = some (.int (nI asz)) := (ga_20 11 (by decide)).trans g_askedSize
          have g_73 : fs_16[(41 : Nat)]? = some (.ref firstToken_) := (ga_20 41 (by decide)).trans g_firstToken
          have g_74 : fs_16[(42 : Nat)]? = some (.ref starred_) := (ga_20 42 (by decide)).trans g_starred
          have g_75 : fs_16[(43 : Nat)]? = some (.ref tokenAt_) := (ga_20 43 (by decide)).trans g_tokenAt
          have g_76 : fs_16[(44 : Nat)]? = some (.ref tokenSize_) := (ga_20 44 (by decide)).trans g_tokenSize
          have ga_77 : ∀ i : Nat, i ∉ [28, 29, 30, 31, 33, 34, 35] → fs_16[i]? = gs[i]? := fun i hi => (ga_20 i (fun z => hi (by simp only [List.mem_cons, List.not_mem_nil, or_false] at z ⊢; omega))).trans (ga0 i hi)
          have hb_78 : ¬ 0 ≤ bd_11 := Int32.not_le.mpr hb_34
          have hb_79 := Nat.le_trans PT_35.1 PT_35.2.1
          refine s_Model_near_69 ?_
          have hq9 := rdPh_str hx_33
          have p9 := rdPh_gt hx_33
          have p7 := (bl_ge fa asz p_29).1
          have l9 : (phl ++ [x_30]).length = phl.length + 1 := by rw [List.length_append]; rfl
          rw [← l9] at g_41
          have l8 := rdPh_12 hx_33
          exact ih p_29 _ _ _ _ _ _ _ _ (phl ++ [x_30]) _ (by omega) (by omega) l_17 e_18 g_37 g_38 g_39 g_40 g_19 g_41 g_42 ga_77 e_21 e_22 e_23 e_24 PT_35 HY_36 RQ_43 hb_34 (by omega) r_70 (fun f hf => by rw [rdPs_any hf (f2 := asz - i) (by omega), ← hR (asz - i + 1) (by omega)]; exact (ps_y hq9 hx_33).symm)
set_option maxHeartbeats 8000000 in
theorem f_nearH {G : xw_G} {F L : Nat} {h : xw_A} {p y t g asz : Nat} {bd : Int32} {fa c1 c2 ca cs c9 : Nat → Int32} {ph : List PHt} {asked_ firstToken_ starred_ tokenAt_ tokenSize_ groupFar_ : Nat} {m : Nat} {fs : List Value} (l : fs.length = 62) (e : h m = some (.inr (11, fs))) (g_at : fs[(28 : Nat)]? = some (.int (nI (bl fa asz p)))) (g_kind : fs[(29 : Nat)]? = some (.int (nI (rkd (kdP fa asz p))))) (g_from : fs[(30 : Nat)]? = some (.int (nI (bl fa asz p)))) (g_to : fs[(31 : Nat)]? = some (.int (nI y))) (g_bad : fs[(33 : Nat)]? = some (.int bd)) (g_phrases : fs[(34 : Nat)]? = some (.int (nI ph.length))) (g_tokens : fs[(35 : Nat)]? = some (.int (nI t))) (g_groups : fs[(36 : Nat)]? = some (.int (nI g))) (g_askedSize : fs[(11 : Nat)]? = some (.int (nI asz))) (g_asked : fs[(4 : Nat)]? = some (.ref asked_)) (e_asked : h asked_ = some (.inl (0, 96, .inl (fa)))) (g_firstToken : fs[(41 : Nat)]? = some (.ref firstToken_)) (e_firstToken : h firstToken_ = some (.inl (0, 13, .inl (c1)))) (g_starred : fs[(42 : Nat)]? = some (.ref starred_)) (e_starred : h starred_ = some (.inl (0, 13, .inl (c2)))) (g_tokenAt : fs[(43 : Nat)]? = some (.ref tokenAt_)) (e_tokenAt : h tokenAt_ = some (.inl (0, 60, .inl (ca)))) (g_tokenSize : fs[(44 : Nat)]? = some (.ref tokenSize_)) (e_tokenSize : h tokenSize_ = some (.inl (0, 60, .inl (cs)))) (g_groupFar : fs[(49 : Nat)]? = some (.ref groupFar_)) (e_groupFar : h groupFar_ = some (.inl (0, 13, .inl (c9)))) (n_firstToken_starred : firstToken_ ≠ starred_) (n_firstToken_groupFar : firstToken_ ≠ groupFar_) (n_starred_groupFar : starred_ ≠ groupFar_) (n_tokenAt_tokenSize : tokenAt_ ≠ tokenSize_) (hasz : asz ≤ 96) (h128 : ∀ j, j < asz → ∃ c, c < 128 ∧ fa j = nI c) (PT : PtO fa asz (bl fa asz p) y (nI (rkd (kdP fa asz p)))) (HY : ¬ kdP fa asz p = 1 → y = skP fa asz p) (RQ : RqT fa asz c1 c2 ca cs t p ph []) (hbd : bd < 0) (hp12 : ph.length ≤ 12) (hg12 : g ≤ 12) (h8 : kdP fa asz p = 8) (h10 : c9 g = nI 10) (hF : 6 ≤ F) (hL : 127 ≤ L) :
    xw_Met G m_Model_near F L 0 0 [.ref m] h (fun v h' => v = none ∧ ∃ (bd' : Int32) (c1' c2' ca' cs' c9' : Nat → Int32) (fs' : List Value), fs'.length = 62 ∧ h' m = some (.inr (11, fs')) ∧ fs'[(33 : Nat)]? = some (.int bd') ∧ (∀ i : Nat, i ∉ [28, 29, 30, 31, 33, 34, 35] → fs'[i]? = fs[i]?) ∧ h' firstToken_ = some (.inl (0, 13, .inl c1')) ∧ h' starred_ = some (.inl (0, 13, .inl c2')) ∧ h' tokenAt_ = some (.inl (0, 60, .inl ca')) ∧ h' tokenSize_ = some (.inl (0, 60, .inl cs')) ∧ h' groupFar_ = some (.inl (0, 13, .inl c9')) ∧ FrO [m, firstToken_, starred_, tokenAt_, tokenSize_, groupFar_] h h' ∧ ((rdNear fa asz (skP fa asz p) ph = none ∧ ¬ bd' < 0 ∧ INT fs' [28, 29, 30, 31, 33, 34, 35]) ∨ ∃ (p' : Nat) (ph' : List PHt) (d' y' t' : Nat), rdNear fa asz (skP fa asz p) ph = some (p', ph', d') ∧ bd' < 0 ∧ PtO fa asz (bl fa asz p') y' (nI (rkd (kdP fa asz p'))) ∧ (¬ kdP fa asz p' = 1 → y' = skP fa asz p') ∧ fs'[(28 : Nat)]? = some (.int (nI (bl fa asz p'))) ∧ fs'[(29 : Nat)]? = some (.int (nI (rkd (kdP fa asz p')))) ∧ fs'[(30 : Nat)]? = some (.int (nI (bl fa asz p'))) ∧ fs'[(31 : Nat)]? = some (.int (nI y')) ∧ fs'[(34 : Nat)]? = some (.int (nI ph'.length)) ∧ fs'[(35 : Nat)]? = some (.int (nI t')) ∧ RqT fa asz c1' c2' ca' cs' t' p' ph' [] ∧ c9' g = nI d' ∧ ∀ j, j ≠ g → c9' j = c9 j)) (fun _ _ => False) := by
  refine xw_Met.of rfl (by decide) (Nat.le_of_ble_eq_true rfl) ?_
  have hbd2 : ¬ 0 ≤ bd := Int32.not_le.mpr hbd
  have hxy0 := PT.1
  have hy97 := PT.2.1
  have ga0 : ∀ i : Nat, i ∉ [28, 29, 30, 31, 33, 34, 35] → fs[i]? = fs[i]? := fun _ _ => rfl
  have r0 : FrO [m, firstToken_, starred_, tokenAt_, tokenSize_, groupFar_] h h := FrO.rf
  refine s_Model_near_0 ?_
  have hE_13 := HY (by rw [h8]; decide)
  rw [hE_13] at g_to
  refine x_callV (As := []) (b := m) (rest := []) (F1 := 4) (L1 := 87) (mc := 0) (ms := 0) d_Model_near_1 cV_Model_257 (f_nextH (x0 := (skP fa asz p)) l e g_at g_kind g_from g_to g_askedSize g_asked e_asked (by rw [← hE_13]; exact PT.2.1) hasz (by omega) (by omega)) e ⟨by decide, rfl⟩ ⟨by omega, by show 8 + (1 + 11) + 87 ≤ _; omega⟩ ⟨by omega, by omega⟩ (Nat.le_of_ble_eq_true rfl) (fun v_15 h_14 p_16 => ?_)
  obtain ⟨rfl, y_1, fs_2, PT_3, HY_4, l_5, e_6, g_7, g_8, g_9, g_10, ga_11, r_12⟩ := p_16
  have e_17 := r_12 asked_ _ (by simp only [List.mem_cons, List.not_mem_nil, or_false, not_or]; exact (xw_neC e_asked e (by simp))) e_asked
  have e_18 := r_12 firstToken_ _ (by simp only [List.mem_cons, List.not_mem_nil, or_false, not_or]; exact (xw_neC e_firstToken e (by simp))) e_firstToken
  have e_19 := r_12 starred_ _ (by simp only [List.mem_cons, List.not_mem_nil, or_false, not_or]; exact (xw_neC e_starred e (by simp))) e_starred
  have e_20 := r_12 tokenAt_ _ (by simp only [List.mem_cons, List.not_mem_nil, or_false, not_or]; exact (xw_neC e_tokenAt e (by simp))) e_tokenAt
  have e_21 := r_12 tokenSize_ _ (by simp only [List.mem_cons, List.not_mem_nil, or_false, not_or]; exact (xw_neC e_tokenSize e (by simp))) e_tokenSize
  have e_22 := r_12 groupFar_ _ (by simp only [List.mem_cons, List.not_mem_nil, or_false, not_or]; exact (xw_neC e_groupFar e (by simp))) e_groupFar
  have r_23 := r0.trans (r_12.mono (by simp))
  have g_24 : fs_2[(33 : Nat)]? = some (.int bd) := (ga_11 33 (by decide)).trans g_bad
  have g_25 : fs_2[(34 : Nat)]? = some (.int (nI ph.length)) := (ga_11 34 (by decide)).trans g_phrases
  have g_26 : fs_2[(35 : Nat)]? = some (.int (nI t)) := (ga_11 35 (by decide)).trans g_tokens
  have g_27 : fs_2[(36 : Nat)]? = some (.int (nI g)) := (ga_11 36 (by decide)).trans g_groups
  have g_28 : fs_2[(11 : Nat)]? = some (.int (nI asz)) := (ga_11 11 (by decide)).trans g_askedSize
  have g_29 : fs_2[(4 : Nat)]? = some (.ref asked_) := (ga_11 4 (by decide)).trans g_asked
  have g_30 : fs_2[(41 : Nat)]? = some (.ref firstToken_) := (ga_11 41 (by decide)).trans g_firstToken
  have g_31 : fs_2[(42 : Nat)]? = some (.ref starred_) := (ga_11 42 (by decide)).trans g_starred
  have g_32 : fs_2[(43 : Nat)]? = some (.ref tokenAt_) := (ga_11 43 (by decide)).trans g_tokenAt
  have g_33 : fs_2[(44 : Nat)]? = some (.ref tokenSize_) := (ga_11 44 (by decide)).trans g_tokenSize
  have g_34 : fs_2[(49 : Nat)]? = some (.ref groupFar_) := (ga_11 49 (by decide)).trans g_groupFar
  have ga_35 : ∀ i : Nat, i ∉ [28, 29, 30, 31, 33, 34, 35] → fs_2[i]? = fs[i]? := fun i hi => (ga_11 i (fun z => hi (by simp only [List.mem_cons, List.not_mem_nil, or_false] at z ⊢; omega))).trans (ga0 i hi)
  have RQ_36 := RQ.next (by rw [h8]; decide) (by rw [h8]; decide)
  have hb_37 := Nat.le_trans PT_3.1 PT_3.2.1
  refine s_Model_near_4 l_5 e_6 g_8 (fun z_38 => ?_) (fun z_39 => ?_)
  · skip
    refine s_Model_near_17 ?_
    refine s_Model_near_18 l_5 e_6 g_9 ?_
    refine x_callV (As := [.int 0, .int (nI (bl fa asz (skP fa asz p)))]) (b := m) (rest := []) (F1 := 1) (L1 := 20) (mc := 0) (ms := 0) d_Model_near_22 cV_Model_250 (f_wrongsH (k := bl fa asz (skP fa asz p)) l_5 e_6 g_24 (by omega) (by omega) (by omega)) e_6 ⟨by decide, rfl⟩ ⟨by omega, by show 8 + (3 + 11) + 20 ≤ _; omega⟩ ⟨by omega, by omega⟩ (Nat.le_of_ble_eq_true rfl) (fun v_51 h_50 p_52 => ?_)
    obtain ⟨rfl, bd_40, fs_41, hw_42, hw_43, hw_44, l_45, e_46, g_47, ga_48, r_49⟩ := p_52
    have e_53 := r_49 asked_ _ (by simp only [List.mem_cons, List.not_mem_nil, or_false, not_or]; exact (xw_neC e_17 e_6 (by simp))) e_17
    have e_54 := r_49 firstToken_ _ (by simp only [List.mem_cons, List.not_mem_nil, or_false, not_or]; exact (xw_neC e_18 e_6 (by simp))) e_18
    have e_55 := r_49 starred_ _ (by simp only [List.mem_cons, List.not_mem_nil, or_false, not_or]; exact (xw_neC e_19 e_6 (by simp))) e_19
    have e_56 := r_49 tokenAt_ _ (by simp only [List.mem_cons, List.not_mem_nil, or_false, not_or]; exact (xw_neC e_20 e_6 (by simp))) e_20
    have e_57 := r_49 tokenSize_ _ (by simp only [List.mem_cons, List.not_mem_nil, or_false, not_or]; exact (xw_neC e_21 e_6 (by simp))) e_21
    have e_58 := r_49 groupFar_ _ (by simp only [List.mem_cons, List.not_mem_nil, or_false, not_or]; exact (xw_neC e_22 e_6 (by simp))) e_22
    have r_59 := r_23.trans (r_49.mono (by simp))
    have g_60 : fs_41[(34 : Nat)]? = some (.int (nI ph.length)) := (ga_48 34 (by decide)).trans g_25
    have g_61 : fs_41[(35 : Nat)]? = some (.int (nI t)) := (ga_48 35 (by decide)).trans g_26
    have g_62 : fs_41[(36 : Nat)]? = some (.int (nI g)) := (ga_48 36 (by decide)).trans g_27
    have g_63 : fs_41[(11 : Nat)]? = some (.int (nI asz)) := (ga_48 11 (by decide)).trans g_28
    have g_64 : fs_41[(4 : Nat)]? = some (.ref asked_) := (ga_48 4 (by decide)).trans g_29
    have g_65 : fs_41[(41 : Nat)]? = some (.ref firstToken_) := (ga_48 41 (by decide)).trans g_30
    have g_66 : fs_41[(42 : Nat)]? = some (.ref starred_) := (ga_48 42 (by decide)).trans g_31
    have g_67 : fs_41[(43 : Nat)]? = some (.ref tokenAt_) := (ga_48 43 (by decide)).trans g_32
    have g_68 : fs_41[(44 : Nat)]? = some (.ref tokenSize_) := (ga_48 44 (by decide)).trans g_33
    have g_69 : fs_41[(49 : Nat)]? = some (.ref groupFar_) := (ga_48 49 (by decide)).trans g_34
    have g_70 : fs_41[(28 : Nat)]? = some (.int (nI (bl fa asz (skP fa asz p)))) := (ga_48 28 (by decide)).trans g_7
    have g_71 : fs_41[(29 : Nat)]? = some (.int (nI (rkd (kdP fa asz (skP fa asz p))))) := (ga_48 29 (by decide)).trans g_8
    have g_72 : fs_41[(30 : Nat)]? = some (.int (nI (bl fa asz (skP fa asz p)))) := (ga_48 30 (by decide)).trans g_9
    have g_73 : fs_41[(31 : Nat)]? = some (.int (nI y_1)) := (ga_48 31 (by decide)).trans g_10
    have ga_74 : ∀ i : Nat, i ∉ [28, 29, 30, 31, 33, 34, 35] → fs_41[i]? = fs[i]? := fun i hi => (ga_48 i (fun z => hi (by simp only [List.mem_cons, List.not_mem_nil, or_false] at z ⊢; omega))).trans (ga_35 i hi)
    have hb_75 : bd_40 < 0 := by rw [hw_42 rfl]; exact hbd
    have hb_76 : ¬ 0 ≤ bd_40 := Int32.not_le.mpr hb_75
    refine s_Model_near_25 l_45 e_46 g_47 (fun z_77 => ?_) (fun z => absurd hb_75 z)
    refine s_Model_near_33 ?_
    have hk_78 : kdP fa asz (skP fa asz p) = 9 := ((rk_iff _ (kdP_le fa asz (skP fa asz p))).2.2.1).mp ((nI_eq (b := 3) (by have := rk_le _ (kdP_le fa asz (skP fa asz p)); omega) (by decide)).mp z_38)
    have hE_91 := HY_4 (by rw [hk_78]; decide)
    rw [hE_91] at g_73
    refine x_callV (As := []) (b := m) (rest := []) (F1 := 4) (L1 := 87) (mc := 0) (ms := 0) d_Model_near_34 cV_Model_257 (f_nextH (x0 := (skP fa asz (skP fa asz p))) l_45 e_46 g_70 g_71 g_72 g_73 g_63 g_64 e_53 (by rw [← hE_91]; exact PT_3.2.1) hasz (by omega) (by omega)) e_46 ⟨by decide, rfl⟩ ⟨by omega, by show 8 + (1 + 11) + 87 ≤ _; omega⟩ ⟨by omega, by omega⟩ (Nat.le_of_ble_eq_true rfl) (fun v_93 h_92 p_94 => ?_)
    obtain ⟨rfl, y_79, fs_80, PT_81, HY_82, l_83, e_84, g_85, g_86, g_87, g_88, ga_89, r_90⟩ := p_94
    have e_95 := r_90 asked_ _ (by simp only [List.mem_cons, List.not_mem_nil, or_false, not_or]; exact (xw_neC e_53 e_46 (by simp))) e_53
    have e_96 := r_90 firstToken_ _ (by simp only [List.mem_cons, List.not_mem_nil, or_false, not_or]; exact (xw_neC e_54 e_46 (by simp))) e_54
    have e_97 := r_90 starred_ _ (by simp only [List.mem_cons, List.not_mem_nil, or_false, not_or]; exact (xw_neC e_55 e_46 (by simp))) e_55
    have e_98 := r_90 tokenAt_ _ (by simp only [List.mem_cons, List.not_mem_nil, or_false, not_or]; exact (xw_neC e_56 e_46 (by simp))) e_56
    have e_99 := r_90 tokenSize_ _ (by simp only [List.mem_cons, List.not_mem_nil, or_false, not_or]; exact (xw_neC e_57 e_46 (by simp))) e_57
    have e_100 := r_90 groupFar_ _ (by simp only [List.mem_cons, List.not_mem_nil, or_false, not_or]; exact (xw_neC e_58 e_46 (by simp))) e_58
    have r_101 := r_59.trans (r_90.mono (by simp))
    have g_102 : fs_80[(34 : Nat)]? = some (.int (nI ph.length)) := (ga_89 34 (by decide)).trans g_60
    have g_103 : fs_80[(35 : Nat)]? = some (.int (nI t)) := (ga_89 35 (by decide)).trans g_61
    have g_104 : fs_80[(36 : Nat)]? = some (.int (nI g)) := (ga_89 36 (by decide)).trans g_62
    have g_105 : fs_80[(11 : Nat)]? = some (.int (nI asz)) := (ga_89 11 (by decide)).trans g_63
    have g_106 : fs_80[(4 : Nat)]? = some (.ref asked_) := (ga_89 4 (by decide)).trans g_64
    have g_107 : fs_80[(41 : Nat)]? = some (.ref firstToken_) := (ga_89 41 (by decide)).trans g_65
    have g_108 : fs_80[(42 : Nat)]? = some (.ref starred_) := (ga_89 42 (by decide)).trans g_66
    have g_109 : fs_80[(43 : Nat)]? = some (.ref tokenAt_) := (ga_89 43 (by decide)).trans g_67
    have g_110 : fs_80[(44 : Nat)]? = some (.ref tokenSize_) := (ga_89 44 (by decide)).trans g_68
    have g_111 : fs_80[(49 : Nat)]? = some (.ref groupFar_) := (ga_89 49 (by decide)).trans g_69
    have g_112 : fs_80[(33 : Nat)]? = some (.int bd_40) := (ga_89 33 (by decide)).trans g_47
    have ga_113 : ∀ i : Nat, i ∉ [28, 29, 30, 31, 33, 34, 35] → fs_80[i]? = fs[i]? := fun i hi => (ga_89 i (fun z => hi (by simp only [List.mem_cons, List.not_mem_nil, or_false] at z ⊢; omega))).trans (ga_74 i hi)
    have RQ_114 := RQ_36.next (by rw [hk_78]; decide) (by rw [hk_78]; decide)
    have hb_115 := Nat.le_trans PT_81.1 PT_81.2.1
    refine s_Model_near_37 ?_
    refine x_callV (As := []) (b := m) (rest := []) (F1 := 5) (L1 := 107) (mc := 0) (ms := 0) d_Model_near_38 cV_Model_260 (f_phraseH (ph := ph) l_83 e_84 g_85 g_86 g_87 g_88 g_112 g_102 g_103 g_105 g_106 e_95 g_107 e_96 g_108 e_97 g_109 e_98 g_110 e_99 n_firstToken_starred n_tokenAt_tokenSize hasz PT_81 HY_82 RQ_114 hb_75 rfl hp12 (by omega) (by omega)) e_84 ⟨by decide, rfl⟩ ⟨by omega, by show 8 + (1 + 11) + 107 ≤ _; omega⟩ ⟨by omega, by omega⟩ (Nat.le_of_ble_eq_true rfl) (fun v_150 h_149 p_151 => ?_)
    rcases p_151 with ⟨rfl, bd_116, c1_117, c2_118, ca_119, cs_120, fs_121, l_122, e_123, g_124, ga_125, e_126, e_127, e_128, e_129, r_130, ⟨hx_131, nb_132, IN_133⟩ | ⟨p_134, x_135, y_136, t_137, hx_138, hb_139, PT_140, HY_141, g_142, g_143, g_144, g_145, g_146, g_147, RQ_148⟩⟩
    · skip
      have e_152 := r_130 asked_ _ (by simp only [List.mem_cons, List.not_mem_nil, or_false, not_or]; exact ⟨(xw_neC e_95 e_84 (by simp)), (xw_neC e_95 e_96 (by simp)), (xw_neC e_95 e_97 (by simp)), (xw_neC e_95 e_98 (by simp)), (xw_neC e_95 e_99 (by simp))⟩) e_95
      have e_153 := r_130 groupFar_ _ (by simp only [List.mem_cons, List.not_mem_nil, or_false, not_or]; exact ⟨(xw_neC e_100 e_84 (by simp)), (Ne.symm n_firstToken_groupFar), (Ne.symm n_starred_groupFar), (xw_neC e_100 e_98 (by simp)), (xw_neC e_100 e_99 (by simp))⟩) e_100
      have r_154 := r_101.trans (r_130.mono (by simp))
      obtain ⟨v_155, g_156⟩ := IN_133 28 (by decide)
      obtain ⟨v_157, g_158⟩ := IN_133 29 (by decide)
      obtain ⟨v_159, g_160⟩ := IN_133 30 (by decide)
      obtain ⟨v_161, g_162⟩ := IN_133 31 (by decide)
      obtain ⟨v_163, g_164⟩ := IN_133 34 (by decide)
      obtain ⟨v_165, g_166⟩ := IN_133 35 (by decide)
      have g_167 : fs_121[(36 : Nat)]? = some (.int (nI g)) := (ga_125 36 (by decide)).trans g_104
      have g_168 : fs_121[(11 : Nat)]? = some (.int (nI asz)) := (ga_125 11 (by decide)).trans g_105
      have g_169 : fs_121[(4 : Nat)]? = some (.ref asked_) := (ga_125 4 (by decide)).trans g_106
      have g_170 : fs_121[(41 : Nat)]? = some (.ref firstToken_) := (ga_125 41 (by decide)).trans g_107
      have g_171 : fs_121[(42 : Nat)]? = some (.ref starred_) := (ga_125 42 (by decide)).trans g_108
      have g_172 : fs_121[(43 : Nat)]? = some (.ref tokenAt_) := (ga_125 43 (by decide)).trans g_109
      have g_173 : fs_121[(44 : Nat)]? = some (.ref tokenSize_) := (ga_125 44 (by decide)).trans g_110
      have g_174 : fs_121[(49 : Nat)]? = some (.ref groupFar_) := (ga_125 49 (by decide)).trans g_111
      have ga_175 : ∀ i : Nat, i ∉ [28, 29, 30, 31, 33, 34, 35] → fs_121[i]? = fs[i]? := fun i hi => (ga_125 i (fun z => hi (by simp only [List.mem_cons, List.not_mem_nil, or_false] at z ⊢; omega))).trans (ga_113 i hi)
      have hb_176 : 0 ≤ bd_116 := Int32.not_lt.mp nb_132
      refine s_Model_near_41 l_122 e_123 g_124 (fun z_177 => ?_) (fun z => absurd hb_176 z)
      refine s_Model_near_72 l_122 e_123 g_124 (fun z => absurd z nb_132) (fun z_178 => ?_)
      refine s_Model_near_79 ?_
      exact ⟨rfl, _, _, _, _, _, _, _, l_122, e_123, g_124, ga_175, e_126, e_127, e_128, e_129, e_153, r_154, Or.inl ⟨nr_1 hk_78 hx_131, nb_132, (fun i9 hi9 => by simp only [List.mem_cons, List.not_mem_nil, or_false] at hi9; rcases hi9 with rfl | rfl | rfl | rfl | rfl | rfl | rfl <;> first | exact ⟨_, g_156⟩ | exact ⟨_, g_158⟩ | exact ⟨_, g_160⟩ | exact ⟨_, g_162⟩ | exact ⟨_, g_124⟩ | exact ⟨_, g_164⟩ | exact ⟨_, g_166⟩)⟩⟩
    · skip
      have e_179 := r_130 asked_ _ (by simp only [List.mem_cons, List.not_mem_nil, or_false, not_or]; exact ⟨(xw_neC e_95 e_84 (by simp)), (xw_neC e_95 e_96 (by simp)), (xw_neC e_95 e_97 (by simp)), (xw_neC e_95 e_98 (by simp)), (xw_neC e_95 e_99 (by simp))⟩) e_95
      have e_180 := r_130 groupFar_ _ (by simp only [List.mem_cons, List.not_mem_nil, or_false, not_or]; exact ⟨(xw_neC e_100 e_84 (by simp)), (Ne.symm n_firstToken_groupFar), (Ne.symm n_starred_groupFar), (xw_neC e_100 e_98 (by simp)), (xw_neC e_100 e_99 (by simp))⟩) e_100
      have r_181 := r_101.trans (r_130.mono (by simp))
      have g_182 : fs_121[(36 : Nat)]? = some (.int (nI g)) := (ga_125 36 (by decide)).trans g_104
      have g_183 : fs_121[(11 : Nat)]? = some (.int (nI asz)) := (ga_125 11 (by decide)).trans g_105
      have g_184 : fs_121[(4 : Nat)]? = some (.ref asked_) := (ga_125 4 (by decide)).trans g_106
      have g_185 : fs_121[(41 : Nat)]? = some (.ref firstToken_) := (ga_125 41 (by decide)).trans g_107
      have g_186 : fs_121[(42 : Nat)]? = some (.ref starred_) := (ga_125 42 (by decide)).trans g_108
      have g_187 : fs_121[(43 : Nat)]? = some (.ref tokenAt_) := (ga_125 43 (by decide)).trans g_109
      have g_188 : fs_121[(44 : Nat)]? = some (.ref tokenSize_) := (ga_125 44 (by decide)).trans g_110
      have g_189 : fs_121[(49 : Nat)]? = some (.ref groupFar_) := (ga_125 49 (by decide)).trans g_111
      have ga_190 : ∀ i : Nat, i ∉ [28, 29, 30, 31, 33, 34, 35] → fs_121[i]? = fs[i]? := fun i hi => (ga_125 i (fun z => hi (by simp only [List.mem_cons, List.not_mem_nil, or_false] at z ⊢; omega))).trans (ga_113 i hi)
      have hb_191 : ¬ 0 ≤ bd_116 := Int32.not_le.mpr hb_139
      have hb_192 := Nat.le_trans PT_140.1 PT_140.2.1
      have l9_ : (ph ++ [x_135]).length = ph.length + 1 := by rw [List.length_append]; rfl
      rw [← l9_] at g_146
      have l8_ := rdPh_12 hx_138
      have p7 := (bl_ge fa asz p_134).1
      refine lp_nrH (gs := fs_121) (h0 := h_149) (R := rdPs fa asz 96 p_134 (ph ++ [x_135])) g_184 g_183 g_185 g_186 g_187 g_188 e_179 ⟨(xw_neC e_179 e_123 (by simp)), (xw_neC e_179 e_126 (by simp)), (xw_neC e_179 e_127 (by simp)), (xw_neC e_179 e_128 (by simp)), (xw_neC e_179 e_129 (by simp))⟩ n_firstToken_starred n_tokenAt_tokenSize hasz (by omega) (by omega) ⟨fun h9 i9 y9 t9 bd9 c19 c29 ca9 cs9 ph9 fs9 hi9 l9 e9 g28_ g29_ g30_ g31_ g33_ g34_ g35_ ga9 ef9 est9 ea9 es9 PT9 HY9 RQ9 hbd9 hp9 r9 hR9 hk9 => ?_, fun h9 bd9 c19 c29 ca9 cs9 fs9 l9 e9 g33_ nb9 IN9 ga9 ef9 est9 ea9 es9 r9 hR9 => ?_⟩ 98 p_134 _ _ _ _ _ _ _ _ (ph ++ [x_135]) _ (by omega) (by omega) l_122 e_123 g_142 g_143 g_144 g_145 g_124 g_146 g_147 (fun _ _ => rfl) e_126 e_127 e_128 e_129 PT_140 HY_141 RQ_148 hb_139 (by omega) FrO.rf (fun f hf => rdPs_any hf (by omega))
      · skip
        have e_193 := r9 asked_ _ (by simp only [List.mem_cons, List.not_mem_nil, or_false, not_or]; exact ⟨(xw_neC e_179 e_123 (by simp)), (xw_neC e_179 e_126 (by simp)), (xw_neC e_179 e_127 (by simp)), (xw_neC e_179 e_128 (by simp)), (xw_neC e_179 e_129 (by simp))⟩) e_179
        have e_194 := r9 groupFar_ _ (by simp only [List.mem_cons, List.not_mem_nil, or_false, not_or]; exact ⟨(xw_neC e_180 e_123 (by simp)), (Ne.symm n_firstToken_groupFar), (Ne.symm n_starred_groupFar), (xw_neC e_180 e_128 (by simp)), (xw_neC e_180 e_129 (by simp))⟩) e_180
        have r_195 := r_181.trans (r9.mono (by simp))
        have g_196 : fs9[(36 : Nat)]? = some (.int (nI g)) := (ga9 36 (by decide)).trans g_182
        have g_197 : fs9[(11 : Nat)]? = some (.int (nI asz)) := (ga9 11 (by decide)).trans g_183
        have g_198 : fs9[(4 : Nat)]? = some (.ref asked_) := (ga9 4 (by decide)).trans g_184
        have g_199 : fs9[(41 : Nat)]? = some (.ref firstToken_) := (ga9 41 (by decide)).trans g_185
        have g_200 : fs9[(42 : Nat)]? = some (.ref starred_) := (ga9 42 (by decide)).trans g_186
        have g_201 : fs9[(43 : Nat)]? = some (.ref tokenAt_) := (ga9 43 (by decide)).trans g_187
        have g_202 : fs9[(44 : Nat)]? = some (.ref tokenSize_) := (ga9 44 (by decide)).trans g_188
        have g_203 : fs9[(49 : Nat)]? = some (.ref groupFar_) := (ga9 49 (by decide)).trans g_189
        have ga_204 : ∀ i : Nat, i ∉ [28, 29, 30, 31, 33, 34, 35] → fs9[i]? = fs[i]? := fun i hi => (ga9 i (fun z => hi (by simp only [List.mem_cons, List.not_mem_nil, or_false] at z ⊢; omega))).trans (ga_190 i hi)
        have hb9 := Nat.le_trans PT9.1 PT9.2.1
        have hb_205 : ¬ 0 ≤ bd9 := Int32.not_le.mpr hbd9
        refine s_Model_near_72 l9 e9 g33_ (fun z_206 => ?_) (fun z => absurd hbd9 z)
        refine s_Model_near_80 l9 e9 g29_ (fun z_207 => ?_) (fun z_208 => ?_)
        · skip
          have hk_209 : ¬ kdP fa asz i9 = 13 := fun q => z_207 (by rw [q]; rfl)
          have hk_210 : kdP fa asz i9 = 10 := hk9.resolve_right hk_209
          refine s_Model_near_269 ?_
          have hE_223 := HY9 (by rw [hk_210]; decide)
          rw [hE_223] at g31_
          refine x_callV (As := []) (b := m) (rest := []) (F1 := 4) (L1 := 87) (mc := 0) (ms := 0) d_Model_near_270 cV_Model_257 (f_nextH (x0 := (skP fa asz i9)) l9 e9 g28_ g29_ g30_ g31_ g_197 g_198 e_193 (by rw [← hE_223]; exact PT9.2.1) hasz (by omega) (by omega)) e9 ⟨by decide, rfl⟩ ⟨by omega, by show 8 + (1 + 11) + 87 ≤ _; omega⟩ ⟨by omega, by omega⟩ (Nat.le_of_ble_eq_true rfl) (fun v_225 h_224 p_226 => ?_)
          obtain ⟨rfl, y_211, fs_212, PT_213, HY_214, l_215, e_216, g_217, g_218, g_219, g_220, ga_221, r_222⟩ := p_226
          have e_227 := r_222 asked_ _ (by simp only [List.mem_cons, List.not_mem_nil, or_false, not_or]; exact (xw_neC e_193 e9 (by simp))) e_193
          have e_228 := r_222 firstToken_ _ (by simp only [List.mem_cons, List.not_mem_nil, or_false, not_or]; exact (xw_neC ef9 e9 (by simp))) ef9
          have e_229 := r_222 starred_ _ (by simp only [List.mem_cons, List.not_mem_nil, or_false, not_or]; exact (xw_neC est9 e9 (by simp))) est9
          have e_230 := r_222 tokenAt_ _ (by simp only [List.mem_cons, List.not_mem_nil, or_false, not_or]; exact (xw_neC ea9 e9 (by simp))) ea9
          have e_231 := r_222 tokenSize_ _ (by simp only [List.mem_cons, List.not_mem_nil, or_false, not_or]; exact (xw_neC es9 e9 (by simp))) es9
          have e_232 := r_222 groupFar_ _ (by simp only [List.mem_cons, List.not_mem_nil, or_false, not_or]; exact (xw_neC e_194 e9 (by simp))) e_194
          have r_233 := r_195.trans (r_222.mono (by simp))
          have g_234 : fs_212[(36 : Nat)]? = some (.int (nI g)) := (ga_221 36 (by decide)).trans g_196
          have g_235 : fs_212[(11 : Nat)]? = some (.int (nI asz)) := (ga_221 11 (by decide)).trans g_197
          have g_236 : fs_212[(4 : Nat)]? = some (.ref asked_) := (ga_221 4 (by decide)).trans g_198
          have g_237 : fs_212[(41 : Nat)]? = some (.ref firstToken_) := (ga_221 41 (by decide)).trans g_199
          have g_238 : fs_212[(42 : Nat)]? = some (.ref starred_) := (ga_221 42 (by decide)).trans g_200
          have g_239 : fs_212[(43 : Nat)]? = some (.ref tokenAt_) := (ga_221 43 (by decide)).trans g_201
          have g_240 : fs_212[(44 : Nat)]? = some (.ref tokenSize_) := (ga_221 44 (by decide)).trans g_202
          have g_241 : fs_212[(49 : Nat)]? = some (.ref groupFar_) := (ga_221 49 (by decide)).trans g_203
          have g_242 : fs_212[(33 : Nat)]? = some (.int bd9) := (ga_221 33 (by decide)).trans g33_
          have g_243 : fs_212[(34 : Nat)]? = some (.int (nI ph9.length)) := (ga_221 34 (by decide)).trans g34_
          have g_244 : fs_212[(35 : Nat)]? = some (.int (nI t9)) := (ga_221 35 (by decide)).trans g35_
          have ga_245 : ∀ i : Nat, i ∉ [28, 29, 30, 31, 33, 34, 35] → fs_212[i]? = fs[i]? := fun i hi => (ga_221 i (fun z => hi (by simp only [List.mem_cons, List.not_mem_nil, or_false] at z ⊢; omega))).trans (ga_204 i hi)
          have RQ_246 := RQ9.next (by rw [hk_210]; decide) (by rw [hk_210]; decide)
          have hb_247 := Nat.le_trans PT_213.1 PT_213.2.1
          refine x_le (xw_le_n (xw_le_n (xw_le_n (xw_le_n xw_le_e)))) ?_
          refine s_Model_near_273 ?_
          have hk_248 : ¬ kdP fa asz i9 = 13 := fun q => z_207 (by rw [q]; rfl)
          have hk10 : kdP fa asz i9 = 10 := hk9.resolve_right hk_248
          exact ⟨rfl, _, _, _, _, _, _, _, l_215, e_216, g_242, ga_245, e_228, e_229, e_230, e_231, e_232, r_233, Or.inr ⟨(skP fa asz i9), ph9, _, _, _, nr_7 hk_78 hx_138 hR9 hk_248 hk10, hbd9, PT_213, HY_214, g_217, g_218, g_219, g_220, g_243, g_244, RQ_246, ⟨h10, fun _ _ => rfl⟩⟩⟩
        · skip
          refine s_Model_near_89 ?_
          have hk_249 : kdP fa asz i9 = 13 := ((rk_iff _ (kdP_le fa asz i9)).2.2.2.2.2.2.2.2.2.1).mp ((nI_eq (b := 10) (by have := rk_le _ (kdP_le fa asz i9); omega) (by decide)).mp z_208)
          have hE_262 := HY9 (by rw [hk_249]; decide)
          rw [hE_262] at g31_
          refine x_callV (As := []) (b := m) (rest := []) (F1 := 4) (L1 := 87) (mc := 0) (ms := 0) d_Model_near_90 cV_Model_257 (f_nextH (x0 := (skP fa asz i9)) l9 e9 g28_ g29_ g30_ g31_ g_197 g_198 e_193 (by rw [← hE_262]; exact PT9.2.1) hasz (by omega) (by omega)) e9 ⟨by decide, rfl⟩ ⟨by omega, by show 8 + (1 + 11) + 87 ≤ _; omega⟩ ⟨by omega, by omega⟩ (Nat.le_of_ble_eq_true rfl) (fun v_264 h_263 p_265 => ?_)
          obtain ⟨rfl, y_250, fs_251, PT_252, HY_253, l_254, e_255, g_256, g_257, g_258, g_259, ga_260, r_261⟩ := p_265
          have e_266 := r_261 asked_ _ (by simp only [List.mem_cons, List.not_mem_nil, or_false, not_or]; exact (xw_neC e_193 e9 (by simp))) e_193
          have e_267 := r_261 firstToken_ _ (by simp only [List.mem_cons, List.not_mem_nil, or_false, not_or]; exact (xw_neC ef9 e9 (by simp))) ef9
          have e_268 := r_261 starred_ _ (by simp only [List.mem_cons, List.not_mem_nil, or_false, not_or]; exact (xw_neC est9 e9 (by simp))) est9
          have e_269 := r_261 tokenAt_ _ (by simp only [List.mem_cons, List.not_mem_nil, or_false, not_or]; exact (xw_neC ea9 e9 (by simp))) ea9
          have e_270 := r_261 tokenSize_ _ (by simp only [List.mem_cons, List.not_mem_nil, or_false, not_or]; exact (xw_neC es9 e9 (by simp))) es9
          have e_271 := r_261 groupFar_ _ (by simp only [List.mem_cons, List.not_mem_nil, or_false, not_or]; exact (xw_neC e_194 e9 (by simp))) e_194
          have r_272 := r_195.trans (r_261.mono (by simp))
          have g_273 : fs_251[(36 : Nat)]? = some (.int (nI g)) := (ga_260 36 (by decide)).trans g_196
          have g_274 : fs_251[(11 : Nat)]? = some (.int (nI asz)) := (ga_260 11 (by decide)).trans g_197
          have g_275 : fs_251[(4 : Nat)]? = some (.ref asked_) := (ga_260 4 (by decide)).trans g_198
          have g_276 : fs_251[(41 : Nat)]? = some (.ref firstToken_) := (ga_260 41 (by decide)).trans g_199
          have g_277 : fs_251[(42 : Nat)]? = some (.ref starred_) := (ga_260 42 (by decide)).trans g_200
          have g_278 : fs_251[(43 : Nat)]? = some (.ref tokenAt_) := (ga_260 43 (by decide)).trans g_201
          have g_279 : fs_251[(44 : Nat)]? = some (.ref tokenSize_) := (ga_260 44 (by decide)).trans g_202
          have g_280 : fs_251[(49 : Nat)]? = some (.ref groupFar_) := (ga_260 49 (by decide)).trans g_203
          have g_281 : fs_251[(33 : Nat)]? = some (.int bd9) := (ga_260 33 (by decide)).trans g33_
          have g_282 : fs_251[(34 : Nat)]? = some (.int (nI ph9.length)) := (ga_260 34 (by decide)).trans g34_
          have g_283 : fs_251[(35 : Nat)]? = some (.int (nI t9)) := (ga_260 35 (by decide)).trans g35_
          have ga_284 : ∀ i : Nat, i ∉ [28, 29, 30, 31, 33, 34, 35] → fs_251[i]? = fs[i]? := fun i hi => (ga_260 i (fun z => hi (by simp only [List.mem_cons, List.not_mem_nil, or_false] at z ⊢; omega))).trans (ga_204 i hi)
          have RQ_285 := RQ9.next (by rw [hk_249]; decide) (by rw [hk_249]; decide)
          have hb_286 := Nat.le_trans PT_252.1 PT_252.2.1
          refine s_Model_near_93 l_254 e_255 g_258 ?_
          refine x_callV (As := [.int (nI (bl fa asz (skP fa asz i9)))]) (b := m) (rest := []) (F1 := 1) (L1 := 20) (mc := 0) (ms := 0) d_Model_near_98 cV_Model_221 (f_q (x := bl fa asz (skP fa asz i9)) l_254 e_255 g_274 g_275 e_266 (by omega) (by omega) (by omega) (by omega)) e_255 ⟨by decide, rfl⟩ ⟨by omega, by show 8 + (2 + 11) + 20 ≤ _; omega⟩ ⟨by omega, by omega⟩ (Nat.le_of_ble_eq_true rfl) (fun v_288 h_287 p_289 => ?_)
          obtain ⟨rfl, rfl⟩ := p_289
          refine s_Model_near_101 l_254 e_255 g_258 ?_
          rw [show (nI (bl fa asz (skP fa asz i9))) + 1 = nI ((bl fa asz (skP fa asz i9)) + 1) from nI_1 _]
          refine x_callV (As := [.int (nI ((bl fa asz (skP fa asz i9)) + 1))]) (b := m) (rest := []) (F1 := 1) (L1 := 20) (mc := 0) (ms := 0) d_Model_near_112 cV_Model_221 (f_q (x := (bl fa asz (skP fa asz i9)) + 1) l_254 e_255 g_274 g_275 e_266 (by omega) (by omega) (by omega) (by omega)) e_255 ⟨by decide, rfl⟩ ⟨by omega, by show 8 + (2 + 11) + 20 ≤ _; omega⟩ ⟨by omega, by omega⟩ (Nat.le_of_ble_eq_true rfl) (fun v_291 h_290 p_292 => ?_)
          obtain ⟨rfl, rfl⟩ := p_292
          refine s_Model_near_115 l_254 e_255 g_257 (fun z_293 => ?_) (fun z_294 => ?_)
          · skip
            refine s_Model_near_177 ?_
            refine s_Model_near_178 (fun z => absurd z (by decide)) (fun z_295 => ?_)
            refine s_Model_near_184 ?_
            refine s_Model_near_189 l_254 e_255 g_258 ?_
            have hk_296 : ¬ (kdP fa asz (skP fa asz i9) = 2 ∨ kdP fa asz (skP fa asz i9) = 3) := fun q => z_293 (by rcases q with q | q <;> (rw [q]; rfl))
            have hN_297 := rdN_k (fun q => hk_296 (Or.inl q)) (fun q => hk_296 (Or.inr q))
            refine x_callV (As := [.int 1, .int (nI (bl fa asz (skP fa asz i9)))]) (b := m) (rest := []) (F1 := 1) (L1 := 20) (mc := 0) (ms := 0) d_Model_near_193 cV_Model_250 (f_wrongsH (k := bl fa asz (skP fa asz i9)) l_254 e_255 g_281 (by omega) (by omega) (by omega)) e_255 ⟨by decide, rfl⟩ ⟨by omega, by show 8 + (3 + 11) + 20 ≤ _; omega⟩ ⟨by omega, by omega⟩ (Nat.le_of_ble_eq_true rfl) (fun v_309 h_308 p_310 => ?_)
            obtain ⟨rfl, bd_298, fs_299, hw_300, hw_301, hw_302, l_303, e_304, g_305, ga_306, r_307⟩ := p_310
            have e_311 := r_307 asked_ _ (by simp only [List.mem_cons, List.not_mem_nil, or_false, not_or]; exact (xw_neC e_266 e_255 (by simp))) e_266
            have e_312 := r_307 firstToken_ _ (by simp only [List.mem_cons, List.not_mem_nil, or_false, not_or]; exact (xw_neC e_267 e_255 (by simp))) e_267
            have e_313 := r_307 starred_ _ (by simp only [List.mem_cons, List.not_mem_nil, or_false, not_or]; exact (xw_neC e_268 e_255 (by simp))) e_268
            have e_314 := r_307 tokenAt_ _ (by simp only [List.mem_cons, List.not_mem_nil, or_false, not_or]; exact (xw_neC e_269 e_255 (by simp))) e_269
            have e_315 := r_307 tokenSize_ _ (by simp only [List.mem_cons, List.not_mem_nil, or_false, not_or]; exact (xw_neC e_270 e_255 (by simp))) e_270
            have e_316 := r_307 groupFar_ _ (by simp only [List.mem_cons, List.not_mem_nil, or_false, not_or]; exact (xw_neC e_271 e_255 (by simp))) e_271
            have r_317 := r_272.trans (r_307.mono (by simp))
            have g_318 : fs_299[(36 : Nat)]? = some (.int (nI g)) := (ga_306 36 (by decide)).trans g_273
            have g_319 : fs_299[(11 : Nat)]? = some (.int (nI asz)) := (ga_306 11 (by decide)).trans g_274
            have g_320 : fs_299[(4 : Nat)]? = some (.ref asked_) := (ga_306 4 (by decide)).trans g_275
            have g_321 : fs_299[(41 : Nat)]? = some (.ref firstToken_) := (ga_306 41 (by decide)).trans g_276
            have g_322 : fs_299[(42 : Nat)]? = some (.ref starred_) := (ga_306 42 (by decide)).trans g_277
            have g_323 : fs_299[(43 : Nat)]? = some (.ref tokenAt_) := (ga_306 43 (by decide)).trans g_278
            have g_324 : fs_299[(44 : Nat)]? = some (.ref tokenSize_) := (ga_306 44 (by decide)).trans g_279
            have g_325 : fs_299[(49 : Nat)]? = some (.ref groupFar_) := (ga_306 49 (by decide)).trans g_280
            have g_326 : fs_299[(34 : Nat)]? = some (.int (nI ph9.length)) := (ga_306 34 (by decide)).trans g_282
            have g_327 : fs_299[(35 : Nat)]? = some (.int (nI t9)) := (ga_306 35 (by decide)).trans g_283
            have g_328 : fs_299[(28 : Nat)]? = some (.int (nI (bl fa asz (skP fa asz i9)))) := (ga_306 28 (by decide)).trans g_256
            have g_329 : fs_299[(29 : Nat)]? = some (.int (nI (rkd (kdP fa asz (skP fa asz i9))))) := (ga_306 29 (by decide)).trans g_257
            have g_330 : fs_299[(30 : Nat)]? = some (.int (nI (bl fa asz (skP fa asz i9)))) := (ga_306 30 (by decide)).trans g_258
            have g_331 : fs_299[(31 : Nat)]? = some (.int (nI y_250)) := (ga_306 31 (by decide)).trans g_259
            have ga_332 : ∀ i : Nat, i ∉ [28, 29, 30, 31, 33, 34, 35] → fs_299[i]? = fs[i]? := fun i hi => (ga_306 i (fun z => hi (by simp only [List.mem_cons, List.not_mem_nil, or_false] at z ⊢; omega))).trans (ga_284 i hi)
            have hb_333 : ¬ bd_298 < 0 := hw_301 (by decide)
            have hb_334 : 0 ≤ bd_298 := Int32.not_lt.mp hb_333
            refine s_Model_near_196 l_303 e_304 g_305 (fun z => absurd z hb_333) (fun z_335 => ?_)
            refine s_Model_near_203 ?_
            exact ⟨rfl, _, _, _, _, _, _, _, l_303, e_304, g_305, ga_332, e_312, e_313, e_314, e_315, e_316, r_317, Or.inl ⟨nr_3 hk_78 hx_138 hR9 hk_249 hN_297, hb_333, (fun i9 hi9 => by simp only [List.mem_cons, List.not_mem_nil, or_false] at hi9; rcases hi9 with rfl | rfl | rfl | rfl | rfl | rfl | rfl <;> first | exact ⟨_, g_328⟩ | exact ⟨_, g_329⟩ | exact ⟨_, g_330⟩ | exact ⟨_, g_331⟩ | exact ⟨_, g_305⟩ | exact ⟨_, g_326⟩ | exact ⟨_, g_327⟩)⟩⟩
          · skip
            refine s_Model_near_127 ?_
            refine x_callS (As := [.int ((qv fa asz (bl fa asz (skP fa asz i9))) - 48), .int 0, .int 9]) (rest := []) (F1 := 1) (L1 := 20) (mc := 0) (ms := 0) d_Model_near_131 cS_Model_133 (f_inB (by omega) (by omega)) ⟨by omega, by show 8 + (3 + 11) + 20 ≤ _; omega⟩ ⟨by omega, by omega⟩ (Nat.le_of_ble_eq_true rfl) (fun v_337 h_336 p_338 => ?_)
            obtain ⟨rfl, rfl⟩ := p_338
            refine s_Model_near_134 (fun z_339 => ?_) (fun z_340 => ?_)
            · skip
              refine s_Model_near_177 ?_
              refine s_Model_near_178 (fun z => absurd z (by decide)) (fun z_341 => ?_)
              refine s_Model_near_184 ?_
              refine s_Model_near_189 l_254 e_255 g_258 ?_
              have hk_342 : kdP fa asz (skP fa asz i9) = 2 ∨ kdP fa asz (skP fa asz i9) = 3 := (rk_1 _ (kdP_le fa asz (skP fa asz i9))).mp ((nI_eq (b := 1) (by have := rk_le _ (kdP_le fa asz (skP fa asz i9)); omega) (by decide)).mp z_294)
              have kw9 := kd_w hk_342
              have hE_343 := HY_253 (by rcases hk_342 with q | q <;> (rw [q]; decide))
              have hd0 : dig (qv fa asz (bl fa asz (skP fa asz i9))) = false := by rw [← dgq h128]; exact b01_f z_339
              rw [qv_in (by omega)] at hd0
              have hN_344 := rn_d0 hd0
              refine x_callV (As := [.int 1, .int (nI (bl fa asz (skP fa asz i9)))]) (b := m) (rest := []) (F1 := 1) (L1 := 20) (mc := 0) (ms := 0) d_Model_near_193 cV_Model_250 (f_wrongsH (k := bl fa asz (skP fa asz i9)) l_254 e_255 g_281 (by omega) (by omega) (by omega)) e_255 ⟨by decide, rfl⟩ ⟨by omega, by show 8 + (3 + 11) + 20 ≤ _; omega⟩ ⟨by omega, by omega⟩ (Nat.le_of_ble_eq_true rfl) (fun v_356 h_355 p_357 => ?_)
              obtain ⟨rfl, bd_345, fs_346, hw_347, hw_348, hw_349, l_350, e_351, g_352, ga_353, r_354⟩ := p_357
              have e_358 := r_354 asked_ _ (by simp only [List.mem_cons, List.not_mem_nil, or_false, not_or]; exact (xw_neC e_266 e_255 (by simp))) e_266
              have e_359 := r_354 firstToken_ _ (by simp only [List.mem_cons, List.not_mem_nil, or_false, not_or]; exact (xw_neC e_267 e_255 (by simp))) e_267
              have e_360 := r_354 starred_ _ (by simp only [List.mem_cons, List.not_mem_nil, or_false, not_or]; exact (xw_neC e_268 e_255 (by simp))) e_268
              have e_361 := r_354 tokenAt_ _ (by simp only [List.mem_cons, List.not_mem_nil, or_false, not_or]; exact (xw_neC e_269 e_255 (by simp))) e_269
              have e_362 := r_354 tokenSize_ _ (by simp only [List.mem_cons, List.not_mem_nil, or_false, not_or]; exact (xw_neC e_270 e_255 (by simp))) e_270
              have e_363 := r_354 groupFar_ _ (by simp only [List.mem_cons, List.not_mem_nil, or_false, not_or]; exact (xw_neC e_271 e_255 (by simp))) e_271
              have r_364 := r_272.trans (r_354.mono (by simp))
              have g_365 : fs_346[(36 : Nat)]? = some (.int (nI g)) := (ga_353 36 (by decide)).trans g_273
              have g_366 : fs_346[(11 : Nat)]? = some (.int (nI asz)) := (ga_353 11 (by decide)).trans g_274
              have g_367 : fs_346[(4 : Nat)]? = some (.ref asked_) := (ga_353 4 (by decide)).trans g_275
              have g_368 : fs_346[(41 : Nat)]? = some (.ref firstToken_) := (ga_353 41 (by decide)).trans g_276
              have g_369 : fs_346[(42 : Nat)]? = some (.ref starred_) := (ga_353 42 (by decide)).trans g_277
              have g_370 : fs_346[(43 : Nat)]? = some (.ref tokenAt_) := (ga_353 43 (by decide)).trans g_278
              have g_371 : fs_346[(44 : Nat)]? = some (.ref tokenSize_) := (ga_353 44 (by decide)).trans g_279
              have g_372 : fs_346[(49 : Nat)]? = some (.ref groupFar_) := (ga_353 49 (by decide)).trans g_280
              have g_373 : fs_346[(34 : Nat)]? = some (.int (nI ph9.length)) := (ga_353 34 (by decide)).trans g_282
              have g_374 : fs_346[(35 : Nat)]? = some (.int (nI t9)) := (ga_353 35 (by decide)).trans g_283
              have g_375 : fs_346[(28 : Nat)]? = some (.int (nI (bl fa asz (skP fa asz i9)))) := (ga_353 28 (by decide)).trans g_256
              have g_376 : fs_346[(29 : Nat)]? = some (.int (nI (rkd (kdP fa asz (skP fa asz i9))))) := (ga_353 29 (by decide)).trans g_257
              have g_377 : fs_346[(30 : Nat)]? = some (.int (nI (bl fa asz (skP fa asz i9)))) := (ga_353 30 (by decide)).trans g_258
              have g_378 : fs_346[(31 : Nat)]? = some (.int (nI y_250)) := (ga_353 31 (by decide)).trans g_259
              have ga_379 : ∀ i : Nat, i ∉ [28, 29, 30, 31, 33, 34, 35] → fs_346[i]? = fs[i]? := fun i hi => (ga_353 i (fun z => hi (by simp only [List.mem_cons, List.not_mem_nil, or_false] at z ⊢; omega))).trans (ga_284 i hi)
              have hb_380 : ¬ bd_345 < 0 := hw_348 (by decide)
              have hb_381 : 0 ≤ bd_345 := Int32.not_lt.mp hb_380
              refine s_Model_near_196 l_350 e_351 g_352 (fun z => absurd z hb_380) (fun z_382 => ?_)
              refine s_Model_near_203 ?_
              exact ⟨rfl, _, _, _, _, _, _, _, l_350, e_351, g_352, ga_379, e_359, e_360, e_361, e_362, e_363, r_364, Or.inl ⟨nr_3 hk_78 hx_138 hR9 hk_249 hN_344, hb_380, (fun i9 hi9 => by simp only [List.mem_cons, List.not_mem_nil, or_false] at hi9; rcases hi9 with rfl | rfl | rfl | rfl | rfl | rfl | rfl <;> first | exact ⟨_, g_375⟩ | exact ⟨_, g_376⟩ | exact ⟨_, g_377⟩ | exact ⟨_, g_378⟩ | exact ⟨_, g_352⟩ | exact ⟨_, g_373⟩ | exact ⟨_, g_374⟩)⟩⟩
            · skip
              refine s_Model_near_137 l_254 e_255 g_259 g_258 (fun z_383 => ?_) (fun z_384 => ?_)
              · skip
                refine s_Model_near_173 ?_
                refine s_Model_near_178 (fun z_385 => ?_) (fun z => absurd z (by decide))
                refine s_Model_near_188 ?_
                refine s_Model_near_189 l_254 e_255 g_258 ?_
                have hk_386 : kdP fa asz (skP fa asz i9) = 2 ∨ kdP fa asz (skP fa asz i9) = 3 := (rk_1 _ (kdP_le fa asz (skP fa asz i9))).mp ((nI_eq (b := 1) (by have := rk_le _ (kdP_le fa asz (skP fa asz i9)); omega) (by decide)).mp z_294)
                have kw9 := kd_w hk_386
                have hE_387 := HY_253 (by rcases hk_386 with q | q <;> (rw [q]; decide))
                have hd0 : dig (qv fa asz (bl fa asz (skP fa asz i9))) = true := by rw [← dgq h128]; exact b01_t z_340
                rw [qv_in (by omega)] at hd0
                have hz_388 := z_383
                rw [hE_387, pk_sub (by omega)] at hz_388
                have hl_389 : skP fa asz (skP fa asz i9) = bl fa asz (skP fa asz i9) + 1 := by have := (nI_eq (b := 1) (by omega) (by decide)).mp hz_388; omega
                have hN_390 := rn_1 hk_386 hd0 hl_389
                refine x_callV (As := [.int 0, .int (nI (bl fa asz (skP fa asz i9)))]) (b := m) (rest := []) (F1 := 1) (L1 := 20) (mc := 0) (ms := 0) d_Model_near_193 cV_Model_250 (f_wrongsH (k := bl fa asz (skP fa asz i9)) l_254 e_255 g_281 (by omega) (by omega) (by omega)) e_255 ⟨by decide, rfl⟩ ⟨by omega, by show 8 + (3 + 11) + 20 ≤ _; omega⟩ ⟨by omega, by omega⟩ (Nat.le_of_ble_eq_true rfl) (fun v_402 h_401 p_403 => ?_)
                obtain ⟨rfl, bd_391, fs_392, hw_393, hw_394, hw_395, l_396, e_397, g_398, ga_399, r_400⟩ := p_403
                have e_404 := r_400 asked_ _ (by simp only [List.mem_cons, List.not_mem_nil, or_false, not_or]; exact (xw_neC e_266 e_255 (by simp))) e_266
                have e_405 := r_400 firstToken_ _ (by simp only [List.mem_cons, List.not_mem_nil, or_false, not_or]; exact (xw_neC e_267 e_255 (by simp))) e_267
                have e_406 := r_400 starred_ _ (by simp only [List.mem_cons, List.not_mem_nil, or_false, not_or]; exact (xw_neC e_268 e_255 (by simp))) e_268
                have e_407 := r_400 tokenAt_ _ (by simp only [List.mem_cons, List.not_mem_nil, or_false, not_or]; exact (xw_neC e_269 e_255 (by simp))) e_269
                have e_408 := r_400 tokenSize_ _ (by simp only [List.mem_cons, List.not_mem_nil, or_false, not_or]; exact (xw_neC e_270 e_255 (by simp))) e_270
                have e_409 := r_400 groupFar_ _ (by simp only [List.mem_cons, List.not_mem_nil, or_false, not_or]; exact (xw_neC e_271 e_255 (by simp))) e_271
                have r_410 := r_272.trans (r_400.mono (by simp))
                have g_411 : fs_392[(36 : Nat)]? = some (.int (nI g)) := (ga_399 36 (by decide)).trans g_273
                have g_412 : fs_392[(11 : Nat)]? = some (.int (nI asz)) := (ga_399 11 (by decide)).trans g_274
                have g_413 : fs_392[(4 : Nat)]? = some (.ref asked_) := (ga_399 4 (by decide)).trans g_275
                have g_414 : fs_392[(41 : Nat)]? = some (.ref firstToken_) := (ga_399 41 (by decide)).trans g_276
                have g_415 : fs_392[(42 : Nat)]? = some (.ref starred_) := (ga_399 42 (by decide)).trans g_277
                have g_416 : fs_392[(43 : Nat)]? = some (.ref tokenAt_) := (ga_399 43 (by decide)).trans g_278
                have g_417 : fs_392[(44 : Nat)]? = some (.ref tokenSize_) := (ga_399 44 (by decide)).trans g_279
                have g_418 : fs_392[(49 : Nat)]? = some (.ref groupFar_) := (ga_399 49 (by decide)).trans g_280
                have g_419 : fs_392[(34 : Nat)]? = some (.int (nI ph9.length)) := (ga_399 34 (by decide)).trans g_282
                have g_420 : fs_392[(35 : Nat)]? = some (.int (nI t9)) := (ga_399 35 (by decide)).trans g_283
                have g_421 : fs_392[(28 : Nat)]? = some (.int (nI (bl fa asz (skP fa asz i9)))) := (ga_399 28 (by decide)).trans g_256
                have g_422 : fs_392[(29 : Nat)]? = some (.int (nI (rkd (kdP fa asz (skP fa asz i9))))) := (ga_399 29 (by decide)).trans g_257
                have g_423 : fs_392[(30 : Nat)]? = some (.int (nI (bl fa asz (skP fa asz i9)))) := (ga_399 30 (by decide)).trans g_258
                have g_424 : fs_392[(31 : Nat)]? = some (.int (nI y_250)) := (ga_399 31 (by decide)).trans g_259
                have ga_425 : ∀ i : Nat, i ∉ [28, 29, 30, 31, 33, 34, 35] → fs_392[i]? = fs[i]? := fun i hi => (ga_399 i (fun z => hi (by simp only [List.mem_cons, List.not_mem_nil, or_false] at z ⊢; omega))).trans (ga_284 i hi)
                have hb_426 : bd_391 < 0 := by rw [hw_393 rfl]; exact hbd9
                have hb_427 : ¬ 0 ≤ bd_391 := Int32.not_le.mpr hb_426
                refine s_Model_near_196 l_396 e_397 g_398 (fun z_428 => ?_) (fun z => absurd hb_426 z)
                refine s_Model_near_204 (groupFar_a0 := some groupFar_) l_396 e_397 g_418 g_411 g_424 g_423 (fun z => absurd z_383 z) (fun z_429 => ?_)
                refine s_Model_near_225 ?_
                have q0 := dgw (k := bl fa asz (skP fa asz i9)) h128 (by rw [qv_in (by omega)]; exact hd0)
                rw [q0.1]
                refine s_Model_near_235 e_409 (vp_in_nI (by omega) (by omega)) ?_
                refine x_u1 (fun h_430 e_431 f_432 => ?_)
                have e_433 := (f_432 asked_ (xw_neC e_404 e_409 (by simp))).trans e_404
                have e_434 := (f_432 firstToken_ n_firstToken_groupFar).trans e_405
                have e_435 := (f_432 starred_ n_starred_groupFar).trans e_406
                have e_436 := (f_432 tokenAt_ (xw_neC e_407 e_409 (by simp))).trans e_407
                have e_437 := (f_432 tokenSize_ (xw_neC e_408 e_409 (by simp))).trans e_408
                have e_438 := (f_432 m (xw_neC e_397 e_409 (by simp))).trans e_397
                have r_439 := r_410.up (by simp) f_432
                have hE_452 := HY_253 (by rcases hk_386 with q | q <;> (rw [q]; decide))
                rw [hE_452] at g_424
                refine x_callV (As := []) (b := m) (rest := []) (F1 := 4) (L1 := 87) (mc := 0) (ms := 0) d_Model_near_237 cV_Model_257 (f_nextH (x0 := (skP fa asz (skP fa asz i9))) l_396 e_438 g_421 g_422 g_423 g_424 g_412 g_413 e_433 (by rw [← hE_452]; exact PT_252.2.1) hasz (by omega) (by omega)) e_438 ⟨by decide, rfl⟩ ⟨by omega, by show 8 + (1 + 11) + 87 ≤ _; omega⟩ ⟨by omega, by omega⟩ (Nat.le_of_ble_eq_true rfl) (fun v_454 h_453 p_455 => ?_)
                obtain ⟨rfl, y_440, fs_441, PT_442, HY_443, l_444, e_445, g_446, g_447, g_448, g_449, ga_450, r_451⟩ := p_455
                have e_456 := r_451 asked_ _ (by simp only [List.mem_cons, List.not_mem_nil, or_false, not_or]; exact (xw_neC e_433 e_438 (by simp))) e_433
                have e_457 := r_451 firstToken_ _ (by simp only [List.mem_cons, List.not_mem_nil, or_false, not_or]; exact (xw_neC e_434 e_438 (by simp))) e_434
                have e_458 := r_451 starred_ _ (by simp only [List.mem_cons, List.not_mem_nil, or_false, not_or]; exact (xw_neC e_435 e_438 (by simp))) e_435
                have e_459 := r_451 tokenAt_ _ (by simp only [List.mem_cons, List.not_mem_nil, or_false, not_or]; exact (xw_neC e_436 e_438 (by simp))) e_436
                have e_460 := r_451 tokenSize_ _ (by simp only [List.mem_cons, List.not_mem_nil, or_false, not_or]; exact (xw_neC e_437 e_438 (by simp))) e_437
                have e_461 := r_451 groupFar_ _ (by simp only [List.mem_cons, List.not_mem_nil, or_false, not_or]; exact (xw_neC e_431 e_438 (by simp))) e_431
                have r_462 := r_439.trans (r_451.mono (by simp))
                have g_463 : fs_441[(36 : Nat)]? = some (.int (nI g)) := (ga_450 36 (by decide)).trans g_411
                have g_464 : fs_441[(11 : Nat)]? = some (.int (nI asz)) := (ga_450 11 (by decide)).trans g_412
                have g_465 : fs_441[(4 : Nat)]? = some (.ref asked_) := (ga_450 4 (by decide)).trans g_413
                have g_466 : fs_441[(41 : Nat)]? = some (.ref firstToken_) := (ga_450 41 (by decide)).trans g_414
                have g_467 : fs_441[(42 : Nat)]? = some (.ref starred_) := (ga_450 42 (by decide)).trans g_415
                have g_468 : fs_441[(43 : Nat)]? = some (.ref tokenAt_) := (ga_450 43 (by decide)).trans g_416
                have g_469 : fs_441[(44 : Nat)]? = some (.ref tokenSize_) := (ga_450 44 (by decide)).trans g_417
                have g_470 : fs_441[(49 : Nat)]? = some (.ref groupFar_) := (ga_450 49 (by decide)).trans g_418
                have g_471 : fs_441[(34 : Nat)]? = some (.int (nI ph9.length)) := (ga_450 34 (by decide)).trans g_419
                have g_472 : fs_441[(35 : Nat)]? = some (.int (nI t9)) := (ga_450 35 (by decide)).trans g_420
                have g_473 : fs_441[(33 : Nat)]? = some (.int bd_391) := (ga_450 33 (by decide)).trans g_398
                have ga_474 : ∀ i : Nat, i ∉ [28, 29, 30, 31, 33, 34, 35] → fs_441[i]? = fs[i]? := fun i hi => (ga_450 i (fun z => hi (by simp only [List.mem_cons, List.not_mem_nil, or_false] at z ⊢; omega))).trans (ga_425 i hi)
                have RQ_475 := RQ_285.next (by rcases hk_386 with q | q <;> (rw [q]; decide)) (by rcases hk_386 with q | q <;> (rw [q]; decide))
                have hb_476 := Nat.le_trans PT_442.1 PT_442.2.1
                refine s_Model_near_240 l_444 e_445 g_447 (fun z_477 => ?_) (fun z_478 => ?_)
                · skip
                  refine s_Model_near_253 ?_
                  refine s_Model_near_254 l_444 e_445 g_448 ?_
                  refine x_callV (As := [.int 0, .int (nI (bl fa asz (skP fa asz (skP fa asz i9))))]) (b := m) (rest := []) (F1 := 1) (L1 := 20) (mc := 0) (ms := 0) d_Model_near_258 cV_Model_250 (f_wrongsH (k := bl fa asz (skP fa asz (skP fa asz i9))) l_444 e_445 g_473 (by omega) (by omega) (by omega)) e_445 ⟨by decide, rfl⟩ ⟨by omega, by show 8 + (3 + 11) + 20 ≤ _; omega⟩ ⟨by omega, by omega⟩ (Nat.le_of_ble_eq_true rfl) (fun v_490 h_489 p_491 => ?_)
                  obtain ⟨rfl, bd_479, fs_480, hw_481, hw_482, hw_483, l_484, e_485, g_486, ga_487, r_488⟩ := p_491
                  have e_492 := r_488 asked_ _ (by simp only [List.mem_cons, List.not_mem_nil, or_false, not_or]; exact (xw_neC e_456 e_445 (by simp))) e_456
                  have e_493 := r_488 firstToken_ _ (by simp only [List.mem_cons, List.not_mem_nil, or_false, not_or]; exact (xw_neC e_457 e_445 (by simp))) e_457
                  have e_494 := r_488 starred_ _ (by simp only [List.mem_cons, List.not_mem_nil, or_false, not_or]; exact (xw_neC e_458 e_445 (by simp))) e_458
                  have e_495 := r_488 tokenAt_ _ (by simp only [List.mem_cons, List.not_mem_nil, or_false, not_or]; exact (xw_neC e_459 e_445 (by simp))) e_459
                  have e_496 := r_488 tokenSize_ _ (by simp only [List.mem_cons, List.not_mem_nil, or_false, not_or]; exact (xw_neC e_460 e_445 (by simp))) e_460
                  have e_497 := r_488 groupFar_ _ (by simp only [List.mem_cons, List.not_mem_nil, or_false, not_or]; exact (xw_neC e_461 e_445 (by simp))) e_461
                  have r_498 := r_462.trans (r_488.mono (by simp))
                  have g_499 : fs_480[(36 : Nat)]? = some (.int (nI g)) := (ga_487 36 (by decide)).trans g_463
                  have g_500 : fs_480[(11 : Nat)]? = some (.int (nI asz)) := (ga_487 11 (by decide)).trans g_464
                  have g_501 : fs_480[(4 : Nat)]? = some (.ref asked_) := (ga_487 4 (by decide)).trans g_465
                  have g_502 : fs_480[(41 : Nat)]? = some (.ref firstToken_) := (ga_487 41 (by decide)).trans g_466
                  have g_503 : fs_480[(42 : Nat)]? = some (.ref starred_) := (ga_487 42 (by decide)).trans g_467
                  have g_504 : fs_480[(43 : Nat)]? = some (.ref tokenAt_) := (ga_487 43 (by decide)).trans g_468
                  have g_505 : fs_480[(44 : Nat)]? = some (.ref tokenSize_) := (ga_487 44 (by decide)).trans g_469
                  have g_506 : fs_480[(49 : Nat)]? = some (.ref groupFar_) := (ga_487 49 (by decide)).trans g_470
                  have g_507 : fs_480[(34 : Nat)]? = some (.int (nI ph9.length)) := (ga_487 34 (by decide)).trans g_471
                  have g_508 : fs_480[(35 : Nat)]? = some (.int (nI t9)) := (ga_487 35 (by decide)).trans g_472
                  have g_509 : fs_480[(28 : Nat)]? = some (.int (nI (bl fa asz (skP fa asz (skP fa asz i9))))) := (ga_487 28 (by decide)).trans g_446
                  have g_510 : fs_480[(29 : Nat)]? = some (.int (nI (rkd (kdP fa asz (skP fa asz (skP fa asz i9)))))) := (ga_487 29 (by decide)).trans g_447
                  have g_511 : fs_480[(30 : Nat)]? = some (.int (nI (bl fa asz (skP fa asz (skP fa asz i9))))) := (ga_487 30 (by decide)).trans g_448
                  have g_512 : fs_480[(31 : Nat)]? = some (.int (nI y_440)) := (ga_487 31 (by decide)).trans g_449
                  have ga_513 : ∀ i : Nat, i ∉ [28, 29, 30, 31, 33, 34, 35] → fs_480[i]? = fs[i]? := fun i hi => (ga_487 i (fun z => hi (by simp only [List.mem_cons, List.not_mem_nil, or_false] at z ⊢; omega))).trans (ga_474 i hi)
                  have hb_514 : bd_479 < 0 := by rw [hw_481 rfl]; exact hb_426
                  have hb_515 : ¬ 0 ≤ bd_479 := Int32.not_le.mpr hb_514
                  refine s_Model_near_261 l_484 e_485 g_486 (fun z_516 => ?_) (fun z => absurd hb_514 z)
                  have hk_517 : kdP fa asz (skP fa asz (skP fa asz i9)) = 10 := ((rk_iff _ (kdP_le fa asz (skP fa asz (skP fa asz i9)))).2.2.2.1).mp ((nI_eq (b := 4) (by have := rk_le _ (kdP_le fa asz (skP fa asz (skP fa asz i9))); omega) (by decide)).mp z_477)
                  refine s_Model_near_269 ?_
                  have hE_530 := HY_443 (by rw [hk_517]; decide)
                  rw [hE_530] at g_512
                  refine x_callV (As := []) (b := m) (rest := []) (F1 := 4) (L1 := 87) (mc := 0) (ms := 0) d_Model_near_270 cV_Model_257 (f_nextH (x0 := (skP fa asz (skP fa asz (skP fa asz i9)))) l_484 e_485 g_509 g_510 g_511 g_512 g_500 g_501 e_492 (by rw [← hE_530]; exact PT_442.2.1) hasz (by omega) (by omega)) e_485 ⟨by decide, rfl⟩ ⟨by omega, by show 8 + (1 + 11) + 87 ≤ _; omega⟩ ⟨by omega, by omega⟩ (Nat.le_of_ble_eq_true rfl) (fun v_532 h_531 p_533 => ?_)
                  obtain ⟨rfl, y_518, fs_519, PT_520, HY_521, l_522, e_523, g_524, g_525, g_526, g_527, ga_528, r_529⟩ := p_533
                  have e_534 := r_529 asked_ _ (by simp only [List.mem_cons, List.not_mem_nil, or_false, not_or]; exact (xw_neC e_492 e_485 (by simp))) e_492
                  have e_535 := r_529 firstToken_ _ (by simp only [List.mem_cons, List.not_mem_nil, or_false, not_or]; exact (xw_neC e_493 e_485 (by simp))) e_493
                  have e_536 := r_529 starred_ _ (by simp only [List.mem_cons, List.not_mem_nil, or_false, not_or]; exact (xw_neC e_494 e_485 (by simp))) e_494
                  have e_537 := r_529 tokenAt_ _ (by simp only [List.mem_cons, List.not_mem_nil, or_false, not_or]; exact (xw_neC e_495 e_485 (by simp))) e_495
                  have e_538 := r_529 tokenSize_ _ (by simp only [List.mem_cons, List.not_mem_nil, or_false, not_or]; exact (xw_neC e_496 e_485 (by simp))) e_496
                  have e_539 := r_529 groupFar_ _ (by simp only [List.mem_cons, List.not_mem_nil, or_false, not_or]; exact (xw_neC e_497 e_485 (by simp))) e_497
                  have r_540 := r_498.trans (r_529.mono (by simp))
                  have g_541 : fs_519[(36 : Nat)]? = some (.int (nI g)) := (ga_528 36 (by decide)).trans g_499
                  have g_542 : fs_519[(11 : Nat)]? = some (.int (nI asz)) := (ga_528 11 (by decide)).trans g_500
                  have g_543 : fs_519[(4 : Nat)]? = some (.ref asked_) := (ga_528 4 (by decide)).trans g_501
                  have g_544 : fs_519[(41 : Nat)]? = some (.ref firstToken_) := (ga_528 41 (by decide)).trans g_502
                  have g_545 : fs_519[(42 : Nat)]? = some (.ref starred_) := (ga_528 42 (by decide)).trans g_503
                  have g_546 : fs_519[(43 : Nat)]? = some (.ref tokenAt_) := (ga_528 43 (by decide)).trans g_504
                  have g_547 : fs_519[(44 : Nat)]? = some (.ref tokenSize_) := (ga_528 44 (by decide)).trans g_505
                  have g_548 : fs_519[(49 : Nat)]? = some (.ref groupFar_) := (ga_528 49 (by decide)).trans g_506
                  have g_549 : fs_519[(34 : Nat)]? = some (.int (nI ph9.length)) := (ga_528 34 (by decide)).trans g_507
                  have g_550 : fs_519[(35 : Nat)]? = some (.int (nI t9)) := (ga_528 35 (by decide)).trans g_508
                  have g_551 : fs_519[(33 : Nat)]? = some (.int bd_479) := (ga_528 33 (by decide)).trans g_486
                  have ga_552 : ∀ i : Nat, i ∉ [28, 29, 30, 31, 33, 34, 35] → fs_519[i]? = fs[i]? := fun i hi => (ga_528 i (fun z => hi (by simp only [List.mem_cons, List.not_mem_nil, or_false] at z ⊢; omega))).trans (ga_513 i hi)
                  have RQ_553 := RQ_475.next (by rw [hk_517]; decide) (by rw [hk_517]; decide)
                  have hb_554 := Nat.le_trans PT_520.1 PT_520.2.1
                  refine x_le (xw_le_n (xw_le_n (xw_le_n (xw_le_n xw_le_e)))) ?_
                  refine s_Model_near_273 ?_
                  rw [nI_clamp (show g < 2 ^ 31 by omega)] at e_539
                  have hnq := hN_390
                  rw [← qv_in (f := fa) (n := asz) (k := bl fa asz (skP fa asz i9)) (by omega)] at hnq
                  exact ⟨rfl, _, _, _, _, _, _, _, l_522, e_523, g_551, ga_552, e_535, e_536, e_537, e_538, e_539, r_540, Or.inr ⟨(skP fa asz (skP fa asz (skP fa asz i9))), ph9, _, _, _, nr_5 hk_78 hx_138 hR9 hk_249 hnq hk_517, hb_514, PT_520, HY_521, g_524, g_525, g_526, g_527, g_549, g_550, RQ_553, ⟨pk_us, fun j hj => pk_un hj⟩⟩⟩
                · skip
                  refine s_Model_near_249 ?_
                  refine s_Model_near_254 l_444 e_445 g_448 ?_
                  refine x_callV (As := [.int 1, .int (nI (bl fa asz (skP fa asz (skP fa asz i9))))]) (b := m) (rest := []) (F1 := 1) (L1 := 20) (mc := 0) (ms := 0) d_Model_near_258 cV_Model_250 (f_wrongsH (k := bl fa asz (skP fa asz (skP fa asz i9))) l_444 e_445 g_473 (by omega) (by omega) (by omega)) e_445 ⟨by decide, rfl⟩ ⟨by omega, by show 8 + (3 + 11) + 20 ≤ _; omega⟩ ⟨by omega, by omega⟩ (Nat.le_of_ble_eq_true rfl) (fun v_566 h_565 p_567 => ?_)
                  obtain ⟨rfl, bd_555, fs_556, hw_557, hw_558, hw_559, l_560, e_561, g_562, ga_563, r_564⟩ := p_567
                  have e_568 := r_564 asked_ _ (by simp only [List.mem_cons, List.not_mem_nil, or_false, not_or]; exact (xw_neC e_456 e_445 (by simp))) e_456
                  have e_569 := r_564 firstToken_ _ (by simp only [List.mem_cons, List.not_mem_nil, or_false, not_or]; exact (xw_neC e_457 e_445 (by simp))) e_457
                  have e_570 := r_564 starred_ _ (by simp only [List.mem_cons, List.not_mem_nil, or_false, not_or]; exact (xw_neC e_458 e_445 (by simp))) e_458
                  have e_571 := r_564 tokenAt_ _ (by simp only [List.mem_cons, List.not_mem_nil, or_false, not_or]; exact (xw_neC e_459 e_445 (by simp))) e_459
                  have e_572 := r_564 tokenSize_ _ (by simp only [List.mem_cons, List.not_mem_nil, or_false, not_or]; exact (xw_neC e_460 e_445 (by simp))) e_460
                  have e_573 := r_564 groupFar_ _ (by simp only [List.mem_cons, List.not_mem_nil, or_false, not_or]; exact (xw_neC e_461 e_445 (by simp))) e_461
                  have r_574 := r_462.trans (r_564.mono (by simp))
                  have g_575 : fs_556[(36 : Nat)]? = some (.int (nI g)) := (ga_563 36 (by decide)).trans g_463
                  have g_576 : fs_556[(11 : Nat)]? = some (.int (nI asz)) := (ga_563 11 (by decide)).trans g_464
                  have g_577 : fs_556[(4 : Nat)]? = some (.ref asked_) := (ga_563 4 (by decide)).trans g_465
                  have g_578 : fs_556[(41 : Nat)]? = some (.ref firstToken_) := (ga_563 41 (by decide)).trans g_466
                  have g_579 : fs_556[(42 : Nat)]? = some (.ref starred_) := (ga_563 42 (by decide)).trans g_467
                  have g_580 : fs_556[(43 : Nat)]? = some (.ref tokenAt_) := (ga_563 43 (by decide)).trans g_468
                  have g_581 : fs_556[(44 : Nat)]? = some (.ref tokenSize_) := (ga_563 44 (by decide)).trans g_469
                  have g_582 : fs_556[(49 : Nat)]? = some (.ref groupFar_) := (ga_563 49 (by decide)).trans g_470
                  have g_583 : fs_556[(34 : Nat)]? = some (.int (nI ph9.length)) := (ga_563 34 (by decide)).trans g_471
                  have g_584 : fs_556[(35 : Nat)]? = some (.int (nI t9)) := (ga_563 35 (by decide)).trans g_472
                  have g_585 : fs_556[(28 : Nat)]? = some (.int (nI (bl fa asz (skP fa asz (skP fa asz i9))))) := (ga_563 28 (by decide)).trans g_446
                  have g_586 : fs_556[(29 : Nat)]? = some (.int (nI (rkd (kdP fa asz (skP fa asz (skP fa asz i9)))))) := (ga_563 29 (by decide)).trans g_447
                  have g_587 : fs_556[(30 : Nat)]? = some (.int (nI (bl fa asz (skP fa asz (skP fa asz i9))))) := (ga_563 30 (by decide)).trans g_448
                  have g_588 : fs_556[(31 : Nat)]? = some (.int (nI y_440)) := (ga_563 31 (by decide)).trans g_449
                  have ga_589 : ∀ i : Nat, i ∉ [28, 29, 30, 31, 33, 34, 35] → fs_556[i]? = fs[i]? := fun i hi => (ga_563 i (fun z => hi (by simp only [List.mem_cons, List.not_mem_nil, or_false] at z ⊢; omega))).trans (ga_474 i hi)
                  have hb_590 : ¬ bd_555 < 0 := hw_558 (by decide)
                  have hb_591 : 0 ≤ bd_555 := Int32.not_lt.mp hb_590
                  refine s_Model_near_261 l_560 e_561 g_562 (fun z => absurd z hb_590) (fun z_592 => ?_)
                  refine s_Model_near_268 ?_
                  have hk_593 : ¬ kdP fa asz (skP fa asz (skP fa asz i9)) = 10 := fun q => z_478 (by rw [q]; rfl)
                  exact ⟨rfl, _, _, _, _, _, _, _, l_560, e_561, g_562, ga_589, e_569, e_570, e_571, e_572, e_573, r_574, Or.inl ⟨nr_4 hk_78 hx_138 hR9 hk_249 hN_390 hk_593, hb_590, (fun i9 hi9 => by simp only [List.mem_cons, List.not_mem_nil, or_false] at hi9; rcases hi9 with rfl | rfl | rfl | rfl | rfl | rfl | rfl <;> first | exact ⟨_, g_585⟩ | exact ⟨_, g_586⟩ | exact ⟨_, g_587⟩ | exact ⟨_, g_588⟩ | exact ⟨_, g_562⟩ | exact ⟨_, g_583⟩ | exact ⟨_, g_584⟩)⟩⟩
              · skip
                refine s_Model_near_150 l_254 e_255 g_259 g_258 (fun z_594 => ?_) (fun z_595 => ?_)
                · skip
                  refine s_Model_near_177 ?_
                  refine s_Model_near_178 (fun z => absurd z (by decide)) (fun z_596 => ?_)
                  refine s_Model_near_184 ?_
                  refine s_Model_near_189 l_254 e_255 g_258 ?_
                  have hk_597 : kdP fa asz (skP fa asz i9) = 2 ∨ kdP fa asz (skP fa asz i9) = 3 := (rk_1 _ (kdP_le fa asz (skP fa asz i9))).mp ((nI_eq (b := 1) (by have := rk_le _ (kdP_le fa asz (skP fa asz i9)); omega) (by decide)).mp z_294)
                  have kw9 := kd_w hk_597
                  have hE_598 := HY_253 (by rcases hk_597 with q | q <;> (rw [q]; decide))
                  have hd0 : dig (qv fa asz (bl fa asz (skP fa asz i9))) = true := by rw [← dgq h128]; exact b01_t z_340
                  rw [qv_in (by omega)] at hd0
                  have hz_599 := z_384
                  rw [hE_598, pk_sub (by omega)] at hz_599
                  have hz_600 := z_594
                  rw [hE_598, pk_sub (by omega)] at hz_600
                  have hl_601 : ¬ skP fa asz (skP fa asz i9) = bl fa asz (skP fa asz i9) + 1 := fun q => hz_599 (by rw [show skP fa asz (skP fa asz i9) - bl fa asz (skP fa asz i9) = 1 by omega]; rfl)
                  have hl_602 : ¬ skP fa asz (skP fa asz i9) = bl fa asz (skP fa asz i9) + 2 := fun q => hz_600 (by rw [show skP fa asz (skP fa asz i9) - bl fa asz (skP fa asz i9) = 2 by omega]; rfl)
                  have hN_603 := rn_l hl_601 hl_602
                  refine x_callV (As := [.int 1, .int (nI (bl fa asz (skP fa asz i9)))]) (b := m) (rest := []) (F1 := 1) (L1 := 20) (mc := 0) (ms := 0) d_Model_near_193 cV_Model_250 (f_wrongsH (k := bl fa asz (skP fa asz i9)) l_254 e_255 g_281 (by omega) (by omega) (by omega)) e_255 ⟨by decide, rfl⟩ ⟨by omega, by show 8 + (3 + 11) + 20 ≤ _; omega⟩ ⟨by omega, by omega⟩ (Nat.le_of_ble_eq_true rfl) (fun v_615 h_614 p_616 => ?_)
                  obtain ⟨rfl, bd_604, fs_605, hw_606, hw_607, hw_608, l_609, e_610, g_611, ga_612, r_613⟩ := p_616
                  have e_617 := r_613 asked_ _ (by simp only [List.mem_cons, List.not_mem_nil, or_false, not_or]; exact (xw_neC e_266 e_255 (by simp))) e_266
                  have e_618 := r_613 firstToken_ _ (by simp only [List.mem_cons, List.not_mem_nil, or_false, not_or]; exact (xw_neC e_267 e_255 (by simp))) e_267
                  have e_619 := r_613 starred_ _ (by simp only [List.mem_cons, List.not_mem_nil, or_false, not_or]; exact (xw_neC e_268 e_255 (by simp))) e_268
                  have e_620 := r_613 tokenAt_ _ (by simp only [List.mem_cons, List.not_mem_nil, or_false, not_or]; exact (xw_neC e_269 e_255 (by simp))) e_269
                  have e_621 := r_613 tokenSize_ _ (by simp only [List.mem_cons, List.not_mem_nil, or_false, not_or]; exact (xw_neC e_270 e_255 (by simp))) e_270
                  have e_622 := r_613 groupFar_ _ (by simp only [List.mem_cons, List.not_mem_nil, or_false, not_or]; exact (xw_neC e_271 e_255 (by simp))) e_271
                  have r_623 := r_272.trans (r_613.mono (by simp))
                  have g_624 : fs_605[(36 : Nat)]? = some (.int (nI g)) := (ga_612 36 (by decide)).trans g_273
                  have g_625 : fs_605[(11 : Nat)]? = some (.int (nI asz)) := (ga_612 11 (by decide)).trans g_274
                  have g_626 : fs_605[(4 : Nat)]? = some (.ref asked_) := (ga_612 4 (by decide)).trans g_275
                  have g_627 : fs_605[(41 : Nat)]? = some (.ref firstToken_) := (ga_612 41 (by decide)).trans g_276
                  have g_628 : fs_605[(42 : Nat)]? = some (.ref starred_) := (ga_612 42 (by decide)).trans g_277
                  have g_629 : fs_605[(43 : Nat)]? = some (.ref tokenAt_) := (ga_612 43 (by decide)).trans g_278
                  have g_630 : fs_605[(44 : Nat)]? = some (.ref tokenSize_) := (ga_612 44 (by decide)).trans g_279
                  have g_631 : fs_605[(49 : Nat)]? = some (.ref groupFar_) := (ga_612 49 (by decide)).trans g_280
                  have g_632 : fs_605[(34 : Nat)]? = some (.int (nI ph9.length)) := (ga_612 34 (by decide)).trans g_282
                  have g_633 : fs_605[(35 : Nat)]? = some (.int (nI t9)) := (ga_612 35 (by decide)).trans g_283
                  have g_634 : fs_605[(28 : Nat)]? = some (.int (nI (bl fa asz (skP fa asz i9)))) := (ga_612 28 (by decide)).trans g_256
                  have g_635 : fs_605[(29 : Nat)]? = some (.int (nI (rkd (kdP fa asz (skP fa asz i9))))) := (ga_612 29 (by decide)).trans g_257
                  have g_636 : fs_605[(30 : Nat)]? = some (.int (nI (bl fa asz (skP fa asz i9)))) := (ga_612 30 (by decide)).trans g_258
                  have g_637 : fs_605[(31 : Nat)]? = some (.int (nI y_250)) := (ga_612 31 (by decide)).trans g_259
                  have ga_638 : ∀ i : Nat, i ∉ [28, 29, 30, 31, 33, 34, 35] → fs_605[i]? = fs[i]? := fun i hi => (ga_612 i (fun z => hi (by simp only [List.mem_cons, List.not_mem_nil, or_false] at z ⊢; omega))).trans (ga_284 i hi)
                  have hb_639 : ¬ bd_604 < 0 := hw_607 (by decide)
                  have hb_640 : 0 ≤ bd_604 := Int32.not_lt.mp hb_639
                  refine s_Model_near_196 l_609 e_610 g_611 (fun z => absurd z hb_639) (fun z_641 => ?_)
                  refine s_Model_near_203 ?_
                  exact ⟨rfl, _, _, _, _, _, _, _, l_609, e_610, g_611, ga_638, e_618, e_619, e_620, e_621, e_622, r_623, Or.inl ⟨nr_3 hk_78 hx_138 hR9 hk_249 hN_603, hb_639, (fun i9 hi9 => by simp only [List.mem_cons, List.not_mem_nil, or_false] at hi9; rcases hi9 with rfl | rfl | rfl | rfl | rfl | rfl | rfl <;> first | exact ⟨_, g_634⟩ | exact ⟨_, g_635⟩ | exact ⟨_, g_636⟩ | exact ⟨_, g_637⟩ | exact ⟨_, g_611⟩ | exact ⟨_, g_632⟩ | exact ⟨_, g_633⟩)⟩⟩
                · skip
                  refine s_Model_near_163 ?_
                  refine x_callS (As := [.int ((qv fa asz ((bl fa asz (skP fa asz i9)) + 1)) - 48), .int 0, .int 9]) (rest := []) (F1 := 1) (L1 := 20) (mc := 0) (ms := 0) d_Model_near_167 cS_Model_133 (f_inB (by omega) (by omega)) ⟨by omega, by show 8 + (3 + 11) + 20 ≤ _; omega⟩ ⟨by omega, by omega⟩ (Nat.le_of_ble_eq_true rfl) (fun v_643 h_642 p_644 => ?_)
                  obtain ⟨rfl, rfl⟩ := p_644
                  refine s_Model_near_170 (fun z_645 => ?_) (fun z_646 => ?_)
                  · skip
                    refine s_Model_near_177 ?_
                    refine s_Model_near_178 (fun z => absurd z (by decide)) (fun z_647 => ?_)
                    refine s_Model_near_184 ?_
                    refine s_Model_near_189 l_254 e_255 g_258 ?_
                    have hk_648 : kdP fa asz (skP fa asz i9) = 2 ∨ kdP fa asz (skP fa asz i9) = 3 := (rk_1 _ (kdP_le fa asz (skP fa asz i9))).mp ((nI_eq (b := 1) (by have := rk_le _ (kdP_le fa asz (skP fa asz i9)); omega) (by decide)).mp z_294)
                    have kw9 := kd_w hk_648
                    have hE_649 := HY_253 (by rcases hk_648 with q | q <;> (rw [q]; decide))
                    have hd0 : dig (qv fa asz (bl fa asz (skP fa asz i9))) = true := by rw [← dgq h128]; exact b01_t z_340
                    rw [qv_in (by omega)] at hd0
                    have hz_650 := z_384
                    rw [hE_649, pk_sub (by omega)] at hz_650
                    have hz_651 := z_595
                    rw [hE_649, pk_sub (by omega)] at hz_651
                    have hl_652 : ¬ skP fa asz (skP fa asz i9) = bl fa asz (skP fa asz i9) + 1 := fun q => hz_650 (by rw [show skP fa asz (skP fa asz i9) - bl fa asz (skP fa asz i9) = 1 by omega]; rfl)
                    have hl_653 : skP fa asz (skP fa asz i9) = bl fa asz (skP fa asz i9) + 2 := by have := (nI_eq (b := 2) (by omega) (by decide)).mp hz_651; omega
                    have hd1 : dig (qv fa asz (bl fa asz (skP fa asz i9) + 1)) = false := by rw [← dgq h128]; exact b01_f z_645
                    rw [qv_in (by omega)] at hd1
                    have hN_654 := rn_d1 hl_652 hd1
                    refine x_callV (As := [.int 1, .int (nI (bl fa asz (skP fa asz i9)))]) (b := m) (rest := []) (F1 := 1) (L1 := 20) (mc := 0) (ms := 0) d_Model_near_193 cV_Model_250 (f_wrongsH (k := bl fa asz (skP fa asz i9)) l_254 e_255 g_281 (by omega) (by omega) (by omega)) e_255 ⟨by decide, rfl⟩ ⟨by omega, by show 8 + (3 + 11) + 20 ≤ _; omega⟩ ⟨by omega, by omega⟩ (Nat.le_of_ble_eq_true rfl) (fun v_666 h_665 p_667 => ?_)
                    obtain ⟨rfl, bd_655, fs_656, hw_657, hw_658, hw_659, l_660, e_661, g_662, ga_663, r_664⟩ := p_667
                    have e_668 := r_664 asked_ _ (by simp only [List.mem_cons, List.not_mem_nil, or_false, not_or]; exact (xw_neC e_266 e_255 (by simp))) e_266
                    have e_669 := r_664 firstToken_ _ (by simp only [List.mem_cons, List.not_mem_nil, or_false, not_or]; exact (xw_neC e_267 e_255 (by simp))) e_267
                    have e_670 := r_664 starred_ _ (by simp only [List.mem_cons, List.not_mem_nil, or_false, not_or]; exact (xw_neC e_268 e_255 (by simp))) e_268
                    have e_671 := r_664 tokenAt_ _ (by simp only [List.mem_cons, List.not_mem_nil, or_false, not_or]; exact (xw_neC e_269 e_255 (by simp))) e_269
                    have e_672 := r_664 tokenSize_ _ (by simp only [List.mem_cons, List.not_mem_nil, or_false, not_or]; exact (xw_neC e_270 e_255 (by simp))) e_270
                    have e_673 := r_664 groupFar_ _ (by simp only [List.mem_cons, List.not_mem_nil, or_false, not_or]; exact (xw_neC e_271 e_255 (by simp))) e_271
                    have r_674 := r_272.trans (r_664.mono (by simp))
                    have g_675 : fs_656[(36 : Nat)]? = some (.int (nI g)) := (ga_663 36 (by decide)).trans g_273
                    have g_676 : fs_656[(11 : Nat)]? = some (.int (nI asz)) := (ga_663 11 (by decide)).trans g_274
                    have g_677 : fs_656[(4 : Nat)]? = some (.ref asked_) := (ga_663 4 (by decide)).trans g_275
                    have g_678 : fs_656[(41 : Nat)]? = some (.ref firstToken_) := (ga_663 41 (by decide)).trans g_276
                    have g_679 : fs_656[(42 : Nat)]? = some (.ref starred_) := (ga_663 42 (by decide)).trans g_277
                    have g_680 : fs_656[(43 : Nat)]? = some (.ref tokenAt_) := (ga_663 43 (by decide)).trans g_278
                    have g_681 : fs_656[(44 : Nat)]? = some (.ref tokenSize_) := (ga_663 44 (by decide)).trans g_279
                    have g_682 : fs_656[(49 : Nat)]? = some (.ref groupFar_) := (ga_663 49 (by decide)).trans g_280
                    have g_683 : fs_656[(34 : Nat)]? = some (.int (nI ph9.length)) := (ga_663 34 (by decide)).trans g_282
                    have g_684 : fs_656[(35 : Nat)]? = some (.int (nI t9)) := (ga_663 35 (by decide)).trans g_283
                    have g_685 : fs_656[(28 : Nat)]? = some (.int (nI (bl fa asz (skP fa asz i9)))) := (ga_663 28 (by decide)).trans g_256
                    have g_686 : fs_656[(29 : Nat)]? = some (.int (nI (rkd (kdP fa asz (skP fa asz i9))))) := (ga_663 29 (by decide)).trans g_257
                    have g_687 : fs_656[(30 : Nat)]? = some (.int (nI (bl fa asz (skP fa asz i9)))) := (ga_663 30 (by decide)).trans g_258
                    have g_688 : fs_656[(31 : Nat)]? = some (.int (nI y_250)) := (ga_663 31 (by decide)).trans g_259
                    have ga_689 : ∀ i : Nat, i ∉ [28, 29, 30, 31, 33, 34, 35] → fs_656[i]? = fs[i]? := fun i hi => (ga_663 i (fun z => hi (by simp only [List.mem_cons, List.not_mem_nil, or_false] at z ⊢; omega))).trans (ga_284 i hi)
                    have hb_690 : ¬ bd_655 < 0 := hw_658 (by decide)
                    have hb_691 : 0 ≤ bd_655 := Int32.not_lt.mp hb_690
                    refine s_Model_near_196 l_660 e_661 g_662 (fun z => absurd z hb_690) (fun z_692 => ?_)
                    refine s_Model_near_203 ?_
                    exact ⟨rfl, _, _, _, _, _, _, _, l_660, e_661, g_662, ga_689, e_669, e_670, e_671, e_672, e_673, r_674, Or.inl ⟨nr_3 hk_78 hx_138 hR9 hk_249 hN_654, hb_690, (fun i9 hi9 => by simp only [List.mem_cons, List.not_mem_nil, or_false] at hi9; rcases hi9 with rfl | rfl | rfl | rfl | rfl | rfl | rfl <;> first | exact ⟨_, g_685⟩ | exact ⟨_, g_686⟩ | exact ⟨_, g_687⟩ | exact ⟨_, g_688⟩ | exact ⟨_, g_662⟩ | exact ⟨_, g_683⟩ | exact ⟨_, g_684⟩)⟩⟩
                  · skip
                    refine s_Model_near_173 ?_
                    refine s_Model_near_178 (fun z_693 => ?_) (fun z => absurd z (by decide))
                    refine s_Model_near_188 ?_
                    refine s_Model_near_189 l_254 e_255 g_258 ?_
                    have hk_694 : kdP fa asz (skP fa asz i9) = 2 ∨ kdP fa asz (skP fa asz i9) = 3 := (rk_1 _ (kdP_le fa asz (skP fa asz i9))).mp ((nI_eq (b := 1) (by have := rk_le _ (kdP_le fa asz (skP fa asz i9)); omega) (by decide)).mp z_294)
                    have kw9 := kd_w hk_694
                    have hE_695 := HY_253 (by rcases hk_694 with q | q <;> (rw [q]; decide))
                    have hd0 : dig (qv fa asz (bl fa asz (skP fa asz i9))) = true := by rw [← dgq h128]; exact b01_t z_340
                    rw [qv_in (by omega)] at hd0
                    have hz_696 := z_384
                    rw [hE_695, pk_sub (by omega)] at hz_696
                    have hz_697 := z_595
                    rw [hE_695, pk_sub (by omega)] at hz_697
                    have hl_698 : ¬ skP fa asz (skP fa asz i9) = bl fa asz (skP fa asz i9) + 1 := fun q => hz_696 (by rw [show skP fa asz (skP fa asz i9) - bl fa asz (skP fa asz i9) = 1 by omega]; rfl)
                    have hl_699 : skP fa asz (skP fa asz i9) = bl fa asz (skP fa asz i9) + 2 := by have := (nI_eq (b := 2) (by omega) (by decide)).mp hz_697; omega
                    have hd1 : dig (qv fa asz (bl fa asz (skP fa asz i9) + 1)) = true := by rw [← dgq h128]; exact b01_t z_646
                    rw [qv_in (by omega)] at hd1
                    have hN_700 := rn_2 hk_694 hd0 hl_699 hd1
                    refine x_callV (As := [.int 0, .int (nI (bl fa asz (skP fa asz i9)))]) (b := m) (rest := []) (F1 := 1) (L1 := 20) (mc := 0) (ms := 0) d_Model_near_193 cV_Model_250 (f_wrongsH (k := bl fa asz (skP fa asz i9)) l_254 e_255 g_281 (by omega) (by omega) (by omega)) e_255 ⟨by decide, rfl⟩ ⟨by omega, by show 8 + (3 + 11) + 20 ≤ _; omega⟩ ⟨by omega, by omega⟩ (Nat.le_of_ble_eq_true rfl) (fun v_712 h_711 p_713 => ?_)
                    obtain ⟨rfl, bd_701, fs_702, hw_703, hw_704, hw_705, l_706, e_707, g_708, ga_709, r_710⟩ := p_713
                    have e_714 := r_710 asked_ _ (by simp only [List.mem_cons, List.not_mem_nil, or_false, not_or]; exact (xw_neC e_266 e_255 (by simp))) e_266
                    have e_715 := r_710 firstToken_ _ (by simp only [List.mem_cons, List.not_mem_nil, or_false, not_or]; exact (xw_neC e_267 e_255 (by simp))) e_267
                    have e_716 := r_710 starred_ _ (by simp only [List.mem_cons, List.not_mem_nil, or_false, not_or]; exact (xw_neC e_268 e_255 (by simp))) e_268
                    have e_717 := r_710 tokenAt_ _ (by simp only [List.mem_cons, List.not_mem_nil, or_false, not_or]; exact (xw_neC e_269 e_255 (by simp))) e_269
                    have e_718 := r_710 tokenSize_ _ (by simp only [List.mem_cons, List.not_mem_nil, or_false, not_or]; exact (xw_neC e_270 e_255 (by simp))) e_270
                    have e_719 := r_710 groupFar_ _ (by simp only [List.mem_cons, List.not_mem_nil, or_false, not_or]; exact (xw_neC e_271 e_255 (by simp))) e_271
                    have r_720 := r_272.trans (r_710.mono (by simp))
                    have g_721 : fs_702[(36 : Nat)]? = some (.int (nI g)) := (ga_709 36 (by decide)).trans g_273
                    have g_722 : fs_702[(11 : Nat)]? = some (.int (nI asz)) := (ga_709 11 (by decide)).trans g_274
                    have g_723 : fs_702[(4 : Nat)]? = some (.ref asked_) := (ga_709 4 (by decide)).trans g_275
                    have g_724 : fs_702[(41 : Nat)]? = some (.ref firstToken_) := (ga_709 41 (by decide)).trans g_276
                    have g_725 : fs_702[(42 : Nat)]? = some (.ref starred_) := (ga_709 42 (by decide)).trans g_277
                    have g_726 : fs_702[(43 : Nat)]? = some (.ref tokenAt_) := (ga_709 43 (by decide)).trans g_278
                    have g_727 : fs_702[(44 : Nat)]? = some (.ref tokenSize_) := (ga_709 44 (by decide)).trans g_279
                    have g_728 : fs_702[(49 : Nat)]? = some (.ref groupFar_) := (ga_709 49 (by decide)).trans g_280
                    have g_729 : fs_702[(34 : Nat)]? = some (.int (nI ph9.length)) := (ga_709 34 (by decide)).trans g_282
                    have g_730 : fs_702[(35 : Nat)]? = some (.int (nI t9)) := (ga_709 35 (by decide)).trans g_283
                    have g_731 : fs_702[(28 : Nat)]? = some (.int (nI (bl fa asz (skP fa asz i9)))) := (ga_709 28 (by decide)).trans g_256
                    have g_732 : fs_702[(29 : Nat)]? = some (.int (nI (rkd (kdP fa asz (skP fa asz i9))))) := (ga_709 29 (by decide)).trans g_257
                    have g_733 : fs_702[(30 : Nat)]? = some (.int (nI (bl fa asz (skP fa asz i9)))) := (ga_709 30 (by decide)).trans g_258
                    have g_734 : fs_702[(31 : Nat)]? = some (.int (nI y_250)) := (ga_709 31 (by decide)).trans g_259
                    have ga_735 : ∀ i : Nat, i ∉ [28, 29, 30, 31, 33, 34, 35] → fs_702[i]? = fs[i]? := fun i hi => (ga_709 i (fun z => hi (by simp only [List.mem_cons, List.not_mem_nil, or_false] at z ⊢; omega))).trans (ga_284 i hi)
                    have hb_736 : bd_701 < 0 := by rw [hw_703 rfl]; exact hbd9
                    have hb_737 : ¬ 0 ≤ bd_701 := Int32.not_le.mpr hb_736
                    refine s_Model_near_196 l_706 e_707 g_708 (fun z_738 => ?_) (fun z => absurd hb_736 z)
                    refine s_Model_near_204 (groupFar_a0 := some groupFar_) l_706 e_707 g_728 g_721 g_734 g_733 (fun z_739 => ?_) (fun z => absurd z z_384)
                    refine s_Model_near_229 ?_
                    have q0 := dgw (k := bl fa asz (skP fa asz i9)) h128 (by rw [qv_in (by omega)]; exact hd0)
                    have q1 := dgw (k := bl fa asz (skP fa asz i9) + 1) h128 (by rw [qv_in (by omega)]; exact hd1)
                    rw [q0.1, q1.1, show (10 : Int32) = nI 10 from rfl, pk_mul, nI_add]
                    refine s_Model_near_235 e_719 (vp_in_nI (by omega) (by omega)) ?_
                    refine x_u1 (fun h_740 e_741 f_742 => ?_)
                    have e_743 := (f_742 asked_ (xw_neC e_714 e_719 (by simp))).trans e_714
                    have e_744 := (f_742 firstToken_ n_firstToken_groupFar).trans e_715
                    have e_745 := (f_742 starred_ n_starred_groupFar).trans e_716
                    have e_746 := (f_742 tokenAt_ (xw_neC e_717 e_719 (by simp))).trans e_717
                    have e_747 := (f_742 tokenSize_ (xw_neC e_718 e_719 (by simp))).trans e_718
                    have e_748 := (f_742 m (xw_neC e_707 e_719 (by simp))).trans e_707
                    have r_749 := r_720.up (by simp) f_742
                    have hE_762 := HY_253 (by rcases hk_694 with q | q <;> (rw [q]; decide))
                    rw [hE_762] at g_734
                    refine x_callV (As := []) (b := m) (rest := []) (F1 := 4) (L1 := 87) (mc := 0) (ms := 0) d_Model_near_237 cV_Model_257 (f_nextH (x0 := (skP fa asz (skP fa asz i9))) l_706 e_748 g_731 g_732 g_733 g_734 g_722 g_723 e_743 (by rw [← hE_762]; exact PT_252.2.1) hasz (by omega) (by omega)) e_748 ⟨by decide, rfl⟩ ⟨by omega, by show 8 + (1 + 11) + 87 ≤ _; omega⟩ ⟨by omega, by omega⟩ (Nat.le_of_ble_eq_true rfl) (fun v_764 h_763 p_765 => ?_)
                    obtain ⟨rfl, y_750, fs_751, PT_752, HY_753, l_754, e_755, g_756, g_757, g_758, g_759, ga_760, r_761⟩ := p_765
                    have e_766 := r_761 asked_ _ (by simp only [List.mem_cons, List.not_mem_nil, or_false, not_or]; exact (xw_neC e_743 e_748 (by simp))) e_743
                    have e_767 := r_761 firstToken_ _ (by simp only [List.mem_cons, List.not_mem_nil, or_false, not_or]; exact (xw_neC e_744 e_748 (by simp))) e_744
                    have e_768 := r_761 starred_ _ (by simp only [List.mem_cons, List.not_mem_nil, or_false, not_or]; exact (xw_neC e_745 e_748 (by simp))) e_745
                    have e_769 := r_761 tokenAt_ _ (by simp only [List.mem_cons, List.not_mem_nil, or_false, not_or]; exact (xw_neC e_746 e_748 (by simp))) e_746
                    have e_770 := r_761 tokenSize_ _ (by simp only [List.mem_cons, List.not_mem_nil, or_false, not_or]; exact (xw_neC e_747 e_748 (by simp))) e_747
                    have e_771 := r_761 groupFar_ _ (by simp only [List.mem_cons, List.not_mem_nil, or_false, not_or]; exact (xw_neC e_741 e_748 (by simp))) e_741
                    have r_772 := r_749.trans (r_761.mono (by simp))
                    have g_773 : fs_751[(36 : Nat)]? = some (.int (nI g)) := (ga_760 36 (by decide)).trans g_721
                    have g_774 : fs_751[(11 : Nat)]? = some (.int (nI asz)) := (ga_760 11 (by decide)).trans g_722
                    have g_775 : fs_751[(4 : Nat)]? = some (.ref asked_) := (ga_760 4 (by decide)).trans g_723
                    have g_776 : fs_751[(41 : Nat)]? = some (.ref firstToken_) := (ga_760 41 (by decide)).trans g_724
                    have g_777 : fs_751[(42 : Nat)]? = some (.ref starred_) := (ga_760 42 (by decide)).trans g_725
                    have g_778 : fs_751[(43 : Nat)]? = some (.ref tokenAt_) := (ga_760 43 (by decide)).trans g_726
                    have g_779 : fs_751[(44 : Nat)]? = some (.ref tokenSize_) := (ga_760 44 (by decide)).trans g_727
                    have g_780 : fs_751[(49 : Nat)]? = some (.ref groupFar_) := (ga_760 49 (by decide)).trans g_728
                    have g_781 : fs_751[(34 : Nat)]? = some (.int (nI ph9.length)) := (ga_760 34 (by decide)).trans g_729
                    have g_782 : fs_751[(35 : Nat)]? = some (.int (nI t9)) := (ga_760 35 (by decide)).trans g_730
                    have g_783 : fs_751[(33 : Nat)]? = some (.int bd_701) := (ga_760 33 (by decide)).trans g_708
                    have ga_784 : ∀ i : Nat, i ∉ [28, 29, 30, 31, 33, 34, 35] → fs_751[i]? = fs[i]? := fun i hi => (ga_760 i (fun z => hi (by simp only [List.mem_cons, List.not_mem_nil, or_false] at z ⊢; omega))).trans (ga_735 i hi)
                    have RQ_785 := RQ_285.next (by rcases hk_694 with q | q <;> (rw [q]; decide)) (by rcases hk_694 with q | q <;> (rw [q]; decide))
                    have hb_786 := Nat.le_trans PT_752.1 PT_752.2.1
                    refine s_Model_near_240 l_754 e_755 g_757 (fun z_787 => ?_) (fun z_788 => ?_)
                    · skip
                      refine s_Model_near_253 ?_
                      refine s_Model_near_254 l_754 e_755 g_758 ?_
                      refine x_callV (As := [.int 0, .int (nI (bl fa asz (skP fa asz (skP fa asz i9))))]) (b := m) (rest := []) (F1 := 1) (L1 := 20) (mc := 0) (ms := 0) d_Model_near_258 cV_Model_250 (f_wrongsH (k := bl fa asz (skP fa asz (skP fa asz i9))) l_754 e_755 g_783 (by omega) (by omega) (by omega)) e_755 ⟨by decide, rfl⟩ ⟨by omega, by show 8 + (3 + 11) + 20 ≤ _; omega⟩ ⟨by omega, by omega⟩ (Nat.le_of_ble_eq_true rfl) (fun v_800 h_799 p_801 => ?_)
                      obtain ⟨rfl, bd_789, fs_790, hw_791, hw_792, hw_793, l_794, e_795, g_796, ga_797, r_798⟩ := p_801
                      have e_802 := r_798 asked_ _ (by simp only [List.mem_cons, List.not_mem_nil, or_false, not_or]; exact (xw_neC e_766 e_755 (by simp))) e_766
                      have e_803 := r_798 firstToken_ _ (by simp only [List.mem_cons, List.not_mem_nil, or_false, not_or]; exact (xw_neC e_767 e_755 (by simp))) e_767
                      have e_804 := r_798 starred_ _ (by simp only [List.mem_cons, List.not_mem_nil, or_false, not_or]; exact (xw_neC e_768 e_755 (by simp))) e_768
                      have e_805 := r_798 tokenAt_ _ (by simp only [List.mem_cons, List.not_mem_nil, or_false, not_or]; exact (xw_neC e_769 e_755 (by simp))) e_769
                      have e_806 := r_798 tokenSize_ _ (by simp only [List.mem_cons, List.not_mem_nil, or_false, not_or]; exact (xw_neC e_770 e_755 (by simp))) e_770
                      have e_807 := r_798 groupFar_ _ (by simp only [List.mem_cons, List.not_mem_nil, or_false, not_or]; exact (xw_neC e_771 e_755 (by simp))) e_771
                      have r_808 := r_772.trans (r_798.mono (by simp))
                      have g_809 : fs_790[(36 : Nat)]? = some (.int (nI g)) := (ga_797 36 (by decide)).trans g_773
                      have g_810 : fs_790[(11 : Nat)]? = some (.int (nI asz)) := (ga_797 11 (by decide)).trans g_774
                      have g_811 : fs_790[(4 : Nat)]? = some (.ref asked_) := (ga_797 4 (by decide)).trans g_775
                      have g_812 : fs_790[(41 : Nat)]? = some (.ref firstToken_) := (ga_797 41 (by decide)).trans g_776
                      have g_813 : fs_790[(42 : Nat)]? = some (.ref starred_) := (ga_797 42 (by decide)).trans g_777
                      have g_814 : fs_790[(43 : Nat)]? = some (.ref tokenAt_) := (ga_797 43 (by decide)).trans g_778
                      have g_815 : fs_790[(44 : Nat)]? = some (.ref tokenSize_) := (ga_797 44 (by decide)).trans g_779
                      have g_816 : fs_790[(49 : Nat)]? = some (.ref groupFar_) := (ga_797 49 (by decide)).trans g_780
                      have g_817 : fs_790[(34 : Nat)]? = some (.int (nI ph9.length)) := (ga_797 34 (by decide)).trans g_781
                      have g_818 : fs_790[(35 : Nat)]? = some (.int (nI t9)) := (ga_797 35 (by decide)).trans g_782
                      have g_819 : fs_790[(28 : Nat)]? = some (.int (nI (bl fa asz (skP fa asz (skP fa asz i9))))) := (ga_797 28 (by decide)).trans g_756
                      have g_820 : fs_790[(29 : Nat)]? = some (.int (nI (rkd (kdP fa asz (skP fa asz (skP fa asz i9)))))) := (ga_797 29 (by decide)).trans g_757
                      have g_821 : fs_790[(30 : Nat)]? = some (.int (nI (bl fa asz (skP fa asz (skP fa asz i9))))) := (ga_797 30 (by decide)).trans g_758
                      have g_822 : fs_790[(31 : Nat)]? = some (.int (nI y_750)) := (ga_797 31 (by decide)).trans g_759
                      have ga_823 : ∀ i : Nat, i ∉ [28, 29, 30, 31, 33, 34, 35] → fs_790[i]? = fs[i]? := fun i hi => (ga_797 i (fun z => hi (by simp only [List.mem_cons, List.not_mem_nil, or_false] at z ⊢; omega))).trans (ga_784 i hi)
                      have hb_824 : bd_789 < 0 := by rw [hw_791 rfl]; exact hb_736
                      have hb_825 : ¬ 0 ≤ bd_789 := Int32.not_le.mpr hb_824
                      refine s_Model_near_261 l_794 e_795 g_796 (fun z_826 => ?_) (fun z => absurd hb_824 z)
                      have hk_827 : kdP fa asz (skP fa asz (skP fa asz i9)) = 10 := ((rk_iff _ (kdP_le fa asz (skP fa asz (skP fa asz i9)))).2.2.2.1).mp ((nI_eq (b := 4) (by have := rk_le _ (kdP_le fa asz (skP fa asz (skP fa asz i9))); omega) (by decide)).mp z_787)
                      refine s_Model_near_269 ?_
                      have hE_840 := HY_753 (by rw [hk_827]; decide)
                      rw [hE_840] at g_822
                      refine x_callV (As := []) (b := m) (rest := []) (F1 := 4) (L1 := 87) (mc := 0) (ms := 0) d_Model_near_270 cV_Model_257 (f_nextH (x0 := (skP fa asz (skP fa asz (skP fa asz i9)))) l_794 e_795 g_819 g_820 g_821 g_822 g_810 g_811 e_802 (by rw [← hE_840]; exact PT_752.2.1) hasz (by omega) (by omega)) e_795 ⟨by decide, rfl⟩ ⟨by omega, by show 8 + (1 + 11) + 87 ≤ _; omega⟩ ⟨by omega, by omega⟩ (Nat.le_of_ble_eq_true rfl) (fun v_842 h_841 p_843 => ?_)
                      obtain ⟨rfl, y_828, fs_829, PT_830, HY_831, l_832, e_833, g_834, g_835, g_836, g_837, ga_838, r_839⟩ := p_843
                      have e_844 := r_839 asked_ _ (by simp only [List.mem_cons, List.not_mem_nil, or_false, not_or]; exact (xw_neC e_802 e_795 (by simp))) e_802
                      have e_845 := r_839 firstToken_ _ (by simp only [List.mem_cons, List.not_mem_nil, or_false, not_or]; exact (xw_neC e_803 e_795 (by simp))) e_803
                      have e_846 := r_839 starred_ _ (by simp only [List.mem_cons, List.not_mem_nil, or_false, not_or]; exact (xw_neC e_804 e_795 (by simp))) e_804
                      have e_847 := r_839 tokenAt_ _ (by simp only [List.mem_cons, List.not_mem_nil, or_false, not_or]; exact (xw_neC e_805 e_795 (by simp))) e_805
                      have e_848 := r_839 tokenSize_ _ (by simp only [List.mem_cons, List.not_mem_nil, or_false, not_or]; exact (xw_neC e_806 e_795 (by simp))) e_806
                      have e_849 := r_839 groupFar_ _ (by simp only [List.mem_cons, List.not_mem_nil, or_false, not_or]; exact (xw_neC e_807 e_795 (by simp))) e_807
                      have r_850 := r_808.trans (r_839.mono (by simp))
                      have g_851 : fs_829[(36 : Nat)]? = some (.int (nI g)) := (ga_838 36 (by decide)).trans g_809
                      have g_852 : fs_829[(11 : Nat)]? = some (.int (nI asz)) := (ga_838 11 (by decide)).trans g_810
                      have g_853 : fs_829[(4 : Nat)]? = some (.ref asked_) := (ga_838 4 (by decide)).trans g_811
                      have g_854 : fs_829[(41 : Nat)]? = some (.ref firstToken_) := (ga_838 41 (by decide)).trans g_812
                      have g_855 : fs_829[(42 : Nat)]? = some (.ref starred_) := (ga_838 42 (by decide)).trans g_813
                      have g_856 : fs_829[(43 : Nat)]? = some (.ref tokenAt_) := (ga_838 43 (by decide)).trans g_814
                      have g_857 : fs_829[(44 : Nat)]? = some (.ref tokenSize_) := (ga_838 44 (by decide)).trans g_815
                      have g_858 : fs_829[(49 : Nat)]? = some (.ref groupFar_) := (ga_838 49 (by decide)).trans g_816
                      have g_859 : fs_829[(34 : Nat)]? = some (.int (nI ph9.length)) := (ga_838 34 (by decide)).trans g_817
                      have g_860 : fs_829[(35 : Nat)]? = some (.int (nI t9)) := (ga_838 35 (by decide)).trans g_818
                      have g_861 : fs_829[(33 : Nat)]? = some (.int bd_789) := (ga_838 33 (by decide)).trans g_796
                      have ga_862 : ∀ i : Nat, i ∉ [28, 29, 30, 31, 33, 34, 35] → fs_829[i]? = fs[i]? := fun i hi => (ga_838 i (fun z => hi (by simp only [List.mem_cons, List.not_mem_nil, or_false] at z ⊢; omega))).trans (ga_823 i hi)
                      have RQ_863 := RQ_785.next (by rw [hk_827]; decide) (by rw [hk_827]; decide)
                      have hb_864 := Nat.le_trans PT_830.1 PT_830.2.1
                      refine x_le (xw_le_n (xw_le_n (xw_le_n (xw_le_n xw_le_e)))) ?_
                      refine s_Model_near_273 ?_
                      rw [nI_clamp (show g < 2 ^ 31 by omega)] at e_849
                      have hnq := hN_700
                      rw [← qv_in (f := fa) (n := asz) (k := bl fa asz (skP fa asz i9)) (by omega), ← qv_in (f := fa) (n := asz) (k := bl fa asz (skP fa asz i9) + 1) (by omega)] at hnq
                      exact ⟨rfl, _, _, _, _, _, _, _, l_832, e_833, g_861, ga_862, e_845, e_846, e_847, e_848, e_849, r_850, Or.inr ⟨(skP fa asz (skP fa asz (skP fa asz i9))), ph9, _, _, _, nr_5 hk_78 hx_138 hR9 hk_249 hnq hk_827, hb_824, PT_830, HY_831, g_834, g_835, g_836, g_837, g_859, g_860, RQ_863, ⟨pk_us, fun j hj => pk_un hj⟩⟩⟩
                    · skip
                      refine s_Model_near_249 ?_
                      refine s_Model_near_254 l_754 e_755 g_758 ?_
                      refine x_callV (As := [.int 1, .int (nI (bl fa asz (skP fa asz (skP fa asz i9))))]) (b := m) (rest := []) (F1 := 1) (L1 := 20) (mc := 0) (ms := 0) d_Model_near_258 cV_Model_250 (f_wrongsH (k := bl fa asz (skP fa asz (skP fa asz i9))) l_754 e_755 g_783 (by omega) (by omega) (by omega)) e_755 ⟨by decide, rfl⟩ ⟨by omega, by show 8 + (3 + 11) + 20 ≤ _; omega⟩ ⟨by omega, by omega⟩ (Nat.le_of_ble_eq_true rfl) (fun v_876 h_875 p_877 => ?_)
                      obtain ⟨rfl, bd_865, fs_866, hw_867, hw_868, hw_869, l_870, e_871, g_872, ga_873, r_874⟩ := p_877
                      have e_878 := r_874 asked_ _ (by simp only [List.mem_cons, List.not_mem_nil, or_false, not_or]; exact (xw_neC e_766 e_755 (by simp))) e_766
                      have e_879 := r_874 firstToken_ _ (by simp only [List.mem_cons, List.not_mem_nil, or_false, not_or]; exact (xw_neC e_767 e_755 (by simp))) e_767
                      have e_880 := r_874 starred_ _ (by simp only [List.mem_cons, List.not_mem_nil, or_false, not_or]; exact (xw_neC e_768 e_755 (by simp))) e_768
                      have e_881 := r_874 tokenAt_ _ (by simp only [List.mem_cons, List.not_mem_nil, or_false, not_or]; exact (xw_neC e_769 e_755 (by simp))) e_769
                      have e_882 := r_874 tokenSize_ _ (by simp only [List.mem_cons, List.not_mem_nil, or_false, not_or]; exact (xw_neC e_770 e_755 (by simp))) e_770
                      have e_883 := r_874 groupFar_ _ (by simp only [List.mem_cons, List.not_mem_nil, or_false, not_or]; exact (xw_neC e_771 e_755 (by simp))) e_771
                      have r_884 := r_772.trans (r_874.mono (by simp))
                      have g_885 : fs_866[(36 : Nat)]? = some (.int (nI g)) := (ga_873 36 (by decide)).trans g_773
                      have g_886 : fs_866[(11 : Nat)]? = some (.int (nI asz)) := (ga_873 11 (by decide)).trans g_774
                      have g_887 : fs_866[(4 : Nat)]? = some (.ref asked_) := (ga_873 4 (by decide)).trans g_775
                      have g_888 : fs_866[(41 : Nat)]? = some (.ref firstToken_) := (ga_873 41 (by decide)).trans g_776
                      have g_889 : fs_866[(42 : Nat)]? = some (.ref starred_) := (ga_873 42 (by decide)).trans g_777
                      have g_890 : fs_866[(43 : Nat)]? = some (.ref tokenAt_) := (ga_873 43 (by decide)).trans g_778
                      have g_891 : fs_866[(44 : Nat)]? = some (.ref tokenSize_) := (ga_873 44 (by decide)).trans g_779
                      have g_892 : fs_866[(49 : Nat)]? = some (.ref groupFar_) := (ga_873 49 (by decide)).trans g_780
                      have g_893 : fs_866[(34 : Nat)]? = some (.int (nI ph9.length)) := (ga_873 34 (by decide)).trans g_781
                      have g_894 : fs_866[(35 : Nat)]? = some (.int (nI t9)) := (ga_873 35 (by decide)).trans g_782
                      have g_895 : fs_866[(28 : Nat)]? = some (.int (nI (bl fa asz (skP fa asz (skP fa asz i9))))) := (ga_873 28 (by decide)).trans g_756
                      have g_896 : fs_866[(29 : Nat)]? = some (.int (nI (rkd (kdP fa asz (skP fa asz (skP fa asz i9)))))) := (ga_873 29 (by decide)).trans g_757
                      have g_897 : fs_866[(30 : Nat)]? = some (.int (nI (bl fa asz (skP fa asz (skP fa asz i9))))) := (ga_873 30 (by decide)).trans g_758
                      have g_898 : fs_866[(31 : Nat)]? = some (.int (nI y_750)) := (ga_873 31 (by decide)).trans g_759
                      have ga_899 : ∀ i : Nat, i ∉ [28, 29, 30, 31, 33, 34, 35] → fs_866[i]? = fs[i]? := fun i hi => (ga_873 i (fun z => hi (by simp only [List.mem_cons, List.not_mem_nil, or_false] at z ⊢; omega))).trans (ga_784 i hi)
                      have hb_900 : ¬ bd_865 < 0 := hw_868 (by decide)
                      have hb_901 : 0 ≤ bd_865 := Int32.not_lt.mp hb_900
                      refine s_Model_near_261 l_870 e_871 g_872 (fun z => absurd z hb_900) (fun z_902 => ?_)
                      refine s_Model_near_268 ?_
                      have hk_903 : ¬ kdP fa asz (skP fa asz (skP fa asz i9)) = 10 := fun q => z_788 (by rw [q]; rfl)
                      exact ⟨rfl, _, _, _, _, _, _, _, l_870, e_871, g_872, ga_899, e_879, e_880, e_881, e_882, e_883, r_884, Or.inl ⟨nr_4 hk_78 hx_138 hR9 hk_249 hN_700 hk_903, hb_900, (fun i9 hi9 => by simp only [List.mem_cons, List.not_mem_nil, or_false] at hi9; rcases hi9 with rfl | rfl | rfl | rfl | rfl | rfl | rfl <;> first | exact ⟨_, g_895⟩ | exact ⟨_, g_896⟩ | exact ⟨_, g_897⟩ | exact ⟨_, g_898⟩ | exact ⟨_, g_872⟩ | exact ⟨_, g_893⟩ | exact ⟨_, g_894⟩)⟩⟩
      · skip
        have e_904 := r9 asked_ _ (by simp only [List.mem_cons, List.not_mem_nil, or_false, not_or]; exact ⟨(xw_neC e_179 e_123 (by simp)), (xw_neC e_179 e_126 (by simp)), (xw_neC e_179 e_127 (by simp)), (xw_neC e_179 e_128 (by simp)), (xw_neC e_179 e_129 (by simp))⟩) e_179
        have e_905 := r9 groupFar_ _ (by simp only [List.mem_cons, List.not_mem_nil, or_false, not_or]; exact ⟨(xw_neC e_180 e_123 (by simp)), (Ne.symm n_firstToken_groupFar), (Ne.symm n_starred_groupFar), (xw_neC e_180 e_128 (by simp)), (xw_neC e_180 e_129 (by simp))⟩) e_180
        have r_906 := r_181.trans (r9.mono (by simp))
        obtain ⟨v_907, g_908⟩ := IN9 28 (by decide)
        obtain ⟨v_909, g_910⟩ := IN9 29 (by decide)
        obtain ⟨v_911, g_912⟩ := IN9 30 (by decide)
        obtain ⟨v_913, g_914⟩ := IN9 31 (by decide)
        obtain ⟨v_915, g_916⟩ := IN9 34 (by decide)
        obtain ⟨v_917, g_918⟩ := IN9 35 (by decide)
        have g_919 : fs9[(36 : Nat)]? = some (.int (nI g)) := (ga9 36 (by decide)).trans g_182
        have g_920 : fs9[(11 : Nat)]? = some (.int (nI asz)) := (ga9 11 (by decide)).trans g_183
        have g_921 : fs9[(4 : Nat)]? = some (.ref asked_) := (ga9 4 (by decide)).trans g_184
        have g_922 : fs9[(41 : Nat)]? = some (.ref firstToken_) := (ga9 41 (by decide)).trans g_185
        have g_923 : fs9[(42 : Nat)]? = some (.ref starred_) := (ga9 42 (by decide)).trans g_186
        have g_924 : fs9[(43 : Nat)]? = some (.ref tokenAt_) := (ga9 43 (by decide)).trans g_187
        have g_925 : fs9[(44 : Nat)]? = some (.ref tokenSize_) := (ga9 44 (by decide)).trans g_188
        have g_926 : fs9[(49 : Nat)]? = some (.ref groupFar_) := (ga9 49 (by decide)).trans g_189
        have ga_927 : ∀ i : Nat, i ∉ [28, 29, 30, 31, 33, 34, 35] → fs9[i]? = fs[i]? := fun i hi => (ga9 i (fun z => hi (by simp only [List.mem_cons, List.not_mem_nil, or_false] at z ⊢; omega))).trans (ga_190 i hi)
        have hb_928 : 0 ≤ bd9 := Int32.not_lt.mp nb9
        refine s_Model_near_72 l9 e9 g33_ (fun z => absurd z nb9) (fun z_929 => ?_)
        refine s_Model_near_79 ?_
        have hnr : rdNear fa asz (skP fa asz p) ph = none := by rcases hR9 with q | ⟨p2, ph2, q, q13, q10⟩; (exact nr_2 hk_78 hx_138 q); (exact nr_6 hk_78 hx_138 q q13 q10)
        exact ⟨rfl, _, _, _, _, _, _, _, l9, e9, g33_, ga_927, ef9, est9, ea9, es9, e_905, r_906, Or.inl ⟨hnr, nb9, (fun i9 hi9 => by simp only [List.mem_cons, List.not_mem_nil, or_false] at hi9; rcases hi9 with rfl | rfl | rfl | rfl | rfl | rfl | rfl <;> first | exact ⟨_, g_908⟩ | exact ⟨_, g_910⟩ | exact ⟨_, g_912⟩ | exact ⟨_, g_914⟩ | exact ⟨_, g33_⟩ | exact ⟨_, g_916⟩ | exact ⟨_, g_918⟩)⟩⟩
  · skip
    refine s_Model_near_13 ?_
    refine s_Model_near_18 l_5 e_6 g_9 ?_
    refine x_callV (As := [.int 1, .int (nI (bl fa asz (skP fa asz p)))]) (b := m) (rest := []) (F1 := 1) (L1 := 20) (mc := 0) (ms := 0) d_Model_near_22 cV_Model_250 (f_wrongsH (k := bl fa asz (skP fa asz p)) l_5 e_6 g_24 (by omega) (by omega) (by omega)) e_6 ⟨by decide, rfl⟩ ⟨by omega, by show 8 + (3 + 11) + 20 ≤ _; omega⟩ ⟨by omega, by omega⟩ (Nat.le_of_ble_eq_true rfl) (fun v_941 h_940 p_942 => ?_)
    obtain ⟨rfl, bd_930, fs_931, hw_932, hw_933, hw_934, l_935, e_936, g_937, ga_938, r_939⟩ := p_942
    have e_943 := r_939 asked_ _ (by simp only [List.mem_cons, List.not_mem_nil, or_false, not_or]; exact (xw_neC e_17 e_6 (by simp))) e_17
    have e_944 := r_939 firstToken_ _ (by simp only [List.mem_cons, List.not_mem_nil, or_false, not_or]; exact (xw_neC e_18 e_6 (by simp))) e_18
    have e_945 := r_939 starred_ _ (by simp only [List.mem_cons, List.not_mem_nil, or_false, not_or]; exact (xw_neC e_19 e_6 (by simp))) e_19
    have e_946 := r_939 tokenAt_ _ (by simp only [List.mem_cons, List.not_mem_nil, or_false, not_or]; exact (xw_neC e_20 e_6 (by simp))) e_20
    have e_947 := r_939 tokenSize_ _ (by simp only [List.mem_cons, List.not_mem_nil, or_false, not_or]; exact (xw_neC e_21 e_6 (by simp))) e_21
    have e_948 := r_939 groupFar_ _ (by simp only [List.mem_cons, List.not_mem_nil, or_false, not_or]; exact (xw_neC e_22 e_6 (by simp))) e_22
    have r_949 := r_23.trans (r_939.mono (by simp))
    have g_950 : fs_931[(34 : Nat)]? = some (.int (nI ph.length)) := (ga_938 34 (by decide)).trans g_25
    have g_951 : fs_931[(35 : Nat)]? = some (.int (nI t)) := (ga_938 35 (by decide)).trans g_26
    have g_952 : fs_931[(36 : Nat)]? = some (.int (nI g)) := (ga_938 36 (by decide)).trans g_27
    have g_953 : fs_931[(11 : Nat)]? = some (.int (nI asz)) := (ga_938 11 (by decide)).trans g_28
    have g_954 : fs_931[(4 : Nat)]? = some (.ref asked_) := (ga_938 4 (by decide)).trans g_29
    have g_955 : fs_931[(41 : Nat)]? = some (.ref firstToken_) := (ga_938 41 (by decide)).trans g_30
    have g_956 : fs_931[(42 : Nat)]? = some (.ref starred_) := (ga_938 42 (by decide)).trans g_31
    have g_957 : fs_931[(43 : Nat)]? = some (.ref tokenAt_) := (ga_938 43 (by decide)).trans g_32
    have g_958 : fs_931[(44 : Nat)]? = some (.ref tokenSize_) := (ga_938 44 (by decide)).trans g_33
    have g_959 : fs_931[(49 : Nat)]? = some (.ref groupFar_) := (ga_938 49 (by decide)).trans g_34
    have g_960 : fs_931[(28 : Nat)]? = some (.int (nI (bl fa asz (skP fa asz p)))) := (ga_938 28 (by decide)).trans g_7
    have g_961 : fs_931[(29 : Nat)]? = some (.int (nI (rkd (kdP fa asz (skP fa asz p))))) := (ga_938 29 (by decide)).trans g_8
    have g_962 : fs_931[(30 : Nat)]? = some (.int (nI (bl fa asz (skP fa asz p)))) := (ga_938 30 (by decide)).trans g_9
    have g_963 : fs_931[(31 : Nat)]? = some (.int (nI y_1)) := (ga_938 31 (by decide)).trans g_10
    have ga_964 : ∀ i : Nat, i ∉ [28, 29, 30, 31, 33, 34, 35] → fs_931[i]? = fs[i]? := fun i hi => (ga_938 i (fun z => hi (by simp only [List.mem_cons, List.not_mem_nil, or_false] at z ⊢; omega))).trans (ga_35 i hi)
    have hb_965 : ¬ bd_930 < 0 := hw_933 (by decide)
    have hb_966 : 0 ≤ bd_930 := Int32.not_lt.mp hb_965
    refine s_Model_near_25 l_935 e_936 g_937 (fun z => absurd z hb_965) (fun z_967 => ?_)
    refine s_Model_near_32 ?_
    have hk_968 : ¬ kdP fa asz (skP fa asz p) = 9 := fun q => z_39 (by rw [q]; rfl)
    exact ⟨rfl, _, _, _, _, _, _, _, l_935, e_936, g_937, ga_964, e_944, e_945, e_946, e_947, e_948, r_949, Or.inl ⟨nr_o hk_968, hb_965, (fun i9 hi9 => by simp only [List.mem_cons, List.not_mem_nil, or_false] at hi9; rcases hi9 with rfl | rfl | rfl | rfl | rfl | rfl | rfl <;> first | exact ⟨_, g_960⟩ | exact ⟨_, g_961⟩ | exact ⟨_, g_962⟩ | exact ⟨_, g_963⟩ | exact ⟨_, g_937⟩ | exact ⟨_, g_950⟩ | exact ⟨_, g_951⟩)⟩⟩
