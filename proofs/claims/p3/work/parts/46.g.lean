/-! the reference in general states: by program (wip/tools/gen3.py, gen4.py, gen5.py) -/
set_option maxHeartbeats 4000000 in
theorem lp_nr {G : xw_G} {F L bc bs : Nat} {pr : Option Value → xw_A → Prop} {px : String → xw_A → Prop} {m asked_ firstToken_ starred_ tokenAt_ tokenSize_ asz x0 p0 t0 : Nat} {gs : List Value} {fa : Nat → Int32} {h0 : xw_A} (q_asked : gs[(4 : Nat)]? = some (.ref asked_)) (q_askedSize : gs[(11 : Nat)]? = some (.int (nI asz))) (q_firstToken : gs[(41 : Nat)]? = some (.ref firstToken_)) (q_starred : gs[(42 : Nat)]? = some (.ref starred_)) (q_tokenAt : gs[(43 : Nat)]? = some (.ref tokenAt_)) (q_tokenSize : gs[(44 : Nat)]? = some (.ref tokenSize_)) (q_a : h0 asked_ = some (.inl (0, 96, .inl fa))) (na : asked_ ≠ m ∧ asked_ ≠ firstToken_ ∧ asked_ ≠ starred_ ∧ asked_ ≠ tokenAt_ ∧ asked_ ≠ tokenSize_) (nfs : firstToken_ ≠ starred_) (nts : tokenAt_ ≠ tokenSize_) (hasz : asz ≤ 96) (hF : 6 ≤ F) (hL : 127 ≤ L) (kk : ∀ (h : xw_A) (i : Nat) (x : Nat) (y : Nat) (t : Nat) (kd : Int32) (bd : Int32) (c1 : Nat → Int32) (c2 : Nat → Int32) (ca : Nat → Int32) (cs : Nat → Int32) (fs : List Value), i < 13 → fs.length = 62 → h m = some (.inr (11, fs)) → fs[(28 : Nat)]? = some (.int (nI x)) → fs[(29 : Nat)]? = some (.int kd) → fs[(30 : Nat)]? = some (.int (nI x)) → fs[(31 : Nat)]? = some (.int (nI y)) → fs[(33 : Nat)]? = some (.int bd) → fs[(34 : Nat)]? = some (.int (nI i)) → fs[(35 : Nat)]? = some (.int (nI t)) → (∀ i : Nat, i ∉ [28, 29, 30, 31, 33, 34, 35] → fs[i]? = gs[i]?) → h firstToken_ = some (.inl (0, 13, .inl c1)) → h starred_ = some (.inl (0, 13, .inl c2)) → h tokenAt_ = some (.inl (0, 60, .inl ca)) → h tokenSize_ = some (.inl (0, 60, .inl cs)) → PtO fa asz x y kd → JO fa asz t x → TkO ca cs t x → (bd < 0 → p0 < i ∧ PhO c1 i t) → x0 ≤ x → p0 ≤ i → t0 ≤ t → FrO [m, firstToken_, starred_, tokenAt_, tokenSize_] h0 h → xw G m_Model_near F L bc bs pr px 72 [some (.ref m), none, none, none] [] h) :
    ∀ (dd i : Nat) (h : xw_A) (x : Nat) (y : Nat) (t : Nat) (kd : Int32) (bd : Int32) (c1 : Nat → Int32) (c2 : Nat → Int32) (ca : Nat → Int32) (cs : Nat → Int32) (fs : List Value), 13 ≤ i + dd → i < 13 → fs.length = 62 → h m = some (.inr (11, fs)) → fs[(28 : Nat)]? = some (.int (nI x)) → fs[(29 : Nat)]? = some (.int kd) → fs[(30 : Nat)]? = some (.int (nI x)) → fs[(31 : Nat)]? = some (.int (nI y)) → fs[(33 : Nat)]? = some (.int bd) → fs[(34 : Nat)]? = some (.int (nI i)) → fs[(35 : Nat)]? = some (.int (nI t)) → (∀ i : Nat, i ∉ [28, 29, 30, 31, 33, 34, 35] → fs[i]? = gs[i]?) → h firstToken_ = some (.inl (0, 13, .inl c1)) → h starred_ = some (.inl (0, 13, .inl c2)) → h tokenAt_ = some (.inl (0, 60, .inl ca)) → h tokenSize_ = some (.inl (0, 60, .inl cs)) → PtO fa asz x y kd → JO fa asz t x → TkO ca cs t x → (bd < 0 → p0 < i ∧ PhO c1 i t) → x0 ≤ x → p0 ≤ i → t0 ≤ t → FrO [m, firstToken_, starred_, tokenAt_, tokenSize_] h0 h → xw G m_Model_near F L bc bs pr px 41 [some (.ref m), none, none, none] [] h := by
  intro dd
  induction dd with
  | zero =>
    intro i h x y t kd bd c1 c2 ca cs fs hi hb l e g_28 g_29 g_30 g_31 g_33 g_34 g_35 ga0 e_firstToken e_starred e_tokenAt e_tokenSize PT J TK PHc hx0 hp0 ht0 r0
    exact absurd hi (by omega)
  | succ dd ih =>
    intro i h x y t kd bd c1 c2 ca cs fs hi hb l e g_28 g_29 g_30 g_31 g_33 g_34 g_35 ga0 e_firstToken e_starred e_tokenAt e_tokenSize PT J TK PHc hx0 hp0 ht0 r0
    have g_asked := (ga0 4 (by decide)).trans q_asked
    have g_askedSize := (ga0 11 (by decide)).trans q_askedSize
    have g_firstToken := (ga0 41 (by decide)).trans q_firstToken
    have g_starred := (ga0 42 (by decide)).trans q_starred
    have g_tokenAt := (ga0 43 (by decide)).trans q_tokenAt
    have g_tokenSize := (ga0 44 (by decide)).trans q_tokenSize
    have e_asked := r0 asked_ _ (by simp only [List.mem_cons, List.not_mem_nil, or_false, not_or]; exact na) q_a
    refine s_Model_near_41 l e g_33 (fun z_1 => ?_) (fun z_2 => ?_)
    · skip
      exact kk _ _ _ _ _ _ _ _ _ _ _ _ hb l e g_28 g_29 g_30 g_31 g_33 g_34 g_35 ga0 e_firstToken e_starred e_tokenAt e_tokenSize PT J TK PHc hx0 hp0 ht0 r0
    · skip
      refine s_Model_near_48 l e g_29 (fun z_3 => ?_) (fun z_4 => ?_)
      · skip
        exact kk _ _ _ _ _ _ _ _ _ _ _ _ hb l e g_28 g_29 g_30 g_31 g_33 g_34 g_35 ga0 e_firstToken e_starred e_tokenAt e_tokenSize PT J TK PHc hx0 hp0 ht0 r0
      · skip
        refine s_Model_near_56 l e g_29 (fun z_5 => ?_) (fun z_6 => ?_)
        · skip
          exact kk _ _ _ _ _ _ _ _ _ _ _ _ hb l e g_28 g_29 g_30 g_31 g_33 g_34 g_35 ga0 e_firstToken e_starred e_tokenAt e_tokenSize PT J TK PHc hx0 hp0 ht0 r0
        · skip
          refine s_Model_near_65 ?_
          have PH := (PHc (Int32.not_le.mp z_2)).2
          refine x_callV (As := []) (b := m) (rest := []) (F1 := 5) (L1 := 107) (mc := 0) (ms := 0) d_Model_near_66 cV_Model_260 (f_phrase l e g_28 g_29 g_30 g_31 g_33 g_34 g_35 g_askedSize g_asked e_asked g_firstToken e_firstToken g_starred e_starred g_tokenAt e_tokenAt g_tokenSize e_tokenSize nfs nts hasz PT J TK (Int32.not_le.mp z_2) (by omega) (by omega) (by omega)) e ⟨by decide, rfl⟩ ⟨by omega, by show 8 + (1 + 11) + 107 ≤ _; omega⟩ ⟨by omega, by omega⟩ (Nat.le_of_ble_eq_true rfl) (fun v_42 h_41 p_43 => ?_)
          obtain ⟨rfl, x_7, y_8, p_9, t_10, kd_11, bd_12, c1_13, c2_14, ca_15, cs_16, fs_17, PT_18, J_19, TK_20, hx_21, hp_22, hp12_23, ht_24, HB_25, l_26, e_27, g_28, g_29, g_30, g_31, g_32, g_33, g_34, ga_35, e_36, e_37, e_38, e_39, r_40⟩ := p_43
          have e_44 := r_40 asked_ _ (by simp only [List.mem_cons, List.not_mem_nil, or_false, not_or]; exact ⟨na.1, na.2.1, na.2.2.1, na.2.2.2.1, na.2.2.2.2⟩) e_asked
          have r_45 := r0.trans (r_40.mono (by simp))
          have g_46 : fs_17[(4 : Nat)]? = some (.ref asked_) := (ga_35 4 (by decide)).trans g_asked
          have g_47 : fs_17[(11 : Nat)]? = some (.int (nI asz)) := (ga_35 11 (by decide)).trans g_askedSize
          have g_48 : fs_17[(41 : Nat)]? = some (.ref firstToken_) := (ga_35 41 (by decide)).trans g_firstToken
          have g_49 : fs_17[(42 : Nat)]? = some (.ref starred_) := (ga_35 42 (by decide)).trans g_starred
          have g_50 : fs_17[(43 : Nat)]? = some (.ref tokenAt_) := (ga_35 43 (by decide)).trans g_tokenAt
          have g_51 : fs_17[(44 : Nat)]? = some (.ref tokenSize_) := (ga_35 44 (by decide)).trans g_tokenSize
          have ga_52 : ∀ i : Nat, i ∉ [28, 29, 30, 31, 33, 34, 35] → fs_17[i]? = gs[i]? := fun i hi => (ga_35 i (fun z => hi (by simp only [List.mem_cons, List.not_mem_nil, or_false] at z ⊢; omega))).trans (ga0 i hi)
          have PH_53 : bd_12 < 0 → x < x_7 ∧ p_9 = i + 1 ∧ PhO c1_13 p_9 t_10 := fun q => by obtain ⟨q1, q2, q3, q4, q5⟩ := HB_25 q; subst q2; exact ⟨q1, rfl, PhO.new PH ht_24 q3 q4 q5⟩
          have hb_54 := Nat.le_trans PT_18.1 PT_18.2.1
          refine s_Model_near_69 ?_
          by_cases hbb : bd_12 < 0
          · skip
            obtain ⟨v1, v2, v3⟩ := PH_53 hbb
            subst v2
            exact ih _ _ _ _ _ _ _ _ _ _ _ _ (by omega) (by omega) l_26 e_27 g_28 g_29 g_30 g_31 g_32 g_33 g_34 ga_52 e_36 e_37 e_38 e_39 PT_18 J_19 TK_20 (fun _ => ⟨by omega, v3⟩) (by omega) (by omega) (by omega) r_45
          · skip
            refine s_Model_near_41 l_26 e_27 g_32 (fun _ => ?_) (fun z => absurd (Int32.not_lt.mp hbb) z)
            exact kk _ _ _ _ _ _ _ _ _ _ _ _ (by omega) l_26 e_27 g_28 g_29 g_30 g_31 g_32 g_33 g_34 ga_52 e_36 e_37 e_38 e_39 PT_18 J_19 TK_20 (fun q => absurd q hbb) (by omega) (by omega) (by omega) r_45
set_option maxHeartbeats 8000000 in
theorem f_near {G : xw_G} {F L : Nat} {h : xw_A} {x y p t g asz : Nat} {kd bd : Int32} {fa c1 c2 ca cs c9 : Nat → Int32} {asked_ firstToken_ starred_ tokenAt_ tokenSize_ groupFar_ : Nat} {m : Nat} {fs : List Value} (l : fs.length = 62) (e : h m = some (.inr (11, fs))) (g_at : fs[(28 : Nat)]? = some (.int (nI x))) (g_kind : fs[(29 : Nat)]? = some (.int kd)) (g_from : fs[(30 : Nat)]? = some (.int (nI x))) (g_to : fs[(31 : Nat)]? = some (.int (nI y))) (g_bad : fs[(33 : Nat)]? = some (.int bd)) (g_phrases : fs[(34 : Nat)]? = some (.int (nI p))) (g_tokens : fs[(35 : Nat)]? = some (.int (nI t))) (g_groups : fs[(36 : Nat)]? = some (.int (nI g))) (g_askedSize : fs[(11 : Nat)]? = some (.int (nI asz))) (g_asked : fs[(4 : Nat)]? = some (.ref asked_)) (e_asked : h asked_ = some (.inl (0, 96, .inl (fa)))) (g_firstToken : fs[(41 : Nat)]? = some (.ref firstToken_)) (e_firstToken : h firstToken_ = some (.inl (0, 13, .inl (c1)))) (g_starred : fs[(42 : Nat)]? = some (.ref starred_)) (e_starred : h starred_ = some (.inl (0, 13, .inl (c2)))) (g_tokenAt : fs[(43 : Nat)]? = some (.ref tokenAt_)) (e_tokenAt : h tokenAt_ = some (.inl (0, 60, .inl (ca)))) (g_tokenSize : fs[(44 : Nat)]? = some (.ref tokenSize_)) (e_tokenSize : h tokenSize_ = some (.inl (0, 60, .inl (cs)))) (g_groupFar : fs[(49 : Nat)]? = some (.ref groupFar_)) (e_groupFar : h groupFar_ = some (.inl (0, 13, .inl (c9)))) (n_firstToken_starred : firstToken_ ≠ starred_) (n_firstToken_groupFar : firstToken_ ≠ groupFar_) (n_starred_groupFar : starred_ ≠ groupFar_) (n_tokenAt_tokenSize : tokenAt_ ≠ tokenSize_) (hasz : asz ≤ 96) (PT : PtO fa asz x y kd) (J : JO fa asz t x) (TK : TkO ca cs t x) (PH : PhO c1 p t) (hbd : bd < 0) (hp12 : p ≤ 12) (hg12 : g ≤ 12) (hk0 : ¬ kd = 0) (hF : 6 ≤ F) (hL : 127 ≤ L) :
    xw_Met G m_Model_near F L 0 0 [.ref m] h (fun v h' => v = none ∧ NrP m firstToken_ starred_ tokenAt_ tokenSize_ groupFar_ fs fa asz x p t h h') (fun _ _ => False) := by
  refine xw_Met.of rfl (by decide) (Nat.le_of_ble_eq_true rfl) ?_
  have hxy0 := PT.1
  have hy97 := PT.2.1
  have ga0 : ∀ i : Nat, i ∉ [28, 29, 30, 31, 33, 34, 35] → fs[i]? = fs[i]? := fun _ _ => rfl
  have r0 : FrO [m, firstToken_, starred_, tokenAt_, tokenSize_, groupFar_] h h := FrO.rf
  refine s_Model_near_0 ?_
  refine x_callV (As := []) (b := m) (rest := []) (F1 := 4) (L1 := 87) (mc := 0) (ms := 0) d_Model_near_1 cV_Model_257 (f_next (x0 := y) l e g_at g_kind g_from g_to g_askedSize g_asked e_asked PT.2.1 hasz (by omega) (by omega)) e ⟨by decide, rfl⟩ ⟨by omega, by show 8 + (1 + 11) + 87 ≤ _; omega⟩ ⟨by omega, by omega⟩ (Nat.le_of_ble_eq_true rfl) (fun v_16 h_15 p_17 => ?_)
  obtain ⟨rfl, x_1, y_2, kd_3, fs_4, hx_5, PT_6, l_7, e_8, g_9, g_10, g_11, g_12, ga_13, r_14⟩ := p_17
  have e_18 := r_14 asked_ _ (by simp only [List.mem_cons, List.not_mem_nil, or_false, not_or]; exact (xw_neC e_asked e (by simp))) e_asked
  have e_19 := r_14 firstToken_ _ (by simp only [List.mem_cons, List.not_mem_nil, or_false, not_or]; exact (xw_neC e_firstToken e (by simp))) e_firstToken
  have e_20 := r_14 starred_ _ (by simp only [List.mem_cons, List.not_mem_nil, or_false, not_or]; exact (xw_neC e_starred e (by simp))) e_starred
  have e_21 := r_14 tokenAt_ _ (by simp only [List.mem_cons, List.not_mem_nil, or_false, not_or]; exact (xw_neC e_tokenAt e (by simp))) e_tokenAt
  have e_22 := r_14 tokenSize_ _ (by simp only [List.mem_cons, List.not_mem_nil, or_false, not_or]; exact (xw_neC e_tokenSize e (by simp))) e_tokenSize
  have e_23 := r_14 groupFar_ _ (by simp only [List.mem_cons, List.not_mem_nil, or_false, not_or]; exact (xw_neC e_groupFar e (by simp))) e_groupFar
  have r_24 := r0.trans (r_14.mono (by simp))
  have g_25 : fs_4[(33 : Nat)]? = some (.int bd) := (ga_13 33 (by decide)).trans g_bad
  have g_26 : fs_4[(34 : Nat)]? = some (.int (nI p)) := (ga_13 34 (by decide)).trans g_phrases
  have g_27 : fs_4[(35 : Nat)]? = some (.int (nI t)) := (ga_13 35 (by decide)).trans g_tokens
  have g_28 : fs_4[(36 : Nat)]? = some (.int (nI g)) := (ga_13 36 (by decide)).trans g_groups
  have g_29 : fs_4[(11 : Nat)]? = some (.int (nI asz)) := (ga_13 11 (by decide)).trans g_askedSize
  have g_30 : fs_4[(4 : Nat)]? = some (.ref asked_) := (ga_13 4 (by decide)).trans g_asked
  have g_31 : fs_4[(41 : Nat)]? = some (.ref firstToken_) := (ga_13 41 (by decide)).trans g_firstToken
  have g_32 : fs_4[(42 : Nat)]? = some (.ref starred_) := (ga_13 42 (by decide)).trans g_starred
  have g_33 : fs_4[(43 : Nat)]? = some (.ref tokenAt_) := (ga_13 43 (by decide)).trans g_tokenAt
  have g_34 : fs_4[(44 : Nat)]? = some (.ref tokenSize_) := (ga_13 44 (by decide)).trans g_tokenSize
  have g_35 : fs_4[(49 : Nat)]? = some (.ref groupFar_) := (ga_13 49 (by decide)).trans g_groupFar
  have ga_36 : ∀ i : Nat, i ∉ [28, 29, 30, 31, 33, 34, 35] → fs_4[i]? = fs[i]? := fun i hi => (ga_13 i (fun z => hi (by simp only [List.mem_cons, List.not_mem_nil, or_false] at z ⊢; omega))).trans (ga0 i hi)
  have J_37 := J.mono (Nat.le_trans PT.1 hx_5)
  have TK_38 := TK.mono (Nat.le_trans PT.1 hx_5)
  have hm_39 := Nat.le_trans PT.1 hx_5
  have hb_40 := Nat.le_trans PT_6.1 PT_6.2.1
  refine s_Model_near_4 l_7 e_8 g_10 (fun z_41 => ?_) (fun z_42 => ?_)
  · skip
    refine s_Model_near_17 ?_
    refine s_Model_near_18 l_7 e_8 g_11 ?_
    refine x_callV (As := [.int 0, .int (nI x_1)]) (b := m) (rest := []) (F1 := 1) (L1 := 20) (mc := 0) (ms := 0) d_Model_near_22 cV_Model_250 (f_wrongs (k := x_1) l_7 e_8 g_25 (by omega) (by omega) (by omega)) e_8 ⟨by decide, rfl⟩ ⟨by omega, by show 8 + (3 + 11) + 20 ≤ _; omega⟩ ⟨by omega, by omega⟩ (Nat.le_of_ble_eq_true rfl) (fun v_53 h_52 p_54 => ?_)
    obtain ⟨rfl, bd_43, fs_44, hw_45, hk_46, l_47, e_48, g_49, ga_50, r_51⟩ := p_54
    have e_55 := r_51 asked_ _ (by simp only [List.mem_cons, List.not_mem_nil, or_false, not_or]; exact (xw_neC e_18 e_8 (by simp))) e_18
    have e_56 := r_51 firstToken_ _ (by simp only [List.mem_cons, List.not_mem_nil, or_false, not_or]; exact (xw_neC e_19 e_8 (by simp))) e_19
    have e_57 := r_51 starred_ _ (by simp only [List.mem_cons, List.not_mem_nil, or_false, not_or]; exact (xw_neC e_20 e_8 (by simp))) e_20
    have e_58 := r_51 tokenAt_ _ (by simp only [List.mem_cons, List.not_mem_nil, or_false, not_or]; exact (xw_neC e_21 e_8 (by simp))) e_21
    have e_59 := r_51 tokenSize_ _ (by simp only [List.mem_cons, List.not_mem_nil, or_false, not_or]; exact (xw_neC e_22 e_8 (by simp))) e_22
    have e_60 := r_51 groupFar_ _ (by simp only [List.mem_cons, List.not_mem_nil, or_false, not_or]; exact (xw_neC e_23 e_8 (by simp))) e_23
    have r_61 := r_24.trans (r_51.mono (by simp))
    have g_62 : fs_44[(34 : Nat)]? = some (.int (nI p)) := (ga_50 34 (by decide)).trans g_26
    have g_63 : fs_44[(35 : Nat)]? = some (.int (nI t)) := (ga_50 35 (by decide)).trans g_27
    have g_64 : fs_44[(36 : Nat)]? = some (.int (nI g)) := (ga_50 36 (by decide)).trans g_28
    have g_65 : fs_44[(11 : Nat)]? = some (.int (nI asz)) := (ga_50 11 (by decide)).trans g_29
    have g_66 : fs_44[(4 : Nat)]? = some (.ref asked_) := (ga_50 4 (by decide)).trans g_30
    have g_67 : fs_44[(41 : Nat)]? = some (.ref firstToken_) := (ga_50 41 (by decide)).trans g_31
    have g_68 : fs_44[(42 : Nat)]? = some (.ref starred_) := (ga_50 42 (by decide)).trans g_32
    have g_69 : fs_44[(43 : Nat)]? = some (.ref tokenAt_) := (ga_50 43 (by decide)).trans g_33
    have g_70 : fs_44[(44 : Nat)]? = some (.ref tokenSize_) := (ga_50 44 (by decide)).trans g_34
    have g_71 : fs_44[(49 : Nat)]? = some (.ref groupFar_) := (ga_50 49 (by decide)).trans g_35
    have g_72 : fs_44[(28 : Nat)]? = some (.int (nI x_1)) := (ga_50 28 (by decide)).trans g_9
    have g_73 : fs_44[(29 : Nat)]? = some (.int kd_3) := (ga_50 29 (by decide)).trans g_10
    have g_74 : fs_44[(30 : Nat)]? = some (.int (nI x_1)) := (ga_50 30 (by decide)).trans g_11
    have g_75 : fs_44[(31 : Nat)]? = some (.int (nI y_2)) := (ga_50 31 (by decide)).trans g_12
    have ga_76 : ∀ i : Nat, i ∉ [28, 29, 30, 31, 33, 34, 35] → fs_44[i]? = fs[i]? := fun i hi => (ga_50 i (fun z => hi (by simp only [List.mem_cons, List.not_mem_nil, or_false] at z ⊢; omega))).trans (ga_36 i hi)
    refine s_Model_near_25 l_47 e_48 g_49 (fun z_77 => ?_) (fun z_78 => ?_)
    · skip
      refine s_Model_near_33 ?_
      refine x_callV (As := []) (b := m) (rest := []) (F1 := 4) (L1 := 87) (mc := 0) (ms := 0) d_Model_near_34 cV_Model_257 (f_next (x0 := y_2) l_47 e_48 g_72 g_73 g_74 g_75 g_65 g_66 e_55 PT_6.2.1 hasz (by omega) (by omega)) e_48 ⟨by decide, rfl⟩ ⟨by omega, by show 8 + (1 + 11) + 87 ≤ _; omega⟩ ⟨by omega, by omega⟩ (Nat.le_of_ble_eq_true rfl) (fun v_94 h_93 p_95 => ?_)
      obtain ⟨rfl, x_79, y_80, kd_81, fs_82, hx_83, PT_84, l_85, e_86, g_87, g_88, g_89, g_90, ga_91, r_92⟩ := p_95
      have e_96 := r_92 asked_ _ (by simp only [List.mem_cons, List.not_mem_nil, or_false, not_or]; exact (xw_neC e_55 e_48 (by simp))) e_55
      have e_97 := r_92 firstToken_ _ (by simp only [List.mem_cons, List.not_mem_nil, or_false, not_or]; exact (xw_neC e_56 e_48 (by simp))) e_56
      have e_98 := r_92 starred_ _ (by simp only [List.mem_cons, List.not_mem_nil, or_false, not_or]; exact (xw_neC e_57 e_48 (by simp))) e_57
      have e_99 := r_92 tokenAt_ _ (by simp only [List.mem_cons, List.not_mem_nil, or_false, not_or]; exact (xw_neC e_58 e_48 (by simp))) e_58
      have e_100 := r_92 tokenSize_ _ (by simp only [List.mem_cons, List.not_mem_nil, or_false, not_or]; exact (xw_neC e_59 e_48 (by simp))) e_59
      have e_101 := r_92 groupFar_ _ (by simp only [List.mem_cons, List.not_mem_nil, or_false, not_or]; exact (xw_neC e_60 e_48 (by simp))) e_60
      have r_102 := r_61.trans (r_92.mono (by simp))
      have g_103 : fs_82[(34 : Nat)]? = some (.int (nI p)) := (ga_91 34 (by decide)).trans g_62
      have g_104 : fs_82[(35 : Nat)]? = some (.int (nI t)) := (ga_91 35 (by decide)).trans g_63
      have g_105 : fs_82[(36 : Nat)]? = some (.int (nI g)) := (ga_91 36 (by decide)).trans g_64
      have g_106 : fs_82[(11 : Nat)]? = some (.int (nI asz)) := (ga_91 11 (by decide)).trans g_65
      have g_107 : fs_82[(4 : Nat)]? = some (.ref asked_) := (ga_91 4 (by decide)).trans g_66
      have g_108 : fs_82[(41 : Nat)]? = some (.ref firstToken_) := (ga_91 41 (by decide)).trans g_67
      have g_109 : fs_82[(42 : Nat)]? = some (.ref starred_) := (ga_91 42 (by decide)).trans g_68
      have g_110 : fs_82[(43 : Nat)]? = some (.ref tokenAt_) := (ga_91 43 (by decide)).trans g_69
      have g_111 : fs_82[(44 : Nat)]? = some (.ref tokenSize_) := (ga_91 44 (by decide)).trans g_70
      have g_112 : fs_82[(49 : Nat)]? = some (.ref groupFar_) := (ga_91 49 (by decide)).trans g_71
      have g_113 : fs_82[(33 : Nat)]? = some (.int bd_43) := (ga_91 33 (by decide)).trans g_49
      have ga_114 : ∀ i : Nat, i ∉ [28, 29, 30, 31, 33, 34, 35] → fs_82[i]? = fs[i]? := fun i hi => (ga_91 i (fun z => hi (by simp only [List.mem_cons, List.not_mem_nil, or_false] at z ⊢; omega))).trans (ga_76 i hi)
      have J_115 := J_37.mono (Nat.le_trans PT_6.1 hx_83)
      have TK_116 := TK_38.mono (Nat.le_trans PT_6.1 hx_83)
      have hm_117 := Nat.le_trans PT_6.1 hx_83
      have hb_118 := Nat.le_trans PT_84.1 PT_84.2.1
      refine s_Model_near_37 ?_
      refine x_callV (As := []) (b := m) (rest := []) (F1 := 5) (L1 := 107) (mc := 0) (ms := 0) d_Model_near_38 cV_Model_260 (f_phrase l_85 e_86 g_87 g_88 g_89 g_90 g_113 g_103 g_104 g_106 g_107 e_96 g_108 e_97 g_109 e_98 g_110 e_99 g_111 e_100 n_firstToken_starred n_tokenAt_tokenSize hasz PT_84 J_115 TK_116 z_77 (by omega) (by omega) (by omega)) e_86 ⟨by decide, rfl⟩ ⟨by omega, by show 8 + (1 + 11) + 107 ≤ _; omega⟩ ⟨by omega, by omega⟩ (Nat.le_of_ble_eq_true rfl) (fun v_154 h_153 p_155 => ?_)
      obtain ⟨rfl, x_119, y_120, p_121, t_122, kd_123, bd_124, c1_125, c2_126, ca_127, cs_128, fs_129, PT_130, J_131, TK_132, hx_133, hp_134, hp12_135, ht_136, HB_137, l_138, e_139, g_140, g_141, g_142, g_143, g_144, g_145, g_146, ga_147, e_148, e_149, e_150, e_151, r_152⟩ := p_155
      have e_156 := r_152 asked_ _ (by simp only [List.mem_cons, List.not_mem_nil, or_false, not_or]; exact ⟨(xw_neC e_96 e_86 (by simp)), (xw_neC e_96 e_97 (by simp)), (xw_neC e_96 e_98 (by simp)), (xw_neC e_96 e_99 (by simp)), (xw_neC e_96 e_100 (by simp))⟩) e_96
      have e_157 := r_152 groupFar_ _ (by simp only [List.mem_cons, List.not_mem_nil, or_false, not_or]; exact ⟨(xw_neC e_101 e_86 (by simp)), (Ne.symm n_firstToken_groupFar), (Ne.symm n_starred_groupFar), (xw_neC e_101 e_99 (by simp)), (xw_neC e_101 e_100 (by simp))⟩) e_101
      have r_158 := r_102.trans (r_152.mono (by simp))
      have g_159 : fs_129[(36 : Nat)]? = some (.int (nI g)) := (ga_147 36 (by decide)).trans g_105
      have g_160 : fs_129[(11 : Nat)]? = some (.int (nI asz)) := (ga_147 11 (by decide)).trans g_106
      have g_161 : fs_129[(4 : Nat)]? = some (.ref asked_) := (ga_147 4 (by decide)).trans g_107
      have g_162 : fs_129[(41 : Nat)]? = some (.ref firstToken_) := (ga_147 41 (by decide)).trans g_108
      have g_163 : fs_129[(42 : Nat)]? = some (.ref starred_) := (ga_147 42 (by decide)).trans g_109
      have g_164 : fs_129[(43 : Nat)]? = some (.ref tokenAt_) := (ga_147 43 (by decide)).trans g_110
      have g_165 : fs_129[(44 : Nat)]? = some (.ref tokenSize_) := (ga_147 44 (by decide)).trans g_111
      have g_166 : fs_129[(49 : Nat)]? = some (.ref groupFar_) := (ga_147 49 (by decide)).trans g_112
      have ga_167 : ∀ i : Nat, i ∉ [28, 29, 30, 31, 33, 34, 35] → fs_129[i]? = fs[i]? := fun i hi => (ga_147 i (fun z => hi (by simp only [List.mem_cons, List.not_mem_nil, or_false] at z ⊢; omega))).trans (ga_114 i hi)
      have PH_168 : bd_124 < 0 → x_79 < x_119 ∧ p_121 = p + 1 ∧ PhO c1_125 p_121 t_122 := fun q => by obtain ⟨q1, q2, q3, q4, q5⟩ := HB_137 q; subst q2; exact ⟨q1, rfl, PhO.new PH ht_136 q3 q4 q5⟩
      have hb_169 := Nat.le_trans PT_130.1 PT_130.2.1
      have hpr := Nat.lt_of_lt_of_le (PT.2.2.1 hk0) hx_5
      refine lp_nr (gs := fs_129) (h0 := h_153) (x0 := x_119) (p0 := p) (t0 := t_122) g_161 g_160 g_162 g_163 g_164 g_165 e_156 ⟨(xw_neC e_156 e_139 (by simp)), (xw_neC e_156 e_148 (by simp)), (xw_neC e_156 e_149 (by simp)), (xw_neC e_156 e_150 (by simp)), (xw_neC e_156 e_151 (by simp))⟩ n_firstToken_starred n_tokenAt_tokenSize hasz (by omega) (by omega) (fun h9 i9 x9 y9 t9 kd9 bd9 c19 c29 ca9 cs9 fs9 hi9 l9 e9 g28_ g29_ g30_ g31_ g33_ g34_ g35_ ga9 ef9 est9 ea9 es9 PT9 J9 TK9 PH9 hx9 hp9 ht9 r9 => ?_) 13 p_121 _ _ _ _ _ _ _ _ _ _ _ (by omega) (by omega) l_138 e_139 g_140 g_141 g_142 g_143 g_144 g_145 g_146 (fun _ _ => rfl) e_148 e_149 e_150 e_151 PT_130 J_131 TK_132 (fun q => ⟨by have := (PH_168 q).2.1; omega, (PH_168 q).2.2⟩) (Nat.le_refl _) (by omega) (Nat.le_refl _) FrO.rf
      have e_170 := r9 asked_ _ (by simp only [List.mem_cons, List.not_mem_nil, or_false, not_or]; exact ⟨(xw_neC e_156 e_139 (by simp)), (xw_neC e_156 e_148 (by simp)), (xw_neC e_156 e_149 (by simp)), (xw_neC e_156 e_150 (by simp)), (xw_neC e_156 e_151 (by simp))⟩) e_156
      have e_171 := r9 groupFar_ _ (by simp only [List.mem_cons, List.not_mem_nil, or_false, not_or]; exact ⟨(xw_neC e_157 e_139 (by simp)), (Ne.symm n_firstToken_groupFar), (Ne.symm n_starred_groupFar), (xw_neC e_157 e_150 (by simp)), (xw_neC e_157 e_151 (by simp))⟩) e_157
      have r_172 := r_158.trans (r9.mono (by simp))
      have g_173 : fs9[(36 : Nat)]? = some (.int (nI g)) := (ga9 36 (by decide)).trans g_159
      have g_174 : fs9[(11 : Nat)]? = some (.int (nI asz)) := (ga9 11 (by decide)).trans g_160
      have g_175 : fs9[(4 : Nat)]? = some (.ref asked_) := (ga9 4 (by decide)).trans g_161
      have g_176 : fs9[(41 : Nat)]? = some (.ref firstToken_) := (ga9 41 (by decide)).trans g_162
      have g_177 : fs9[(42 : Nat)]? = some (.ref starred_) := (ga9 42 (by decide)).trans g_163
      have g_178 : fs9[(43 : Nat)]? = some (.ref tokenAt_) := (ga9 43 (by decide)).trans g_164
      have g_179 : fs9[(44 : Nat)]? = some (.ref tokenSize_) := (ga9 44 (by decide)).trans g_165
      have g_180 : fs9[(49 : Nat)]? = some (.ref groupFar_) := (ga9 49 (by decide)).trans g_166
      have ga_181 : ∀ i : Nat, i ∉ [28, 29, 30, 31, 33, 34, 35] → fs9[i]? = fs[i]? := fun i hi => (ga9 i (fun z => hi (by simp only [List.mem_cons, List.not_mem_nil, or_false] at z ⊢; omega))).trans (ga_167 i hi)
      have hb9 := Nat.le_trans PT9.1 PT9.2.1
      refine s_Model_near_72 l9 e9 g33_ (fun z_182 => ?_) (fun z_183 => ?_)
      · skip
        refine s_Model_near_80 l9 e9 g29_ (fun z_184 => ?_) (fun z_185 => ?_)
        · skip
          refine s_Model_near_269 ?_
          refine x_callV (As := []) (b := m) (rest := []) (F1 := 4) (L1 := 87) (mc := 0) (ms := 0) d_Model_near_270 cV_Model_257 (f_next (x0 := y9) l9 e9 g28_ g29_ g30_ g31_ g_174 g_175 e_170 PT9.2.1 hasz (by omega) (by omega)) e9 ⟨by decide, rfl⟩ ⟨by omega, by show 8 + (1 + 11) + 87 ≤ _; omega⟩ ⟨by omega, by omega⟩ (Nat.le_of_ble_eq_true rfl) (fun v_201 h_200 p_202 => ?_)
          obtain ⟨rfl, x_186, y_187, kd_188, fs_189, hx_190, PT_191, l_192, e_193, g_194, g_195, g_196, g_197, ga_198, r_199⟩ := p_202
          have e_203 := r_199 asked_ _ (by simp only [List.mem_cons, List.not_mem_nil, or_false, not_or]; exact (xw_neC e_170 e9 (by simp))) e_170
          have e_204 := r_199 firstToken_ _ (by simp only [List.mem_cons, List.not_mem_nil, or_false, not_or]; exact (xw_neC ef9 e9 (by simp))) ef9
          have e_205 := r_199 starred_ _ (by simp only [List.mem_cons, List.not_mem_nil, or_false, not_or]; exact (xw_neC est9 e9 (by simp))) est9
          have e_206 := r_199 tokenAt_ _ (by simp only [List.mem_cons, List.not_mem_nil, or_false, not_or]; exact (xw_neC ea9 e9 (by simp))) ea9
          have e_207 := r_199 tokenSize_ _ (by simp only [List.mem_cons, List.not_mem_nil, or_false, not_or]; exact (xw_neC es9 e9 (by simp))) es9
          have e_208 := r_199 groupFar_ _ (by simp only [List.mem_cons, List.not_mem_nil, or_false, not_or]; exact (xw_neC e_171 e9 (by simp))) e_171
          have r_209 := r_172.trans (r_199.mono (by simp))
          have g_210 : fs_189[(36 : Nat)]? = some (.int (nI g)) := (ga_198 36 (by decide)).trans g_173
          have g_211 : fs_189[(11 : Nat)]? = some (.int (nI asz)) := (ga_198 11 (by decide)).trans g_174
          have g_212 : fs_189[(4 : Nat)]? = some (.ref asked_) := (ga_198 4 (by decide)).trans g_175
          have g_213 : fs_189[(41 : Nat)]? = some (.ref firstToken_) := (ga_198 41 (by decide)).trans g_176
          have g_214 : fs_189[(42 : Nat)]? = some (.ref starred_) := (ga_198 42 (by decide)).trans g_177
          have g_215 : fs_189[(43 : Nat)]? = some (.ref tokenAt_) := (ga_198 43 (by decide)).trans g_178
          have g_216 : fs_189[(44 : Nat)]? = some (.ref tokenSize_) := (ga_198 44 (by decide)).trans g_179
          have g_217 : fs_189[(49 : Nat)]? = some (.ref groupFar_) := (ga_198 49 (by decide)).trans g_180
          have g_218 : fs_189[(33 : Nat)]? = some (.int bd9) := (ga_198 33 (by decide)).trans g33_
          have g_219 : fs_189[(34 : Nat)]? = some (.int (nI i9)) := (ga_198 34 (by decide)).trans g34_
          have g_220 : fs_189[(35 : Nat)]? = some (.int (nI t9)) := (ga_198 35 (by decide)).trans g35_
          have ga_221 : ∀ i : Nat, i ∉ [28, 29, 30, 31, 33, 34, 35] → fs_189[i]? = fs[i]? := fun i hi => (ga_198 i (fun z => hi (by simp only [List.mem_cons, List.not_mem_nil, or_false] at z ⊢; omega))).trans (ga_181 i hi)
          have J_222 := J9.mono (Nat.le_trans PT9.1 hx_190)
          have TK_223 := TK9.mono (Nat.le_trans PT9.1 hx_190)
          have hm_224 := Nat.le_trans PT9.1 hx_190
          have hb_225 := Nat.le_trans PT_191.1 PT_191.2.1
          refine x_le (xw_le_n (xw_le_n (xw_le_n (xw_le_n xw_le_e)))) ?_
          refine s_Model_near_273 ?_
          exact ⟨rfl, _, _, _, _, _, _, _, _, _, _, _, _, PT_191, J_222, TK_223, by omega, by omega, by omega, by omega, fun _ => ⟨by omega, (PH9 z_182).1, (PH9 z_182).2⟩, l_192, e_193, g_194, g_195, g_196, g_197, g_218, g_219, g_220, ga_221, e_204, e_205, e_206, e_207, e_208, r_209⟩
        · skip
          refine s_Model_near_89 ?_
          refine x_callV (As := []) (b := m) (rest := []) (F1 := 4) (L1 := 87) (mc := 0) (ms := 0) d_Model_near_90 cV_Model_257 (f_next (x0 := y9) l9 e9 g28_ g29_ g30_ g31_ g_174 g_175 e_170 PT9.2.1 hasz (by omega) (by omega)) e9 ⟨by decide, rfl⟩ ⟨by omega, by show 8 + (1 + 11) + 87 ≤ _; omega⟩ ⟨by omega, by omega⟩ (Nat.le_of_ble_eq_true rfl) (fun v_241 h_240 p_242 => ?_)
          obtain ⟨rfl, x_226, y_227, kd_228, fs_229, hx_230, PT_231, l_232, e_233, g_234, g_235, g_236, g_237, ga_238, r_239⟩ := p_242
          have e_243 := r_239 asked_ _ (by simp only [List.mem_cons, List.not_mem_nil, or_false, not_or]; exact (xw_neC e_170 e9 (by simp))) e_170
          have e_244 := r_239 firstToken_ _ (by simp only [List.mem_cons, List.not_mem_nil, or_false, not_or]; exact (xw_neC ef9 e9 (by simp))) ef9
          have e_245 := r_239 starred_ _ (by simp only [List.mem_cons, List.not_mem_nil, or_false, not_or]; exact (xw_neC est9 e9 (by simp))) est9
          have e_246 := r_239 tokenAt_ _ (by simp only [List.mem_cons, List.not_mem_nil, or_false, not_or]; exact (xw_neC ea9 e9 (by simp))) ea9
          have e_247 := r_239 tokenSize_ _ (by simp only [List.mem_cons, List.not_mem_nil, or_false, not_or]; exact (xw_neC es9 e9 (by simp))) es9
          have e_248 := r_239 groupFar_ _ (by simp only [List.mem_cons, List.not_mem_nil, or_false, not_or]; exact (xw_neC e_171 e9 (by simp))) e_171
          have r_249 := r_172.trans (r_239.mono (by simp))
          have g_250 : fs_229[(36 : Nat)]? = some (.int (nI g)) := (ga_238 36 (by decide)).trans g_173
          have g_251 : fs_229[(11 : Nat)]? = some (.int (nI asz)) := (ga_238 11 (by decide)).trans g_174
          have g_252 : fs_229[(4 : Nat)]? = some (.ref asked_) := (ga_238 4 (by decide)).trans g_175
          have g_253 : fs_229[(41 : Nat)]? = some (.ref firstToken_) := (ga_238 41 (by decide)).trans g_176
          have g_254 : fs_229[(42 : Nat)]? = some (.ref starred_) := (ga_238 42 (by decide)).trans g_177
          have g_255 : fs_229[(43 : Nat)]? = some (.ref tokenAt_) := (ga_238 43 (by decide)).trans g_178
          have g_256 : fs_229[(44 : Nat)]? = some (.ref tokenSize_) := (ga_238 44 (by decide)).trans g_179
          have g_257 : fs_229[(49 : Nat)]? = some (.ref groupFar_) := (ga_238 49 (by decide)).trans g_180
          have g_258 : fs_229[(33 : Nat)]? = some (.int bd9) := (ga_238 33 (by decide)).trans g33_
          have g_259 : fs_229[(34 : Nat)]? = some (.int (nI i9)) := (ga_238 34 (by decide)).trans g34_
          have g_260 : fs_229[(35 : Nat)]? = some (.int (nI t9)) := (ga_238 35 (by decide)).trans g35_
          have ga_261 : ∀ i : Nat, i ∉ [28, 29, 30, 31, 33, 34, 35] → fs_229[i]? = fs[i]? := fun i hi => (ga_238 i (fun z => hi (by simp only [List.mem_cons, List.not_mem_nil, or_false] at z ⊢; omega))).trans (ga_181 i hi)
          have J_262 := J9.mono (Nat.le_trans PT9.1 hx_230)
          have TK_263 := TK9.mono (Nat.le_trans PT9.1 hx_230)
          have hm_264 := Nat.le_trans PT9.1 hx_230
          have hb_265 := Nat.le_trans PT_231.1 PT_231.2.1
          refine s_Model_near_93 l_232 e_233 g_236 ?_
          refine x_callV (As := [.int (nI x_226)]) (b := m) (rest := []) (F1 := 1) (L1 := 20) (mc := 0) (ms := 0) d_Model_near_98 cV_Model_221 (f_q (x := x_226) l_232 e_233 g_251 g_252 e_243 (by omega) (by omega) (by omega) (by omega)) e_233 ⟨by decide, rfl⟩ ⟨by omega, by show 8 + (2 + 11) + 20 ≤ _; omega⟩ ⟨by omega, by omega⟩ (Nat.le_of_ble_eq_true rfl) (fun v_267 h_266 p_268 => ?_)
          obtain ⟨rfl, rfl⟩ := p_268
          refine s_Model_near_101 l_232 e_233 g_236 ?_
          rw [show (nI x_226) + 1 = nI (x_226 + 1) from nI_1 _]
          refine x_callV (As := [.int (nI (x_226 + 1))]) (b := m) (rest := []) (F1 := 1) (L1 := 20) (mc := 0) (ms := 0) d_Model_near_112 cV_Model_221 (f_q (x := x_226 + 1) l_232 e_233 g_251 g_252 e_243 (by omega) (by omega) (by omega) (by omega)) e_233 ⟨by decide, rfl⟩ ⟨by omega, by show 8 + (2 + 11) + 20 ≤ _; omega⟩ ⟨by omega, by omega⟩ (Nat.le_of_ble_eq_true rfl) (fun v_270 h_269 p_271 => ?_)
          obtain ⟨rfl, rfl⟩ := p_271
          refine s_Model_near_115 l_232 e_233 g_235 (fun z_272 => ?_) (fun z_273 => ?_)
          · skip
            refine s_Model_near_177 ?_
            refine s_Model_near_178 (fun z => absurd z (by decide)) (fun z_274 => ?_)
            refine s_Model_near_184 ?_
            refine s_Model_near_189 l_232 e_233 g_236 ?_
            refine x_callV (As := [.int 1, .int (nI x_226)]) (b := m) (rest := []) (F1 := 1) (L1 := 20) (mc := 0) (ms := 0) d_Model_near_193 cV_Model_250 (f_wrongs (k := x_226) l_232 e_233 g_258 (by omega) (by omega) (by omega)) e_233 ⟨by decide, rfl⟩ ⟨by omega, by show 8 + (3 + 11) + 20 ≤ _; omega⟩ ⟨by omega, by omega⟩ (Nat.le_of_ble_eq_true rfl) (fun v_285 h_284 p_286 => ?_)
            obtain ⟨rfl, bd_275, fs_276, hw_277, hk_278, l_279, e_280, g_281, ga_282, r_283⟩ := p_286
            have e_287 := r_283 asked_ _ (by simp only [List.mem_cons, List.not_mem_nil, or_false, not_or]; exact (xw_neC e_243 e_233 (by simp))) e_243
            have e_288 := r_283 firstToken_ _ (by simp only [List.mem_cons, List.not_mem_nil, or_false, not_or]; exact (xw_neC e_244 e_233 (by simp))) e_244
            have e_289 := r_283 starred_ _ (by simp only [List.mem_cons, List.not_mem_nil, or_false, not_or]; exact (xw_neC e_245 e_233 (by simp))) e_245
            have e_290 := r_283 tokenAt_ _ (by simp only [List.mem_cons, List.not_mem_nil, or_false, not_or]; exact (xw_neC e_246 e_233 (by simp))) e_246
            have e_291 := r_283 tokenSize_ _ (by simp only [List.mem_cons, List.not_mem_nil, or_false, not_or]; exact (xw_neC e_247 e_233 (by simp))) e_247
            have e_292 := r_283 groupFar_ _ (by simp only [List.mem_cons, List.not_mem_nil, or_false, not_or]; exact (xw_neC e_248 e_233 (by simp))) e_248
            have r_293 := r_249.trans (r_283.mono (by simp))
            have g_294 : fs_276[(36 : Nat)]? = some (.int (nI g)) := (ga_282 36 (by decide)).trans g_250
            have g_295 : fs_276[(11 : Nat)]? = some (.int (nI asz)) := (ga_282 11 (by decide)).trans g_251
            have g_296 : fs_276[(4 : Nat)]? = some (.ref asked_) := (ga_282 4 (by decide)).trans g_252
            have g_297 : fs_276[(41 : Nat)]? = some (.ref firstToken_) := (ga_282 41 (by decide)).trans g_253
            have g_298 : fs_276[(42 : Nat)]? = some (.ref starred_) := (ga_282 42 (by decide)).trans g_254
            have g_299 : fs_276[(43 : Nat)]? = some (.ref tokenAt_) := (ga_282 43 (by decide)).trans g_255
            have g_300 : fs_276[(44 : Nat)]? = some (.ref tokenSize_) := (ga_282 44 (by decide)).trans g_256
            have g_301 : fs_276[(49 : Nat)]? = some (.ref groupFar_) := (ga_282 49 (by decide)).trans g_257
            have g_302 : fs_276[(34 : Nat)]? = some (.int (nI i9)) := (ga_282 34 (by decide)).trans g_259
            have g_303 : fs_276[(35 : Nat)]? = some (.int (nI t9)) := (ga_282 35 (by decide)).trans g_260
            have g_304 : fs_276[(28 : Nat)]? = some (.int (nI x_226)) := (ga_282 28 (by decide)).trans g_234
            have g_305 : fs_276[(29 : Nat)]? = some (.int kd_228) := (ga_282 29 (by decide)).trans g_235
            have g_306 : fs_276[(30 : Nat)]? = some (.int (nI x_226)) := (ga_282 30 (by decide)).trans g_236
            have g_307 : fs_276[(31 : Nat)]? = some (.int (nI y_227)) := (ga_282 31 (by decide)).trans g_237
            have ga_308 : ∀ i : Nat, i ∉ [28, 29, 30, 31, 33, 34, 35] → fs_276[i]? = fs[i]? := fun i hi => (ga_282 i (fun z => hi (by simp only [List.mem_cons, List.not_mem_nil, or_false] at z ⊢; omega))).trans (ga_261 i hi)
            refine s_Model_near_196 l_279 e_280 g_281 (fun z => absurd (hw_277 z).1 (by decide)) (fun z_309 => ?_)
            refine s_Model_near_203 ?_
            exact ⟨rfl, _, _, _, _, _, _, _, _, _, _, _, _, PT_231, J_262, TK_263, by omega, by omega, by omega, by omega, fun q => absurd q z_309, l_279, e_280, g_304, g_305, g_306, g_307, g_281, g_302, g_303, ga_308, e_288, e_289, e_290, e_291, e_292, r_293⟩
          · skip
            refine s_Model_near_127 ?_
            refine x_callS (As := [.int ((qv fa asz x_226) - 48), .int 0, .int 9]) (rest := []) (F1 := 1) (L1 := 20) (mc := 0) (ms := 0) d_Model_near_131 cS_Model_133 (f_inB (by omega) (by omega)) ⟨by omega, by show 8 + (3 + 11) + 20 ≤ _; omega⟩ ⟨by omega, by omega⟩ (Nat.le_of_ble_eq_true rfl) (fun v_311 h_310 p_312 => ?_)
            obtain ⟨rfl, rfl⟩ := p_312
            refine s_Model_near_134 (fun z_313 => ?_) (fun z_314 => ?_)
            · skip
              refine s_Model_near_177 ?_
              refine s_Model_near_178 (fun z => absurd z (by decide)) (fun z_315 => ?_)
              refine s_Model_near_184 ?_
              refine s_Model_near_189 l_232 e_233 g_236 ?_
              refine x_callV (As := [.int 1, .int (nI x_226)]) (b := m) (rest := []) (F1 := 1) (L1 := 20) (mc := 0) (ms := 0) d_Model_near_193 cV_Model_250 (f_wrongs (k := x_226) l_232 e_233 g_258 (by omega) (by omega) (by omega)) e_233 ⟨by decide, rfl⟩ ⟨by omega, by show 8 + (3 + 11) + 20 ≤ _; omega⟩ ⟨by omega, by omega⟩ (Nat.le_of_ble_eq_true rfl) (fun v_326 h_325 p_327 => ?_)
              obtain ⟨rfl, bd_316, fs_317, hw_318, hk_319, l_320, e_321, g_322, ga_323, r_324⟩ := p_327
              have e_328 := r_324 asked_ _ (by simp only [List.mem_cons, List.not_mem_nil, or_false, not_or]; exact (xw_neC e_243 e_233 (by simp))) e_243
              have e_329 := r_324 firstToken_ _ (by simp only [List.mem_cons, List.not_mem_nil, or_false, not_or]; exact (xw_neC e_244 e_233 (by simp))) e_244
              have e_330 := r_324 starred_ _ (by simp only [List.mem_cons, List.not_mem_nil, or_false, not_or]; exact (xw_neC e_245 e_233 (by simp))) e_245
              have e_331 := r_324 tokenAt_ _ (by simp only [List.mem_cons, List.not_mem_nil, or_false, not_or]; exact (xw_neC e_246 e_233 (by simp))) e_246
              have e_332 := r_324 tokenSize_ _ (by simp only [List.mem_cons, List.not_mem_nil, or_false, not_or]; exact (xw_neC e_247 e_233 (by simp))) e_247
              have e_333 := r_324 groupFar_ _ (by simp only [List.mem_cons, List.not_mem_nil, or_false, not_or]; exact (xw_neC e_248 e_233 (by simp))) e_248
              have r_334 := r_249.trans (r_324.mono (by simp))
              have g_335 : fs_317[(36 : Nat)]? = some (.int (nI g)) := (ga_323 36 (by decide)).trans g_250
              have g_336 : fs_317[(11 : Nat)]? = some (.int (nI asz)) := (ga_323 11 (by decide)).trans g_251
              have g_337 : fs_317[(4 : Nat)]? = some (.ref asked_) := (ga_323 4 (by decide)).trans g_252
              have g_338 : fs_317[(41 : Nat)]? = some (.ref firstToken_) := (ga_323 41 (by decide)).trans g_253
              have g_339 : fs_317[(42 : Nat)]? = some (.ref starred_) := (ga_323 42 (by decide)).trans g_254
              have g_340 : fs_317[(43 : Nat)]? = some (.ref tokenAt_) := (ga_323 43 (by decide)).trans g_255
              have g_341 : fs_317[(44 : Nat)]? = some (.ref tokenSize_) := (ga_323 44 (by decide)).trans g_256
              have g_342 : fs_317[(49 : Nat)]? = some (.ref groupFar_) := (ga_323 49 (by decide)).trans g_257
              have g_343 : fs_317[(34 : Nat)]? = some (.int (nI i9)) := (ga_323 34 (by decide)).trans g_259
              have g_344 : fs_317[(35 : Nat)]? = some (.int (nI t9)) := (ga_323 35 (by decide)).trans g_260
              have g_345 : fs_317[(28 : Nat)]? = some (.int (nI x_226)) := (ga_323 28 (by decide)).trans g_234
              have g_346 : fs_317[(29 : Nat)]? = some (.int kd_228) := (ga_323 29 (by decide)).trans g_235
              have g_347 : fs_317[(30 : Nat)]? = some (.int (nI x_226)) := (ga_323 30 (by decide)).trans g_236
              have g_348 : fs_317[(31 : Nat)]? = some (.int (nI y_227)) := (ga_323 31 (by decide)).trans g_237
              have ga_349 : ∀ i : Nat, i ∉ [28, 29, 30, 31, 33, 34, 35] → fs_317[i]? = fs[i]? := fun i hi => (ga_323 i (fun z => hi (by simp only [List.mem_cons, List.not_mem_nil, or_false] at z ⊢; omega))).trans (ga_261 i hi)
              refine s_Model_near_196 l_320 e_321 g_322 (fun z => absurd (hw_318 z).1 (by decide)) (fun z_350 => ?_)
              refine s_Model_near_203 ?_
              exact ⟨rfl, _, _, _, _, _, _, _, _, _, _, _, _, PT_231, J_262, TK_263, by omega, by omega, by omega, by omega, fun q => absurd q z_350, l_320, e_321, g_345, g_346, g_347, g_348, g_322, g_343, g_344, ga_349, e_329, e_330, e_331, e_332, e_333, r_334⟩
            · skip
              refine s_Model_near_137 l_232 e_233 g_237 g_236 (fun z_351 => ?_) (fun z_352 => ?_)
              · skip
                refine s_Model_near_173 ?_
                refine s_Model_near_178 (fun z_353 => ?_) (fun z => absurd z (by decide))
                refine s_Model_near_188 ?_
                refine s_Model_near_189 l_232 e_233 g_236 ?_
                refine x_callV (As := [.int 0, .int (nI x_226)]) (b := m) (rest := []) (F1 := 1) (L1 := 20) (mc := 0) (ms := 0) d_Model_near_193 cV_Model_250 (f_wrongs (k := x_226) l_232 e_233 g_258 (by omega) (by omega) (by omega)) e_233 ⟨by decide, rfl⟩ ⟨by omega, by show 8 + (3 + 11) + 20 ≤ _; omega⟩ ⟨by omega, by omega⟩ (Nat.le_of_ble_eq_true rfl) (fun v_364 h_363 p_365 => ?_)
                obtain ⟨rfl, bd_354, fs_355, hw_356, hk_357, l_358, e_359, g_360, ga_361, r_362⟩ := p_365
                have e_366 := r_362 asked_ _ (by simp only [List.mem_cons, List.not_mem_nil, or_false, not_or]; exact (xw_neC e_243 e_233 (by simp))) e_243
                have e_367 := r_362 firstToken_ _ (by simp only [List.mem_cons, List.not_mem_nil, or_false, not_or]; exact (xw_neC e_244 e_233 (by simp))) e_244
                have e_368 := r_362 starred_ _ (by simp only [List.mem_cons, List.not_mem_nil, or_false, not_or]; exact (xw_neC e_245 e_233 (by simp))) e_245
                have e_369 := r_362 tokenAt_ _ (by simp only [List.mem_cons, List.not_mem_nil, or_false, not_or]; exact (xw_neC e_246 e_233 (by simp))) e_246
                have e_370 := r_362 tokenSize_ _ (by simp only [List.mem_cons, List.not_mem_nil, or_false, not_or]; exact (xw_neC e_247 e_233 (by simp))) e_247
                have e_371 := r_362 groupFar_ _ (by simp only [List.mem_cons, List.not_mem_nil, or_false, not_or]; exact (xw_neC e_248 e_233 (by simp))) e_248
                have r_372 := r_249.trans (r_362.mono (by simp))
                have g_373 : fs_355[(36 : Nat)]? = some (.int (nI g)) := (ga_361 36 (by decide)).trans g_250
                have g_374 : fs_355[(11 : Nat)]? = some (.int (nI asz)) := (ga_361 11 (by decide)).trans g_251
                have g_375 : fs_355[(4 : Nat)]? = some (.ref asked_) := (ga_361 4 (by decide)).trans g_252
                have g_376 : fs_355[(41 : Nat)]? = some (.ref firstToken_) := (ga_361 41 (by decide)).trans g_253
                have g_377 : fs_355[(42 : Nat)]? = some (.ref starred_) := (ga_361 42 (by decide)).trans g_254
                have g_378 : fs_355[(43 : Nat)]? = some (.ref tokenAt_) := (ga_361 43 (by decide)).trans g_255
                have g_379 : fs_355[(44 : Nat)]? = some (.ref tokenSize_) := (ga_361 44 (by decide)).trans g_256
                have g_380 : fs_355[(49 : Nat)]? = some (.ref groupFar_) := (ga_361 49 (by decide)).trans g_257
                have g_381 : fs_355[(34 : Nat)]? = some (.int (nI i9)) := (ga_361 34 (by decide)).trans g_259
                have g_382 : fs_355[(35 : Nat)]? = some (.int (nI t9)) := (ga_361 35 (by decide)).trans g_260
                have g_383 : fs_355[(28 : Nat)]? = some (.int (nI x_226)) := (ga_361 28 (by decide)).trans g_234
                have g_384 : fs_355[(29 : Nat)]? = some (.int kd_228) := (ga_361 29 (by decide)).trans g_235
                have g_385 : fs_355[(30 : Nat)]? = some (.int (nI x_226)) := (ga_361 30 (by decide)).trans g_236
                have g_386 : fs_355[(31 : Nat)]? = some (.int (nI y_227)) := (ga_361 31 (by decide)).trans g_237
                have ga_387 : ∀ i : Nat, i ∉ [28, 29, 30, 31, 33, 34, 35] → fs_355[i]? = fs[i]? := fun i hi => (ga_361 i (fun z => hi (by simp only [List.mem_cons, List.not_mem_nil, or_false] at z ⊢; omega))).trans (ga_261 i hi)
                refine s_Model_near_196 l_358 e_359 g_360 (fun z_388 => ?_) (fun z_389 => ?_)
                · skip
                  refine s_Model_near_204 (groupFar_a0 := some groupFar_) l_358 e_359 g_380 g_373 g_386 g_385 (fun z => absurd z_351 z) (fun z_390 => ?_)
                  refine s_Model_near_225 ?_
                  refine s_Model_near_235 e_371 (vp_in_nI (by omega) (by omega)) ?_
                  refine x_u1 (fun h_391 e_392 f_393 => ?_)
                  have e_394 := (f_393 asked_ (xw_neC e_366 e_371 (by simp))).trans e_366
                  have e_395 := (f_393 firstToken_ n_firstToken_groupFar).trans e_367
                  have e_396 := (f_393 starred_ n_starred_groupFar).trans e_368
                  have e_397 := (f_393 tokenAt_ (xw_neC e_369 e_371 (by simp))).trans e_369
                  have e_398 := (f_393 tokenSize_ (xw_neC e_370 e_371 (by simp))).trans e_370
                  have e_399 := (f_393 m (xw_neC e_359 e_371 (by simp))).trans e_359
                  have r_400 := r_372.up (by simp) f_393
                  refine x_callV (As := []) (b := m) (rest := []) (F1 := 4) (L1 := 87) (mc := 0) (ms := 0) d_Model_near_237 cV_Model_257 (f_next (x0 := y_227) l_358 e_399 g_383 g_384 g_385 g_386 g_374 g_375 e_394 PT_231.2.1 hasz (by omega) (by omega)) e_399 ⟨by decide, rfl⟩ ⟨by omega, by show 8 + (1 + 11) + 87 ≤ _; omega⟩ ⟨by omega, by omega⟩ (Nat.le_of_ble_eq_true rfl) (fun v_416 h_415 p_417 => ?_)
                  obtain ⟨rfl, x_401, y_402, kd_403, fs_404, hx_405, PT_406, l_407, e_408, g_409, g_410, g_411, g_412, ga_413, r_414⟩ := p_417
                  have e_418 := r_414 asked_ _ (by simp only [List.mem_cons, List.not_mem_nil, or_false, not_or]; exact (xw_neC e_394 e_399 (by simp))) e_394
                  have e_419 := r_414 firstToken_ _ (by simp only [List.mem_cons, List.not_mem_nil, or_false, not_or]; exact (xw_neC e_395 e_399 (by simp))) e_395
                  have e_420 := r_414 starred_ _ (by simp only [List.mem_cons, List.not_mem_nil, or_false, not_or]; exact (xw_neC e_396 e_399 (by simp))) e_396
                  have e_421 := r_414 tokenAt_ _ (by simp only [List.mem_cons, List.not_mem_nil, or_false, not_or]; exact (xw_neC e_397 e_399 (by simp))) e_397
                  have e_422 := r_414 tokenSize_ _ (by simp only [List.mem_cons, List.not_mem_nil, or_false, not_or]; exact (xw_neC e_398 e_399 (by simp))) e_398
                  have e_423 := r_414 groupFar_ _ (by simp only [List.mem_cons, List.not_mem_nil, or_false, not_or]; exact (xw_neC e_392 e_399 (by simp))) e_392
                  have r_424 := r_400.trans (r_414.mono (by simp))
                  have g_425 : fs_404[(36 : Nat)]? = some (.int (nI g)) := (ga_413 36 (by decide)).trans g_373
                  have g_426 : fs_404[(11 : Nat)]? = some (.int (nI asz)) := (ga_413 11 (by decide)).trans g_374
                  have g_427 : fs_404[(4 : Nat)]? = some (.ref asked_) := (ga_413 4 (by decide)).trans g_375
                  have g_428 : fs_404[(41 : Nat)]? = some (.ref firstToken_) := (ga_413 41 (by decide)).trans g_376
                  have g_429 : fs_404[(42 : Nat)]? = some (.ref starred_) := (ga_413 42 (by decide)).trans g_377
                  have g_430 : fs_404[(43 : Nat)]? = some (.ref tokenAt_) := (ga_413 43 (by decide)).trans g_378
                  have g_431 : fs_404[(44 : Nat)]? = some (.ref tokenSize_) := (ga_413 44 (by decide)).trans g_379
                  have g_432 : fs_404[(49 : Nat)]? = some (.ref groupFar_) := (ga_413 49 (by decide)).trans g_380
                  have g_433 : fs_404[(34 : Nat)]? = some (.int (nI i9)) := (ga_413 34 (by decide)).trans g_381
                  have g_434 : fs_404[(35 : Nat)]? = some (.int (nI t9)) := (ga_413 35 (by decide)).trans g_382
                  have g_435 : fs_404[(33 : Nat)]? = some (.int bd_354) := (ga_413 33 (by decide)).trans g_360
                  have ga_436 : ∀ i : Nat, i ∉ [28, 29, 30, 31, 33, 34, 35] → fs_404[i]? = fs[i]? := fun i hi => (ga_413 i (fun z => hi (by simp only [List.mem_cons, List.not_mem_nil, or_false] at z ⊢; omega))).trans (ga_387 i hi)
                  have J_437 := J_262.mono (Nat.le_trans PT_231.1 hx_405)
                  have TK_438 := TK_263.mono (Nat.le_trans PT_231.1 hx_405)
                  have hm_439 := Nat.le_trans PT_231.1 hx_405
                  have hb_440 := Nat.le_trans PT_406.1 PT_406.2.1
                  refine s_Model_near_240 l_407 e_408 g_410 (fun z_441 => ?_) (fun z_442 => ?_)
                  · skip
                    refine s_Model_near_253 ?_
                    refine s_Model_near_254 l_407 e_408 g_411 ?_
                    refine x_callV (As := [.int 0, .int (nI x_401)]) (b := m) (rest := []) (F1 := 1) (L1 := 20) (mc := 0) (ms := 0) d_Model_near_258 cV_Model_250 (f_wrongs (k := x_401) l_407 e_408 g_435 (by omega) (by omega) (by omega)) e_408 ⟨by decide, rfl⟩ ⟨by omega, by show 8 + (3 + 11) + 20 ≤ _; omega⟩ ⟨by omega, by omega⟩ (Nat.le_of_ble_eq_true rfl) (fun v_453 h_452 p_454 => ?_)
                    obtain ⟨rfl, bd_443, fs_444, hw_445, hk_446, l_447, e_448, g_449, ga_450, r_451⟩ := p_454
                    have e_455 := r_451 asked_ _ (by simp only [List.mem_cons, List.not_mem_nil, or_false, not_or]; exact (xw_neC e_418 e_408 (by simp))) e_418
                    have e_456 := r_451 firstToken_ _ (by simp only [List.mem_cons, List.not_mem_nil, or_false, not_or]; exact (xw_neC e_419 e_408 (by simp))) e_419
                    have e_457 := r_451 starred_ _ (by simp only [List.mem_cons, List.not_mem_nil, or_false, not_or]; exact (xw_neC e_420 e_408 (by simp))) e_420
                    have e_458 := r_451 tokenAt_ _ (by simp only [List.mem_cons, List.not_mem_nil, or_false, not_or]; exact (xw_neC e_421 e_408 (by simp))) e_421
                    have e_459 := r_451 tokenSize_ _ (by simp only [List.mem_cons, List.not_mem_nil, or_false, not_or]; exact (xw_neC e_422 e_408 (by simp))) e_422
                    have e_460 := r_451 groupFar_ _ (by simp only [List.mem_cons, List.not_mem_nil, or_false, not_or]; exact (xw_neC e_423 e_408 (by simp))) e_423
                    have r_461 := r_424.trans (r_451.mono (by simp))
                    have g_462 : fs_444[(36 : Nat)]? = some (.int (nI g)) := (ga_450 36 (by decide)).trans g_425
                    have g_463 : fs_444[(11 : Nat)]? = some (.int (nI asz)) := (ga_450 11 (by decide)).trans g_426
                    have g_464 : fs_444[(4 : Nat)]? = some (.ref asked_) := (ga_450 4 (by decide)).trans g_427
                    have g_465 : fs_444[(41 : Nat)]? = some (.ref firstToken_) := (ga_450 41 (by decide)).trans g_428
                    have g_466 : fs_444[(42 : Nat)]? = some (.ref starred_) := (ga_450 42 (by decide)).trans g_429
                    have g_467 : fs_444[(43 : Nat)]? = some (.ref tokenAt_) := (ga_450 43 (by decide)).trans g_430
                    have g_468 : fs_444[(44 : Nat)]? = some (.ref tokenSize_) := (ga_450 44 (by decide)).trans g_431
                    have g_469 : fs_444[(49 : Nat)]? = some (.ref groupFar_) := (ga_450 49 (by decide)).trans g_432
                    have g_470 : fs_444[(34 : Nat)]? = some (.int (nI i9)) := (ga_450 34 (by decide)).trans g_433
                    have g_471 : fs_444[(35 : Nat)]? = some (.int (nI t9)) := (ga_450 35 (by decide)).trans g_434
                    have g_472 : fs_444[(28 : Nat)]? = some (.int (nI x_401)) := (ga_450 28 (by decide)).trans g_409
                    have g_473 : fs_444[(29 : Nat)]? = some (.int kd_403) := (ga_450 29 (by decide)).trans g_410
                    have g_474 : fs_444[(30 : Nat)]? = some (.int (nI x_401)) := (ga_450 30 (by decide)).trans g_411
                    have g_475 : fs_444[(31 : Nat)]? = some (.int (nI y_402)) := (ga_450 31 (by decide)).trans g_412
                    have ga_476 : ∀ i : Nat, i ∉ [28, 29, 30, 31, 33, 34, 35] → fs_444[i]? = fs[i]? := fun i hi => (ga_450 i (fun z => hi (by simp only [List.mem_cons, List.not_mem_nil, or_false] at z ⊢; omega))).trans (ga_436 i hi)
                    refine s_Model_near_261 l_447 e_448 g_449 (fun z_477 => ?_) (fun z_478 => ?_)
                    · skip
                      refine s_Model_near_269 ?_
                      refine x_callV (As := []) (b := m) (rest := []) (F1 := 4) (L1 := 87) (mc := 0) (ms := 0) d_Model_near_270 cV_Model_257 (f_next (x0 := y_402) l_447 e_448 g_472 g_473 g_474 g_475 g_463 g_464 e_455 PT_406.2.1 hasz (by omega) (by omega)) e_448 ⟨by decide, rfl⟩ ⟨by omega, by show 8 + (1 + 11) + 87 ≤ _; omega⟩ ⟨by omega, by omega⟩ (Nat.le_of_ble_eq_true rfl) (fun v_494 h_493 p_495 => ?_)
                      obtain ⟨rfl, x_479, y_480, kd_481, fs_482, hx_483, PT_484, l_485, e_486, g_487, g_488, g_489, g_490, ga_491, r_492⟩ := p_495
                      have e_496 := r_492 asked_ _ (by simp only [List.mem_cons, List.not_mem_nil, or_false, not_or]; exact (xw_neC e_455 e_448 (by simp))) e_455
                      have e_497 := r_492 firstToken_ _ (by simp only [List.mem_cons, List.not_mem_nil, or_false, not_or]; exact (xw_neC e_456 e_448 (by simp))) e_456
                      have e_498 := r_492 starred_ _ (by simp only [List.mem_cons, List.not_mem_nil, or_false, not_or]; exact (xw_neC e_457 e_448 (by simp))) e_457
                      have e_499 := r_492 tokenAt_ _ (by simp only [List.mem_cons, List.not_mem_nil, or_false, not_or]; exact (xw_neC e_458 e_448 (by simp))) e_458
                      have e_500 := r_492 tokenSize_ _ (by simp only [List.mem_cons, List.not_mem_nil, or_false, not_or]; exact (xw_neC e_459 e_448 (by simp))) e_459
                      have e_501 := r_492 groupFar_ _ (by simp only [List.mem_cons, List.not_mem_nil, or_false, not_or]; exact (xw_neC e_460 e_448 (by simp))) e_460
                      have r_502 := r_461.trans (r_492.mono (by simp))
                      have g_503 : fs_482[(36 : Nat)]? = some (.int (nI g)) := (ga_491 36 (by decide)).trans g_462
                      have g_504 : fs_482[(11 : Nat)]? = some (.int (nI asz)) := (ga_491 11 (by decide)).trans g_463
                      have g_505 : fs_482[(4 : Nat)]? = some (.ref asked_) := (ga_491 4 (by decide)).trans g_464
                      have g_506 : fs_482[(41 : Nat)]? = some (.ref firstToken_) := (ga_491 41 (by decide)).trans g_465
                      have g_507 : fs_482[(42 : Nat)]? = some (.ref starred_) := (ga_491 42 (by decide)).trans g_466
                      have g_508 : fs_482[(43 : Nat)]? = some (.ref tokenAt_) := (ga_491 43 (by decide)).trans g_467
                      have g_509 : fs_482[(44 : Nat)]? = some (.ref tokenSize_) := (ga_491 44 (by decide)).trans g_468
                      have g_510 : fs_482[(49 : Nat)]? = some (.ref groupFar_) := (ga_491 49 (by decide)).trans g_469
                      have g_511 : fs_482[(34 : Nat)]? = some (.int (nI i9)) := (ga_491 34 (by decide)).trans g_470
                      have g_512 : fs_482[(35 : Nat)]? = some (.int (nI t9)) := (ga_491 35 (by decide)).trans g_471
                      have g_513 : fs_482[(33 : Nat)]? = some (.int bd_443) := (ga_491 33 (by decide)).trans g_449
                      have ga_514 : ∀ i : Nat, i ∉ [28, 29, 30, 31, 33, 34, 35] → fs_482[i]? = fs[i]? := fun i hi => (ga_491 i (fun z => hi (by simp only [List.mem_cons, List.not_mem_nil, or_false] at z ⊢; omega))).trans (ga_476 i hi)
                      have J_515 := J_437.mono (Nat.le_trans PT_406.1 hx_483)
                      have TK_516 := TK_438.mono (Nat.le_trans PT_406.1 hx_483)
                      have hm_517 := Nat.le_trans PT_406.1 hx_483
                      have hb_518 := Nat.le_trans PT_484.1 PT_484.2.1
                      refine x_le (xw_le_n (xw_le_n (xw_le_n (xw_le_n xw_le_e)))) ?_
                      refine s_Model_near_273 ?_
                      exact ⟨rfl, _, _, _, _, _, _, _, _, _, _, _, _, PT_484, J_515, TK_516, by omega, by omega, by omega, by omega, fun _ => ⟨by omega, (PH9 z_182).1, (PH9 z_182).2⟩, l_485, e_486, g_487, g_488, g_489, g_490, g_513, g_511, g_512, ga_514, e_497, e_498, e_499, e_500, e_501, r_502⟩
                    · skip
                      refine s_Model_near_268 ?_
                      exact ⟨rfl, _, _, _, _, _, _, _, _, _, _, _, _, PT_406, J_437, TK_438, by omega, by omega, by omega, by omega, fun q => absurd q z_478, l_447, e_448, g_472, g_473, g_474, g_475, g_449, g_470, g_471, ga_476, e_456, e_457, e_458, e_459, e_460, r_461⟩
                  · skip
                    refine s_Model_near_249 ?_
                    refine s_Model_near_254 l_407 e_408 g_411 ?_
                    refine x_callV (As := [.int 1, .int (nI x_401)]) (b := m) (rest := []) (F1 := 1) (L1 := 20) (mc := 0) (ms := 0) d_Model_near_258 cV_Model_250 (f_wrongs (k := x_401) l_407 e_408 g_435 (by omega) (by omega) (by omega)) e_408 ⟨by decide, rfl⟩ ⟨by omega, by show 8 + (3 + 11) + 20 ≤ _; omega⟩ ⟨by omega, by omega⟩ (Nat.le_of_ble_eq_true rfl) (fun v_529 h_528 p_530 => ?_)
                    obtain ⟨rfl, bd_519, fs_520, hw_521, hk_522, l_523, e_524, g_525, ga_526, r_527⟩ := p_530
                    have e_531 := r_527 asked_ _ (by simp only [List.mem_cons, List.not_mem_nil, or_false, not_or]; exact (xw_neC e_418 e_408 (by simp))) e_418
                    have e_532 := r_527 firstToken_ _ (by simp only [List.mem_cons, List.not_mem_nil, or_false, not_or]; exact (xw_neC e_419 e_408 (by simp))) e_419
                    have e_533 := r_527 starred_ _ (by simp only [List.mem_cons, List.not_mem_nil, or_false, not_or]; exact (xw_neC e_420 e_408 (by simp))) e_420
                    have e_534 := r_527 tokenAt_ _ (by simp only [List.mem_cons, List.not_mem_nil, or_false, not_or]; exact (xw_neC e_421 e_408 (by simp))) e_421
                    have e_535 := r_527 tokenSize_ _ (by simp only [List.mem_cons, List.not_mem_nil, or_false, not_or]; exact (xw_neC e_422 e_408 (by simp))) e_422
                    have e_536 := r_527 groupFar_ _ (by simp only [List.mem_cons, List.not_mem_nil, or_false, not_or]; exact (xw_neC e_423 e_408 (by simp))) e_423
                    have r_537 := r_424.trans (r_527.mono (by simp))
                    have g_538 : fs_520[(36 : Nat)]? = some (.int (nI g)) := (ga_526 36 (by decide)).trans g_425
                    have g_539 : fs_520[(11 : Nat)]? = some (.int (nI asz)) := (ga_526 11 (by decide)).trans g_426
                    have g_540 : fs_520[(4 : Nat)]? = some (.ref asked_) := (ga_526 4 (by decide)).trans g_427
                    have g_541 : fs_520[(41 : Nat)]? = some (.ref firstToken_) := (ga_526 41 (by decide)).trans g_428
                    have g_542 : fs_520[(42 : Nat)]? = some (.ref starred_) := (ga_526 42 (by decide)).trans g_429
                    have g_543 : fs_520[(43 : Nat)]? = some (.ref tokenAt_) := (ga_526 43 (by decide)).trans g_430
                    have g_544 : fs_520[(44 : Nat)]? = some (.ref tokenSize_) := (ga_526 44 (by decide)).trans g_431
                    have g_545 : fs_520[(49 : Nat)]? = some (.ref groupFar_) := (ga_526 49 (by decide)).trans g_432
                    have g_546 : fs_520[(34 : Nat)]? = some (.int (nI i9)) := (ga_526 34 (by decide)).trans g_433
                    have g_547 : fs_520[(35 : Nat)]? = some (.int (nI t9)) := (ga_526 35 (by decide)).trans g_434
                    have g_548 : fs_520[(28 : Nat)]? = some (.int (nI x_401)) := (ga_526 28 (by decide)).trans g_409
                    have g_549 : fs_520[(29 : Nat)]? = some (.int kd_403) := (ga_526 29 (by decide)).trans g_410
                    have g_550 : fs_520[(30 : Nat)]? = some (.int (nI x_401)) := (ga_526 30 (by decide)).trans g_411
                    have g_551 : fs_520[(31 : Nat)]? = some (.int (nI y_402)) := (ga_526 31 (by decide)).trans g_412
                    have ga_552 : ∀ i : Nat, i ∉ [28, 29, 30, 31, 33, 34, 35] → fs_520[i]? = fs[i]? := fun i hi => (ga_526 i (fun z => hi (by simp only [List.mem_cons, List.not_mem_nil, or_false] at z ⊢; omega))).trans (ga_436 i hi)
                    refine s_Model_near_261 l_523 e_524 g_525 (fun z => absurd (hw_521 z).1 (by decide)) (fun z_553 => ?_)
                    refine s_Model_near_268 ?_
                    exact ⟨rfl, _, _, _, _, _, _, _, _, _, _, _, _, PT_406, J_437, TK_438, by omega, by omega, by omega, by omega, fun q => absurd q z_553, l_523, e_524, g_548, g_549, g_550, g_551, g_525, g_546, g_547, ga_552, e_532, e_533, e_534, e_535, e_536, r_537⟩
                · skip
                  refine s_Model_near_203 ?_
                  exact ⟨rfl, _, _, _, _, _, _, _, _, _, _, _, _, PT_231, J_262, TK_263, by omega, by omega, by omega, by omega, fun q => absurd q z_389, l_358, e_359, g_383, g_384, g_385, g_386, g_360, g_381, g_382, ga_387, e_367, e_368, e_369, e_370, e_371, r_372⟩
              · skip
                refine s_Model_near_150 l_232 e_233 g_237 g_236 (fun z_554 => ?_) (fun z_555 => ?_)
                · skip
                  refine s_Model_near_177 ?_
                  refine s_Model_near_178 (fun z => absurd z (by decide)) (fun z_556 => ?_)
                  refine s_Model_near_184 ?_
                  refine s_Model_near_189 l_232 e_233 g_236 ?_
                  refine x_callV (As := [.int 1, .int (nI x_226)]) (b := m) (rest := []) (F1 := 1) (L1 := 20) (mc := 0) (ms := 0) d_Model_near_193 cV_Model_250 (f_wrongs (k := x_226) l_232 e_233 g_258 (by omega) (by omega) (by omega)) e_233 ⟨by decide, rfl⟩ ⟨by omega, by show 8 + (3 + 11) + 20 ≤ _; omega⟩ ⟨by omega, by omega⟩ (Nat.le_of_ble_eq_true rfl) (fun v_567 h_566 p_568 => ?_)
                  obtain ⟨rfl, bd_557, fs_558, hw_559, hk_560, l_561, e_562, g_563, ga_564, r_565⟩ := p_568
                  have e_569 := r_565 asked_ _ (by simp only [List.mem_cons, List.not_mem_nil, or_false, not_or]; exact (xw_neC e_243 e_233 (by simp))) e_243
                  have e_570 := r_565 firstToken_ _ (by simp only [List.mem_cons, List.not_mem_nil, or_false, not_or]; exact (xw_neC e_244 e_233 (by simp))) e_244
                  have e_571 := r_565 starred_ _ (by simp only [List.mem_cons, List.not_mem_nil, or_false, not_or]; exact (xw_neC e_245 e_233 (by simp))) e_245
                  have e_572 := r_565 tokenAt_ _ (by simp only [List.mem_cons, List.not_mem_nil, or_false, not_or]; exact (xw_neC e_246 e_233 (by simp))) e_246
                  have e_573 := r_565 tokenSize_ _ (by simp only [List.mem_cons, List.not_mem_nil, or_false, not_or]; exact (xw_neC e_247 e_233 (by simp))) e_247
                  have e_574 := r_565 groupFar_ _ (by simp only [List.mem_cons, List.not_mem_nil, or_false, not_or]; exact (xw_neC e_248 e_233 (by simp))) e_248
                  have r_575 := r_249.trans (r_565.mono (by simp))
                  have g_576 : fs_558[(36 : Nat)]? = some (.int (nI g)) := (ga_564 36 (by decide)).trans g_250
                  have g_577 : fs_558[(11 : Nat)]? = some (.int (nI asz)) := (ga_564 11 (by decide)).trans g_251
                  have g_578 : fs_558[(4 : Nat)]? = some (.ref asked_) := (ga_564 4 (by decide)).trans g_252
                  have g_579 : fs_558[(41 : Nat)]? = some (.ref firstToken_) := (ga_564 41 (by decide)).trans g_253
                  have g_580 : fs_558[(42 : Nat)]? = some (.ref starred_) := (ga_564 42 (by decide)).trans g_254
                  have g_581 : fs_558[(43 : Nat)]? = some (.ref tokenAt_) := (ga_564 43 (by decide)).trans g_255
                  have g_582 : fs_558[(44 : Nat)]? = some (.ref tokenSize_) := (ga_564 44 (by decide)).trans g_256
                  have g_583 : fs_558[(49 : Nat)]? = some (.ref groupFar_) := (ga_564 49 (by decide)).trans g_257
                  have g_584 : fs_558[(34 : Nat)]? = some (.int (nI i9)) := (ga_564 34 (by decide)).trans g_259
                  have g_585 : fs_558[(35 : Nat)]? = some (.int (nI t9)) := (ga_564 35 (by decide)).trans g_260
                  have g_586 : fs_558[(28 : Nat)]? = some (.int (nI x_226)) := (ga_564 28 (by decide)).trans g_234
                  have g_587 : fs_558[(29 : Nat)]? = some (.int kd_228) := (ga_564 29 (by decide)).trans g_235
                  have g_588 : fs_558[(30 : Nat)]? = some (.int (nI x_226)) := (ga_564 30 (by decide)).trans g_236
                  have g_589 : fs_558[(31 : Nat)]? = some (.int (nI y_227)) := (ga_564 31 (by decide)).trans g_237
                  have ga_590 : ∀ i : Nat, i ∉ [28, 29, 30, 31, 33, 34, 35] → fs_558[i]? = fs[i]? := fun i hi => (ga_564 i (fun z => hi (by simp only [List.mem_cons, List.not_mem_nil, or_false] at z ⊢; omega))).trans (ga_261 i hi)
                  refine s_Model_near_196 l_561 e_562 g_563 (fun z => absurd (hw_559 z).1 (by decide)) (fun z_591 => ?_)
                  refine s_Model_near_203 ?_
                  exact ⟨rfl, _, _, _, _, _, _, _, _, _, _, _, _, PT_231, J_262, TK_263, by omega, by omega, by omega, by omega, fun q => absurd q z_591, l_561, e_562, g_586, g_587, g_588, g_589, g_563, g_584, g_585, ga_590, e_570, e_571, e_572, e_573, e_574, r_575⟩
                · skip
                  refine s_Model_near_163 ?_
                  refine x_callS (As := [.int ((qv fa asz (x_226 + 1)) - 48), .int 0, .int 9]) (rest := []) (F1 := 1) (L1 := 20) (mc := 0) (ms := 0) d_Model_near_167 cS_Model_133 (f_inB (by omega) (by omega)) ⟨by omega, by show 8 + (3 + 11) + 20 ≤ _; omega⟩ ⟨by omega, by omega⟩ (Nat.le_of_ble_eq_true rfl) (fun v_593 h_592 p_594 => ?_)
                  obtain ⟨rfl, rfl⟩ := p_594
                  refine s_Model_near_170 (fun z_595 => ?_) (fun z_596 => ?_)
                  · skip
                    refine s_Model_near_177 ?_
                    refine s_Model_near_178 (fun z => absurd z (by decide)) (fun z_597 => ?_)
                    refine s_Model_near_184 ?_
                    refine s_Model_near_189 l_232 e_233 g_236 ?_
                    refine x_callV (As := [.int 1, .int (nI x_226)]) (b := m) (rest := []) (F1 := 1) (L1 := 20) (mc := 0) (ms := 0) d_Model_near_193 cV_Model_250 (f_wrongs (k := x_226) l_232 e_233 g_258 (by omega) (by omega) (by omega)) e_233 ⟨by decide, rfl⟩ ⟨by omega, by show 8 + (3 + 11) + 20 ≤ _; omega⟩ ⟨by omega, by omega⟩ (Nat.le_of_ble_eq_true rfl) (fun v_608 h_607 p_609 => ?_)
                    obtain ⟨rfl, bd_598, fs_599, hw_600, hk_601, l_602, e_603, g_604, ga_605, r_606⟩ := p_609
                    have e_610 := r_606 asked_ _ (by simp only [List.mem_cons, List.not_mem_nil, or_false, not_or]; exact (xw_neC e_243 e_233 (by simp))) e_243
                    have e_611 := r_606 firstToken_ _ (by simp only [List.mem_cons, List.not_mem_nil, or_false, not_or]; exact (xw_neC e_244 e_233 (by simp))) e_244
                    have e_612 := r_606 starred_ _ (by simp only [List.mem_cons, List.not_mem_nil, or_false, not_or]; exact (xw_neC e_245 e_233 (by simp))) e_245
                    have e_613 := r_606 tokenAt_ _ (by simp only [List.mem_cons, List.not_mem_nil, or_false, not_or]; exact (xw_neC e_246 e_233 (by simp))) e_246
                    have e_614 := r_606 tokenSize_ _ (by simp only [List.mem_cons, List.not_mem_nil, or_false, not_or]; exact (xw_neC e_247 e_233 (by simp))) e_247
                    have e_615 := r_606 groupFar_ _ (by simp only [List.mem_cons, List.not_mem_nil, or_false, not_or]; exact (xw_neC e_248 e_233 (by simp))) e_248
                    have r_616 := r_249.trans (r_606.mono (by simp))
                    have g_617 : fs_599[(36 : Nat)]? = some (.int (nI g)) := (ga_605 36 (by decide)).trans g_250
                    have g_618 : fs_599[(11 : Nat)]? = some (.int (nI asz)) := (ga_605 11 (by decide)).trans g_251
                    have g_619 : fs_599[(4 : Nat)]? = some (.ref asked_) := (ga_605 4 (by decide)).trans g_252
                    have g_620 : fs_599[(41 : Nat)]? = some (.ref firstToken_) := (ga_605 41 (by decide)).trans g_253
                    have g_621 : fs_599[(42 : Nat)]? = some (.ref starred_) := (ga_605 42 (by decide)).trans g_254
                    have g_622 : fs_599[(43 : Nat)]? = some (.ref tokenAt_) := (ga_605 43 (by decide)).trans g_255
                    have g_623 : fs_599[(44 : Nat)]? = some (.ref tokenSize_) := (ga_605 44 (by decide)).trans g_256
                    have g_624 : fs_599[(49 : Nat)]? = some (.ref groupFar_) := (ga_605 49 (by decide)).trans g_257
                    have g_625 : fs_599[(34 : Nat)]? = some (.int (nI i9)) := (ga_605 34 (by decide)).trans g_259
                    have g_626 : fs_599[(35 : Nat)]? = some (.int (nI t9)) := (ga_605 35 (by decide)).trans g_260
                    have g_627 : fs_599[(28 : Nat)]? = some (.int (nI x_226)) := (ga_605 28 (by decide)).trans g_234
                    have g_628 : fs_599[(29 : Nat)]? = some (.int kd_228) := (ga_605 29 (by decide)).trans g_235
                    have g_629 : fs_599[(30 : Nat)]? = some (.int (nI x_226)) := (ga_605 30 (by decide)).trans g_236
                    have g_630 : fs_599[(31 : Nat)]? = some (.int (nI y_227)) := (ga_605 31 (by decide)).trans g_237
                    have ga_631 : ∀ i : Nat, i ∉ [28, 29, 30, 31, 33, 34, 35] → fs_599[i]? = fs[i]? := fun i hi => (ga_605 i (fun z => hi (by simp only [List.mem_cons, List.not_mem_nil, or_false] at z ⊢; omega))).trans (ga_261 i hi)
                    refine s_Model_near_196 l_602 e_603 g_604 (fun z => absurd (hw_600 z).1 (by decide)) (fun z_632 => ?_)
                    refine s_Model_near_203 ?_
                    exact ⟨rfl, _, _, _, _, _, _, _, _, _, _, _, _, PT_231, J_262, TK_263, by omega, by omega, by omega, by omega, fun q => absurd q z_632, l_602, e_603, g_627, g_628, g_629, g_630, g_604, g_625, g_626, ga_631, e_611, e_612, e_613, e_614, e_615, r_616⟩
                  · skip
                    refine s_Model_near_173 ?_
                    refine s_Model_near_178 (fun z_633 => ?_) (fun z => absurd z (by decide))
                    refine s_Model_near_188 ?_
                    refine s_Model_near_189 l_232 e_233 g_236 ?_
                    refine x_callV (As := [.int 0, .int (nI x_226)]) (b := m) (rest := []) (F1 := 1) (L1 := 20) (mc := 0) (ms := 0) d_Model_near_193 cV_Model_250 (f_wrongs (k := x_226) l_232 e_233 g_258 (by omega) (by omega) (by omega)) e_233 ⟨by decide, rfl⟩ ⟨by omega, by show 8 + (3 + 11) + 20 ≤ _; omega⟩ ⟨by omega, by omega⟩ (Nat.le_of_ble_eq_true rfl) (fun v_644 h_643 p_645 => ?_)
                    obtain ⟨rfl, bd_634, fs_635, hw_636, hk_637, l_638, e_639, g_640, ga_641, r_642⟩ := p_645
                    have e_646 := r_642 asked_ _ (by simp only [List.mem_cons, List.not_mem_nil, or_false, not_or]; exact (xw_neC e_243 e_233 (by simp))) e_243
                    have e_647 := r_642 firstToken_ _ (by simp only [List.mem_cons, List.not_mem_nil, or_false, not_or]; exact (xw_neC e_244 e_233 (by simp))) e_244
                    have e_648 := r_642 starred_ _ (by simp only [List.mem_cons, List.not_mem_nil, or_false, not_or]; exact (xw_neC e_245 e_233 (by simp))) e_245
                    have e_649 := r_642 tokenAt_ _ (by simp only [List.mem_cons, List.not_mem_nil, or_false, not_or]; exact (xw_neC e_246 e_233 (by simp))) e_246
                    have e_650 := r_642 tokenSize_ _ (by simp only [List.mem_cons, List.not_mem_nil, or_false, not_or]; exact (xw_neC e_247 e_233 (by simp))) e_247
                    have e_651 := r_642 groupFar_ _ (by simp only [List.mem_cons, List.not_mem_nil, or_false, not_or]; exact (xw_neC e_248 e_233 (by simp))) e_248
                    have r_652 := r_249.trans (r_642.mono (by simp))
                    have g_653 : fs_635[(36 : Nat)]? = some (.int (nI g)) := (ga_641 36 (by decide)).trans g_250
                    have g_654 : fs_635[(11 : Nat)]? = some (.int (nI asz)) := (ga_641 11 (by decide)).trans g_251
                    have g_655 : fs_635[(4 : Nat)]? = some (.ref asked_) := (ga_641 4 (by decide)).trans g_252
                    have g_656 : fs_635[(41 : Nat)]? = some (.ref firstToken_) := (ga_641 41 (by decide)).trans g_253
                    have g_657 : fs_635[(42 : Nat)]? = some (.ref starred_) := (ga_641 42 (by decide)).trans g_254
                    have g_658 : fs_635[(43 : Nat)]? = some (.ref tokenAt_) := (ga_641 43 (by decide)).trans g_255
                    have g_659 : fs_635[(44 : Nat)]? = some (.ref tokenSize_) := (ga_641 44 (by decide)).trans g_256
                    have g_660 : fs_635[(49 : Nat)]? = some (.ref groupFar_) := (ga_641 49 (by decide)).trans g_257
                    have g_661 : fs_635[(34 : Nat)]? = some (.int (nI i9)) := (ga_641 34 (by decide)).trans g_259
                    have g_662 : fs_635[(35 : Nat)]? = some (.int (nI t9)) := (ga_641 35 (by decide)).trans g_260
                    have g_663 : fs_635[(28 : Nat)]? = some (.int (nI x_226)) := (ga_641 28 (by decide)).trans g_234
                    have g_664 : fs_635[(29 : Nat)]? = some (.int kd_228) := (ga_641 29 (by decide)).trans g_235
                    have g_665 : fs_635[(30 : Nat)]? = some (.int (nI x_226)) := (ga_641 30 (by decide)).trans g_236
                    have g_666 : fs_635[(31 : Nat)]? = some (.int (nI y_227)) := (ga_641 31 (by decide)).trans g_237
                    have ga_667 : ∀ i : Nat, i ∉ [28, 29, 30, 31, 33, 34, 35] → fs_635[i]? = fs[i]? := fun i hi => (ga_641 i (fun z => hi (by simp only [List.mem_cons, List.not_mem_nil, or_false] at z ⊢; omega))).trans (ga_261 i hi)
                    refine s_Model_near_196 l_638 e_639 g_640 (fun z_668 => ?_) (fun z_669 => ?_)
                    · skip
                      refine s_Model_near_204 (groupFar_a0 := some groupFar_) l_638 e_639 g_660 g_653 g_666 g_665 (fun z_670 => ?_) (fun z => absurd z z_352)
                      refine s_Model_near_229 ?_
                      refine s_Model_near_235 e_651 (vp_in_nI (by omega) (by omega)) ?_
                      refine x_u1 (fun h_671 e_672 f_673 => ?_)
                      have e_674 := (f_673 asked_ (xw_neC e_646 e_651 (by simp))).trans e_646
                      have e_675 := (f_673 firstToken_ n_firstToken_groupFar).trans e_647
                      have e_676 := (f_673 starred_ n_starred_groupFar).trans e_648
                      have e_677 := (f_673 tokenAt_ (xw_neC e_649 e_651 (by simp))).trans e_649
                      have e_678 := (f_673 tokenSize_ (xw_neC e_650 e_651 (by simp))).trans e_650
                      have e_679 := (f_673 m (xw_neC e_639 e_651 (by simp))).trans e_639
                      have r_680 := r_652.up (by simp) f_673
                      refine x_callV (As := []) (b := m) (rest := []) (F1 := 4) (L1 := 87) (mc := 0) (ms := 0) d_Model_near_237 cV_Model_257 (f_next (x0 := y_227) l_638 e_679 g_663 g_664 g_665 g_666 g_654 g_655 e_674 PT_231.2.1 hasz (by omega) (by omega)) e_679 ⟨by decide, rfl⟩ ⟨by omega, by show 8 + (1 + 11) + 87 ≤ _; omega⟩ ⟨by omega, by omega⟩ (Nat.le_of_ble_eq_true rfl) (fun v_696 h_695 p_697 => ?_)
                      obtain ⟨rfl, x_681, y_682, kd_683, fs_684, hx_685, PT_686, l_687, e_688, g_689, g_690, g_691, g_692, ga_693, r_694⟩ := p_697
                      have e_698 := r_694 asked_ _ (by simp only [List.mem_cons, List.not_mem_nil, or_false, not_or]; exact (xw_neC e_674 e_679 (by simp))) e_674
                      have e_699 := r_694 firstToken_ _ (by simp only [List.mem_cons, List.not_mem_nil, or_false, not_or]; exact (xw_neC e_675 e_679 (by simp))) e_675
                      have e_700 := r_694 starred_ _ (by simp only [List.mem_cons, List.not_mem_nil, or_false, not_or]; exact (xw_neC e_676 e_679 (by simp))) e_676
                      have e_701 := r_694 tokenAt_ _ (by simp only [List.mem_cons, List.not_mem_nil, or_false, not_or]; exact (xw_neC e_677 e_679 (by simp))) e_677
                      have e_702 := r_694 tokenSize_ _ (by simp only [List.mem_cons, List.not_mem_nil, or_false, not_or]; exact (xw_neC e_678 e_679 (by simp))) e_678
                      have e_703 := r_694 groupFar_ _ (by simp only [List.mem_cons, List.not_mem_nil, or_false, not_or]; exact (xw_neC e_672 e_679 (by simp))) e_672
                      have r_704 := r_680.trans (r_694.mono (by simp))
                      have g_705 : fs_684[(36 : Nat)]? = some (.int (nI g)) := (ga_693 36 (by decide)).trans g_653
                      have g_706 : fs_684[(11 : Nat)]? = some (.int (nI asz)) := (ga_693 11 (by decide)).trans g_654
                      have g_707 : fs_684[(4 : Nat)]? = some (.ref asked_) := (ga_693 4 (by decide)).trans g_655
                      have g_708 : fs_684[(41 : Nat)]? = some (.ref firstToken_) := (ga_693 41 (by decide)).trans g_656
                      have g_709 : fs_684[(42 : Nat)]? = some (.ref starred_) := (ga_693 42 (by decide)).trans g_657
                      have g_710 : fs_684[(43 : Nat)]? = some (.ref tokenAt_) := (ga_693 43 (by decide)).trans g_658
                      have g_711 : fs_684[(44 : Nat)]? = some (.ref tokenSize_) := (ga_693 44 (by decide)).trans g_659
                      have g_712 : fs_684[(49 : Nat)]? = some (.ref groupFar_) := (ga_693 49 (by decide)).trans g_660
                      have g_713 : fs_684[(34 : Nat)]? = some (.int (nI i9)) := (ga_693 34 (by decide)).trans g_661
                      have g_714 : fs_684[(35 : Nat)]? = some (.int (nI t9)) := (ga_693 35 (by decide)).trans g_662
                      have g_715 : fs_684[(33 : Nat)]? = some (.int bd_634) := (ga_693 33 (by decide)).trans g_640
                      have ga_716 : ∀ i : Nat, i ∉ [28, 29, 30, 31, 33, 34, 35] → fs_684[i]? = fs[i]? := fun i hi => (ga_693 i (fun z => hi (by simp only [List.mem_cons, List.not_mem_nil, or_false] at z ⊢; omega))).trans (ga_667 i hi)
                      have J_717 := J_262.mono (Nat.le_trans PT_231.1 hx_685)
                      have TK_718 := TK_263.mono (Nat.le_trans PT_231.1 hx_685)
                      have hm_719 := Nat.le_trans PT_231.1 hx_685
                      have hb_720 := Nat.le_trans PT_686.1 PT_686.2.1
                      refine s_Model_near_240 l_687 e_688 g_690 (fun z_721 => ?_) (fun z_722 => ?_)
                      · skip
                        refine s_Model_near_253 ?_
                        refine s_Model_near_254 l_687 e_688 g_691 ?_
                        refine x_callV (As := [.int 0, .int (nI x_681)]) (b := m) (rest := []) (F1 := 1) (L1 := 20) (mc := 0) (ms := 0) d_Model_near_258 cV_Model_250 (f_wrongs (k := x_681) l_687 e_688 g_715 (by omega) (by omega) (by omega)) e_688 ⟨by decide, rfl⟩ ⟨by omega, by show 8 + (3 + 11) + 20 ≤ _; omega⟩ ⟨by omega, by omega⟩ (Nat.le_of_ble_eq_true rfl) (fun v_733 h_732 p_734 => ?_)
                        obtain ⟨rfl, bd_723, fs_724, hw_725, hk_726, l_727, e_728, g_729, ga_730, r_731⟩ := p_734
                        have e_735 := r_731 asked_ _ (by simp only [List.mem_cons, List.not_mem_nil, or_false, not_or]; exact (xw_neC e_698 e_688 (by simp))) e_698
                        have e_736 := r_731 firstToken_ _ (by simp only [List.mem_cons, List.not_mem_nil, or_false, not_or]; exact (xw_neC e_699 e_688 (by simp))) e_699
                        have e_737 := r_731 starred_ _ (by simp only [List.mem_cons, List.not_mem_nil, or_false, not_or]; exact (xw_neC e_700 e_688 (by simp))) e_700
                        have e_738 := r_731 tokenAt_ _ (by simp only [List.mem_cons, List.not_mem_nil, or_false, not_or]; exact (xw_neC e_701 e_688 (by simp))) e_701
                        have e_739 := r_731 tokenSize_ _ (by simp only [List.mem_cons, List.not_mem_nil, or_false, not_or]; exact (xw_neC e_702 e_688 (by simp))) e_702
                        have e_740 := r_731 groupFar_ _ (by simp only [List.mem_cons, List.not_mem_nil, or_false, not_or]; exact (xw_neC e_703 e_688 (by simp))) e_703
                        have r_741 := r_704.trans (r_731.mono (by simp))
                        have g_742 : fs_724[(36 : Nat)]? = some (.int (nI g)) := (ga_730 36 (by decide)).trans g_705
                        have g_743 : fs_724[(11 : Nat)]? = some (.int (nI asz)) := (ga_730 11 (by decide)).trans g_706
                        have g_744 : fs_724[(4 : Nat)]? = some (.ref asked_) := (ga_730 4 (by decide)).trans g_707
                        have g_745 : fs_724[(41 : Nat)]? = some (.ref firstToken_) := (ga_730 41 (by decide)).trans g_708
                        have g_746 : fs_724[(42 : Nat)]? = some (.ref starred_) := (ga_730 42 (by decide)).trans g_709
                        have g_747 : fs_724[(43 : Nat)]? = some (.ref tokenAt_) := (ga_730 43 (by decide)).trans g_710
                        have g_748 : fs_724[(44 : Nat)]? = some (.ref tokenSize_) := (ga_730 44 (by decide)).trans g_711
                        have g_749 : fs_724[(49 : Nat)]? = some (.ref groupFar_) := (ga_730 49 (by decide)).trans g_712
                        have g_750 : fs_724[(34 : Nat)]? = some (.int (nI i9)) := (ga_730 34 (by decide)).trans g_713
                        have g_751 : fs_724[(35 : Nat)]? = some (.int (nI t9)) := (ga_730 35 (by decide)).trans g_714
                        have g_752 : fs_724[(28 : Nat)]? = some (.int (nI x_681)) := (ga_730 28 (by decide)).trans g_689
                        have g_753 : fs_724[(29 : Nat)]? = some (.int kd_683) := (ga_730 29 (by decide)).trans g_690
                        have g_754 : fs_724[(30 : Nat)]? = some (.int (nI x_681)) := (ga_730 30 (by decide)).trans g_691
                        have g_755 : fs_724[(31 : Nat)]? = some (.int (nI y_682)) := (ga_730 31 (by decide)).trans g_692
                        have ga_756 : ∀ i : Nat, i ∉ [28, 29, 30, 31, 33, 34, 35] → fs_724[i]? = fs[i]? := fun i hi => (ga_730 i (fun z => hi (by simp only [List.mem_cons, List.not_mem_nil, or_false] at z ⊢; omega))).trans (ga_716 i hi)
                        refine s_Model_near_261 l_727 e_728 g_729 (fun z_757 => ?_) (fun z_758 => ?_)
                        · skip
                          refine s_Model_near_269 ?_
                          refine x_callV (As := []) (b := m) (rest := []) (F1 := 4) (L1 := 87) (mc := 0) (ms := 0) d_Model_near_270 cV_Model_257 (f_next (x0 := y_682) l_727 e_728 g_752 g_753 g_754 g_755 g_743 g_744 e_735 PT_686.2.1 hasz (by omega) (by omega)) e_728 ⟨by decide, rfl⟩ ⟨by omega, by show 8 + (1 + 11) + 87 ≤ _; omega⟩ ⟨by omega, by omega⟩ (Nat.le_of_ble_eq_true rfl) (fun v_774 h_773 p_775 => ?_)
                          obtain ⟨rfl, x_759, y_760, kd_761, fs_762, hx_763, PT_764, l_765, e_766, g_767, g_768, g_769, g_770, ga_771, r_772⟩ := p_775
                          have e_776 := r_772 asked_ _ (by simp only [List.mem_cons, List.not_mem_nil, or_false, not_or]; exact (xw_neC e_735 e_728 (by simp))) e_735
                          have e_777 := r_772 firstToken_ _ (by simp only [List.mem_cons, List.not_mem_nil, or_false, not_or]; exact (xw_neC e_736 e_728 (by simp))) e_736
                          have e_778 := r_772 starred_ _ (by simp only [List.mem_cons, List.not_mem_nil, or_false, not_or]; exact (xw_neC e_737 e_728 (by simp))) e_737
                          have e_779 := r_772 tokenAt_ _ (by simp only [List.mem_cons, List.not_mem_nil, or_false, not_or]; exact (xw_neC e_738 e_728 (by simp))) e_738
                          have e_780 := r_772 tokenSize_ _ (by simp only [List.mem_cons, List.not_mem_nil, or_false, not_or]; exact (xw_neC e_739 e_728 (by simp))) e_739
                          have e_781 := r_772 groupFar_ _ (by simp only [List.mem_cons, List.not_mem_nil, or_false, not_or]; exact (xw_neC e_740 e_728 (by simp))) e_740
                          have r_782 := r_741.trans (r_772.mono (by simp))
                          have g_783 : fs_762[(36 : Nat)]? = some (.int (nI g)) := (ga_771 36 (by decide)).trans g_742
                          have g_784 : fs_762[(11 : Nat)]? = some (.int (nI asz)) := (ga_771 11 (by decide)).trans g_743
                          have g_785 : fs_762[(4 : Nat)]? = some (.ref asked_) := (ga_771 4 (by decide)).trans g_744
                          have g_786 : fs_762[(41 : Nat)]? = some (.ref firstToken_) := (ga_771 41 (by decide)).trans g_745
                          have g_787 : fs_762[(42 : Nat)]? = some (.ref starred_) := (ga_771 42 (by decide)).trans g_746
                          have g_788 : fs_762[(43 : Nat)]? = some (.ref tokenAt_) := (ga_771 43 (by decide)).trans g_747
                          have g_789 : fs_762[(44 : Nat)]? = some (.ref tokenSize_) := (ga_771 44 (by decide)).trans g_748
                          have g_790 : fs_762[(49 : Nat)]? = some (.ref groupFar_) := (ga_771 49 (by decide)).trans g_749
                          have g_791 : fs_762[(34 : Nat)]? = some (.int (nI i9)) := (ga_771 34 (by decide)).trans g_750
                          have g_792 : fs_762[(35 : Nat)]? = some (.int (nI t9)) := (ga_771 35 (by decide)).trans g_751
                          have g_793 : fs_762[(33 : Nat)]? = some (.int bd_723) := (ga_771 33 (by decide)).trans g_729
                          have ga_794 : ∀ i : Nat, i ∉ [28, 29, 30, 31, 33, 34, 35] → fs_762[i]? = fs[i]? := fun i hi => (ga_771 i (fun z => hi (by simp only [List.mem_cons, List.not_mem_nil, or_false] at z ⊢; omega))).trans (ga_756 i hi)
                          have J_795 := J_717.mono (Nat.le_trans PT_686.1 hx_763)
                          have TK_796 := TK_718.mono (Nat.le_trans PT_686.1 hx_763)
                          have hm_797 := Nat.le_trans PT_686.1 hx_763
                          have hb_798 := Nat.le_trans PT_764.1 PT_764.2.1
                          refine x_le (xw_le_n (xw_le_n (xw_le_n (xw_le_n xw_le_e)))) ?_
                          refine s_Model_near_273 ?_
                          exact ⟨rfl, _, _, _, _, _, _, _, _, _, _, _, _, PT_764, J_795, TK_796, by omega, by omega, by omega, by omega, fun _ => ⟨by omega, (PH9 z_182).1, (PH9 z_182).2⟩, l_765, e_766, g_767, g_768, g_769, g_770, g_793, g_791, g_792, ga_794, e_777, e_778, e_779, e_780, e_781, r_782⟩
                        · skip
                          refine s_Model_near_268 ?_
                          exact ⟨rfl, _, _, _, _, _, _, _, _, _, _, _, _, PT_686, J_717, TK_718, by omega, by omega, by omega, by omega, fun q => absurd q z_758, l_727, e_728, g_752, g_753, g_754, g_755, g_729, g_750, g_751, ga_756, e_736, e_737, e_738, e_739, e_740, r_741⟩
                      · skip
                        refine s_Model_near_249 ?_
                        refine s_Model_near_254 l_687 e_688 g_691 ?_
                        refine x_callV (As := [.int 1, .int (nI x_681)]) (b := m) (rest := []) (F1 := 1) (L1 := 20) (mc := 0) (ms := 0) d_Model_near_258 cV_Model_250 (f_wrongs (k := x_681) l_687 e_688 g_715 (by omega) (by omega) (by omega)) e_688 ⟨by decide, rfl⟩ ⟨by omega, by show 8 + (3 + 11) + 20 ≤ _; omega⟩ ⟨by omega, by omega⟩ (Nat.le_of_ble_eq_true rfl) (fun v_809 h_808 p_810 => ?_)
                        obtain ⟨rfl, bd_799, fs_800, hw_801, hk_802, l_803, e_804, g_805, ga_806, r_807⟩ := p_810
                        have e_811 := r_807 asked_ _ (by simp only [List.mem_cons, List.not_mem_nil, or_false, not_or]; exact (xw_neC e_698 e_688 (by simp))) e_698
                        have e_812 := r_807 firstToken_ _ (by simp only [List.mem_cons, List.not_mem_nil, or_false, not_or]; exact (xw_neC e_699 e_688 (by simp))) e_699
                        have e_813 := r_807 starred_ _ (by simp only [List.mem_cons, List.not_mem_nil, or_false, not_or]; exact (xw_neC e_700 e_688 (by simp))) e_700
                        have e_814 := r_807 tokenAt_ _ (by simp only [List.mem_cons, List.not_mem_nil, or_false, not_or]; exact (xw_neC e_701 e_688 (by simp))) e_701
                        have e_815 := r_807 tokenSize_ _ (by simp only [List.mem_cons, List.not_mem_nil, or_false, not_or]; exact (xw_neC e_702 e_688 (by simp))) e_702
                        have e_816 := r_807 groupFar_ _ (by simp only [List.mem_cons, List.not_mem_nil, or_false, not_or]; exact (xw_neC e_703 e_688 (by simp))) e_703
                        have r_817 := r_704.trans (r_807.mono (by simp))
                        have g_818 : fs_800[(36 : Nat)]? = some (.int (nI g)) := (ga_806 36 (by decide)).trans g_705
                        have g_819 : fs_800[(11 : Nat)]? = some (.int (nI asz)) := (ga_806 11 (by decide)).trans g_706
                        have g_820 : fs_800[(4 : Nat)]? = some (.ref asked_) := (ga_806 4 (by decide)).trans g_707
                        have g_821 : fs_800[(41 : Nat)]? = some (.ref firstToken_) := (ga_806 41 (by decide)).trans g_708
                        have g_822 : fs_800[(42 : Nat)]? = some (.ref starred_) := (ga_806 42 (by decide)).trans g_709
                        have g_823 : fs_800[(43 : Nat)]? = some (.ref tokenAt_) := (ga_806 43 (by decide)).trans g_710
                        have g_824 : fs_800[(44 : Nat)]? = some (.ref tokenSize_) := (ga_806 44 (by decide)).trans g_711
                        have g_825 : fs_800[(49 : Nat)]? = some (.ref groupFar_) := (ga_806 49 (by decide)).trans g_712
                        have g_826 : fs_800[(34 : Nat)]? = some (.int (nI i9)) := (ga_806 34 (by decide)).trans g_713
                        have g_827 : fs_800[(35 : Nat)]? = some (.int (nI t9)) := (ga_806 35 (by decide)).trans g_714
                        have g_828 : fs_800[(28 : Nat)]? = some (.int (nI x_681)) := (ga_806 28 (by decide)).trans g_689
                        have g_829 : fs_800[(29 : Nat)]? = some (.int kd_683) := (ga_806 29 (by decide)).trans g_690
                        have g_830 : fs_800[(30 : Nat)]? = some (.int (nI x_681)) := (ga_806 30 (by decide)).trans g_691
                        have g_831 : fs_800[(31 : Nat)]? = some (.int (nI y_682)) := (ga_806 31 (by decide)).trans g_692
                        have ga_832 : ∀ i : Nat, i ∉ [28, 29, 30, 31, 33, 34, 35] → fs_800[i]? = fs[i]? := fun i hi => (ga_806 i (fun z => hi (by simp only [List.mem_cons, List.not_mem_nil, or_false] at z ⊢; omega))).trans (ga_716 i hi)
                        refine s_Model_near_261 l_803 e_804 g_805 (fun z => absurd (hw_801 z).1 (by decide)) (fun z_833 => ?_)
                        refine s_Model_near_268 ?_
                        exact ⟨rfl, _, _, _, _, _, _, _, _, _, _, _, _, PT_686, J_717, TK_718, by omega, by omega, by omega, by omega, fun q => absurd q z_833, l_803, e_804, g_828, g_829, g_830, g_831, g_805, g_826, g_827, ga_832, e_812, e_813, e_814, e_815, e_816, r_817⟩
                    · skip
                      refine s_Model_near_203 ?_
                      exact ⟨rfl, _, _, _, _, _, _, _, _, _, _, _, _, PT_231, J_262, TK_263, by omega, by omega, by omega, by omega, fun q => absurd q z_669, l_638, e_639, g_663, g_664, g_665, g_666, g_640, g_661, g_662, ga_667, e_647, e_648, e_649, e_650, e_651, r_652⟩
      · skip
        refine s_Model_near_79 ?_
        exact ⟨rfl, _, _, _, _, _, _, _, _, _, _, _, _, PT9, J9, TK9, by omega, by omega, by omega, by omega, fun q => absurd q z_183, l9, e9, g28_, g29_, g30_, g31_, g33_, g34_, g35_, ga_181, ef9, est9, ea9, es9, e_171, r_172⟩
    · skip
      refine s_Model_near_32 ?_
      exact ⟨rfl, _, _, _, _, _, _, _, _, _, _, _, _, PT_6, J_37, TK_38, by omega, by omega, by omega, by omega, fun q => absurd q z_78, l_47, e_48, g_72, g_73, g_74, g_75, g_49, g_62, g_63, ga_76, e_56, e_57, e_58, e_59, e_60, r_61⟩
  · skip
    refine s_Model_near_13 ?_
    refine s_Model_near_18 l_7 e_8 g_11 ?_
    refine x_callV (As := [.int 1, .int (nI x_1)]) (b := m) (rest := []) (F1 := 1) (L1 := 20) (mc := 0) (ms := 0) d_Model_near_22 cV_Model_250 (f_wrongs (k := x_1) l_7 e_8 g_25 (by omega) (by omega) (by omega)) e_8 ⟨by decide, rfl⟩ ⟨by omega, by show 8 + (3 + 11) + 20 ≤ _; omega⟩ ⟨by omega, by omega⟩ (Nat.le_of_ble_eq_true rfl) (fun v_844 h_843 p_845 => ?_)
    obtain ⟨rfl, bd_834, fs_835, hw_836, hk_837, l_838, e_839, g_840, ga_841, r_842⟩ := p_845
    have e_846 := r_842 asked_ _ (by simp only [List.mem_cons, List.not_mem_nil, or_false, not_or]; exact (xw_neC e_18 e_8 (by simp))) e_18
    have e_847 := r_842 firstToken_ _ (by simp only [List.mem_cons, List.not_mem_nil, or_false, not_or]; exact (xw_neC e_19 e_8 (by simp))) e_19
    have e_848 := r_842 starred_ _ (by simp only [List.mem_cons, List.not_mem_nil, or_false, not_or]; exact (xw_neC e_20 e_8 (by simp))) e_20
    have e_849 := r_842 tokenAt_ _ (by simp only [List.mem_cons, List.not_mem_nil, or_false, not_or]; exact (xw_neC e_21 e_8 (by simp))) e_21
    have e_850 := r_842 tokenSize_ _ (by simp only [List.mem_cons, List.not_mem_nil, or_false, not_or]; exact (xw_neC e_22 e_8 (by simp))) e_22
    have e_851 := r_842 groupFar_ _ (by simp only [List.mem_cons, List.not_mem_nil, or_false, not_or]; exact (xw_neC e_23 e_8 (by simp))) e_23
    have r_852 := r_24.trans (r_842.mono (by simp))
    have g_853 : fs_835[(34 : Nat)]? = some (.int (nI p)) := (ga_841 34 (by decide)).trans g_26
    have g_854 : fs_835[(35 : Nat)]? = some (.int (nI t)) := (ga_841 35 (by decide)).trans g_27
    have g_855 : fs_835[(36 : Nat)]? = some (.int (nI g)) := (ga_841 36 (by decide)).trans g_28
    have g_856 : fs_835[(11 : Nat)]? = some (.int (nI asz)) := (ga_841 11 (by decide)).trans g_29
    have g_857 : fs_835[(4 : Nat)]? = some (.ref asked_) := (ga_841 4 (by decide)).trans g_30
    have g_858 : fs_835[(41 : Nat)]? = some (.ref firstToken_) := (ga_841 41 (by decide)).trans g_31
    have g_859 : fs_835[(42 : Nat)]? = some (.ref starred_) := (ga_841 42 (by decide)).trans g_32
    have g_860 : fs_835[(43 : Nat)]? = some (.ref tokenAt_) := (ga_841 43 (by decide)).trans g_33
    have g_861 : fs_835[(44 : Nat)]? = some (.ref tokenSize_) := (ga_841 44 (by decide)).trans g_34
    have g_862 : fs_835[(49 : Nat)]? = some (.ref groupFar_) := (ga_841 49 (by decide)).trans g_35
    have g_863 : fs_835[(28 : Nat)]? = some (.int (nI x_1)) := (ga_841 28 (by decide)).trans g_9
    have g_864 : fs_835[(29 : Nat)]? = some (.int kd_3) := (ga_841 29 (by decide)).trans g_10
    have g_865 : fs_835[(30 : Nat)]? = some (.int (nI x_1)) := (ga_841 30 (by decide)).trans g_11
    have g_866 : fs_835[(31 : Nat)]? = some (.int (nI y_2)) := (ga_841 31 (by decide)).trans g_12
    have ga_867 : ∀ i : Nat, i ∉ [28, 29, 30, 31, 33, 34, 35] → fs_835[i]? = fs[i]? := fun i hi => (ga_841 i (fun z => hi (by simp only [List.mem_cons, List.not_mem_nil, or_false] at z ⊢; omega))).trans (ga_36 i hi)
    refine s_Model_near_25 l_838 e_839 g_840 (fun z => absurd (hw_836 z).1 (by decide)) (fun z_868 => ?_)
    refine s_Model_near_32 ?_
    exact ⟨rfl, _, _, _, _, _, _, _, _, _, _, _, _, PT_6, J_37, TK_38, by omega, by omega, by omega, by omega, fun q => absurd q z_868, l_838, e_839, g_863, g_864, g_865, g_866, g_840, g_853, g_854, ga_867, e_847, e_848, e_849, e_850, e_851, r_852⟩
