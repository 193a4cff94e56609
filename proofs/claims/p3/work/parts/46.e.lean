/-! the reference in general states: by program (wip/tools/gen3.py, gen4.py, gen5.py) -/
/-! THE REFERENCE: phrases -/
def PhP (m firstToken_ starred_ tokenAt_ tokenSize_ : Nat) (gs : List Value) (fa : Nat → Int32) (asz x p t : Nat) (c1 : Nat → Int32) (h0 h : xw_A) : Prop :=
  ∃ (x' y' p' t' : Nat) (kd' bd' : Int32) (c1' c2' ca' cs' : Nat → Int32) (fs : List Value), PtO fa asz x' y' kd' ∧ JO fa asz t' x' ∧ TkO ca' cs' t' x' ∧ x ≤ x' ∧ p ≤ p' ∧ p' ≤ 12 ∧ t ≤ t' ∧ (bd' < 0 → x < x' ∧ p' = p + 1 ∧ c1' p = nI t ∧ c1' (p + 1) = nI t' ∧ ∀ k, k < p → c1' k = c1 k) ∧ fs.length = 62 ∧ h m = some (.inr (11, fs)) ∧ fs[(28 : Nat)]? = some (.int (nI x')) ∧ fs[(29 : Nat)]? = some (.int kd') ∧ fs[(30 : Nat)]? = some (.int (nI x')) ∧ fs[(31 : Nat)]? = some (.int (nI y')) ∧ fs[(33 : Nat)]? = some (.int bd') ∧ fs[(34 : Nat)]? = some (.int (nI p')) ∧ fs[(35 : Nat)]? = some (.int (nI t')) ∧ (∀ i : Nat, i ∉ [28, 29, 30, 31, 33, 34, 35] → fs[i]? = gs[i]?) ∧ h firstToken_ = some (.inl (0, 13, .inl c1')) ∧ h starred_ = some (.inl (0, 13, .inl c2')) ∧ h tokenAt_ = some (.inl (0, 60, .inl ca')) ∧ h tokenSize_ = some (.inl (0, 60, .inl cs')) ∧ FrO [m, firstToken_, starred_, tokenAt_, tokenSize_] h0 h
/-- the phrases' tokens -/
def PhO (c1 : Nat → Int32) (p t : Nat) : Prop := ∀ j, j < p → ∃ a b, c1 j = nI a ∧ c1 (j + 1) = nI b ∧ a ≤ b ∧ b ≤ t
theorem PhO.new {c1 c1' : Nat → Int32} {p t t' : Nat} (h : PhO c1 p t) (ht : t ≤ t') (h1 : c1' p = nI t) (h2 : c1' (p + 1) = nI t') (h3 : ∀ k, k < p → c1' k = c1 k) : PhO c1' (p + 1) t' := fun j hj => by
  by_cases q : j = p
  · subst q
    exact ⟨t, t', h1, h2, ht, Nat.le_refl _⟩
  · obtain ⟨a, b, e1, e2, e3, e4⟩ := h j (by omega)
    by_cases q2 : j + 1 = p
    · exact ⟨a, t, by rw [h3 j (by omega)]; exact e1, by rw [q2]; exact h1, by omega, ht⟩
    · exact ⟨a, b, by rw [h3 j (by omega)]; exact e1, by rw [h3 (j + 1) (by omega)]; exact e2, e3, by omega⟩
def NrP (m firstToken_ starred_ tokenAt_ tokenSize_ groupFar_ : Nat) (gs : List Value) (fa : Nat → Int32) (asz x p t : Nat) (h0 h : xw_A) : Prop :=
  ∃ (x' y' p' t' : Nat) (kd' bd' : Int32) (c1' c2' ca' cs' c9' : Nat → Int32) (fs : List Value), PtO fa asz x' y' kd' ∧ JO fa asz t' x' ∧ TkO ca' cs' t' x' ∧ x ≤ x' ∧ p ≤ p' ∧ p' ≤ 12 ∧ t ≤ t' ∧ (bd' < 0 → x < x' ∧ p < p' ∧ PhO c1' p' t') ∧ fs.length = 62 ∧ h m = some (.inr (11, fs)) ∧ fs[(28 : Nat)]? = some (.int (nI x')) ∧ fs[(29 : Nat)]? = some (.int kd') ∧ fs[(30 : Nat)]? = some (.int (nI x')) ∧ fs[(31 : Nat)]? = some (.int (nI y')) ∧ fs[(33 : Nat)]? = some (.int bd') ∧ fs[(34 : Nat)]? = some (.int (nI p')) ∧ fs[(35 : Nat)]? = some (.int (nI t')) ∧ (∀ i : Nat, i ∉ [28, 29, 30, 31, 33, 34, 35] → fs[i]? = gs[i]?) ∧ h firstToken_ = some (.inl (0, 13, .inl c1')) ∧ h starred_ = some (.inl (0, 13, .inl c2')) ∧ h tokenAt_ = some (.inl (0, 60, .inl ca')) ∧ h tokenSize_ = some (.inl (0, 60, .inl cs')) ∧ h groupFar_ = some (.inl (0, 13, .inl c9')) ∧ FrO [m, firstToken_, starred_, tokenAt_, tokenSize_, groupFar_] h0 h
set_option maxHeartbeats 4000000 in
theorem lp_ph {G : xw_G} {F L bc bs : Nat} {pr : Option Value → xw_A → Prop} {px : String → xw_A → Prop} {m asked_ tokenAt_ tokenSize_ asz x0 t0 : Nat} {gs : List Value} {fa : Nat → Int32} {h0 : xw_A} (q_asked : gs[(4 : Nat)]? = some (.ref asked_)) (q_askedSize : gs[(11 : Nat)]? = some (.int (nI asz))) (q_tokenAt : gs[(43 : Nat)]? = some (.ref tokenAt_)) (q_tokenSize : gs[(44 : Nat)]? = some (.ref tokenSize_)) (q_a : h0 asked_ = some (.inl (0, 96, .inl fa))) (na : asked_ ≠ m ∧ asked_ ≠ tokenAt_ ∧ asked_ ≠ tokenSize_) (nts : tokenAt_ ≠ tokenSize_) (hasz : asz ≤ 96) (hF : 5 ≤ F) (hL : 107 ≤ L) (kk : (∀ (h : xw_A) (i : Nat) (y : Nat) (kd : Int32) (bd : Int32) (t : Nat) (ca : Nat → Int32) (cs : Nat → Int32) (fs : List Value), fs.length = 62 → h m = some (.inr (11, fs)) → fs[(28 : Nat)]? = some (.int (nI i)) → fs[(29 : Nat)]? = some (.int kd) → fs[(30 : Nat)]? = some (.int (nI i)) → fs[(31 : Nat)]? = some (.int (nI y)) → fs[(33 : Nat)]? = some (.int bd) → fs[(35 : Nat)]? = some (.int (nI t)) → (∀ i : Nat, i ∉ [28, 29, 30, 31, 33, 35] → fs[i]? = gs[i]?) → h tokenAt_ = some (.inl (0, 60, .inl ca)) → h tokenSize_ = some (.inl (0, 60, .inl cs)) → PtO fa asz i y kd → JO fa asz t i → TkO ca cs t i → bd < 0 → x0 ≤ i → t0 ≤ t → FrO [m, tokenAt_, tokenSize_] h0 h → xw G m_Model_phrase F L bc bs pr px 137 [some (.ref m)] [] h) ∧ (∀ (h : xw_A) (i : Nat) (y : Nat) (kd : Int32) (bd : Int32) (t : Nat) (ca : Nat → Int32) (cs : Nat → Int32) (fs : List Value), fs.length = 62 → h m = some (.inr (11, fs)) → fs[(28 : Nat)]? = some (.int (nI i)) → fs[(29 : Nat)]? = some (.int kd) → fs[(30 : Nat)]? = some (.int (nI i)) → fs[(31 : Nat)]? = some (.int (nI y)) → fs[(33 : Nat)]? = some (.int bd) → fs[(35 : Nat)]? = some (.int (nI t)) → (∀ i : Nat, i ∉ [28, 29, 30, 31, 33, 35] → fs[i]? = gs[i]?) → h tokenAt_ = some (.inl (0, 60, .inl ca)) → h tokenSize_ = some (.inl (0, 60, .inl cs)) → PtO fa asz i y kd → JO fa asz t i → TkO ca cs t i → ¬ bd < 0 → x0 ≤ i → t0 ≤ t → FrO [m, tokenAt_, tokenSize_] h0 h → pr none h)) :
    ∀ (dd i : Nat) (h : xw_A) (y : Nat) (kd : Int32) (bd : Int32) (t : Nat) (ca : Nat → Int32) (cs : Nat → Int32) (fs : List Value), 98 ≤ i + dd → i < 98 → fs.length = 62 → h m = some (.inr (11, fs)) → fs[(28 : Nat)]? = some (.int (nI i)) → fs[(29 : Nat)]? = some (.int kd) → fs[(30 : Nat)]? = some (.int (nI i)) → fs[(31 : Nat)]? = some (.int (nI y)) → fs[(33 : Nat)]? = some (.int bd) → fs[(35 : Nat)]? = some (.int (nI t)) → (∀ i : Nat, i ∉ [28, 29, 30, 31, 33, 35] → fs[i]? = gs[i]?) → h tokenAt_ = some (.inl (0, 60, .inl ca)) → h tokenSize_ = some (.inl (0, 60, .inl cs)) → PtO fa asz i y kd → JO fa asz t i → TkO ca cs t i → bd < 0 → x0 ≤ i → t0 ≤ t → FrO [m, tokenAt_, tokenSize_] h0 h → xw G m_Model_phrase F L bc bs pr px 78 [some (.ref m)] [] h := by
  intro dd
  induction dd with
  | zero =>
    intro i h y kd bd t ca cs fs hi hb l e g_at g_kind g_from g_to g_bad g_tokens ga0 e_tokenAt e_tokenSize PT J TK hbd hx0 ht0 r0
    exact absurd hi (by omega)
  | succ dd ih =>
    intro i h y kd bd t ca cs fs hi hb l e g_at g_kind g_from g_to g_bad g_tokens ga0 e_tokenAt e_tokenSize PT J TK hbd hx0 ht0 r0
    have g_asked := (ga0 4 (by decide)).trans q_asked
    have g_askedSize := (ga0 11 (by decide)).trans q_askedSize
    have g_tokenAt := (ga0 43 (by decide)).trans q_tokenAt
    have g_tokenSize := (ga0 44 (by decide)).trans q_tokenSize
    have e_asked := r0 asked_ _ (by simp only [List.mem_cons, List.not_mem_nil, or_false, not_or]; exact na) q_a
    refine s_Model_phrase_78 l e g_kind (fun z_1 => ?_) (fun z_2 => ?_)
    · skip
      exact kk.1 _ _ _ _ _ _ _ _ _ l e g_at g_kind g_from g_to g_bad g_tokens ga0 e_tokenAt e_tokenSize PT J TK hbd hx0 ht0 r0
    · skip
      refine s_Model_phrase_87 l e g_bad (fun z => absurd z (Int32.not_le.mpr hbd)) (fun z_3 => ?_)
      refine s_Model_phrase_94 ?_
      refine x_callV (As := []) (b := m) (rest := []) (F1 := 4) (L1 := 87) (mc := 0) (ms := 0) d_Model_phrase_95 cV_Model_257 (f_next (x0 := y) l e g_at g_kind g_from g_to g_askedSize g_asked e_asked PT.2.1 hasz (by omega) (by omega)) e ⟨by decide, rfl⟩ ⟨by omega, by show 8 + (1 + 11) + 87 ≤ _; omega⟩ ⟨by omega, by omega⟩ (Nat.le_of_ble_eq_true rfl) (fun v_19 h_18 p_20 => ?_)
      obtain ⟨rfl, x_4, y_5, kd_6, fs_7, hx_8, PT_9, l_10, e_11, g_12, g_13, g_14, g_15, ga_16, r_17⟩ := p_20
      have e_21 := r_17 asked_ _ (by simp only [List.mem_cons, List.not_mem_nil, or_false, not_or]; exact na.1) e_asked
      have e_22 := r_17 tokenAt_ _ (by simp only [List.mem_cons, List.not_mem_nil, or_false, not_or]; exact (xw_neC e_tokenAt e (by simp))) e_tokenAt
      have e_23 := r_17 tokenSize_ _ (by simp only [List.mem_cons, List.not_mem_nil, or_false, not_or]; exact (xw_neC e_tokenSize e (by simp))) e_tokenSize
      have r_24 := r0.trans (r_17.mono (by simp))
      have g_25 : fs_7[(4 : Nat)]? = some (.ref asked_) := (ga_16 4 (by decide)).trans g_asked
      have g_26 : fs_7[(11 : Nat)]? = some (.int (nI asz)) := (ga_16 11 (by decide)).trans g_askedSize
      have g_27 : fs_7[(33 : Nat)]? = some (.int bd) := (ga_16 33 (by decide)).trans g_bad
      have g_28 : fs_7[(35 : Nat)]? = some (.int (nI t)) := (ga_16 35 (by decide)).trans g_tokens
      have g_29 : fs_7[(43 : Nat)]? = some (.ref tokenAt_) := (ga_16 43 (by decide)).trans g_tokenAt
      have g_30 : fs_7[(44 : Nat)]? = some (.ref tokenSize_) := (ga_16 44 (by decide)).trans g_tokenSize
      have ga_31 : ∀ i : Nat, i ∉ [28, 29, 30, 31, 33, 35] → fs_7[i]? = gs[i]? := fun i hi => (ga_16 i (fun z => hi (by simp only [List.mem_cons, List.not_mem_nil, or_false] at z ⊢; omega))).trans (ga0 i hi)
      have J_32 := J.mono (Nat.le_trans PT.1 hx_8)
      have TK_33 := TK.mono (Nat.le_trans PT.1 hx_8)
      have hm_34 := Nat.le_trans PT.1 hx_8
      have hb_35 := Nat.le_trans PT_9.1 PT_9.2.1
      refine s_Model_phrase_98 ?_
      refine x_callV (As := []) (b := m) (rest := [.ref m]) (F1 := 3) (L1 := 61) (mc := 0) (ms := 0) d_Model_phrase_100 cV_Model_244 (f_isString l_10 e_11 g_13 g_15 g_26 g_25 e_21 PT_9.2.1 hasz (by omega) (by omega)) e_11 ⟨by decide, rfl⟩ ⟨by omega, by show 8 + (1 + 11) + 61 ≤ _; omega⟩ ⟨by omega, by omega⟩ (Nat.le_of_ble_eq_true rfl) (fun v_39 h_38 p_40 => ?_)
      obtain ⟨⟨c_36, rfl, hc_37⟩, rfl⟩ := p_40
      refine s_Model_phrase_103 (fun z_41 => ?_) (fun z_42 => ?_)
      · skip
        refine s_Model_phrase_110 ?_
        refine s_Model_phrase_111 l_10 e_11 g_14 ?_
        refine x_callV (As := [.int 0, .int (nI x_4)]) (b := m) (rest := []) (F1 := 1) (L1 := 20) (mc := 0) (ms := 0) d_Model_phrase_115 cV_Model_250 (f_wrongs (k := x_4) l_10 e_11 g_27 (by omega) (by omega) (by omega)) e_11 ⟨by decide, rfl⟩ ⟨by omega, by show 8 + (3 + 11) + 20 ≤ _; omega⟩ ⟨by omega, by omega⟩ (Nat.le_of_ble_eq_true rfl) (fun v_53 h_52 p_54 => ?_)
        obtain ⟨rfl, bd_43, fs_44, hw_45, hk_46, l_47, e_48, g_49, ga_50, r_51⟩ := p_54
        have e_55 := r_51 asked_ _ (by simp only [List.mem_cons, List.not_mem_nil, or_false, not_or]; exact na.1) e_21
        have e_56 := r_51 tokenAt_ _ (by simp only [List.mem_cons, List.not_mem_nil, or_false, not_or]; exact (xw_neC e_22 e_11 (by simp))) e_22
        have e_57 := r_51 tokenSize_ _ (by simp only [List.mem_cons, List.not_mem_nil, or_false, not_or]; exact (xw_neC e_23 e_11 (by simp))) e_23
        have r_58 := r_24.trans (r_51.mono (by simp))
        have g_59 : fs_44[(4 : Nat)]? = some (.ref asked_) := (ga_50 4 (by decide)).trans g_25
        have g_60 : fs_44[(11 : Nat)]? = some (.int (nI asz)) := (ga_50 11 (by decide)).trans g_26
        have g_61 : fs_44[(35 : Nat)]? = some (.int (nI t)) := (ga_50 35 (by decide)).trans g_28
        have g_62 : fs_44[(43 : Nat)]? = some (.ref tokenAt_) := (ga_50 43 (by decide)).trans g_29
        have g_63 : fs_44[(44 : Nat)]? = some (.ref tokenSize_) := (ga_50 44 (by decide)).trans g_30
        have g_64 : fs_44[(28 : Nat)]? = some (.int (nI x_4)) := (ga_50 28 (by decide)).trans g_12
        have g_65 : fs_44[(29 : Nat)]? = some (.int kd_6) := (ga_50 29 (by decide)).trans g_13
        have g_66 : fs_44[(30 : Nat)]? = some (.int (nI x_4)) := (ga_50 30 (by decide)).trans g_14
        have g_67 : fs_44[(31 : Nat)]? = some (.int (nI y_5)) := (ga_50 31 (by decide)).trans g_15
        have ga_68 : ∀ i : Nat, i ∉ [28, 29, 30, 31, 33, 35] → fs_44[i]? = gs[i]? := fun i hi => (ga_50 i (fun z => hi (by simp only [List.mem_cons, List.not_mem_nil, or_false] at z ⊢; omega))).trans (ga_31 i hi)
        refine s_Model_phrase_118 l_47 e_48 g_49 (fun z_69 => ?_) (fun z_70 => ?_)
        · skip
          refine s_Model_phrase_126 ?_
          have hk_85 := (hc_37.resolve_left z_41).2
          refine x_callV (As := []) (b := m) (rest := []) (F1 := 3) (L1 := 62) (mc := 0) (ms := 0) d_Model_phrase_127 cV_Model_254 (f_takeTokens l_47 e_48 g_66 g_67 g_61 g_60 g_59 e_55 g_62 e_56 g_63 e_57 nts hasz PT_9 hk_85 J_32 TK_33 (by omega) (by omega)) e_48 ⟨by decide, rfl⟩ ⟨by omega, by show 8 + (2 + 11) + 62 ≤ _; omega⟩ ⟨by omega, by omega⟩ (Nat.le_of_ble_eq_true rfl) (fun v_87 h_86 p_88 => ?_)
          obtain ⟨rfl, t_71, ca_72, cs_73, fs_74, ht_75, J_76, TK_77, l_78, e_79, g_80, ga_81, e_82, e_83, r_84⟩ := p_88
          have e_89 := r_84 asked_ _ (by simp only [List.mem_cons, List.not_mem_nil, or_false, not_or]; exact ⟨na.1, na.2.1, na.2.2⟩) e_55
          have r_90 := r_58.trans (r_84.mono (by simp))
          have g_91 : fs_74[(4 : Nat)]? = some (.ref asked_) := (ga_81 4 (by decide)).trans g_59
          have g_92 : fs_74[(11 : Nat)]? = some (.int (nI asz)) := (ga_81 11 (by decide)).trans g_60
          have g_93 : fs_74[(43 : Nat)]? = some (.ref tokenAt_) := (ga_81 43 (by decide)).trans g_62
          have g_94 : fs_74[(44 : Nat)]? = some (.ref tokenSize_) := (ga_81 44 (by decide)).trans g_63
          have g_95 : fs_74[(28 : Nat)]? = some (.int (nI x_4)) := (ga_81 28 (by decide)).trans g_64
          have g_96 : fs_74[(29 : Nat)]? = some (.int kd_6) := (ga_81 29 (by decide)).trans g_65
          have g_97 : fs_74[(30 : Nat)]? = some (.int (nI x_4)) := (ga_81 30 (by decide)).trans g_66
          have g_98 : fs_74[(31 : Nat)]? = some (.int (nI y_5)) := (ga_81 31 (by decide)).trans g_67
          have g_99 : fs_74[(33 : Nat)]? = some (.int bd_43) := (ga_81 33 (by decide)).trans g_49
          have ga_100 : ∀ i : Nat, i ∉ [28, 29, 30, 31, 33, 35] → fs_74[i]? = gs[i]? := fun i hi => (ga_81 i (fun z => hi (by simp only [List.mem_cons, List.not_mem_nil, or_false] at z ⊢; omega))).trans (ga_68 i hi)
          refine s_Model_phrase_130 ?_
          refine x_callV (As := []) (b := m) (rest := []) (F1 := 4) (L1 := 87) (mc := 0) (ms := 0) d_Model_phrase_131 cV_Model_257 (f_next (x0 := y_5) l_78 e_79 g_95 g_96 g_97 g_98 g_92 g_91 e_89 PT_9.2.1 hasz (by omega) (by omega)) e_79 ⟨by decide, rfl⟩ ⟨by omega, by show 8 + (1 + 11) + 87 ≤ _; omega⟩ ⟨by omega, by omega⟩ (Nat.le_of_ble_eq_true rfl) (fun v_116 h_115 p_117 => ?_)
          obtain ⟨rfl, x_101, y_102, kd_103, fs_104, hx_105, PT_106, l_107, e_108, g_109, g_110, g_111, g_112, ga_113, r_114⟩ := p_117
          have e_118 := r_114 asked_ _ (by simp only [List.mem_cons, List.not_mem_nil, or_false, not_or]; exact na.1) e_89
          have e_119 := r_114 tokenAt_ _ (by simp only [List.mem_cons, List.not_mem_nil, or_false, not_or]; exact (xw_neC e_82 e_79 (by simp))) e_82
          have e_120 := r_114 tokenSize_ _ (by simp only [List.mem_cons, List.not_mem_nil, or_false, not_or]; exact (xw_neC e_83 e_79 (by simp))) e_83
          have r_121 := r_90.trans (r_114.mono (by simp))
          have g_122 : fs_104[(4 : Nat)]? = some (.ref asked_) := (ga_113 4 (by decide)).trans g_91
          have g_123 : fs_104[(11 : Nat)]? = some (.int (nI asz)) := (ga_113 11 (by decide)).trans g_92
          have g_124 : fs_104[(43 : Nat)]? = some (.ref tokenAt_) := (ga_113 43 (by decide)).trans g_93
          have g_125 : fs_104[(44 : Nat)]? = some (.ref tokenSize_) := (ga_113 44 (by decide)).trans g_94
          have g_126 : fs_104[(33 : Nat)]? = some (.int bd_43) := (ga_113 33 (by decide)).trans g_99
          have g_127 : fs_104[(35 : Nat)]? = some (.int (nI t_71)) := (ga_113 35 (by decide)).trans g_80
          have ga_128 : ∀ i : Nat, i ∉ [28, 29, 30, 31, 33, 35] → fs_104[i]? = gs[i]? := fun i hi => (ga_113 i (fun z => hi (by simp only [List.mem_cons, List.not_mem_nil, or_false] at z ⊢; omega))).trans (ga_100 i hi)
          have J_129 := J_76.mono hx_105
          have TK_130 := TK_77.mono hx_105
          have hm_131 := Nat.le_trans PT_9.1 hx_105
          have hb_132 := Nat.le_trans PT_106.1 PT_106.2.1
          refine s_Model_phrase_134 ?_
          have hpr := Nat.lt_of_lt_of_le (PT.2.2.1 (by rw [z_2]; decide)) hx_8
          exact ih x_101 _ _ _ _ _ _ _ _ (by omega) (by omega) l_107 e_108 g_109 g_110 g_111 g_112 g_126 g_127 ga_128 e_119 e_120 PT_106 J_129 TK_130 z_69 (by omega) (by omega) r_121
        · skip
          refine s_Model_phrase_125 ?_
          exact kk.2 _ _ _ _ _ _ _ _ _ l_47 e_48 g_64 g_65 g_66 g_67 g_49 g_61 ga_68 e_56 e_57 PT_9 J_32 TK_33 z_70 (by omega) (by omega) r_58
      · skip
        refine s_Model_phrase_106 ?_
        refine s_Model_phrase_111 l_10 e_11 g_14 ?_
        refine x_callV (As := [.int 1, .int (nI x_4)]) (b := m) (rest := []) (F1 := 1) (L1 := 20) (mc := 0) (ms := 0) d_Model_phrase_115 cV_Model_250 (f_wrongs (k := x_4) l_10 e_11 g_27 (by omega) (by omega) (by omega)) e_11 ⟨by decide, rfl⟩ ⟨by omega, by show 8 + (3 + 11) + 20 ≤ _; omega⟩ ⟨by omega, by omega⟩ (Nat.le_of_ble_eq_true rfl) (fun v_143 h_142 p_144 => ?_)
        obtain ⟨rfl, bd_133, fs_134, hw_135, hk_136, l_137, e_138, g_139, ga_140, r_141⟩ := p_144
        have e_145 := r_141 asked_ _ (by simp only [List.mem_cons, List.not_mem_nil, or_false, not_or]; exact na.1) e_21
        have e_146 := r_141 tokenAt_ _ (by simp only [List.mem_cons, List.not_mem_nil, or_false, not_or]; exact (xw_neC e_22 e_11 (by simp))) e_22
        have e_147 := r_141 tokenSize_ _ (by simp only [List.mem_cons, List.not_mem_nil, or_false, not_or]; exact (xw_neC e_23 e_11 (by simp))) e_23
        have r_148 := r_24.trans (r_141.mono (by simp))
        have g_149 : fs_134[(4 : Nat)]? = some (.ref asked_) := (ga_140 4 (by decide)).trans g_25
        have g_150 : fs_134[(11 : Nat)]? = some (.int (nI asz)) := (ga_140 11 (by decide)).trans g_26
        have g_151 : fs_134[(35 : Nat)]? = some (.int (nI t)) := (ga_140 35 (by decide)).trans g_28
        have g_152 : fs_134[(43 : Nat)]? = some (.ref tokenAt_) := (ga_140 43 (by decide)).trans g_29
        have g_153 : fs_134[(44 : Nat)]? = some (.ref tokenSize_) := (ga_140 44 (by decide)).trans g_30
        have g_154 : fs_134[(28 : Nat)]? = some (.int (nI x_4)) := (ga_140 28 (by decide)).trans g_12
        have g_155 : fs_134[(29 : Nat)]? = some (.int kd_6) := (ga_140 29 (by decide)).trans g_13
        have g_156 : fs_134[(30 : Nat)]? = some (.int (nI x_4)) := (ga_140 30 (by decide)).trans g_14
        have g_157 : fs_134[(31 : Nat)]? = some (.int (nI y_5)) := (ga_140 31 (by decide)).trans g_15
        have ga_158 : ∀ i : Nat, i ∉ [28, 29, 30, 31, 33, 35] → fs_134[i]? = gs[i]? := fun i hi => (ga_140 i (fun z => hi (by simp only [List.mem_cons, List.not_mem_nil, or_false] at z ⊢; omega))).trans (ga_31 i hi)
        refine s_Model_phrase_118 l_137 e_138 g_139 (fun z => absurd (hw_135 z).1 (by decide)) (fun z_159 => ?_)
        refine s_Model_phrase_125 ?_
        exact kk.2 _ _ _ _ _ _ _ _ _ l_137 e_138 g_154 g_155 g_156 g_157 g_139 g_151 ga_158 e_146 e_147 PT_9 J_32 TK_33 z_159 (by omega) (by omega) r_148
