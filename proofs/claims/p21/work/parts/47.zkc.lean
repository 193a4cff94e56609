set_option maxHeartbeats 4000000 in
theorem lp_phH {G : xw_G} {F L bc bs : Nat} {pr : Option Value → xw_A → Prop} {px : String → xw_A → Prop} {m asked_ tokenAt_ tokenSize_ asz : Nat} {gs : List Value} {fa c1 c2 : Nat → Int32} {ph : List PHt} {R : Option (Nat × List (Nat × Nat))} {h0 : xw_A} (q_asked : gs[(4 : Nat)]? = some (.ref asked_)) (q_askedSize : gs[(11 : Nat)]? = some (.int (nI asz))) (q_tokenAt : gs[(43 : Nat)]? = some (.ref tokenAt_)) (q_tokenSize : gs[(44 : Nat)]? = some (.ref tokenSize_)) (q_a : h0 asked_ = some (.inl (0, 96, .inl fa))) (na : asked_ ≠ m ∧ asked_ ≠ tokenAt_ ∧ asked_ ≠ tokenSize_) (nts : tokenAt_ ≠ tokenSize_) (hasz : asz ≤ 96) (hF : 5 ≤ F) (hL : 107 ≤ L) (kk : (∀ (h : xw_A) (i : Nat) (y : Nat) (bd : Int32) (t : Nat) (ca : Nat → Int32) (cs : Nat → Int32) (sp : List (Nat × Nat)) (fs : List Value), i < 98 → fs.length = 62 → h m = some (.inr (11, fs)) → fs[(28 : Nat)]? = some (.int (nI (bl fa asz i))) → fs[(29 : Nat)]? = some (.int (nI (rkd (kdP fa asz i)))) → fs[(30 : Nat)]? = some (.int (nI (bl fa asz i))) → fs[(31 : Nat)]? = some (.int (nI y)) → fs[(33 : Nat)]? = some (.int bd) → fs[(35 : Nat)]? = some (.int (nI t)) → (∀ i : Nat, i ∉ [28, 29, 30, 31, 33, 35] → fs[i]? = gs[i]?) → h tokenAt_ = some (.inl (0, 60, .inl ca)) → h tokenSize_ = some (.inl (0, 60, .inl cs)) → PtO fa asz (bl fa asz i) y (nI (rkd (kdP fa asz i))) → (¬ kdP fa asz i = 1 → y = skP fa asz i) → RqT fa asz c1 c2 ca cs t i ph sp → bd < 0 → FrO [m, tokenAt_, tokenSize_] h0 h → R = some (i, sp) → xw G m_Model_phrase F L bc bs pr px 137 [some (.ref m)] [] h) ∧ (∀ (h : xw_A) (bd : Int32) (ca cs : Nat → Int32) (fs : List Value), fs.length = 62 → h m = some (.inr (11, fs)) → fs[(33 : Nat)]? = some (.int bd) → ¬ bd < 0 → INT fs [28, 29, 30, 31, 33, 35] → (∀ i : Nat, i ∉ [28, 29, 30, 31, 33, 35] → fs[i]? = gs[i]?) → h tokenAt_ = some (.inl (0, 60, .inl ca)) → h tokenSize_ = some (.inl (0, 60, .inl cs)) → FrO [m, tokenAt_, tokenSize_] h0 h → R = none → pr none h)) :
    ∀ (dd i : Nat) (h : xw_A) (y : Nat) (bd : Int32) (t : Nat) (ca : Nat → Int32) (cs : Nat → Int32) (sp : List (Nat × Nat)) (fs : List Value), 98 ≤ i + dd → i < 98 → fs.length = 62 → h m = some (.inr (11, fs)) → fs[(28 : Nat)]? = some (.int (nI (bl fa asz i))) → fs[(29 : Nat)]? = some (.int (nI (rkd (kdP fa asz i)))) → fs[(30 : Nat)]? = some (.int (nI (bl fa asz i))) → fs[(31 : Nat)]? = some (.int (nI y)) → fs[(33 : Nat)]? = some (.int bd) → fs[(35 : Nat)]? = some (.int (nI t)) → (∀ i : Nat, i ∉ [28, 29, 30, 31, 33, 35] → fs[i]? = gs[i]?) → h tokenAt_ = some (.inl (0, 60, .inl ca)) → h tokenSize_ = some (.inl (0, 60, .inl cs)) → PtO fa asz (bl fa asz i) y (nI (rkd (kdP fa asz i))) → (¬ kdP fa asz i = 1 → y = skP fa asz i) → RqT fa asz c1 c2 ca cs t i ph sp → bd < 0 → FrO [m, tokenAt_, tokenSize_] h0 h → (∀ f, asz - i ≤ f → rdP fa asz f i sp = R) → xw G m_Model_phrase F L bc bs pr px 78 [some (.ref m)] [] h := by
  intro dd
  induction dd with
  | zero =>
    intro i h y bd t ca cs sp fs hi hb l e g_at g_kind g_from g_to g_bad g_tokens ga0 e_tokenAt e_tokenSize PT HY RQ hbd r0 hR
    exact absurd hi (by omega)
  | succ dd ih =>
    intro i h y bd t ca cs sp fs hi hb l e g_at g_kind g_from g_to g_bad g_tokens ga0 e_tokenAt e_tokenSize PT HY RQ hbd r0 hR
    have g_asked := (ga0 4 (by decide)).trans q_asked
    have g_askedSize := (ga0 11 (by decide)).trans q_askedSize
    have g_tokenAt := (ga0 43 (by decide)).trans q_tokenAt
    have g_tokenSize := (ga0 44 (by decide)).trans q_tokenSize
    have e_asked := r0 asked_ _ (by simp only [List.mem_cons, List.not_mem_nil, or_false, not_or]; exact na) q_a
    have hbd2 : ¬ 0 ≤ bd := Int32.not_le.mpr hbd
    have hxy0 := PT.1
    have hy97 := PT.2.1
    refine s_Model_phrase_78 l e g_kind (fun z_1 => ?_) (fun z_2 => ?_)
    · skip
      have hk_3 : ¬ kdP fa asz i = 14 := fun q => z_1 (by rw [q]; rfl)
      exact kk.1 _ _ _ _ _ _ _ sp _ hb l e g_at g_kind g_from g_to g_bad g_tokens ga0 e_tokenAt e_tokenSize PT HY RQ hbd r0 (by rw [← hR _ (Nat.le_refl _)]; exact rdP_n hk_3)
    · skip
      refine s_Model_phrase_87 l e g_bad (fun z => absurd z hbd2) (fun z_4 => ?_)
      refine s_Model_phrase_94 ?_
      have hk_5 : kdP fa asz i = 14 := ((rk_iff _ (kdP_le fa asz i)).2.2.2.2.2.2.2.1).mp ((nI_eq (b := 8) (by have := rk_le _ (kdP_le fa asz i); omega) (by decide)).mp z_2)
      have hE_18 := HY (by rw [hk_5]; decide)
      rw [hE_18] at g_to
      refine x_callV (As := []) (b := m) (rest := []) (F1 := 4) (L1 := 87) (mc := 0) (ms := 0) d_Model_phrase_95 cV_Model_257 (f_nextH (x0 := (skP fa asz i)) l e g_at g_kind g_from g_to g_askedSize g_asked e_asked (by rw [← hE_18]; exact PT.2.1) hasz (by omega) (by omega)) e ⟨by decide, rfl⟩ ⟨by omega, by show 8 + (1 + 11) + 87 ≤ _; omega⟩ ⟨by omega, by omega⟩ (Nat.le_of_ble_eq_true rfl) (fun v_20 h_19 p_21 => ?_)
      obtain ⟨rfl, y_6, fs_7, PT_8, HY_9, l_10, e_11, g_12, g_13, g_14, g_15, ga_16, r_17⟩ := p_21
      have e_22 := r_17 asked_ _ (by simp only [List.mem_cons, List.not_mem_nil, or_false, not_or]; exact na.1) e_asked
      have e_23 := r_17 tokenAt_ _ (by simp only [List.mem_cons, List.not_mem_nil, or_false, not_or]; exact (xw_neC e_tokenAt e (by simp))) e_tokenAt
      have e_24 := r_17 tokenSize_ _ (by simp only [List.mem_cons, List.not_mem_nil, or_false, not_or]; exact (xw_neC e_tokenSize e (by simp))) e_tokenSize
      have r_25 := r0.trans (r_17.mono (by simp))
      have g_26 : fs_7[(4 : Nat)]? = some (.ref asked_) := (ga_16 4 (by decide)).trans g_asked
      have g_27 : fs_7[(11 : Nat)]? = some (.int (nI asz)) := (ga_16 11 (by decide)).trans g_askedSize
      have g_28 : fs_7[(33 : Nat)]? = some (.int bd) := (ga_16 33 (by decide)).trans g_bad
      have g_29 : fs_7[(35 : Nat)]? = some (.int (nI t)) := (ga_16 35 (by decide)).trans g_tokens
      have g_30 : fs_7[(43 : Nat)]? = some (.ref tokenAt_) := (ga_16 43 (by decide)).trans g_tokenAt
      have g_31 : fs_7[(44 : Nat)]? = some (.ref tokenSize_) := (ga_16 44 (by decide)).trans g_tokenSize
      have ga_32 : ∀ i : Nat, i ∉ [28, 29, 30, 31, 33, 35] → fs_7[i]? = gs[i]? := fun i hi => (ga_16 i (fun z => hi (by simp only [List.mem_cons, List.not_mem_nil, or_false] at z ⊢; omega))).trans (ga0 i hi)
      have RQ_33 := RQ.next (by rw [hk_5]; decide) (by rw [hk_5]; decide)
      have hb_34 := Nat.le_trans PT_8.1 PT_8.2.1
      refine s_Model_phrase_98 ?_
      refine x_callV (As := []) (b := m) (rest := [.ref m]) (F1 := 3) (L1 := 61) (mc := 0) (ms := 0) d_Model_phrase_100 cV_Model_244 (f_isStringH (pp := (skP fa asz i)) l_10 e_11 g_13 g_15 g_27 g_26 e_22 (by have := PT_8.2.1; omega) hasz HY_9 (by omega) (by omega)) e_11 ⟨by decide, rfl⟩ ⟨by omega, by show 8 + (1 + 11) + 61 ≤ _; omega⟩ ⟨by omega, by omega⟩ (Nat.le_of_ble_eq_true rfl) (fun v_38 h_37 p_39 => ?_)
      obtain ⟨⟨c_35, rfl, hc_36⟩, rfl⟩ := p_39
      refine s_Model_phrase_103 (fun z_40 => ?_) (fun z_41 => ?_)
      · skip
        refine s_Model_phrase_110 ?_
        refine s_Model_phrase_111 l_10 e_11 g_14 ?_
        refine x_callV (As := [.int 0, .int (nI (bl fa asz (skP fa asz i)))]) (b := m) (rest := []) (F1 := 1) (L1 := 20) (mc := 0) (ms := 0) d_Model_phrase_115 cV_Model_250 (f_wrongsH (k := bl fa asz (skP fa asz i)) l_10 e_11 g_28 (by omega) (by omega) (by omega)) e_11 ⟨by decide, rfl⟩ ⟨by omega, by show 8 + (3 + 11) + 20 ≤ _; omega⟩ ⟨by omega, by omega⟩ (Nat.le_of_ble_eq_true rfl) (fun v_53 h_52 p_54 => ?_)
        obtain ⟨rfl, bd_42, fs_43, hw_44, hw_45, hw_46, l_47, e_48, g_49, ga_50, r_51⟩ := p_54
        have e_55 := r_51 asked_ _ (by simp only [List.mem_cons, List.not_mem_nil, or_false, not_or]; exact na.1) e_22
        have e_56 := r_51 tokenAt_ _ (by simp only [List.mem_cons, List.not_mem_nil, or_false, not_or]; exact (xw_neC e_23 e_11 (by simp))) e_23
        have e_57 := r_51 tokenSize_ _ (by simp only [List.mem_cons, List.not_mem_nil, or_false, not_or]; exact (xw_neC e_24 e_11 (by simp))) e_24
        have r_58 := r_25.trans (r_51.mono (by simp))
        have g_59 : fs_43[(4 : Nat)]? = some (.ref asked_) := (ga_50 4 (by decide)).trans g_26
        have g_60 : fs_43[(11 : Nat)]? = some (.int (nI asz)) := (ga_50 11 (by decide)).trans g_27
        have g_61 : fs_43[(35 : Nat)]? = some (.int (nI t)) := (ga_50 35 (by decide)).trans g_29
        have g_62 : fs_43[(43 : Nat)]? = some (.ref tokenAt_) := (ga_50 43 (by decide)).trans g_30
        have g_63 : fs_43[(44 : Nat)]? = some (.ref tokenSize_) := (ga_50 44 (by decide)).trans g_31
        have g_64 : fs_43[(28 : Nat)]? = some (.int (nI (bl fa asz (skP fa asz i)))) := (ga_50 28 (by decide)).trans g_12
        have g_65 : fs_43[(29 : Nat)]? = some (.int (nI (rkd (kdP fa asz (skP fa asz i))))) := (ga_50 29 (by decide)).trans g_13
        have g_66 : fs_43[(30 : Nat)]? = some (.int (nI (bl fa asz (skP fa asz i)))) := (ga_50 30 (by decide)).trans g_14
        have g_67 : fs_43[(31 : Nat)]? = some (.int (nI y_6)) := (ga_50 31 (by decide)).trans g_15
        have ga_68 : ∀ i : Nat, i ∉ [28, 29, 30, 31, 33, 35] → fs_43[i]? = gs[i]? := fun i hi => (ga_50 i (fun z => hi (by simp only [List.mem_cons, List.not_mem_nil, or_false] at z ⊢; omega))).trans (ga_32 i hi)
        have hb_69 : bd_42 < 0 := by rw [hw_44 rfl]; exact hbd
        have hb_70 : ¬ 0 ≤ bd_42 := Int32.not_le.mpr hb_69
        refine s_Model_phrase_118 l_47 e_48 g_49 (fun z_71 => ?_) (fun z => absurd hb_69 z)
        refine s_Model_phrase_126 ?_
        have hs_86 := (hc_36.resolve_left (fun q => z_40 q.1)).2
        have rm_83 := RQ_33.room hasz hs_86
        have hE_84 := HY_9 (isS_k hs_86).2
        rw [hE_84] at g_67
        refine x_callV (As := []) (b := m) (rest := []) (F1 := 3) (L1 := 62) (mc := 0) (ms := 0) d_Model_phrase_127 cV_Model_254 (f_takeTokensH (x := bl fa asz (skP fa asz i)) (y := (skP fa asz (skP fa asz i))) l_47 e_48 g_66 g_67 g_61 g_60 g_59 e_55 g_62 e_56 g_63 e_57 nts hasz (Nat.le_of_lt rm_83.1) rm_83.2.1 RQ_33.2.1 (Nat.le_trans rm_83.2.2.1 rm_83.2.2.2) (by omega) (by omega)) e_48 ⟨by decide, rfl⟩ ⟨by omega, by show 8 + (2 + 11) + 62 ≤ _; omega⟩ ⟨by omega, by omega⟩ (Nat.le_of_ble_eq_true rfl) (fun v_88 h_87 p_89 => ?_)
        obtain ⟨rfl, ca_72, cs_73, fs_74, TR_75, l_76, e_77, g_78, ga_79, e_80, e_81, r_82⟩ := p_89
        have e_90 := r_82 asked_ _ (by simp only [List.mem_cons, List.not_mem_nil, or_false, not_or]; exact ⟨na.1, na.2.1, na.2.2⟩) e_55
        have r_91 := r_58.trans (r_82.mono (by simp))
        have g_92 : fs_74[(4 : Nat)]? = some (.ref asked_) := (ga_79 4 (by decide)).trans g_59
        have g_93 : fs_74[(11 : Nat)]? = some (.int (nI asz)) := (ga_79 11 (by decide)).trans g_60
        have g_94 : fs_74[(43 : Nat)]? = some (.ref tokenAt_) := (ga_79 43 (by decide)).trans g_62
        have g_95 : fs_74[(44 : Nat)]? = some (.ref tokenSize_) := (ga_79 44 (by decide)).trans g_63
        have g_96 : fs_74[(28 : Nat)]? = some (.int (nI (bl fa asz (skP fa asz i)))) := (ga_79 28 (by decide)).trans g_64
        have g_97 : fs_74[(29 : Nat)]? = some (.int (nI (rkd (kdP fa asz (skP fa asz i))))) := (ga_79 29 (by decide)).trans g_65
        have g_98 : fs_74[(30 : Nat)]? = some (.int (nI (bl fa asz (skP fa asz i)))) := (ga_79 30 (by decide)).trans g_66
        have g_99 : fs_74[(31 : Nat)]? = some (.int (nI (skP fa asz (skP fa asz i)))) := (ga_79 31 (by decide)).trans g_67
        have g_100 : fs_74[(33 : Nat)]? = some (.int bd_42) := (ga_79 33 (by decide)).trans g_49
        have ga_101 : ∀ i : Nat, i ∉ [28, 29, 30, 31, 33, 35] → fs_74[i]? = gs[i]? := fun i hi => (ga_79 i (fun z => hi (by simp only [List.mem_cons, List.not_mem_nil, or_false] at z ⊢; omega))).trans (ga_68 i hi)
        have RQ_85 := RQ_33.str hasz hs_86 TR_75
        refine s_Model_phrase_130 ?_
        have hE_114 := HY_9 (isS_k hs_86).2
        refine x_callV (As := []) (b := m) (rest := []) (F1 := 4) (L1 := 87) (mc := 0) (ms := 0) d_Model_phrase_131 cV_Model_257 (f_nextH (x0 := (skP fa asz (skP fa asz i))) l_76 e_77 g_96 g_97 g_98 g_99 g_93 g_92 e_90 (by rw [← hE_114]; exact PT_8.2.1) hasz (by omega) (by omega)) e_77 ⟨by decide, rfl⟩ ⟨by omega, by show 8 + (1 + 11) + 87 ≤ _; omega⟩ ⟨by omega, by omega⟩ (Nat.le_of_ble_eq_true rfl) (fun v_116 h_115 p_117 => ?_)
        obtain ⟨rfl, y_102, fs_103, PT_104, HY_105, l_106, e_107, g_108, g_109, g_110, g_111, ga_112, r_113⟩ := p_117
        have e_118 := r_113 asked_ _ (by simp only [List.mem_cons, List.not_mem_nil, or_false, not_or]; exact na.1) e_90
        have e_119 := r_113 tokenAt_ _ (by simp only [List.mem_cons, List.not_mem_nil, or_false, not_or]; exact (xw_neC e_80 e_77 (by simp))) e_80
        have e_120 := r_113 tokenSize_ _ (by simp only [List.mem_cons, List.not_mem_nil, or_false, not_or]; exact (xw_neC e_81 e_77 (by simp))) e_81
        have r_121 := r_91.trans (r_113.mono (by simp))
        have g_122 : fs_103[(4 : Nat)]? = some (.ref asked_) := (ga_112 4 (by decide)).trans g_92
        have g_123 : fs_103[(11 : Nat)]? = some (.int (nI asz)) := (ga_112 11 (by decide)).trans g_93
        have g_124 : fs_103[(43 : Nat)]? = some (.ref tokenAt_) := (ga_112 43 (by decide)).trans g_94
        have g_125 : fs_103[(44 : Nat)]? = some (.ref tokenSize_) := (ga_112 44 (by decide)).trans g_95
        have g_126 : fs_103[(33 : Nat)]? = some (.int bd_42) := (ga_112 33 (by decide)).trans g_100
        have g_127 : fs_103[(35 : Nat)]? = some (.int (nI (t + tokN (fun j => fa (bl fa asz (skP fa asz i) + j)) ((skP fa asz (skP fa asz i)) - bl fa asz (skP fa asz i))))) := (ga_112 35 (by decide)).trans g_78
        have ga_128 : ∀ i : Nat, i ∉ [28, 29, 30, 31, 33, 35] → fs_103[i]? = gs[i]? := fun i hi => (ga_112 i (fun z => hi (by simp only [List.mem_cons, List.not_mem_nil, or_false] at z ⊢; omega))).trans (ga_101 i hi)
        have hb_129 := Nat.le_trans PT_104.1 PT_104.2.1
        refine s_Model_phrase_134 ?_
        have p9 := sk_gt (t := fa) (n := asz) (p := i) (by rw [hk_5]; decide) (by rw [hk_5]; decide)
        have p8 := sk_ge fa asz (skP fa asz i)
        have p7 := (bl_ge fa asz (skP fa asz (skP fa asz i))).1
        exact ih (skP fa asz (skP fa asz i)) _ _ _ _ _ _ (sp ++ [(bl fa asz (skP fa asz i), (skP fa asz (skP fa asz i)))]) _ (by omega) (by omega) l_106 e_107 g_108 g_109 g_110 g_111 g_126 g_127 ga_128 e_119 e_120 PT_104 HY_105 RQ_85 hb_69 r_121 (fun f hf => by rw [rdP_any hf (f2 := asz - i) (by omega), ← hR (asz - i + 1) (by omega)]; exact (rdP_y hk_5 hs_86).symm)
      · skip
        refine s_Model_phrase_106 ?_
        refine s_Model_phrase_111 l_10 e_11 g_14 ?_
        refine x_callV (As := [.int 1, .int (nI (bl fa asz (skP fa asz i)))]) (b := m) (rest := []) (F1 := 1) (L1 := 20) (mc := 0) (ms := 0) d_Model_phrase_115 cV_Model_250 (f_wrongsH (k := bl fa asz (skP fa asz i)) l_10 e_11 g_28 (by omega) (by omega) (by omega)) e_11 ⟨by decide, rfl⟩ ⟨by omega, by show 8 + (3 + 11) + 20 ≤ _; omega⟩ ⟨by omega, by omega⟩ (Nat.le_of_ble_eq_true rfl) (fun v_141 h_140 p_142 => ?_)
        obtain ⟨rfl, bd_130, fs_131, hw_132, hw_133, hw_134, l_135, e_136, g_137, ga_138, r_139⟩ := p_142
        have e_143 := r_139 asked_ _ (by simp only [List.mem_cons, List.not_mem_nil, or_false, not_or]; exact na.1) e_22
        have e_144 := r_139 tokenAt_ _ (by simp only [List.mem_cons, List.not_mem_nil, or_false, not_or]; exact (xw_neC e_23 e_11 (by simp))) e_23
        have e_145 := r_139 tokenSize_ _ (by simp only [List.mem_cons, List.not_mem_nil, or_false, not_or]; exact (xw_neC e_24 e_11 (by simp))) e_24
        have r_146 := r_25.trans (r_139.mono (by simp))
        have g_147 : fs_131[(4 : Nat)]? = some (.ref asked_) := (ga_138 4 (by decide)).trans g_26
        have g_148 : fs_131[(11 : Nat)]? = some (.int (nI asz)) := (ga_138 11 (by decide)).trans g_27
        have g_149 : fs_131[(35 : Nat)]? = some (.int (nI t)) := (ga_138 35 (by decide)).trans g_29
        have g_150 : fs_131[(43 : Nat)]? = some (.ref tokenAt_) := (ga_138 43 (by decide)).trans g_30
        have g_151 : fs_131[(44 : Nat)]? = some (.ref tokenSize_) := (ga_138 44 (by decide)).trans g_31
        have g_152 : fs_131[(28 : Nat)]? = some (.int (nI (bl fa asz (skP fa asz i)))) := (ga_138 28 (by decide)).trans g_12
        have g_153 : fs_131[(29 : Nat)]? = some (.int (nI (rkd (kdP fa asz (skP fa asz i))))) := (ga_138 29 (by decide)).trans g_13
        have g_154 : fs_131[(30 : Nat)]? = some (.int (nI (bl fa asz (skP fa asz i)))) := (ga_138 30 (by decide)).trans g_14
        have g_155 : fs_131[(31 : Nat)]? = some (.int (nI y_6)) := (ga_138 31 (by decide)).trans g_15
        have ga_156 : ∀ i : Nat, i ∉ [28, 29, 30, 31, 33, 35] → fs_131[i]? = gs[i]? := fun i hi => (ga_138 i (fun z => hi (by simp only [List.mem_cons, List.not_mem_nil, or_false] at z ⊢; omega))).trans (ga_32 i hi)
        have hb_157 : ¬ bd_130 < 0 := hw_133 (by decide)
        have hb_158 : 0 ≤ bd_130 := Int32.not_lt.mp hb_157
        refine s_Model_phrase_118 l_135 e_136 g_137 (fun z => absurd z hb_157) (fun z_159 => ?_)
        refine s_Model_phrase_125 ?_
        have hs_160 := (hc_36.resolve_right (fun q => absurd (q.1.symm.trans z_41) (by decide))).2
        exact kk.2 _ _ _ _ _ l_135 e_136 g_137 hb_157 (fun i9 hi9 => by simp only [List.mem_cons, List.not_mem_nil, or_false] at hi9; rcases hi9 with rfl | rfl | rfl | rfl | rfl | rfl <;> first | exact ⟨_, g_152⟩ | exact ⟨_, g_153⟩ | exact ⟨_, g_154⟩ | exact ⟨_, g_155⟩ | exact ⟨_, g_137⟩ | exact ⟨_, g_149⟩) ga_156 e_144 e_145 r_146 (by rw [← hR (asz - i + 1) (by omega)]; exact rdP_f hk_5 (bF hs_160))
set_option maxHeartbeats 4000000 in
theorem f_phraseH {G : xw_G} {F L : Nat} {h : xw_A} {p y pn t asz : Nat} {bd : Int32} {fa c1 c2 ca cs : Nat → Int32} {ph : List PHt} {asked_ firstToken_ starred_ tokenAt_ tokenSize_ : Nat} {m : Nat} {fs : List Value} (l : fs.length = 62) (e : h m = some (.inr (11, fs))) (g_at : fs[(28 : Nat)]? = some (.int (nI (bl fa asz p)))) (g_kind : fs[(29 : Nat)]? = some (.int (nI (rkd (kdP fa asz p))))) (g_from : fs[(30 : Nat)]? = some (.int (nI (bl fa asz p)))) (g_to : fs[(31 : Nat)]? = some (.int (nI y))) (g_bad : fs[(33 : Nat)]? = some (.int bd)) (g_phrases : fs[(34 : Nat)]? = some (.int (nI pn))) (g_tokens : fs[(35 : Nat)]? = some (.int (nI t))) (g_askedSize : fs[(11 : Nat)]? = some (.int (nI asz))) (g_asked : fs[(4 : Nat)]? = some (.ref asked_)) (e_asked : h asked_ = some (.inl (0, 96, .inl (fa)))) (g_firstToken : fs[(41 : Nat)]? = some (.ref firstToken_)) (e_firstToken : h firstToken_ = some (.inl (0, 13, .inl (c1)))) (g_starred : fs[(42 : Nat)]? = some (.ref starred_)) (e_starred : h starred_ = some (.inl (0, 13, .inl (c2)))) (g_tokenAt : fs[(43 : Nat)]? = some (.ref tokenAt_)) (e_tokenAt : h tokenAt_ = some (.inl (0, 60, .inl (ca)))) (g_tokenSize : fs[(44 : Nat)]? = some (.ref tokenSize_)) (e_tokenSize : h tokenSize_ = some (.inl (0, 60, .inl (cs)))) (n_firstToken_starred : firstToken_ ≠ starred_) (n_tokenAt_tokenSize : tokenAt_ ≠ tokenSize_) (hasz : asz ≤ 96) (PT : PtO fa asz (bl fa asz p) y (nI (rkd (kdP fa asz p)))) (HY : ¬ kdP fa asz p = 1 → y = skP fa asz p) (RQ : RqT fa asz c1 c2 ca cs t p ph []) (hbd : bd < 0) (hpn : pn = ph.length) (hp12 : pn ≤ 12) (hF : 5 ≤ F) (hL : 107 ≤ L) :
    xw_Met G m_Model_phrase F L 0 0 [.ref m] h (fun v h' => v = none ∧ ∃ (bd' : Int32) (c1' c2' ca' cs' : Nat → Int32) (fs' : List Value), fs'.length = 62 ∧ h' m = some (.inr (11, fs')) ∧ fs'[(33 : Nat)]? = some (.int bd') ∧ (∀ i : Nat, i ∉ [28, 29, 30, 31, 33, 34, 35] → fs'[i]? = fs[i]?) ∧ h' firstToken_ = some (.inl (0, 13, .inl c1')) ∧ h' starred_ = some (.inl (0, 13, .inl c2')) ∧ h' tokenAt_ = some (.inl (0, 60, .inl ca')) ∧ h' tokenSize_ = some (.inl (0, 60, .inl cs')) ∧ FrO [m, firstToken_, starred_, tokenAt_, tokenSize_] h h' ∧ ((rdPh fa asz ph.length p = none ∧ ¬ bd' < 0 ∧ INT fs' [28, 29, 30, 31, 33, 34, 35]) ∨ ∃ (p' : Nat) (x' : PHt) (y' t' : Nat), rdPh fa asz ph.length p = some (p', x') ∧ bd' < 0 ∧ PtO fa asz (bl fa asz p') y' (nI (rkd (kdP fa asz p'))) ∧ (¬ kdP fa asz p' = 1 → y' = skP fa asz p') ∧ fs'[(28 : Nat)]? = some (.int (nI (bl fa asz p'))) ∧ fs'[(29 : Nat)]? = some (.int (nI (rkd (kdP fa asz p')))) ∧ fs'[(30 : Nat)]? = some (.int (nI (bl fa asz p'))) ∧ fs'[(31 : Nat)]? = some (.int (nI y')) ∧ fs'[(34 : Nat)]? = some (.int (nI (ph.length + 1))) ∧ fs'[(35 : Nat)]? = some (.int (nI t')) ∧ RqT fa asz c1' c2' ca' cs' t' p' (ph ++ [x']) [])) (fun _ _ => False) := by
  refine xw_Met.of rfl (by decide) (Nat.le_of_ble_eq_true rfl) ?_
  have hbd2 : ¬ 0 ≤ bd := Int32.not_le.mpr hbd
  have hxy0 := PT.1
  have hy97 := PT.2.1
  have ga0 : ∀ i : Nat, i ∉ [28, 29, 30, 31, 33, 34, 35] → fs[i]? = fs[i]? := fun _ _ => rfl
  have r0 : FrO [m, firstToken_, starred_, tokenAt_, tokenSize_] h h := FrO.rf
  refine s_Model_phrase_0 ?_
  refine x_callV (As := []) (b := m) (rest := [.ref m]) (F1 := 3) (L1 := 61) (mc := 0) (ms := 0) d_Model_phrase_2 cV_Model_244 (f_isStringH (pp := p) l e g_kind g_to g_askedSize g_asked e_asked (by have := PT.2.1; omega) hasz HY (by omega) (by omega)) e ⟨by decide, rfl⟩ ⟨by omega, by show 8 + (1 + 11) + 61 ≤ _; omega⟩ ⟨by omega, by omega⟩ (Nat.le_of_ble_eq_true rfl) (fun v_4 h_3 p_5 => ?_)
  obtain ⟨⟨c_1, rfl, hc_2⟩, rfl⟩ := p_5
  refine s_Model_phrase_5 (fun z_6 => ?_) (fun z_7 => ?_)
  · skip
    refine s_Model_phrase_17 ?_
    refine s_Model_phrase_22 l e g_from ?_
    refine x_callV (As := [.int 1, .int (nI (bl fa asz p))]) (b := m) (rest := []) (F1 := 1) (L1 := 20) (mc := 0) (ms := 0) d_Model_phrase_26 cV_Model_250 (f_wrongsH (k := bl fa asz p) l e g_bad (by omega) (by omega) (by omega)) e ⟨by decide, rfl⟩ ⟨by omega, by show 8 + (3 + 11) + 20 ≤ _; omega⟩ ⟨by omega, by omega⟩ (Nat.le_of_ble_eq_true rfl) (fun v_19 h_18 p_20 => ?_)
    obtain ⟨rfl, bd_8, fs_9, hw_10, hw_11, hw_12, l_13, e_14, g_15, ga_16, r_17⟩ := p_20
    have e_21 := r_17 asked_ _ (by simp only [List.mem_cons, List.not_mem_nil, or_false, not_or]; exact (xw_neC e_asked e (by simp))) e_asked
    have e_22 := r_17 firstToken_ _ (by simp only [List.mem_cons, List.not_mem_nil, or_false, not_or]; exact (xw_neC e_firstToken e (by simp))) e_firstToken
    have e_23 := r_17 starred_ _ (by simp only [List.mem_cons, List.not_mem_nil, or_false, not_or]; exact (xw_neC e_starred e (by simp))) e_starred
    have e_24 := r_17 tokenAt_ _ (by simp only [List.mem_cons, List.not_mem_nil, or_false, not_or]; exact (xw_neC e_tokenAt e (by simp))) e_tokenAt
    have e_25 := r_17 tokenSize_ _ (by simp only [List.mem_cons, List.not_mem_nil, or_false, not_or]; exact (xw_neC e_tokenSize e (by simp))) e_tokenSize
    have r_26 := r0.trans (r_17.mono (by simp))
    have g_27 : fs_9[(28 : Nat)]? = some (.int (nI (bl fa asz p))) := (ga_16 28 (by decide)).trans g_at
    have g_28 : fs_9[(29 : Nat)]? = some (.int (nI (rkd (kdP fa asz p)))) := (ga_16 29 (by decide)).trans g_kind
    have g_29 : fs_9[(30 : Nat)]? = some (.int (nI (bl fa asz p))) := (ga_16 30 (by decide)).trans g_from
    have g_30 : fs_9[(31 : Nat)]? = some (.int (nI y)) := (ga_16 31 (by decide)).trans g_to
    have g_31 : fs_9[(34 : Nat)]? = some (.int (nI pn)) := (ga_16 34 (by decide)).trans g_phrases
    have g_32 : fs_9[(35 : Nat)]? = some (.int (nI t)) := (ga_16 35 (by decide)).trans g_tokens
    have g_33 : fs_9[(11 : Nat)]? = some (.int (nI asz)) := (ga_16 11 (by decide)).trans g_askedSize
    have g_34 : fs_9[(4 : Nat)]? = some (.ref asked_) := (ga_16 4 (by decide)).trans g_asked
    have g_35 : fs_9[(41 : Nat)]? = some (.ref firstToken_) := (ga_16 41 (by decide)).trans g_firstToken
    have g_36 : fs_9[(42 : Nat)]? = some (.ref starred_) := (ga_16 42 (by decide)).trans g_starred
    have g_37 : fs_9[(43 : Nat)]? = some (.ref tokenAt_) := (ga_16 43 (by decide)).trans g_tokenAt
    have g_38 : fs_9[(44 : Nat)]? = some (.ref tokenSize_) := (ga_16 44 (by decide)).trans g_tokenSize
    have ga_39 : ∀ i : Nat, i ∉ [28, 29, 30, 31, 33, 34, 35] → fs_9[i]? = fs[i]? := fun i hi => (ga_16 i (fun z => hi (by simp only [List.mem_cons, List.not_mem_nil, or_false] at z ⊢; omega))).trans (ga0 i hi)
    have hb_40 : ¬ bd_8 < 0 := hw_11 (by decide)
    have hb_41 : 0 ≤ bd_8 := Int32.not_lt.mp hb_40
    refine s_Model_phrase_29 l_13 e_14 g_15 (fun z => absurd z hb_40) (fun z_42 => ?_)
    refine s_Model_phrase_36 ?_
    have hs_43 := (hc_2.resolve_right (fun q => absurd (q.1.symm.trans z_6) (by decide))).2
    exact ⟨rfl, _, _, _, _, _, _, l_13, e_14, g_15, ga_39, e_22, e_23, e_24, e_25, r_26, Or.inl ⟨rdPh_s (bF hs_43), hb_40, (fun i9 hi9 => by simp only [List.mem_cons, List.not_mem_nil, or_false] at hi9; rcases hi9 with rfl | rfl | rfl | rfl | rfl | rfl | rfl <;> first | exact ⟨_, g_27⟩ | exact ⟨_, g_28⟩ | exact ⟨_, g_29⟩ | exact ⟨_, g_30⟩ | exact ⟨_, g_15⟩ | exact ⟨_, g_31⟩ | exact ⟨_, g_32⟩)⟩⟩
  · skip
    refine s_Model_phrase_8 l e g_phrases (fun z_44 => ?_) (fun z_45 => ?_)
    · skip
      refine s_Model_phrase_21 ?_
      refine s_Model_phrase_22 l e g_from ?_
      refine x_callV (As := [.int 0, .int (nI (bl fa asz p))]) (b := m) (rest := []) (F1 := 1) (L1 := 20) (mc := 0) (ms := 0) d_Model_phrase_26 cV_Model_250 (f_wrongsH (k := bl fa asz p) l e g_bad (by omega) (by omega) (by omega)) e ⟨by decide, rfl⟩ ⟨by omega, by show 8 + (3 + 11) + 20 ≤ _; omega⟩ ⟨by omega, by omega⟩ (Nat.le_of_ble_eq_true rfl) (fun v_57 h_56 p_58 => ?_)
      obtain ⟨rfl, bd_46, fs_47, hw_48, hw_49, hw_50, l_51, e_52, g_53, ga_54, r_55⟩ := p_58
      have e_59 := r_55 asked_ _ (by simp only [List.mem_cons, List.not_mem_nil, or_false, not_or]; exact (xw_neC e_asked e (by simp))) e_asked
      have e_60 := r_55 firstToken_ _ (by simp only [List.mem_cons, List.not_mem_nil, or_false, not_or]; exact (xw_neC e_firstToken e (by simp))) e_firstToken
      have e_61 := r_55 starred_ _ (by simp only [List.mem_cons, List.not_mem_nil, or_false, not_or]; exact (xw_neC e_starred e (by simp))) e_starred
      have e_62 := r_55 tokenAt_ _ (by simp only [List.mem_cons, List.not_mem_nil, or_false, not_or]; exact (xw_neC e_tokenAt e (by simp))) e_tokenAt
      have e_63 := r_55 tokenSize_ _ (by simp only [List.mem_cons, List.not_mem_nil, or_false, not_or]; exact (xw_neC e_tokenSize e (by simp))) e_tokenSize
      have r_64 := r0.trans (r_55.mono (by simp))
      have g_65 : fs_47[(28 : Nat)]? = some (.int (nI (bl fa asz p))) := (ga_54 28 (by decide)).trans g_at
      have g_66 : fs_47[(29 : Nat)]? = some (.int (nI (rkd (kdP fa asz p)))) := (ga_54 29 (by decide)).trans g_kind
      have g_67 : fs_47[(30 : Nat)]? = some (.int (nI (bl fa asz p))) := (ga_54 30 (by decide)).trans g_from
      have g_68 : fs_47[(31 : Nat)]? = some (.int (nI y)) := (ga_54 31 (by decide)).trans g_to
      have g_69 : fs_47[(34 : Nat)]? = some (.int (nI pn)) := (ga_54 34 (by decide)).trans g_phrases
      have g_70 : fs_47[(35 : Nat)]? = some (.int (nI t)) := (ga_54 35 (by decide)).trans g_tokens
      have g_71 : fs_47[(11 : Nat)]? = some (.int (nI asz)) := (ga_54 11 (by decide)).trans g_askedSize
      have g_72 : fs_47[(4 : Nat)]? = some (.ref asked_) := (ga_54 4 (by decide)).trans g_asked
      have g_73 : fs_47[(41 : Nat)]? = some (.ref firstToken_) := (ga_54 41 (by decide)).trans g_firstToken
      have g_74 : fs_47[(42 : Nat)]? = some (.ref starred_) := (ga_54 42 (by decide)).trans g_starred
      have g_75 : fs_47[(43 : Nat)]? = some (.ref tokenAt_) := (ga_54 43 (by decide)).trans g_tokenAt
      have g_76 : fs_47[(44 : Nat)]? = some (.ref tokenSize_) := (ga_54 44 (by decide)).trans g_tokenSize
      have ga_77 : ∀ i : Nat, i ∉ [28, 29, 30, 31, 33, 34, 35] → fs_47[i]? = fs[i]? := fun i hi => (ga_54 i (fun z => hi (by simp only [List.mem_cons, List.not_mem_nil, or_false] at z ⊢; omega))).trans (ga0 i hi)
      have hb_78 : bd_46 < 0 := by rw [hw_48 rfl]; exact hbd
      have hb_79 : ¬ 0 ≤ bd_46 := Int32.not_le.mpr hb_78
      refine s_Model_phrase_29 l_51 e_52 g_53 (fun z_80 => ?_) (fun z => absurd hb_78 z)
      have hpl : pn < 12 := Nat.lt_of_le_of_ne hp12 (fun q => z_44 (by rw [q]; rfl))
      refine s_Model_phrase_37 l_51 e_52 g_73 g_69 g_70 e_60 (vp_in_nI (by omega) (by omega)) g_74 e_61 (vp_in_nI (by omega) (by omega)) (Ne.symm n_firstToken_starred) ?_
      refine x_u3 (fun h_81 e_82 f_83 h_84 e_85 f_86 h_87 e_88 f_89 => ?_)
      have e_90 := (f_83 asked_ (xw_neC e_59 e_60 (by simp))).trans e_59
      have e_91 := (f_83 starred_ (Ne.symm n_firstToken_starred)).trans e_61
      have e_92 := (f_83 tokenAt_ (xw_neC e_62 e_60 (by simp))).trans e_62
      have e_93 := (f_83 tokenSize_ (xw_neC e_63 e_60 (by simp))).trans e_63
      have e_94 := (f_83 m (xw_neC e_52 e_60 (by simp))).trans e_52
      have r_95 := r_64.up (by simp) f_83
      have e_96 := (f_86 asked_ (xw_neC e_90 e_91 (by simp))).trans e_90
      have e_97 := (f_86 firstToken_ n_firstToken_starred).trans e_82
      have e_98 := (f_86 tokenAt_ (xw_neC e_92 e_91 (by simp))).trans e_92
      have e_99 := (f_86 tokenSize_ (xw_neC e_93 e_91 (by simp))).trans e_93
      have e_100 := (f_86 m (xw_neC e_94 e_91 (by simp))).trans e_94
      have r_101 := r_95.up (by simp) f_86
      have e_102 := (f_89 asked_ (xw_neC e_96 e_100 (by simp))).trans e_96
      have e_103 := (f_89 firstToken_ (xw_neC e_97 e_100 (by simp))).trans e_97
      have e_104 := (f_89 starred_ (xw_neC e_85 e_100 (by simp))).trans e_85
      have e_105 := (f_89 tokenAt_ (xw_neC e_98 e_100 (by simp))).trans e_98
      have e_106 := (f_89 tokenSize_ (xw_neC e_99 e_100 (by simp))).trans e_99
      have r_107 := r_101.up (by simp) f_89
      obtain ⟨fs_108, z_109⟩ : ∃ z, z = fs_47.set 34 (.int ((nI pn) + 1)) := ⟨_, rfl⟩
      rw [← z_109] at e_88
      have l_110 : fs_108.length = 62 := by rw [z_109]; simp only [List.length_set]; exact l_51
      have g_111 : fs_108[(4 : Nat)]? = some (.ref asked_) := by rw [z_109]; exact (xw_gn (by decide) g_72)
      have g_112 : fs_108[(11 : Nat)]? = some (.int (nI asz)) := by rw [z_109]; exact (xw_gn (by decide) g_71)
      have g_113 : fs_108[(28 : Nat)]? = some (.int (nI (bl fa asz p))) := by rw [z_109]; exact (xw_gn (by decide) g_65)
      have g_114 : fs_108[(29 : Nat)]? = some (.int (nI (rkd (kdP fa asz p)))) := by rw [z_109]; exact (xw_gn (by decide) g_66)
      have g_115 : fs_108[(30 : Nat)]? = some (.int (nI (bl fa asz p))) := by rw [z_109]; exact (xw_gn (by decide) g_67)
      have g_116 : fs_108[(31 : Nat)]? = some (.int (nI y)) := by rw [z_109]; exact (xw_gn (by decide) g_68)
      have g_117 : fs_108[(33 : Nat)]? = some (.int bd_46) := by rw [z_109]; exact (xw_gn (by decide) g_53)
      have g_118 : fs_108[(34 : Nat)]? = some (.int ((nI pn) + 1)) := by rw [z_109]; exact (xw_gs (by simp [l_51]))
      have g_119 : fs_108[(35 : Nat)]? = some (.int (nI t)) := by rw [z_109]; exact (xw_gn (by decide) g_70)
      have g_120 : fs_108[(41 : Nat)]? = some (.ref firstToken_) := by rw [z_109]; exact (xw_gn (by decide) g_73)
      have g_121 : fs_108[(42 : Nat)]? = some (.ref starred_) := by rw [z_109]; exact (xw_gn (by decide) g_74)
      have g_122 : fs_108[(43 : Nat)]? = some (.ref tokenAt_) := by rw [z_109]; exact (xw_gn (by decide) g_75)
      have g_123 : fs_108[(44 : Nat)]? = some (.ref tokenSize_) := by rw [z_109]; exact (xw_gn (by decide) g_76)
      have ga_124 : ∀ i : Nat, i ∉ [28, 29, 30, 31, 33, 34, 35] → fs_108[i]? = fs[i]? := fun i hi => by rw [z_109]; exact xw_gn (fun z => hi (by rw [z]; simp)) (ga_77 i hi)
      clear z_109
      rw [nI_1] at g_118
      rw [nI_clamp (show pn < 2 ^ 31 by omega), hpn] at e_103
      rw [nI_clamp (show pn < 2 ^ 31 by omega), hpn] at e_104
      have RQb := RQ.beg 0
      have hs_139 := (hc_2.resolve_left (fun q => z_7 q.1)).2
      have rm_136 := RQb.room hasz hs_139
      have hE_137 := HY (isS_k hs_139).2
      rw [hE_137] at g_116
      refine x_callV (As := []) (b := m) (rest := []) (F1 := 3) (L1 := 62) (mc := 0) (ms := 0) d_Model_phrase_71 cV_Model_254 (f_takeTokensH (x := bl fa asz p) (y := (skP fa asz p)) l_110 e_88 g_115 g_116 g_119 g_112 g_111 e_102 g_122 e_105 g_123 e_106 n_tokenAt_tokenSize hasz (Nat.le_of_lt rm_136.1) rm_136.2.1 RQb.2.1 (Nat.le_trans rm_136.2.2.1 rm_136.2.2.2) (by omega) (by omega)) e_88 ⟨by decide, rfl⟩ ⟨by omega, by show 8 + (2 + 11) + 62 ≤ _; omega⟩ ⟨by omega, by omega⟩ (Nat.le_of_ble_eq_true rfl) (fun v_141 h_140 p_142 => ?_)
      obtain ⟨rfl, ca_125, cs_126, fs_127, TR_128, l_129, e_130, g_131, ga_132, e_133, e_134, r_135⟩ := p_142
      have e_143 := r_135 asked_ _ (by simp only [List.mem_cons, List.not_mem_nil, or_false, not_or]; exact ⟨(xw_neC e_102 e_88 (by simp)), (xw_neC e_102 e_105 (by simp)), (xw_neC e_102 e_106 (by simp))⟩) e_102
      have e_144 := r_135 firstToken_ _ (by simp only [List.mem_cons, List.not_mem_nil, or_false, not_or]; exact ⟨(xw_neC e_103 e_88 (by simp)), (xw_neC e_103 e_105 (by simp)), (xw_neC e_103 e_106 (by simp))⟩) e_103
      have e_145 := r_135 starred_ _ (by simp only [List.mem_cons, List.not_mem_nil, or_false, not_or]; exact ⟨(xw_neC e_104 e_88 (by simp)), (xw_neC e_104 e_105 (by simp)), (xw_neC e_104 e_106 (by simp))⟩) e_104
      have r_146 := r_107.trans (r_135.mono (by simp))
      have g_147 : fs_127[(4 : Nat)]? = some (.ref asked_) := (ga_132 4 (by decide)).trans g_111
      have g_148 : fs_127[(11 : Nat)]? = some (.int (nI asz)) := (ga_132 11 (by decide)).trans g_112
      have g_149 : fs_127[(28 : Nat)]? = some (.int (nI (bl fa asz p))) := (ga_132 28 (by decide)).trans g_113
      have g_150 : fs_127[(29 : Nat)]? = some (.int (nI (rkd (kdP fa asz p)))) := (ga_132 29 (by decide)).trans g_114
      have g_151 : fs_127[(30 : Nat)]? = some (.int (nI (bl fa asz p))) := (ga_132 30 (by decide)).trans g_115
      have g_152 : fs_127[(31 : Nat)]? = some (.int (nI (skP fa asz p))) := (ga_132 31 (by decide)).trans g_116
      have g_153 : fs_127[(33 : Nat)]? = some (.int bd_46) := (ga_132 33 (by decide)).trans g_117
      have g_154 : fs_127[(34 : Nat)]? = some (.int (nI (pn + 1))) := (ga_132 34 (by decide)).trans g_118
      have g_155 : fs_127[(41 : Nat)]? = some (.ref firstToken_) := (ga_132 41 (by decide)).trans g_120
      have g_156 : fs_127[(42 : Nat)]? = some (.ref starred_) := (ga_132 42 (by decide)).trans g_121
      have g_157 : fs_127[(43 : Nat)]? = some (.ref tokenAt_) := (ga_132 43 (by decide)).trans g_122
      have g_158 : fs_127[(44 : Nat)]? = some (.ref tokenSize_) := (ga_132 44 (by decide)).trans g_123
      have ga_159 : ∀ i : Nat, i ∉ [28, 29, 30, 31, 33, 34, 35] → fs_127[i]? = fs[i]? := fun i hi => (ga_132 i (fun z => hi (by simp only [List.mem_cons, List.not_mem_nil, or_false] at z ⊢; omega))).trans (ga_124 i hi)
      have RQ_138 := RQb.str hasz hs_139 TR_128
      refine s_Model_phrase_74 ?_
      have hE_172 := HY (isS_k hs_139).2
      refine x_callV (As := []) (b := m) (rest := []) (F1 := 4) (L1 := 87) (mc := 0) (ms := 0) d_Model_phrase_75 cV_Model_257 (f_nextH (x0 := (skP fa asz p)) l_129 e_130 g_149 g_150 g_151 g_152 g_148 g_147 e_143 (by rw [← hE_172]; exact PT.2.1) hasz (by omega) (by omega)) e_130 ⟨by decide, rfl⟩ ⟨by omega, by show 8 + (1 + 11) + 87 ≤ _; omega⟩ ⟨by omega, by omega⟩ (Nat.le_of_ble_eq_true rfl) (fun v_174 h_173 p_175 => ?_)
      obtain ⟨rfl, y_160, fs_161, PT_162, HY_163, l_164, e_165, g_166, g_167, g_168, g_169, ga_170, r_171⟩ := p_175
      have e_176 := r_171 asked_ _ (by simp only [List.mem_cons, List.not_mem_nil, or_false, not_or]; exact (xw_neC e_143 e_130 (by simp))) e_143
      have e_177 := r_171 firstToken_ _ (by simp only [List.mem_cons, List.not_mem_nil, or_false, not_or]; exact (xw_neC e_144 e_130 (by simp))) e_144
      have e_178 := r_171 starred_ _ (by simp only [List.mem_cons, List.not_mem_nil, or_false, not_or]; exact (xw_neC e_145 e_130 (by simp))) e_145
      have e_179 := r_171 tokenAt_ _ (by simp only [List.mem_cons, List.not_mem_nil, or_false, not_or]; exact (xw_neC e_133 e_130 (by simp))) e_133
      have e_180 := r_171 tokenSize_ _ (by simp only [List.mem_cons, List.not_mem_nil, or_false, not_or]; exact (xw_neC e_134 e_130 (by simp))) e_134
      have r_181 := r_146.trans (r_171.mono (by simp))
      have g_182 : fs_161[(4 : Nat)]? = some (.ref asked_) := (ga_170 4 (by decide)).trans g_147
      have g_183 : fs_161[(11 : Nat)]? = some (.int (nI asz)) := (ga_170 11 (by decide)).trans g_148
      have g_184 : fs_161[(33 : Nat)]? = some (.int bd_46) := (ga_170 33 (by decide)).trans g_153
      have g_185 : fs_161[(34 : Nat)]? = some (.int (nI (pn + 1))) := (ga_170 34 (by decide)).trans g_154
      have g_186 : fs_161[(41 : Nat)]? = some (.ref firstToken_) := (ga_170 41 (by decide)).trans g_155
      have g_187 : fs_161[(42 : Nat)]? = some (.ref starred_) := (ga_170 42 (by decide)).trans g_156
      have g_188 : fs_161[(43 : Nat)]? = some (.ref tokenAt_) := (ga_170 43 (by decide)).trans g_157
      have g_189 : fs_161[(44 : Nat)]? = some (.ref tokenSize_) := (ga_170 44 (by decide)).trans g_158
      have g_190 : fs_161[(35 : Nat)]? = some (.int (nI (t + tokN (fun j => fa (bl fa asz p + j)) ((skP fa asz p) - bl fa asz p)))) := (ga_170 35 (by decide)).trans g_131
      have ga_191 : ∀ i : Nat, i ∉ [28, 29, 30, 31, 33, 34, 35] → fs_161[i]? = fs[i]? := fun i hi => (ga_170 i (fun z => hi (by simp only [List.mem_cons, List.not_mem_nil, or_false] at z ⊢; omega))).trans (ga_159 i hi)
      have hb_192 := Nat.le_trans PT_162.1 PT_162.2.1
      have p7 := (bl_ge fa asz (skP fa asz p)).1
      refine lp_phH (gs := fs_161) (h0 := h_173) (R := rdP fa asz 96 (skP fa asz p) ([] ++ [(bl fa asz p, (skP fa asz p))])) g_182 g_183 g_188 g_189 e_176 ⟨(xw_neC e_176 e_165 (by simp)), (xw_neC e_176 e_179 (by simp)), (xw_neC e_176 e_180 (by simp))⟩ n_tokenAt_tokenSize hasz (by omega) (by omega) ⟨fun h9 i9 y9 bd9 t9 ca9 cs9 sp9 fs9 hi9 l9 e9 ga_ gb_ gc_ gd_ ge_ gf_ ga9 ea9 es9 PT9 HY9 RQ9 hbd9 r9 hR9 => ?_, fun h9 bd9 ca9 cs9 fs9 l9 e9 ge_ nb9 IN9 ga9 ea9 es9 r9 hR9 => ?_⟩ 98 (skP fa asz p) _ _ _ _ _ _ ([] ++ [(bl fa asz p, (skP fa asz p))]) _ (by omega) (by omega) l_164 e_165 g_166 g_167 g_168 g_169 g_184 g_190 (fun _ _ => rfl) e_179 e_180 PT_162 HY_163 RQ_138 hb_78 FrO.rf (fun f hf => rdP_any hf (by omega))
      · skip
        have e_193 := r9 asked_ _ (by simp only [List.mem_cons, List.not_mem_nil, or_false, not_or]; exact ⟨(xw_neC e_176 e_165 (by simp)), (xw_neC e_176 e_179 (by simp)), (xw_neC e_176 e_180 (by simp))⟩) e_176
        have e_194 := r9 firstToken_ _ (by simp only [List.mem_cons, List.not_mem_nil, or_false, not_or]; exact ⟨(xw_neC e_177 e_165 (by simp)), (xw_neC e_177 e_179 (by simp)), (xw_neC e_177 e_180 (by simp))⟩) e_177
        have e_195 := r9 starred_ _ (by simp only [List.mem_cons, List.not_mem_nil, or_false, not_or]; exact ⟨(xw_neC e_178 e_165 (by simp)), (xw_neC e_178 e_179 (by simp)), (xw_neC e_178 e_180 (by simp))⟩) e_178
        have r_196 := r_181.trans (r9.mono (by simp))
        have g_197 : fs9[(4 : Nat)]? = some (.ref asked_) := (ga9 4 (by decide)).trans g_182
        have g_198 : fs9[(11 : Nat)]? = some (.int (nI asz)) := (ga9 11 (by decide)).trans g_183
        have g_199 : fs9[(34 : Nat)]? = some (.int (nI (pn + 1))) := (ga9 34 (by decide)).trans g_185
        have g_200 : fs9[(41 : Nat)]? = some (.ref firstToken_) := (ga9 41 (by decide)).trans g_186
        have g_201 : fs9[(42 : Nat)]? = some (.ref starred_) := (ga9 42 (by decide)).trans g_187
        have g_202 : fs9[(43 : Nat)]? = some (.ref tokenAt_) := (ga9 43 (by decide)).trans g_188
        have g_203 : fs9[(44 : Nat)]? = some (.ref tokenSize_) := (ga9 44 (by decide)).trans g_189
        have ga_204 : ∀ i : Nat, i ∉ [28, 29, 30, 31, 33, 34, 35] → fs9[i]? = fs[i]? := fun i hi => (ga9 i (fun z => hi (by simp only [List.mem_cons, List.not_mem_nil, or_false] at z ⊢; omega))).trans (ga_191 i hi)
        have hb9 := Nat.le_trans PT9.1 PT9.2.1
        refine s_Model_phrase_137 l9 e9 gb_ (fun z_205 => ?_) (fun z_206 => ?_)
        · skip
          refine s_Model_phrase_162 l9 e9 g_200 g_199 gf_ e_194 (vp_in_nI (by omega) (by omega)) ?_
          obtain ⟨h_207, z_210⟩ : ∃ z, z = xw_up h9 firstToken_ (.inl (0, 13, .inl (upd (upd c1 ph.length (nI t)) ((nI (pn + 1))).toNatClampNeg (nI t9)))) := ⟨_, rfl⟩
          rw [← z_210]
          have e_208 : h_207 firstToken_ = some (.inl (0, 13, .inl (upd (upd c1 ph.length (nI t)) ((nI (pn + 1))).toNatClampNeg (nI t9)))) := by rw [z_210]; exact xw_up_s _ _ _
          have f_209 : ∀ q, q ≠ firstToken_ → h_207 q = h9 q := fun q hq => by rw [z_210]; exact xw_up_n _ _ hq
          clear z_210
          have e_211 := (f_209 asked_ (xw_neC e_193 e_194 (by simp))).trans e_193
          have e_212 := (f_209 starred_ (Ne.symm n_firstToken_starred)).trans e_195
          have e_213 := (f_209 tokenAt_ (xw_neC ea9 e_194 (by simp))).trans ea9
          have e_214 := (f_209 tokenSize_ (xw_neC es9 e_194 (by simp))).trans es9
          have e_215 := (f_209 m (xw_neC e9 e_194 (by simp))).trans e9
          have r_216 := r_196.up (by simp) f_209
          rw [nI_clamp (show pn + 1 < 2 ^ 31 by omega), hpn] at e_208
          rw [hpn] at g_199
          have hk_217 : ¬ kdP fa asz i9 = 15 := fun q => z_205 (by rw [q]; rfl)
          have RQf := RQ9.fin (b := false) (by rw [pk_us, RQ.n0]) pk_us
          exact ⟨rfl, _, _, _, _, _, _, l9, e_215, ge_, ga_204, e_208, e_212, e_213, e_214, r_216, Or.inr ⟨i9, (sp9, false), _, _, (rdPh_y (k := ph.length) (by rw [← hpn]; exact hpl) hs_139 hR9).trans (if_neg hk_217), hbd9, PT9, HY9, ga_, gb_, gc_, gd_, g_199, gf_, RQf⟩⟩
        · skip
          refine s_Model_phrase_146 l9 e9 g_201 g_199 e_195 (by rw [nI_pred]; exact vp_in_nI (by omega) (by decide)) ?_
          refine x_u1 (fun h_218 e_219 f_220 => ?_)
          have e_221 := (f_220 asked_ (xw_neC e_193 e_195 (by simp))).trans e_193
          have e_222 := (f_220 firstToken_ n_firstToken_starred).trans e_194
          have e_223 := (f_220 tokenAt_ (xw_neC ea9 e_195 (by simp))).trans ea9
          have e_224 := (f_220 tokenSize_ (xw_neC es9 e_195 (by simp))).trans es9
          have e_225 := (f_220 m (xw_neC e9 e_195 (by simp))).trans e9
          have r_226 := r_196.up (by simp) f_220
          have hk_227 : kdP fa asz i9 = 15 := ((rk_iff _ (kdP_le fa asz i9)).2.2.2.2.2.2.2.2.1).mp ((nI_eq (b := 9) (by have := rk_le _ (kdP_le fa asz i9); omega) (by decide)).mp z_206)
          have hE_240 := HY9 (by rw [hk_227]; decide)
          rw [hE_240] at gd_
          refine x_callV (As := []) (b := m) (rest := []) (F1 := 4) (L1 := 87) (mc := 0) (ms := 0) d_Model_phrase_159 cV_Model_257 (f_nextH (x0 := (skP fa asz i9)) l9 e_225 ga_ gb_ gc_ gd_ g_198 g_197 e_221 (by rw [← hE_240]; exact PT9.2.1) hasz (by omega) (by omega)) e_225 ⟨by decide, rfl⟩ ⟨by omega, by show 8 + (1 + 11) + 87 ≤ _; omega⟩ ⟨by omega, by omega⟩ (Nat.le_of_ble_eq_true rfl) (fun v_242 h_241 p_243 => ?_)
          obtain ⟨rfl, y_228, fs_229, PT_230, HY_231, l_232, e_233, g_234, g_235, g_236, g_237, ga_238, r_239⟩ := p_243
          have e_244 := r_239 asked_ _ (by simp only [List.mem_cons, List.not_mem_nil, or_false, not_or]; exact (xw_neC e_221 e_225 (by simp))) e_221
          have e_245 := r_239 firstToken_ _ (by simp only [List.mem_cons, List.not_mem_nil, or_false, not_or]; exact (xw_neC e_222 e_225 (by simp))) e_222
          have e_246 := r_239 starred_ _ (by simp only [List.mem_cons, List.not_mem_nil, or_false, not_or]; exact (xw_neC e_219 e_225 (by simp))) e_219
          have e_247 := r_239 tokenAt_ _ (by simp only [List.mem_cons, List.not_mem_nil, or_false, not_or]; exact (xw_neC e_223 e_225 (by simp))) e_223
          have e_248 := r_239 tokenSize_ _ (by simp only [List.mem_cons, List.not_mem_nil, or_false, not_or]; exact (xw_neC e_224 e_225 (by simp))) e_224
          have r_249 := r_226.trans (r_239.mono (by simp))
          have g_250 : fs_229[(4 : Nat)]? = some (.ref asked_) := (ga_238 4 (by decide)).trans g_197
          have g_251 : fs_229[(11 : Nat)]? = some (.int (nI asz)) := (ga_238 11 (by decide)).trans g_198
          have g_252 : fs_229[(34 : Nat)]? = some (.int (nI (pn + 1))) := (ga_238 34 (by decide)).trans g_199
          have g_253 : fs_229[(41 : Nat)]? = some (.ref firstToken_) := (ga_238 41 (by decide)).trans g_200
          have g_254 : fs_229[(42 : Nat)]? = some (.ref starred_) := (ga_238 42 (by decide)).trans g_201
          have g_255 : fs_229[(43 : Nat)]? = some (.ref tokenAt_) := (ga_238 43 (by decide)).trans g_202
          have g_256 : fs_229[(44 : Nat)]? = some (.ref tokenSize_) := (ga_238 44 (by decide)).trans g_203
          have g_257 : fs_229[(33 : Nat)]? = some (.int bd9) := (ga_238 33 (by decide)).trans ge_
          have g_258 : fs_229[(35 : Nat)]? = some (.int (nI t9)) := (ga_238 35 (by decide)).trans gf_
          have ga_259 : ∀ i : Nat, i ∉ [28, 29, 30, 31, 33, 34, 35] → fs_229[i]? = fs[i]? := fun i hi => (ga_238 i (fun z => hi (by simp only [List.mem_cons, List.not_mem_nil, or_false] at z ⊢; omega))).trans (ga_204 i hi)
          have RQ_260 := RQ9.next (by rw [hk_227]; decide) (by rw [hk_227]; decide)
          have hb_261 := Nat.le_trans PT_230.1 PT_230.2.1
          refine s_Model_phrase_162 l_232 e_233 g_253 g_252 g_258 e_245 (vp_in_nI (by omega) (by omega)) ?_
          obtain ⟨h_262, z_265⟩ : ∃ z, z = xw_up h_241 firstToken_ (.inl (0, 13, .inl (upd (upd c1 ph.length (nI t)) ((nI (pn + 1))).toNatClampNeg (nI t9)))) := ⟨_, rfl⟩
          rw [← z_265]
          have e_263 : h_262 firstToken_ = some (.inl (0, 13, .inl (upd (upd c1 ph.length (nI t)) ((nI (pn + 1))).toNatClampNeg (nI t9)))) := by rw [z_265]; exact xw_up_s _ _ _
          have f_264 : ∀ q, q ≠ firstToken_ → h_262 q = h_241 q := fun q hq => by rw [z_265]; exact xw_up_n _ _ hq
          clear z_265
          have e_266 := (f_264 asked_ (xw_neC e_244 e_245 (by simp))).trans e_244
          have e_267 := (f_264 starred_ (Ne.symm n_firstToken_starred)).trans e_246
          have e_268 := (f_264 tokenAt_ (xw_neC e_247 e_245 (by simp))).trans e_247
          have e_269 := (f_264 tokenSize_ (xw_neC e_248 e_245 (by simp))).trans e_248
          have e_270 := (f_264 m (xw_neC e_233 e_245 (by simp))).trans e_233
          have r_271 := r_249.up (by simp) f_264
          rw [nI_clamp (show pn + 1 < 2 ^ 31 by omega), hpn] at e_263
          rw [hpn] at g_252
          rw [nI_pred, nI_clamp (show pn < 2 ^ 31 by omega), hpn] at e_267
          have RQf := (RQ_260.star 1).fin (b := true) (by rw [pk_us, RQ.n0]) pk_us
          exact ⟨rfl, _, _, _, _, _, _, l_232, e_270, g_257, ga_259, e_263, e_267, e_268, e_269, r_271, Or.inr ⟨(skP fa asz i9), (sp9, true), _, _, (rdPh_y (k := ph.length) (by rw [← hpn]; exact hpl) hs_139 hR9).trans (if_pos hk_227), hbd9, PT_230, HY_231, g_234, g_235, g_236, g_237, g_252, g_258, RQf⟩⟩
      · skip
        have e_272 := r9 asked_ _ (by simp only [List.mem_cons, List.not_mem_nil, or_false, not_or]; exact ⟨(xw_neC e_176 e_165 (by simp)), (xw_neC e_176 e_179 (by simp)), (xw_neC e_176 e_180 (by simp))⟩) e_176
        have e_273 := r9 firstToken_ _ (by simp only [List.mem_cons, List.not_mem_nil, or_false, not_or]; exact ⟨(xw_neC e_177 e_165 (by simp)), (xw_neC e_177 e_179 (by simp)), (xw_neC e_177 e_180 (by simp))⟩) e_177
        have e_274 := r9 starred_ _ (by simp only [List.mem_cons, List.not_mem_nil, or_false, not_or]; exact ⟨(xw_neC e_178 e_165 (by simp)), (xw_neC e_178 e_179 (by simp)), (xw_neC e_178 e_180 (by simp))⟩) e_178
        have r_275 := r_181.trans (r9.mono (by simp))
        have g_276 : fs9[(4 : Nat)]? = some (.ref asked_) := (ga9 4 (by decide)).trans g_182
        have g_277 : fs9[(11 : Nat)]? = some (.int (nI asz)) := (ga9 11 (by decide)).trans g_183
        have g_278 : fs9[(34 : Nat)]? = some (.int (nI (pn + 1))) := (ga9 34 (by decide)).trans g_185
        have g_279 : fs9[(41 : Nat)]? = some (.ref firstToken_) := (ga9 41 (by decide)).trans g_186
        have g_280 : fs9[(42 : Nat)]? = some (.ref starred_) := (ga9 42 (by decide)).trans g_187
        have g_281 : fs9[(43 : Nat)]? = some (.ref tokenAt_) := (ga9 43 (by decide)).trans g_188
        have g_282 : fs9[(44 : Nat)]? = some (.ref tokenSize_) := (ga9 44 (by decide)).trans g_189
        have ga_283 : ∀ i : Nat, i ∉ [28, 29, 30, 31, 33, 34, 35] → fs9[i]? = fs[i]? := fun i hi => (ga9 i (fun z => hi (by simp only [List.mem_cons, List.not_mem_nil, or_false] at z ⊢; omega))).trans (ga_191 i hi)
        exact ⟨rfl, bd9, _, _, ca9, cs9, fs9, l9, e9, ge_, ga_283, e_273, e_274, ea9, es9, r_275, Or.inl ⟨rdPh_n hs_139 hR9, nb9, (fun i9 hi9 => by by_cases q : i9 = 34; (rw [q]; exact ⟨_, g_278⟩); (exact IN9 i9 (by simp only [List.mem_cons, List.not_mem_nil, or_false] at hi9 ⊢; omega)))⟩⟩
    · skip
      refine s_Model_phrase_17 ?_
      refine s_Model_phrase_22 l e g_from ?_
      refine x_callV (As := [.int 1, .int (nI (bl fa asz p))]) (b := m) (rest := []) (F1 := 1) (L1 := 20) (mc := 0) (ms := 0) d_Model_phrase_26 cV_Model_250 (f_wrongsH (k := bl fa asz p) l e g_bad (by omega) (by omega) (by omega)) e ⟨by decide, rfl⟩ ⟨by omega, by show 8 + (3 + 11) + 20 ≤ _; omega⟩ ⟨by omega, by omega⟩ (Nat.le_of_ble_eq_true rfl) (fun v_295 h_294 p_296 => ?_)
      obtain ⟨rfl, bd_284, fs_285, hw_286, hw_287, hw_288, l_289, e_290, g_291, ga_292, r_293⟩ := p_296
      have e_297 := r_293 asked_ _ (by simp only [List.mem_cons, List.not_mem_nil, or_false, not_or]; exact (xw_neC e_asked e (by simp))) e_asked
      have e_298 := r_293 firstToken_ _ (by simp only [List.mem_cons, List.not_mem_nil, or_false, not_or]; exact (xw_neC e_firstToken e (by simp))) e_firstToken
      have e_299 := r_293 starred_ _ (by simp only [List.mem_cons, List.not_mem_nil, or_false, not_or]; exact (xw_neC e_starred e (by simp))) e_starred
      have e_300 := r_293 tokenAt_ _ (by simp only [List.mem_cons, List.not_mem_nil, or_false, not_or]; exact (xw_neC e_tokenAt e (by simp))) e_tokenAt
      have e_301 := r_293 tokenSize_ _ (by simp only [List.mem_cons, List.not_mem_nil, or_false, not_or]; exact (xw_neC e_tokenSize e (by simp))) e_tokenSize
      have r_302 := r0.trans (r_293.mono (by simp))
      have g_303 : fs_285[(28 : Nat)]? = some (.int (nI (bl fa asz p))) := (ga_292 28 (by decide)).trans g_at
      have g_304 : fs_285[(29 : Nat)]? = some (.int (nI (rkd (kdP fa asz p)))) := (ga_292 29 (by decide)).trans g_kind
      have g_305 : fs_285[(30 : Nat)]? = some (.int (nI (bl fa asz p))) := (ga_292 30 (by decide)).trans g_from
      have g_306 : fs_285[(31 : Nat)]? = some (.int (nI y)) := (ga_292 31 (by decide)).trans g_to
      have g_307 : fs_285[(34 : Nat)]? = some (.int (nI pn)) := (ga_292 34 (by decide)).trans g_phrases
      have g_308 : fs_285[(35 : Nat)]? = some (.int (nI t)) := (ga_292 35 (by decide)).trans g_tokens
      have g_309 : fs_285[(11 : Nat)]? = some (.int (nI asz)) := (ga_292 11 (by decide)).trans g_askedSize
      have g_310 : fs_285[(4 : Nat)]? = some (.ref asked_) := (ga_292 4 (by decide)).trans g_asked
      have g_311 : fs_285[(41 : Nat)]? = some (.ref firstToken_) := (ga_292 41 (by decide)).trans g_firstToken
      have g_312 : fs_285[(42 : Nat)]? = some (.ref starred_) := (ga_292 42 (by decide)).trans g_starred
      have g_313 : fs_285[(43 : Nat)]? = some (.ref tokenAt_) := (ga_292 43 (by decide)).trans g_tokenAt
      have g_314 : fs_285[(44 : Nat)]? = some (.ref tokenSize_) := (ga_292 44 (by decide)).trans g_tokenSize
      have ga_315 : ∀ i : Nat, i ∉ [28, 29, 30, 31, 33, 34, 35] → fs_285[i]? = fs[i]? := fun i hi => (ga_292 i (fun z => hi (by simp only [List.mem_cons, List.not_mem_nil, or_false] at z ⊢; omega))).trans (ga0 i hi)
      have hb_316 : ¬ bd_284 < 0 := hw_287 (by decide)
      have hb_317 : 0 ≤ bd_284 := Int32.not_lt.mp hb_316
      refine s_Model_phrase_29 l_289 e_290 g_291 (fun z => absurd z hb_316) (fun z_318 => ?_)
      refine s_Model_phrase_36 ?_
      have hs_319 := (hc_2.resolve_left (fun q => z_7 q.1)).2
      exact ⟨rfl, _, _, _, _, _, _, l_289, e_290, g_291, ga_315, e_298, e_299, e_300, e_301, r_302, Or.inl ⟨rdPh_k (by rw [← hpn]; exact Nat.le_of_eq ((nI_eq (b := 12) (by omega) (by decide)).mp z_45).symm), hb_316, (fun i9 hi9 => by simp only [List.mem_cons, List.not_mem_nil, or_false] at hi9; rcases hi9 with rfl | rfl | rfl | rfl | rfl | rfl | rfl <;> first | exact ⟨_, g_303⟩ | exact ⟨_, g_304⟩ | exact ⟨_, g_305⟩ | exact ⟨_, g_306⟩ | exact ⟨_, g_291⟩ | exact ⟨_, g_307⟩ | exact ⟨_, g_308⟩)⟩⟩
