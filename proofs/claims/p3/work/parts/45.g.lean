/-! the reference in general states: by program (wip/tools/gen3.py, gen4.py, gen5.py) -/
set_option maxHeartbeats 4000000 in
theorem f_gets {G : xw_G} {F L : Nat} {h : xw_A} {md vs sg mo : Nat} {li cl : Int32} {fp fq ft fz fe fi fv fr fL fb fl : Nat → Int32} {prepared_ preparedSize_ texts_ sizes_ entries_ lies_ live_ row_ level_ begins_ lasts_ : Nat} {m : Nat} {fs : List Value} (l : fs.length = 62) (e : h m = some (.inr (11, fs))) (g_made : fs[(16 : Nat)]? = some (.int (nI md))) (g_versions : fs[(15 : Nat)]? = some (.int (nI vs))) (g_segments : fs[(19 : Nat)]? = some (.int (nI sg))) (g_most : fs[(1 : Nat)]? = some (.int (nI mo))) (g_limit : fs[(2 : Nat)]? = some (.int li)) (g_column : fs[(55 : Nat)]? = some (.int cl)) (g_prepared : fs[(5 : Nat)]? = some (.ref prepared_)) (e_prepared : h prepared_ = some (.inl (0, 96, .inl (fp)))) (g_preparedSize : fs[(6 : Nat)]? = some (.ref preparedSize_)) (e_preparedSize : h preparedSize_ = some (.inl (0, 2, .inl (fq)))) (g_texts : fs[(7 : Nat)]? = some (.ref texts_)) (e_texts : h texts_ = some (.inl (0, 2304, .inl (ft)))) (g_sizes : fs[(8 : Nat)]? = some (.ref sizes_)) (e_sizes : h sizes_ = some (.inl (0, 48, .inl (fz)))) (g_entries : fs[(12 : Nat)]? = some (.ref entries_)) (e_entries : h entries_ = some (.inl (0, 600, .inl (fe)))) (g_lies : fs[(13 : Nat)]? = some (.ref lies_)) (e_lies : h lies_ = some (.inl (0, 600, .inl (fi)))) (g_live : fs[(14 : Nat)]? = some (.ref live_)) (e_live : h live_ = some (.inl (0, 24, .inl (fv)))) (g_row : fs[(17 : Nat)]? = some (.ref row_)) (e_row : h row_ = some (.inl (0, 600, .inl (fr)))) (g_level : fs[(18 : Nat)]? = some (.ref level_)) (e_level : h level_ = some (.inl (0, 1300, .inl (fL)))) (g_begins : fs[(53 : Nat)]? = some (.ref begins_)) (e_begins : h begins_ = some (.inl (0, 24, .inl (fb)))) (g_lasts : fs[(54 : Nat)]? = some (.ref lasts_)) (e_lasts : h lasts_ = some (.inl (0, 24, .inl (fl)))) (n_entries_lies : entries_ ≠ lies_) (n_entries_row : entries_ ≠ row_) (n_lies_row : lies_ ≠ row_) (n_live_begins : live_ ≠ begins_) (n_live_lasts : live_ ≠ lasts_) (n_begins_lasts : begins_ ≠ lasts_) {r : Nat} (hr : r < 24) (hvs : vs + 1 ≤ 600) (hmd : md + 6 < 1300) (hsg : sg + 1 < 600) (hmo : 1 ≤ mo ∧ mo ≤ 9) (hps : ∀ c, c < 2 → ∃ n, fq c = nI n ∧ n ≤ 48) (hSZ : SZo fz 48) (hLI : ∀ v, v < vs → fi v < 0 ∨ ∃ s, s < md ∧ fi v = nI s) (hRO : ∀ k, k < sg → ∃ s, s < md ∧ fr k = nI s) (hF : 5 ≤ F) (hL : 113 ≤ L) :
    xw_Met G m_Model_gets F L 0 0 [.ref m, .int (nI r)] h (fun v h' => (∃ y : Int32, v = some (.int y)) ∧ GtP m texts_ sizes_ begins_ lasts_ entries_ lies_ live_ row_ level_ fs fp fq ft fz fe fi fv fr fL r vs md sg mo li v h h') (fun _ _ => False) := by
  refine xw_Met.of rfl (by decide) (Nat.le_of_ble_eq_true rfl) ?_
  have ga0 : ∀ i : Nat, i ∉ [15, 16, 19, 55] → fs[i]? = fs[i]? := fun _ _ => rfl
  have r0 : FrO [m, texts_, sizes_, begins_, lasts_, entries_, lies_, live_, row_, level_] h h := FrO.rf
  refine s_Model_gets_0 ?_
  refine lp_gets2 l e g_prepared g_preparedSize g_texts g_sizes e_prepared e_preparedSize ⟨_, e_texts⟩ ⟨_, e_sizes⟩ hr hps (fun h1 ft1 fz1 et1 ez1 SZ1 CT1 r1 => ?_) 2 0 _ _ _ rfl e_texts e_sizes hSZ ⟨fun c hc => absurd hc (Nat.not_lt_zero _), fun _ _ => rfl, fun c hc => absurd hc (Nat.not_lt_zero _), fun _ _ => rfl⟩ FrO.rf
  have e_1 := r1 prepared_ _ (by simp only [List.mem_cons, List.not_mem_nil, or_false, not_or]; exact ⟨(xw_neC e_prepared e_texts (by simp)), (xw_neC e_prepared e_sizes (by simp))⟩) e_prepared
  have e_2 := r1 preparedSize_ _ (by simp only [List.mem_cons, List.not_mem_nil, or_false, not_or]; exact ⟨(xw_neC e_preparedSize e_texts (by simp)), (xw_neC e_preparedSize e_sizes (by simp))⟩) e_preparedSize
  have e_3 := r1 entries_ _ (by simp only [List.mem_cons, List.not_mem_nil, or_false, not_or]; exact ⟨(xw_neC e_entries e_texts (by simp)), (xw_neC e_entries e_sizes (by simp))⟩) e_entries
  have e_4 := r1 lies_ _ (by simp only [List.mem_cons, List.not_mem_nil, or_false, not_or]; exact ⟨(xw_neC e_lies e_texts (by simp)), (xw_neC e_lies e_sizes (by simp))⟩) e_lies
  have e_5 := r1 live_ _ (by simp only [List.mem_cons, List.not_mem_nil, or_false, not_or]; exact ⟨(xw_neC e_live e_texts (by simp)), (xw_neC e_live e_sizes (by simp))⟩) e_live
  have e_6 := r1 row_ _ (by simp only [List.mem_cons, List.not_mem_nil, or_false, not_or]; exact ⟨(xw_neC e_row e_texts (by simp)), (xw_neC e_row e_sizes (by simp))⟩) e_row
  have e_7 := r1 level_ _ (by simp only [List.mem_cons, List.not_mem_nil, or_false, not_or]; exact ⟨(xw_neC e_level e_texts (by simp)), (xw_neC e_level e_sizes (by simp))⟩) e_level
  have e_8 := r1 begins_ _ (by simp only [List.mem_cons, List.not_mem_nil, or_false, not_or]; exact ⟨(xw_neC e_begins e_texts (by simp)), (xw_neC e_begins e_sizes (by simp))⟩) e_begins
  have e_9 := r1 lasts_ _ (by simp only [List.mem_cons, List.not_mem_nil, or_false, not_or]; exact ⟨(xw_neC e_lasts e_texts (by simp)), (xw_neC e_lasts e_sizes (by simp))⟩) e_lasts
  have e_10 := r1 m _ (by simp only [List.mem_cons, List.not_mem_nil, or_false, not_or]; exact ⟨(xw_neC e e_texts (by simp)), (xw_neC e e_sizes (by simp))⟩) e
  have r_11 := r0.trans (r1.mono (by simp))
  refine s_Model_gets_70 (entries_a0 := some entries_) l e_10 g_versions g_entries ?_
  refine x_u1 (fun h_12 e_13 f_14 => ?_)
  have e_15 := (f_14 prepared_ (xw_neC e_1 e_10 (by simp))).trans e_1
  have e_16 := (f_14 preparedSize_ (xw_neC e_2 e_10 (by simp))).trans e_2
  have e_17 := (f_14 texts_ (xw_neC et1 e_10 (by simp))).trans et1
  have e_18 := (f_14 sizes_ (xw_neC ez1 e_10 (by simp))).trans ez1
  have e_19 := (f_14 entries_ (xw_neC e_3 e_10 (by simp))).trans e_3
  have e_20 := (f_14 lies_ (xw_neC e_4 e_10 (by simp))).trans e_4
  have e_21 := (f_14 live_ (xw_neC e_5 e_10 (by simp))).trans e_5
  have e_22 := (f_14 row_ (xw_neC e_6 e_10 (by simp))).trans e_6
  have e_23 := (f_14 level_ (xw_neC e_7 e_10 (by simp))).trans e_7
  have e_24 := (f_14 begins_ (xw_neC e_8 e_10 (by simp))).trans e_8
  have e_25 := (f_14 lasts_ (xw_neC e_9 e_10 (by simp))).trans e_9
  have r_26 := r_11.up (by simp) f_14
  obtain ⟨fs_27, z_28⟩ : ∃ z, z = fs.set 15 (.int ((nI vs) + 1)) := ⟨_, rfl⟩
  rw [← z_28] at e_13
  have l_29 : fs_27.length = 62 := by rw [z_28]; simp only [List.length_set]; exact l
  have g_30 : fs_27[(1 : Nat)]? = some (.int (nI mo)) := by rw [z_28]; exact (xw_gn (by decide) g_most)
  have g_31 : fs_27[(2 : Nat)]? = some (.int li) := by rw [z_28]; exact (xw_gn (by decide) g_limit)
  have g_32 : fs_27[(5 : Nat)]? = some (.ref prepared_) := by rw [z_28]; exact (xw_gn (by decide) g_prepared)
  have g_33 : fs_27[(6 : Nat)]? = some (.ref preparedSize_) := by rw [z_28]; exact (xw_gn (by decide) g_preparedSize)
  have g_34 : fs_27[(7 : Nat)]? = some (.ref texts_) := by rw [z_28]; exact (xw_gn (by decide) g_texts)
  have g_35 : fs_27[(8 : Nat)]? = some (.ref sizes_) := by rw [z_28]; exact (xw_gn (by decide) g_sizes)
  have g_36 : fs_27[(12 : Nat)]? = some (.ref entries_) := by rw [z_28]; exact (xw_gn (by decide) g_entries)
  have g_37 : fs_27[(13 : Nat)]? = some (.ref lies_) := by rw [z_28]; exact (xw_gn (by decide) g_lies)
  have g_38 : fs_27[(14 : Nat)]? = some (.ref live_) := by rw [z_28]; exact (xw_gn (by decide) g_live)
  have g_39 : fs_27[(15 : Nat)]? = some (.int ((nI vs) + 1)) := by rw [z_28]; exact (xw_gs (by simp [l]))
  have g_40 : fs_27[(16 : Nat)]? = some (.int (nI md)) := by rw [z_28]; exact (xw_gn (by decide) g_made)
  have g_41 : fs_27[(17 : Nat)]? = some (.ref row_) := by rw [z_28]; exact (xw_gn (by decide) g_row)
  have g_42 : fs_27[(18 : Nat)]? = some (.ref level_) := by rw [z_28]; exact (xw_gn (by decide) g_level)
  have g_43 : fs_27[(19 : Nat)]? = some (.int (nI sg)) := by rw [z_28]; exact (xw_gn (by decide) g_segments)
  have g_44 : fs_27[(53 : Nat)]? = some (.ref begins_) := by rw [z_28]; exact (xw_gn (by decide) g_begins)
  have g_45 : fs_27[(54 : Nat)]? = some (.ref lasts_) := by rw [z_28]; exact (xw_gn (by decide) g_lasts)
  have g_46 : fs_27[(55 : Nat)]? = some (.int cl) := by rw [z_28]; exact (xw_gn (by decide) g_column)
  have ga_47 : ∀ i : Nat, i ∉ [15, 16, 19, 55] → fs_27[i]? = fs[i]? := fun i hi => by rw [z_28]; exact xw_gn (fun z => hi (by rw [z]; simp)) (ga0 i hi)
  clear z_28
  rw [nI_1] at g_39
  refine x_callV (As := [.int (nI r)]) (b := m) (rest := [.int (nI vs), .ref entries_]) (F1 := 4) (L1 := 87) (mc := 0) (ms := 0) d_Model_gets_92 cV_Model_168 (f_entriesOf l_29 e_13 g_46 g_34 e_17 g_35 e_18 g_44 e_24 g_45 e_25 n_begins_lasts hr SZ1 (by omega) (by omega)) e_13 ⟨by decide, rfl⟩ ⟨by omega, by show 8 + (7 + 11) + 87 ≤ _; omega⟩ ⟨by omega, by omega⟩ (Nat.le_of_ble_eq_true rfl) (fun v_61 h_60 p_62 => ?_)
  obtain ⟨⟨y_48, rfl, hy9⟩, ⟨cl_49, fb_50, fl_51, fs_52, l_53, e_54, g_55, ga_56, eb_57, el_58⟩, fr_59⟩ := p_62
  have e_63 := fr_59 prepared_ _ (by simp only [List.mem_cons, List.not_mem_nil, or_false, not_or]; exact ⟨(xw_neC e_15 e_13 (by simp)), (xw_neC e_15 e_24 (by simp)), (xw_neC e_15 e_25 (by simp))⟩) e_15
  have e_64 := fr_59 preparedSize_ _ (by simp only [List.mem_cons, List.not_mem_nil, or_false, not_or]; exact ⟨(xw_neC e_16 e_13 (by simp)), (xw_neC e_16 e_24 (by simp)), (xw_neC e_16 e_25 (by simp))⟩) e_16
  have e_65 := fr_59 texts_ _ (by simp only [List.mem_cons, List.not_mem_nil, or_false, not_or]; exact ⟨(xw_neC e_17 e_13 (by simp)), (xw_neC e_17 e_24 (by simp)), (xw_neC e_17 e_25 (by simp))⟩) e_17
  have e_66 := fr_59 sizes_ _ (by simp only [List.mem_cons, List.not_mem_nil, or_false, not_or]; exact ⟨(xw_neC e_18 e_13 (by simp)), (xw_neC e_18 e_24 (by simp)), (xw_neC e_18 e_25 (by simp))⟩) e_18
  have e_67 := fr_59 entries_ _ (by simp only [List.mem_cons, List.not_mem_nil, or_false, not_or]; exact ⟨(xw_neC e_19 e_13 (by simp)), (xw_neC e_19 e_24 (by simp)), (xw_neC e_19 e_25 (by simp))⟩) e_19
  have e_68 := fr_59 lies_ _ (by simp only [List.mem_cons, List.not_mem_nil, or_false, not_or]; exact ⟨(xw_neC e_20 e_13 (by simp)), (xw_neC e_20 e_24 (by simp)), (xw_neC e_20 e_25 (by simp))⟩) e_20
  have e_69 := fr_59 live_ _ (by simp only [List.mem_cons, List.not_mem_nil, or_false, not_or]; exact ⟨(xw_neC e_21 e_13 (by simp)), n_live_begins, n_live_lasts⟩) e_21
  have e_70 := fr_59 row_ _ (by simp only [List.mem_cons, List.not_mem_nil, or_false, not_or]; exact ⟨(xw_neC e_22 e_13 (by simp)), (xw_neC e_22 e_24 (by simp)), (xw_neC e_22 e_25 (by simp))⟩) e_22
  have e_71 := fr_59 level_ _ (by simp only [List.mem_cons, List.not_mem_nil, or_false, not_or]; exact ⟨(xw_neC e_23 e_13 (by simp)), (xw_neC e_23 e_24 (by simp)), (xw_neC e_23 e_25 (by simp))⟩) e_23
  have g_72 : fs_52[(1 : Nat)]? = some (.int (nI mo)) := (ga_56 1 (by decide)).trans g_30
  have g_73 : fs_52[(2 : Nat)]? = some (.int li) := (ga_56 2 (by decide)).trans g_31
  have g_74 : fs_52[(5 : Nat)]? = some (.ref prepared_) := (ga_56 5 (by decide)).trans g_32
  have g_75 : fs_52[(6 : Nat)]? = some (.ref preparedSize_) := (ga_56 6 (by decide)).trans g_33
  have g_76 : fs_52[(7 : Nat)]? = some (.ref texts_) := (ga_56 7 (by decide)).trans g_34
  have g_77 : fs_52[(8 : Nat)]? = some (.ref sizes_) := (ga_56 8 (by decide)).trans g_35
  have g_78 : fs_52[(12 : Nat)]? = some (.ref entries_) := (ga_56 12 (by decide)).trans g_36
  have g_79 : fs_52[(13 : Nat)]? = some (.ref lies_) := (ga_56 13 (by decide)).trans g_37
  have g_80 : fs_52[(14 : Nat)]? = some (.ref live_) := (ga_56 14 (by decide)).trans g_38
  have g_81 : fs_52[(15 : Nat)]? = some (.int (nI (vs + 1))) := (ga_56 15 (by decide)).trans g_39
  have g_82 : fs_52[(16 : Nat)]? = some (.int (nI md)) := (ga_56 16 (by decide)).trans g_40
  have g_83 : fs_52[(17 : Nat)]? = some (.ref row_) := (ga_56 17 (by decide)).trans g_41
  have g_84 : fs_52[(18 : Nat)]? = some (.ref level_) := (ga_56 18 (by decide)).trans g_42
  have g_85 : fs_52[(19 : Nat)]? = some (.int (nI sg)) := (ga_56 19 (by decide)).trans g_43
  have g_86 : fs_52[(53 : Nat)]? = some (.ref begins_) := (ga_56 53 (by decide)).trans g_44
  have g_87 : fs_52[(54 : Nat)]? = some (.ref lasts_) := (ga_56 54 (by decide)).trans g_45
  have ga_88 : ∀ i : Nat, i ∉ [15, 16, 19, 55] → fs_52[i]? = fs[i]? := fun i hi => (ga_56 i (fun z => hi (by simp only [List.mem_cons, List.not_mem_nil, or_false] at z ⊢; omega))).trans (ga_47 i hi)
  have r_89 := r_26.trans (fr_59.mono (by simp))
  refine s_Model_gets_95 e_67 (vp_in_nI (by omega) (by omega)) l_53 e_54 g_79 e_68 (vp_in_nI (by omega) (by omega)) (Ne.symm n_entries_lies) g_80 e_69 (vp_in_nI (by omega) (by omega)) (xw_neC e_69 e_68 (by simp)) (xw_neC e_69 e_67 (by simp)) ?_
  refine x_u3 (fun h_90 e_91 f_92 h_93 e_94 f_95 h_96 e_97 f_98 => ?_)
  have e_99 := (f_92 prepared_ (xw_neC e_63 e_67 (by simp))).trans e_63
  have e_100 := (f_92 preparedSize_ (xw_neC e_64 e_67 (by simp))).trans e_64
  have e_101 := (f_92 texts_ (xw_neC e_65 e_67 (by simp))).trans e_65
  have e_102 := (f_92 sizes_ (xw_neC e_66 e_67 (by simp))).trans e_66
  have e_103 := (f_92 lies_ (Ne.symm n_entries_lies)).trans e_68
  have e_104 := (f_92 live_ (xw_neC e_69 e_67 (by simp))).trans e_69
  have e_105 := (f_92 row_ (Ne.symm n_entries_row)).trans e_70
  have e_106 := (f_92 level_ (xw_neC e_71 e_67 (by simp))).trans e_71
  have e_107 := (f_92 begins_ (xw_neC eb_57 e_67 (by simp))).trans eb_57
  have e_108 := (f_92 lasts_ (xw_neC el_58 e_67 (by simp))).trans el_58
  have e_109 := (f_92 m (xw_neC e_54 e_67 (by simp))).trans e_54
  have r_110 := r_89.up (by simp) f_92
  have e_111 := (f_95 prepared_ (xw_neC e_99 e_103 (by simp))).trans e_99
  have e_112 := (f_95 preparedSize_ (xw_neC e_100 e_103 (by simp))).trans e_100
  have e_113 := (f_95 texts_ (xw_neC e_101 e_103 (by simp))).trans e_101
  have e_114 := (f_95 sizes_ (xw_neC e_102 e_103 (by simp))).trans e_102
  have e_115 := (f_95 entries_ n_entries_lies).trans e_91
  have e_116 := (f_95 live_ (xw_neC e_104 e_103 (by simp))).trans e_104
  have e_117 := (f_95 row_ (Ne.symm n_lies_row)).trans e_105
  have e_118 := (f_95 level_ (xw_neC e_106 e_103 (by simp))).trans e_106
  have e_119 := (f_95 begins_ (xw_neC e_107 e_103 (by simp))).trans e_107
  have e_120 := (f_95 lasts_ (xw_neC e_108 e_103 (by simp))).trans e_108
  have e_121 := (f_95 m (xw_neC e_109 e_103 (by simp))).trans e_109
  have r_122 := r_110.up (by simp) f_95
  have e_123 := (f_98 prepared_ (xw_neC e_111 e_116 (by simp))).trans e_111
  have e_124 := (f_98 preparedSize_ (xw_neC e_112 e_116 (by simp))).trans e_112
  have e_125 := (f_98 texts_ (xw_neC e_113 e_116 (by simp))).trans e_113
  have e_126 := (f_98 sizes_ (xw_neC e_114 e_116 (by simp))).trans e_114
  have e_127 := (f_98 entries_ (xw_neC e_115 e_116 (by simp))).trans e_115
  have e_128 := (f_98 lies_ (xw_neC e_94 e_116 (by simp))).trans e_94
  have e_129 := (f_98 row_ (xw_neC e_117 e_116 (by simp))).trans e_117
  have e_130 := (f_98 level_ (xw_neC e_118 e_116 (by simp))).trans e_118
  have e_131 := (f_98 begins_ (Ne.symm n_live_begins)).trans e_119
  have e_132 := (f_98 lasts_ (Ne.symm n_live_lasts)).trans e_120
  have e_133 := (f_98 m (xw_neC e_121 e_116 (by simp))).trans e_121
  have r_134 := r_122.up (by simp) f_98
  rw [nI_clamp (show vs < 2 ^ 31 by omega)] at e_127
  rw [nI_clamp (show vs < 2 ^ 31 by omega)] at e_128
  rw [nI_clamp (show r < 2 ^ 31 by omega)] at e_97
  have LI2 : ∀ v, v < vs + 1 → (upd fi vs (-2)) v < 0 ∨ ∃ s, s < md ∧ (upd fi vs (-2)) v = nI s := fun v hv => by by_cases q : v = vs; (subst q; rw [pk_us]; exact Or.inl (by decide)); (rw [pk_un q]; exact hLI v (by omega))
  refine x_callV (As := []) (b := m) (rest := []) (F1 := 1) (L1 := 20) (mc := 0) (ms := 0) d_Model_gets_112 cV_Model_171 (f_pending (vs := vs + 1) l_53 e_133 g_81 g_79 e_128 g_78 e_127 (Ne.symm n_entries_lies) (by omega) (by omega) (by omega)) e_133 ⟨by decide, rfl⟩ ⟨by omega, by show 8 + (3 + 11) + 20 ≤ _; omega⟩ ⟨by omega, by omega⟩ (Nat.le_of_ble_eq_true rfl) (fun v_136 h_135 p_137 => ?_)
  obtain ⟨rfl, rfl⟩ := p_137
  refine x_le (xw_le_s (xw_le_n (xw_le_s (xw_le_n xw_le_e)))) ?_
  refine s_Model_gets_115 l_53 e_133 g_73 (fun z_138 => ?_) (fun z_139 => ?_)
  · skip
    refine s_Model_gets_126 l_53 e_133 g_78 e_127 (vp_in_nI (by omega) (by omega)) ?_
    exact ⟨⟨_, rfl⟩, md, sg, _, _, _, _, _, _, _, _, _, _, Nat.le_refl _, by omega, by omega, by omega, l_53, e_133, g_81, g_82, g_85, g_55, ga_88, e_125, e_126, e_131, e_132, e_127, e_128, e_97, e_129, e_130, SZ1, CT1, LI2, hRO, fun _ _ => rfl, ⟨_, rfl, hy9, by rw [nI_clamp (show vs < 2 ^ 31 by omega), pk_us]⟩, Or.inl ⟨by first | exact z_138 | exact Int32.not_lt.mpr z_138, rfl, rfl, rfl, rfl, rfl⟩, r_134⟩
  · skip
    refine s_Model_gets_122 ?_
    refine x_callV (As := []) (b := m) (rest := []) (F1 := 3) (L1 := 69) (mc := 0) (ms := 0) d_Model_gets_123 cV_Model_175 (f_flushes (vs := vs + 1) l_53 e_133 g_82 g_81 g_85 g_72 g_78 e_127 g_79 e_128 g_80 e_97 g_83 e_129 g_84 e_130 n_entries_lies n_entries_row n_lies_row (by omega) hmd hsg hmo LI2 hRO (by omega) (by omega)) e_133 ⟨by decide, rfl⟩ ⟨by omega, by show 8 + (4 + 11) + 69 ≤ _; omega⟩ ⟨by omega, by omega⟩ (Nat.le_of_ble_eq_true rfl) (fun v_141 h_140 p_142 => ?_)
    obtain ⟨rfl, md9, sg9, fs9, fi9, fr9, fL9, hm1, hm2, hs1, hpot, l9, e9, gm9, gs9, ga9, ei9, er9, el9, LI9, RO9, FL9, FLU, r9⟩ := p_142
    have e_143 := r9 prepared_ _ (by simp only [List.mem_cons, List.not_mem_nil, or_false, not_or]; exact ⟨(xw_neC e_123 e_133 (by simp)), (xw_neC e_123 e_128 (by simp)), (xw_neC e_123 e_129 (by simp)), (xw_neC e_123 e_130 (by simp))⟩) e_123
    have e_144 := r9 preparedSize_ _ (by simp only [List.mem_cons, List.not_mem_nil, or_false, not_or]; exact ⟨(xw_neC e_124 e_133 (by simp)), (xw_neC e_124 e_128 (by simp)), (xw_neC e_124 e_129 (by simp)), (xw_neC e_124 e_130 (by simp))⟩) e_124
    have e_145 := r9 texts_ _ (by simp only [List.mem_cons, List.not_mem_nil, or_false, not_or]; exact ⟨(xw_neC e_125 e_133 (by simp)), (xw_neC e_125 e_128 (by simp)), (xw_neC e_125 e_129 (by simp)), (xw_neC e_125 e_130 (by simp))⟩) e_125
    have e_146 := r9 sizes_ _ (by simp only [List.mem_cons, List.not_mem_nil, or_false, not_or]; exact ⟨(xw_neC e_126 e_133 (by simp)), (xw_neC e_126 e_128 (by simp)), (xw_neC e_126 e_129 (by simp)), (xw_neC e_126 e_130 (by simp))⟩) e_126
    have e_147 := r9 entries_ _ (by simp only [List.mem_cons, List.not_mem_nil, or_false, not_or]; exact ⟨(xw_neC e_127 e_133 (by simp)), n_entries_lies, n_entries_row, (xw_neC e_127 e_130 (by simp))⟩) e_127
    have e_148 := r9 live_ _ (by simp only [List.mem_cons, List.not_mem_nil, or_false, not_or]; exact ⟨(xw_neC e_97 e_133 (by simp)), (xw_neC e_97 e_128 (by simp)), (xw_neC e_97 e_129 (by simp)), (xw_neC e_97 e_130 (by simp))⟩) e_97
    have e_149 := r9 begins_ _ (by simp only [List.mem_cons, List.not_mem_nil, or_false, not_or]; exact ⟨(xw_neC e_131 e_133 (by simp)), (xw_neC e_131 e_128 (by simp)), (xw_neC e_131 e_129 (by simp)), (xw_neC e_131 e_130 (by simp))⟩) e_131
    have e_150 := r9 lasts_ _ (by simp only [List.mem_cons, List.not_mem_nil, or_false, not_or]; exact ⟨(xw_neC e_132 e_133 (by simp)), (xw_neC e_132 e_128 (by simp)), (xw_neC e_132 e_129 (by simp)), (xw_neC e_132 e_130 (by simp))⟩) e_132
    have g_151 : fs9[(1 : Nat)]? = some (.int (nI mo)) := (ga9 1 (by decide)).trans g_72
    have g_152 : fs9[(2 : Nat)]? = some (.int li) := (ga9 2 (by decide)).trans g_73
    have g_153 : fs9[(5 : Nat)]? = some (.ref prepared_) := (ga9 5 (by decide)).trans g_74
    have g_154 : fs9[(6 : Nat)]? = some (.ref preparedSize_) := (ga9 6 (by decide)).trans g_75
    have g_155 : fs9[(7 : Nat)]? = some (.ref texts_) := (ga9 7 (by decide)).trans g_76
    have g_156 : fs9[(8 : Nat)]? = some (.ref sizes_) := (ga9 8 (by decide)).trans g_77
    have g_157 : fs9[(12 : Nat)]? = some (.ref entries_) := (ga9 12 (by decide)).trans g_78
    have g_158 : fs9[(13 : Nat)]? = some (.ref lies_) := (ga9 13 (by decide)).trans g_79
    have g_159 : fs9[(14 : Nat)]? = some (.ref live_) := (ga9 14 (by decide)).trans g_80
    have g_160 : fs9[(15 : Nat)]? = some (.int (nI (vs + 1))) := (ga9 15 (by decide)).trans g_81
    have g_161 : fs9[(17 : Nat)]? = some (.ref row_) := (ga9 17 (by decide)).trans g_83
    have g_162 : fs9[(18 : Nat)]? = some (.ref level_) := (ga9 18 (by decide)).trans g_84
    have g_163 : fs9[(53 : Nat)]? = some (.ref begins_) := (ga9 53 (by decide)).trans g_86
    have g_164 : fs9[(54 : Nat)]? = some (.ref lasts_) := (ga9 54 (by decide)).trans g_87
    have g_165 : fs9[(55 : Nat)]? = some (.int cl_49) := (ga9 55 (by decide)).trans g_55
    have ga_166 : ∀ i : Nat, i ∉ [15, 16, 19, 55] → fs9[i]? = fs[i]? := fun i hi => (ga9 i (fun z => hi (by simp only [List.mem_cons, List.not_mem_nil, or_false] at z ⊢; omega))).trans (ga_88 i hi)
    have r_167 := r_134.trans (r9.mono (by simp))
    refine s_Model_gets_126 l9 e9 g_157 e_147 (vp_in_nI (by omega) (by omega)) ?_
    exact ⟨⟨_, rfl⟩, md9, sg9, _, _, _, _, _, _, _, _, _, _, hm1, hm2, hs1, hpot, l9, e9, g_160, gm9, gs9, g_165, ga_166, e_145, e_146, e_149, e_150, e_147, ei9, e_148, er9, el9, SZ1, CT1, LI9, RO9, FL9, ⟨_, rfl, hy9, by rw [nI_clamp (show vs < 2 ^ 31 by omega), pk_us]⟩, Or.inr ⟨by first | exact z_139 | exact Int32.not_le.mp z_139, FLU⟩, r_167⟩
