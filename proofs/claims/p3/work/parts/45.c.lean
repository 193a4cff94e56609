/-! the reference in general states: by program (wip/tools/gen3.py, gen4.py, gen5.py) -/
set_option maxHeartbeats 2000000 in
theorem lp_gath1 {G : xw_G} {F L bc bs : Nat} {pr : Option Value → xw_A → Prop} {px : String → xw_A → Prop} {md vs sg : Nat} {fe fv fr fL : Nat → Int32} {h0 : xw_A} {entries_ lies_ live_ row_ level_ : Nat} {m : Nat} {fs : List Value} (l : fs.length = 62) (q : h0 m = some (.inr (11, fs))) (g_made : fs[(16 : Nat)]? = some (.int (nI md))) (g_versions : fs[(15 : Nat)]? = some (.int (nI vs))) (g_segments : fs[(19 : Nat)]? = some (.int (nI sg))) (g_entries : fs[(12 : Nat)]? = some (.ref entries_)) (q_entries : h0 entries_ = some (.inl (0, 600, .inl (fe)))) (g_lies : fs[(13 : Nat)]? = some (.ref lies_)) (q_lies : ∃ f, h0 lies_ = some (.inl (0, 600, .inl f))) (g_live : fs[(14 : Nat)]? = some (.ref live_)) (q_live : h0 live_ = some (.inl (0, 24, .inl (fv)))) (g_row : fs[(17 : Nat)]? = some (.ref row_)) (q_row : h0 row_ = some (.inl (0, 600, .inl (fr)))) (g_level : fs[(18 : Nat)]? = some (.ref level_)) (q_level : h0 level_ = some (.inl (0, 1300, .inl (fL)))) (n_entries_lies : entries_ ≠ lies_) (n_entries_row : entries_ ≠ row_) (n_lies_row : lies_ ≠ row_) (hvs : vs ≤ 600) (hmd : md < 1300) {wh to : Int32} {fi0 : Nat → Int32} (hF : 2 ≤ F) (hL : 42 ≤ L) (kk : ∀ (h : xw_A) (c : Nat) (fi : Nat → Int32), h lies_ = some (.inl (0, 600, .inl fi)) → LieI fi vs md c → LieV fe fv fL fi0 wh md fi vs c → c ≤ vs → FrO [lies_] h0 h → xw G m_Model_gathers F L bc bs pr px 148 [some (.ref m), some (.int wh), some (.int to), some (.int (nI md)), some (.int (nI c)), none, none, none] [] h) :
    ∀ (dd i : Nat) (h : xw_A) (c : Nat) (fi : Nat → Int32), i + dd = vs → h lies_ = some (.inl (0, 600, .inl fi)) → LieI fi vs md c → LieV fe fv fL fi0 wh md fi i c → c ≤ i → FrO [lies_] h0 h → xw G m_Model_gathers F L bc bs pr px 11 [some (.ref m), some (.int wh), some (.int to), some (.int (nI md)), some (.int (nI c)), some (.int (nI i)), none, none] [] h := by
  intro dd
  induction dd with
  | zero =>
    intro i h c fi hi e_lies LI LV hci r0
    obtain rfl : i = vs := by omega
    have e := r0 m _ (by obtain ⟨f9, q9⟩ := q_lies; exact nm1 (xw_neC q q9 (by simp))) q
    have e_entries := r0 entries_ _ (by obtain ⟨f9, q9⟩ := q_lies; exact nm1 (n_entries_lies)) q_entries
    have e_live := r0 live_ _ (by obtain ⟨f9, q9⟩ := q_lies; exact nm1 (xw_neC q_live q9 (by simp))) q_live
    have e_row := r0 row_ _ (by obtain ⟨f9, q9⟩ := q_lies; exact nm1 (Ne.symm n_lies_row)) q_row
    have e_level := r0 level_ _ (by obtain ⟨f9, q9⟩ := q_lies; exact nm1 (xw_neC q_level q9 (by simp))) q_level
    refine s_Model_gathers_11 l e g_versions (fun z_1 => ?_) (fun z => absurd (nI_le (Nat.le_refl _) (by omega)) z)
    exact kk _ _ _ e_lies LI LV hci r0
  | succ dd ih =>
    intro i h c fi hi e_lies LI LV hci r0
    have e := r0 m _ (by obtain ⟨f9, q9⟩ := q_lies; exact nm1 (xw_neC q q9 (by simp))) q
    have e_entries := r0 entries_ _ (by obtain ⟨f9, q9⟩ := q_lies; exact nm1 (n_entries_lies)) q_entries
    have e_live := r0 live_ _ (by obtain ⟨f9, q9⟩ := q_lies; exact nm1 (xw_neC q_live q9 (by simp))) q_live
    have e_row := r0 row_ _ (by obtain ⟨f9, q9⟩ := q_lies; exact nm1 (Ne.symm n_lies_row)) q_row
    have e_level := r0 level_ _ (by obtain ⟨f9, q9⟩ := q_lies; exact nm1 (xw_neC q_level q9 (by simp))) q_level
    refine s_Model_gathers_11 l e g_versions (fun z => absurd z (nI_ge (b := vs) (show i < vs by omega) (by omega))) (fun z_1 => ?_)
    refine s_Model_gathers_20 (fun z_2 => ?_) (fun z_3 => ?_)
    · skip
      refine s_Model_gathers_46 l e g_lies e_lies (vp_in_nI (by omega) (by omega)) (fun z_4 => ?_) (fun z_5 => ?_)
      · skip
        refine s_Model_gathers_80 ?_
        refine s_Model_gathers_81 (fun z => absurd z (by decide)) (fun z_6 => ?_)
        refine s_Model_gathers_88 ?_
        refine s_Model_gathers_142 ?_
        rw [nI_1]
        have ci9 : (nI i).toNatClampNeg = i := nI_clamp (show i < 2 ^ 31 by omega)
        rw [ci9] at z_4
        exact ih (i + 1) _ _ _ (by omega) e_lies LI (LV.skip (fun q => q.elim (fun u => z_2 u.1) (fun u => u.2.1 z_4))) (by omega) r0
      · skip
        refine s_Model_gathers_56 (fun z_7 => ?_) (fun z_8 => ?_)
        · skip
          refine s_Model_gathers_76 ?_
          refine s_Model_gathers_81 (fun z_9 => ?_) (fun z => absurd z (by decide))
          refine s_Model_gathers_91 ?_
          refine x_callV (As := [.int (nI i)]) (b := m) (rest := []) (F1 := 1) (L1 := 20) (mc := 0) (ms := 0) d_Model_gathers_94 cV_Model_190 (f_isLive l e g_live e_live (by omega) (by omega)) e ⟨by decide, rfl⟩ ⟨by omega, by show 8 + (3 + 11) + 20 ≤ _; omega⟩ ⟨by omega, by omega⟩ (Nat.le_of_ble_eq_true rfl) (fun v_13 h_12 p_14 => ?_)
          obtain ⟨⟨y_10, rfl, hy_11⟩, rfl⟩ := p_14
          refine s_Model_gathers_97 (fun z_15 => ?_) (fun z_16 => ?_)
          · skip
            refine s_Model_gathers_114 ?_
            refine s_Model_gathers_115 (lies_a0 := some lies_) l e g_lies (fun z_17 => ?_) (fun z => absurd z (by decide))
            refine s_Model_gathers_132 ?_
            refine s_Model_gathers_133 e_lies (vp_in_nI (by omega) (by omega)) (fun z_18 => ?_) (fun z => absurd z (by decide))
            refine x_u1 (fun h_19 e_20 f_21 => ?_)
            have e_22 := (f_21 entries_ n_entries_lies).trans e_entries
            have e_23 := (f_21 live_ (xw_neC e_live e_lies (by simp))).trans e_live
            have e_24 := (f_21 row_ (Ne.symm n_lies_row)).trans e_row
            have e_25 := (f_21 level_ (xw_neC e_level e_lies (by simp))).trans e_level
            have e_26 := (f_21 m (xw_neC e e_lies (by simp))).trans e
            have r_27 := r0.up (by simp) f_21
            refine s_Model_gathers_142 ?_
            rw [nI_1]
            have ci9 : (nI i).toNatClampNeg = i := nI_clamp (show i < 2 ^ 31 by omega)
            rw [ci9] at z_5
            rw [nI_clamp (show i < 2 ^ 31 by omega)] at e_20
            exact ih (i + 1) _ _ _ (by omega) e_20 LI.gone (LV.gone (Or.inr ⟨z_2, z_5, Or.inl z_7⟩) (fun q => hy_11.elim (fun u => u.2 q.1) (fun u => absurd (z_15.symm.trans u.1) (by decide)))) (by omega) r_27
          · skip
            refine s_Model_gathers_100 l e g_entries e_entries (vp_in_nI (by omega) (by omega)) (fun z_28 => ?_) (fun z_29 => ?_)
            · skip
              refine s_Model_gathers_114 ?_
              refine s_Model_gathers_115 (lies_a0 := some lies_) l e g_lies (fun z_30 => ?_) (fun z => absurd z (by decide))
              refine s_Model_gathers_132 ?_
              refine s_Model_gathers_133 e_lies (vp_in_nI (by omega) (by omega)) (fun z_31 => ?_) (fun z => absurd z (by decide))
              refine x_u1 (fun h_32 e_33 f_34 => ?_)
              have e_35 := (f_34 entries_ n_entries_lies).trans e_entries
              have e_36 := (f_34 live_ (xw_neC e_live e_lies (by simp))).trans e_live
              have e_37 := (f_34 row_ (Ne.symm n_lies_row)).trans e_row
              have e_38 := (f_34 level_ (xw_neC e_level e_lies (by simp))).trans e_level
              have e_39 := (f_34 m (xw_neC e e_lies (by simp))).trans e
              have r_40 := r0.up (by simp) f_34
              refine s_Model_gathers_142 ?_
              rw [nI_1]
              have ci9 : (nI i).toNatClampNeg = i := nI_clamp (show i < 2 ^ 31 by omega)
              rw [ci9] at z_5
              rw [ci9] at z_28
              rw [nI_clamp (show i < 2 ^ 31 by omega)] at e_33
              exact ih (i + 1) _ _ _ (by omega) e_33 LI.gone (LV.gone (Or.inr ⟨z_2, z_5, Or.inl z_7⟩) (fun q => q.2 z_28)) (by omega) r_40
            · skip
              refine s_Model_gathers_110 ?_
              refine s_Model_gathers_115 (lies_a0 := some lies_) l e g_lies (fun z => absurd z (by decide)) (fun z_41 => ?_)
              refine s_Model_gathers_128 ?_
              refine s_Model_gathers_133 e_lies (vp_in_nI (by omega) (by omega)) (fun z => absurd z (by decide)) (fun z_42 => ?_)
              refine x_u1 (fun h_43 e_44 f_45 => ?_)
              have e_46 := (f_45 entries_ n_entries_lies).trans e_entries
              have e_47 := (f_45 live_ (xw_neC e_live e_lies (by simp))).trans e_live
              have e_48 := (f_45 row_ (Ne.symm n_lies_row)).trans e_row
              have e_49 := (f_45 level_ (xw_neC e_level e_lies (by simp))).trans e_level
              have e_50 := (f_45 m (xw_neC e e_lies (by simp))).trans e
              have r_51 := r0.up (by simp) f_45
              refine s_Model_gathers_139 ?_
              refine s_Model_gathers_142 ?_
              rw [nI_1, nI_1]
              have ci9 : (nI i).toNatClampNeg = i := nI_clamp (show i < 2 ^ 31 by omega)
              rw [ci9] at z_5
              rw [ci9] at z_29
              rw [nI_clamp (show i < 2 ^ 31 by omega)] at e_44
              exact ih (i + 1) _ _ _ (by omega) e_44 LI.stay (LV.stay (Or.inr ⟨z_2, z_5, Or.inl z_7⟩) ⟨hy_11.elim (fun u => absurd u.1 z_16) (fun u => u.2), z_29⟩) (by omega) r_51
        · skip
          obtain ⟨s9, hs9, hs8⟩ := (LI.1 i (by omega)).resolve_left (fun q => z_5 (by rw [nI_clamp (by omega)]; exact q))
          refine s_Model_gathers_60 l e g_level g_lies e_lies (vp_in_nI (by omega) (by omega)) e_level (by rw [nI_clamp (by omega), hs8]; exact vp_in_nI (by omega) (by decide)) (fun z_52 => ?_) (fun z_53 => ?_)
          · skip
            refine s_Model_gathers_80 ?_
            refine s_Model_gathers_81 (fun z => absurd z (by decide)) (fun z_54 => ?_)
            refine s_Model_gathers_88 ?_
            refine s_Model_gathers_142 ?_
            rw [nI_1]
            have ci9 : (nI i).toNatClampNeg = i := nI_clamp (show i < 2 ^ 31 by omega)
            rw [ci9] at z_5
            rw [ci9] at z_52
            exact ih (i + 1) _ _ _ (by omega) e_lies LI (LV.skip (fun q => q.elim (fun u => z_2 u.1) (fun u => u.2.2.elim z_8 z_52))) (by omega) r0
          · skip
            refine s_Model_gathers_76 ?_
            refine s_Model_gathers_81 (fun z_55 => ?_) (fun z => absurd z (by decide))
            refine s_Model_gathers_91 ?_
            refine x_callV (As := [.int (nI i)]) (b := m) (rest := []) (F1 := 1) (L1 := 20) (mc := 0) (ms := 0) d_Model_gathers_94 cV_Model_190 (f_isLive l e g_live e_live (by omega) (by omega)) e ⟨by decide, rfl⟩ ⟨by omega, by show 8 + (3 + 11) + 20 ≤ _; omega⟩ ⟨by omega, by omega⟩ (Nat.le_of_ble_eq_true rfl) (fun v_59 h_58 p_60 => ?_)
            obtain ⟨⟨y_56, rfl, hy_57⟩, rfl⟩ := p_60
            refine s_Model_gathers_97 (fun z_61 => ?_) (fun z_62 => ?_)
            · skip
              refine s_Model_gathers_114 ?_
              refine s_Model_gathers_115 (lies_a0 := some lies_) l e g_lies (fun z_63 => ?_) (fun z => absurd z (by decide))
              refine s_Model_gathers_132 ?_
              refine s_Model_gathers_133 e_lies (vp_in_nI (by omega) (by omega)) (fun z_64 => ?_) (fun z => absurd z (by decide))
              refine x_u1 (fun h_65 e_66 f_67 => ?_)
              have e_68 := (f_67 entries_ n_entries_lies).trans e_entries
              have e_69 := (f_67 live_ (xw_neC e_live e_lies (by simp))).trans e_live
              have e_70 := (f_67 row_ (Ne.symm n_lies_row)).trans e_row
              have e_71 := (f_67 level_ (xw_neC e_level e_lies (by simp))).trans e_level
              have e_72 := (f_67 m (xw_neC e e_lies (by simp))).trans e
              have r_73 := r0.up (by simp) f_67
              refine s_Model_gathers_142 ?_
              rw [nI_1]
              have ci9 : (nI i).toNatClampNeg = i := nI_clamp (show i < 2 ^ 31 by omega)
              rw [ci9] at z_5
              rw [ci9] at z_53
              rw [nI_clamp (show i < 2 ^ 31 by omega)] at e_66
              exact ih (i + 1) _ _ _ (by omega) e_66 LI.gone (LV.gone (Or.inr ⟨z_2, z_5, Or.inr z_53⟩) (fun q => hy_57.elim (fun u => u.2 q.1) (fun u => absurd (z_61.symm.trans u.1) (by decide)))) (by omega) r_73
            · skip
              refine s_Model_gathers_100 l e g_entries e_entries (vp_in_nI (by omega) (by omega)) (fun z_74 => ?_) (fun z_75 => ?_)
              · skip
                refine s_Model_gathers_114 ?_
                refine s_Model_gathers_115 (lies_a0 := some lies_) l e g_lies (fun z_76 => ?_) (fun z => absurd z (by decide))
                refine s_Model_gathers_132 ?_
                refine s_Model_gathers_133 e_lies (vp_in_nI (by omega) (by omega)) (fun z_77 => ?_) (fun z => absurd z (by decide))
                refine x_u1 (fun h_78 e_79 f_80 => ?_)
                have e_81 := (f_80 entries_ n_entries_lies).trans e_entries
                have e_82 := (f_80 live_ (xw_neC e_live e_lies (by simp))).trans e_live
                have e_83 := (f_80 row_ (Ne.symm n_lies_row)).trans e_row
                have e_84 := (f_80 level_ (xw_neC e_level e_lies (by simp))).trans e_level
                have e_85 := (f_80 m (xw_neC e e_lies (by simp))).trans e
                have r_86 := r0.up (by simp) f_80
                refine s_Model_gathers_142 ?_
                rw [nI_1]
                have ci9 : (nI i).toNatClampNeg = i := nI_clamp (show i < 2 ^ 31 by omega)
                rw [ci9] at z_5
                rw [ci9] at z_53
                rw [ci9] at z_74
                rw [nI_clamp (show i < 2 ^ 31 by omega)] at e_79
                exact ih (i + 1) _ _ _ (by omega) e_79 LI.gone (LV.gone (Or.inr ⟨z_2, z_5, Or.inr z_53⟩) (fun q => q.2 z_74)) (by omega) r_86
              · skip
                refine s_Model_gathers_110 ?_
                refine s_Model_gathers_115 (lies_a0 := some lies_) l e g_lies (fun z => absurd z (by decide)) (fun z_87 => ?_)
                refine s_Model_gathers_128 ?_
                refine s_Model_gathers_133 e_lies (vp_in_nI (by omega) (by omega)) (fun z => absurd z (by decide)) (fun z_88 => ?_)
                refine x_u1 (fun h_89 e_90 f_91 => ?_)
                have e_92 := (f_91 entries_ n_entries_lies).trans e_entries
                have e_93 := (f_91 live_ (xw_neC e_live e_lies (by simp))).trans e_live
                have e_94 := (f_91 row_ (Ne.symm n_lies_row)).trans e_row
                have e_95 := (f_91 level_ (xw_neC e_level e_lies (by simp))).trans e_level
                have e_96 := (f_91 m (xw_neC e e_lies (by simp))).trans e
                have r_97 := r0.up (by simp) f_91
                refine s_Model_gathers_139 ?_
                refine s_Model_gathers_142 ?_
                rw [nI_1, nI_1]
                have ci9 : (nI i).toNatClampNeg = i := nI_clamp (show i < 2 ^ 31 by omega)
                rw [ci9] at z_5
                rw [ci9] at z_53
                rw [ci9] at z_75
                rw [nI_clamp (show i < 2 ^ 31 by omega)] at e_90
                exact ih (i + 1) _ _ _ (by omega) e_90 LI.stay (LV.stay (Or.inr ⟨z_2, z_5, Or.inr z_53⟩) ⟨hy_57.elim (fun u => absurd u.1 z_62) (fun u => u.2), z_75⟩) (by omega) r_97
    · skip
      refine s_Model_gathers_26 l e g_lies e_lies (vp_in_nI (by omega) (by omega)) (fun z_98 => ?_) (fun z_99 => ?_)
      · skip
        refine s_Model_gathers_42 ?_
        refine s_Model_gathers_81 (fun z => absurd z (by decide)) (fun z_100 => ?_)
        refine s_Model_gathers_88 ?_
        refine s_Model_gathers_142 ?_
        rw [nI_1]
        have ci9 : (nI i).toNatClampNeg = i := nI_clamp (show i < 2 ^ 31 by omega)
        rw [ci9] at z_98
        exact ih (i + 1) _ _ _ (by omega) e_lies LI (LV.skip (fun q => q.elim (fun u => z_98 u.2) (fun u => u.1 z_3))) (by omega) r0
      · skip
        refine s_Model_gathers_38 ?_
        refine s_Model_gathers_81 (fun z_101 => ?_) (fun z => absurd z (by decide))
        refine s_Model_gathers_91 ?_
        refine x_callV (As := [.int (nI i)]) (b := m) (rest := []) (F1 := 1) (L1 := 20) (mc := 0) (ms := 0) d_Model_gathers_94 cV_Model_190 (f_isLive l e g_live e_live (by omega) (by omega)) e ⟨by decide, rfl⟩ ⟨by omega, by show 8 + (3 + 11) + 20 ≤ _; omega⟩ ⟨by omega, by omega⟩ (Nat.le_of_ble_eq_true rfl) (fun v_105 h_104 p_106 => ?_)
        obtain ⟨⟨y_102, rfl, hy_103⟩, rfl⟩ := p_106
        refine s_Model_gathers_97 (fun z_107 => ?_) (fun z_108 => ?_)
        · skip
          refine s_Model_gathers_114 ?_
          refine s_Model_gathers_115 (lies_a0 := some lies_) l e g_lies (fun z_109 => ?_) (fun z => absurd z (by decide))
          refine s_Model_gathers_132 ?_
          refine s_Model_gathers_133 e_lies (vp_in_nI (by omega) (by omega)) (fun z_110 => ?_) (fun z => absurd z (by decide))
          refine x_u1 (fun h_111 e_112 f_113 => ?_)
          have e_114 := (f_113 entries_ n_entries_lies).trans e_entries
          have e_115 := (f_113 live_ (xw_neC e_live e_lies (by simp))).trans e_live
          have e_116 := (f_113 row_ (Ne.symm n_lies_row)).trans e_row
          have e_117 := (f_113 level_ (xw_neC e_level e_lies (by simp))).trans e_level
          have e_118 := (f_113 m (xw_neC e e_lies (by simp))).trans e
          have r_119 := r0.up (by simp) f_113
          refine s_Model_gathers_142 ?_
          rw [nI_1]
          have ci9 : (nI i).toNatClampNeg = i := nI_clamp (show i < 2 ^ 31 by omega)
          rw [ci9] at z_99
          rw [nI_clamp (show i < 2 ^ 31 by omega)] at e_112
          exact ih (i + 1) _ _ _ (by omega) e_112 LI.gone (LV.gone (Or.inl ⟨z_3, z_99⟩) (fun q => hy_103.elim (fun u => u.2 q.1) (fun u => absurd (z_107.symm.trans u.1) (by decide)))) (by omega) r_119
        · skip
          refine s_Model_gathers_100 l e g_entries e_entries (vp_in_nI (by omega) (by omega)) (fun z_120 => ?_) (fun z_121 => ?_)
          · skip
            refine s_Model_gathers_114 ?_
            refine s_Model_gathers_115 (lies_a0 := some lies_) l e g_lies (fun z_122 => ?_) (fun z => absurd z (by decide))
            refine s_Model_gathers_132 ?_
            refine s_Model_gathers_133 e_lies (vp_in_nI (by omega) (by omega)) (fun z_123 => ?_) (fun z => absurd z (by decide))
            refine x_u1 (fun h_124 e_125 f_126 => ?_)
            have e_127 := (f_126 entries_ n_entries_lies).trans e_entries
            have e_128 := (f_126 live_ (xw_neC e_live e_lies (by simp))).trans e_live
            have e_129 := (f_126 row_ (Ne.symm n_lies_row)).trans e_row
            have e_130 := (f_126 level_ (xw_neC e_level e_lies (by simp))).trans e_level
            have e_131 := (f_126 m (xw_neC e e_lies (by simp))).trans e
            have r_132 := r0.up (by simp) f_126
            refine s_Model_gathers_142 ?_
            rw [nI_1]
            have ci9 : (nI i).toNatClampNeg = i := nI_clamp (show i < 2 ^ 31 by omega)
            rw [ci9] at z_99
            rw [ci9] at z_120
            rw [nI_clamp (show i < 2 ^ 31 by omega)] at e_125
            exact ih (i + 1) _ _ _ (by omega) e_125 LI.gone (LV.gone (Or.inl ⟨z_3, z_99⟩) (fun q => q.2 z_120)) (by omega) r_132
          · skip
            refine s_Model_gathers_110 ?_
            refine s_Model_gathers_115 (lies_a0 := some lies_) l e g_lies (fun z => absurd z (by decide)) (fun z_133 => ?_)
            refine s_Model_gathers_128 ?_
            refine s_Model_gathers_133 e_lies (vp_in_nI (by omega) (by omega)) (fun z => absurd z (by decide)) (fun z_134 => ?_)
            refine x_u1 (fun h_135 e_136 f_137 => ?_)
            have e_138 := (f_137 entries_ n_entries_lies).trans e_entries
            have e_139 := (f_137 live_ (xw_neC e_live e_lies (by simp))).trans e_live
            have e_140 := (f_137 row_ (Ne.symm n_lies_row)).trans e_row
            have e_141 := (f_137 level_ (xw_neC e_level e_lies (by simp))).trans e_level
            have e_142 := (f_137 m (xw_neC e e_lies (by simp))).trans e
            have r_143 := r0.up (by simp) f_137
            refine s_Model_gathers_139 ?_
            refine s_Model_gathers_142 ?_
            rw [nI_1, nI_1]
            have ci9 : (nI i).toNatClampNeg = i := nI_clamp (show i < 2 ^ 31 by omega)
            rw [ci9] at z_99
            rw [ci9] at z_121
            rw [nI_clamp (show i < 2 ^ 31 by omega)] at e_136
            exact ih (i + 1) _ _ _ (by omega) e_136 LI.stay (LV.stay (Or.inl ⟨z_3, z_99⟩) ⟨hy_103.elim (fun u => absurd u.1 z_108) (fun u => u.2), z_121⟩) (by omega) r_143
set_option maxHeartbeats 2000000 in
theorem lp_gath2 {G : xw_G} {F L bc bs : Nat} {pr : Option Value → xw_A → Prop} {px : String → xw_A → Prop} {md sg : Nat} {fr0 fL : Nat → Int32} {h0 : xw_A} {row_ level_ : Nat} {m : Nat} {fs : List Value} (l : fs.length = 62) (q : h0 m = some (.inr (11, fs))) (g_segments : fs[(19 : Nat)]? = some (.int (nI sg))) (g_row : fs[(17 : Nat)]? = some (.ref row_)) (q_row : ∃ f, h0 row_ = some (.inl (0, 600, .inl f))) (g_level : fs[(18 : Nat)]? = some (.ref level_)) (q_level : h0 level_ = some (.inl (0, 1300, .inl (fL)))) (hsg : sg ≤ 600) (hmd : md ≤ 1300) {wh to : Int32} {c : Nat} (hw : wh = -2 ∨ wh = -1 ∨ ¬ wh < 0) (hr0 : ∀ k, k < sg → ∃ s, s < md ∧ fr0 k = nI s) (kk : ∀ (h : xw_A) (lf : Nat) (fr : Nat → Int32), h row_ = some (.inl (0, 600, .inl fr)) → RowI wh fL fr0 fr md sg lf → RowV wh fL fr0 fr sg lf → FrO [row_] h0 h → xw G m_Model_gathers F L bc bs pr px 212 [some (.ref m), none, some (.int to), some (.int (nI md)), some (.int (nI c)), some (.int (nI lf)), none, none] [] h) :
    ∀ (dd i : Nat) (h : xw_A) (lf : Nat) (fr : Nat → Int32), i + dd = sg → h row_ = some (.inl (0, 600, .inl fr)) → RowI wh fL fr0 fr md i lf → RowV wh fL fr0 fr i lf → FrO [row_] h0 h → xw G m_Model_gathers F L bc bs pr px 154 [some (.ref m), some (.int wh), some (.int to), some (.int (nI md)), some (.int (nI c)), some (.int (nI lf)), some (.int (nI i)), none] [] h := by
  intro dd
  induction dd with
  | zero =>
    intro i h lf fr hi e_row RI RV r0
    obtain rfl : i = sg := by omega
    have e := r0 m _ (by obtain ⟨f9, q9⟩ := q_row; exact nm1 (xw_neC q q9 (by simp))) q
    have e_level := r0 level_ _ (by obtain ⟨f9, q9⟩ := q_row; exact nm1 (xw_neC q_level q9 (by simp))) q_level
    have hlf := RI.1
    refine s_Model_gathers_154 l e g_segments (fun z_1 => ?_) (fun z => absurd (nI_le (Nat.le_refl _) (by omega)) z)
    exact kk _ _ _ e_row RI RV r0
  | succ dd ih =>
    intro i h lf fr hi e_row RI RV r0
    have e := r0 m _ (by obtain ⟨f9, q9⟩ := q_row; exact nm1 (xw_neC q q9 (by simp))) q
    have e_level := r0 level_ _ (by obtain ⟨f9, q9⟩ := q_row; exact nm1 (xw_neC q_level q9 (by simp))) q_level
    have hlf := RI.1
    refine s_Model_gathers_154 l e g_segments (fun z => absurd z (nI_ge (b := sg) (show i < sg by omega) (by omega))) (fun z_1 => ?_)
    refine s_Model_gathers_163 (fun z_2 => ?_) (fun z_3 => ?_)
    · skip
      have hkp : kpx wh (lev fL fr0 i) := Or.inl z_2
      refine s_Model_gathers_189 l e g_row e_row (vp_in_nI (by omega) (by omega)) (vp_in_nI (by omega) (by decide)) ?_
      refine x_u1 (fun h_4 e_5 f_6 => ?_)
      have e_7 := (f_6 level_ (xw_neC e_level e_row (by simp))).trans e_level
      have e_8 := (f_6 m (xw_neC e e_row (by simp))).trans e
      have r_9 := r0.up (by simp) f_6
      refine s_Model_gathers_206 ?_
      rw [nI_clamp (show i < 2 ^ 31 by omega), nI_clamp (show lf < 2 ^ 31 by omega)] at e_5
      rw [nI_1, nI_1]
      exact ih (i + 1) _ _ _ (by omega) e_5 (RI.keep hkp (hr0 i (by omega))) (RV.keep hkp (RI.2.1 i (Nat.le_refl _))) r_9
    · skip
      refine s_Model_gathers_169 (fun z_10 => ?_) (fun z_11 => ?_)
      · skip
        refine s_Model_gathers_206 ?_
        have hnk : ¬ kpx wh (lev fL fr0 i) := fun q => q.elim z_3 (fun w => w.1 z_10)
        rw [nI_1]
        exact ih (i + 1) _ _ _ (by omega) e_row (RI.skip hnk) (RV.skip hnk) r0
      · skip
        obtain ⟨s9, hs9, hs8⟩ := hr0 i (by omega)
        have hfi : fr i = nI s9 := (RI.2.1 i (Nat.le_refl _)).trans hs8
        refine s_Model_gathers_173 l e g_level g_row e_row (vp_in_nI (by omega) (by omega)) e_level (by rw [nI_clamp (by omega), hfi]; exact vp_in_nI (by omega) (by decide)) (fun z_12 => ?_) (fun z_13 => ?_)
        · skip
          refine s_Model_gathers_206 ?_
          have hz9 : lev fL fr0 i = fL (fr (nI i).toNatClampNeg).toNatClampNeg := by unfold lev; rw [nI_clamp (show i < 2 ^ 31 by omega), RI.2.1 i (Nat.le_refl _)]
          have hnk : ¬ kpx wh (lev fL fr0 i) := fun q => q.elim z_3 (fun w => w.2 (by rw [hz9]; exact z_12))
          rw [nI_1]
          exact ih (i + 1) _ _ _ (by omega) e_row (RI.skip hnk) (RV.skip hnk) r0
        · skip
          have hz9 : lev fL fr0 i = fL (fr (nI i).toNatClampNeg).toNatClampNeg := by unfold lev; rw [nI_clamp (show i < 2 ^ 31 by omega), RI.2.1 i (Nat.le_refl _)]
          have hkp : kpx wh (lev fL fr0 i) := Or.inr ⟨z_11, by rw [hz9]; exact z_13⟩
          refine s_Model_gathers_189 l e g_row e_row (vp_in_nI (by omega) (by omega)) (vp_in_nI (by omega) (by decide)) ?_
          refine x_u1 (fun h_14 e_15 f_16 => ?_)
          have e_17 := (f_16 level_ (xw_neC e_level e_row (by simp))).trans e_level
          have e_18 := (f_16 m (xw_neC e e_row (by simp))).trans e
          have r_19 := r0.up (by simp) f_16
          refine s_Model_gathers_206 ?_
          rw [nI_clamp (show i < 2 ^ 31 by omega), nI_clamp (show lf < 2 ^ 31 by omega)] at e_15
          rw [nI_1, nI_1]
          exact ih (i + 1) _ _ _ (by omega) e_15 (RI.keep hkp (hr0 i (by omega))) (RV.keep hkp (RI.2.1 i (Nat.le_refl _))) r_19
set_option maxHeartbeats 2000000 in
theorem f_gathers {G : xw_G} {F L : Nat} {h : xw_A} {md vs sg : Nat} {fe fi fv fr fL : Nat → Int32} {wh to : Int32} {entries_ lies_ live_ row_ level_ : Nat} {m : Nat} {fs : List Value} (l : fs.length = 62) (e : h m = some (.inr (11, fs))) (g_made : fs[(16 : Nat)]? = some (.int (nI md))) (g_versions : fs[(15 : Nat)]? = some (.int (nI vs))) (g_segments : fs[(19 : Nat)]? = some (.int (nI sg))) (g_entries : fs[(12 : Nat)]? = some (.ref entries_)) (e_entries : h entries_ = some (.inl (0, 600, .inl (fe)))) (g_lies : fs[(13 : Nat)]? = some (.ref lies_)) (e_lies : h lies_ = some (.inl (0, 600, .inl (fi)))) (g_live : fs[(14 : Nat)]? = some (.ref live_)) (e_live : h live_ = some (.inl (0, 24, .inl (fv)))) (g_row : fs[(17 : Nat)]? = some (.ref row_)) (e_row : h row_ = some (.inl (0, 600, .inl (fr)))) (g_level : fs[(18 : Nat)]? = some (.ref level_)) (e_level : h level_ = some (.inl (0, 1300, .inl (fL)))) (n_entries_lies : entries_ ≠ lies_) (n_entries_row : entries_ ≠ row_) (n_lies_row : lies_ ≠ row_) (hvs : vs ≤ 600) (hmd : md < 1300) (hsg : sg < 600) (hw : wh = -2 ∨ wh = -1 ∨ ¬ wh < 0) (hLI : ∀ v, v < vs → fi v < 0 ∨ ∃ s, s < md ∧ fi v = nI s) (hRO : ∀ k, k < sg → ∃ s, s < md ∧ fr k = nI s) (hF : 2 ≤ F) (hL : 42 ≤ L) :
    xw_Met G m_Model_gathers F L 0 0 [.ref m, .int wh, .int to] h (fun v h' => v = none ∧ GaP m lies_ row_ level_ fs fe fv fi fr fL wh to vs md sg h h') (fun _ _ => False) := by
  refine xw_Met.of rfl (by decide) (Nat.le_of_ble_eq_true rfl) ?_
  have ga0 : ∀ i : Nat, i ∉ [16, 19] → fs[i]? = fs[i]? := fun _ _ => rfl
  have r0 : FrO [m, lies_, row_, level_] h h := FrO.rf
  refine s_Model_gathers_0 l e g_made ?_
  refine lp_gath1 l e g_made g_versions g_segments g_entries e_entries g_lies ⟨_, e_lies⟩ g_live e_live g_row e_row g_level e_level n_entries_lies n_entries_row n_lies_row hvs hmd (by omega) (by omega) (fun h1 c fi1 e1 LI1 LV1 hc1 r1 => ?_) vs 0 _ 0 _ (Nat.zero_add _) e_lies ⟨fun v hv => (hLI v hv).imp id (fun ⟨s, h1, h2⟩ => ⟨s, by omega, h2⟩), fun _ => hLI⟩ LieV.zero (Nat.le_refl _) FrO.rf
  have e_1 := r1 m _ (by simp only [List.mem_cons, List.not_mem_nil, or_false, not_or]; exact (xw_neC e e_lies (by simp))) e
  have e_2 := r1 entries_ _ (by simp only [List.mem_cons, List.not_mem_nil, or_false, not_or]; exact n_entries_lies) e_entries
  have e_3 := r1 live_ _ (by simp only [List.mem_cons, List.not_mem_nil, or_false, not_or]; exact (xw_neC e_live e_lies (by simp))) e_live
  have e_4 := r1 row_ _ (by simp only [List.mem_cons, List.not_mem_nil, or_false, not_or]; exact (Ne.symm n_lies_row)) e_row
  have e_5 := r1 level_ _ (by simp only [List.mem_cons, List.not_mem_nil, or_false, not_or]; exact (xw_neC e_level e_lies (by simp))) e_level
  have r_6 := r0.trans (r1.mono (by simp))
  refine s_Model_gathers_148 ?_
  refine lp_gath2 (fr0 := fr) l e_1 g_segments g_row ⟨_, e_4⟩ g_level e_5 (by omega) (by omega) hw hRO (fun h2 lf fr2 e2 RI2 RV2 r2 => ?_) sg 0 _ 0 _ (Nat.zero_add _) e_4 RowI.zero rfl FrO.rf
  have e_7 := r2 m _ (by simp only [List.mem_cons, List.not_mem_nil, or_false, not_or]; exact (xw_neC e_1 e_4 (by simp))) e_1
  have e_8 := r2 entries_ _ (by simp only [List.mem_cons, List.not_mem_nil, or_false, not_or]; exact n_entries_row) e_2
  have e_9 := r2 live_ _ (by simp only [List.mem_cons, List.not_mem_nil, or_false, not_or]; exact (xw_neC e_3 e_4 (by simp))) e_3
  have e_10 := r2 lies_ _ (by simp only [List.mem_cons, List.not_mem_nil, or_false, not_or]; exact n_lies_row) e1
  have e_11 := r2 level_ _ (by simp only [List.mem_cons, List.not_mem_nil, or_false, not_or]; exact (xw_neC e_5 e_4 (by simp))) e_5
  have r_12 := r_6.trans (r2.mono (by simp))
  have hlf := RI2.1
  refine s_Model_gathers_212 l e_7 (fun z_13 => ?_) (fun z_14 => ?_)
  · skip
    refine x_u1 (fun h_15 e_16 f_17 => ?_)
    have e_18 := (f_17 entries_ (xw_neC e_8 e_7 (by simp))).trans e_8
    have e_19 := (f_17 lies_ (xw_neC e_10 e_7 (by simp))).trans e_10
    have e_20 := (f_17 live_ (xw_neC e_9 e_7 (by simp))).trans e_9
    have e_21 := (f_17 row_ (xw_neC e2 e_7 (by simp))).trans e2
    have e_22 := (f_17 level_ (xw_neC e_11 e_7 (by simp))).trans e_11
    have r_23 := r_12.up (by simp) f_17
    obtain ⟨fs_24, z_25⟩ : ∃ z, z = fs.set 19 (.int (nI lf)) := ⟨_, rfl⟩
    rw [← z_25] at e_16
    have l_26 : fs_24.length = 62 := by rw [z_25]; simp only [List.length_set]; exact l
    have g_27 : fs_24[(12 : Nat)]? = some (.ref entries_) := by rw [z_25]; exact (xw_gn (by decide) g_entries)
    have g_28 : fs_24[(13 : Nat)]? = some (.ref lies_) := by rw [z_25]; exact (xw_gn (by decide) g_lies)
    have g_29 : fs_24[(14 : Nat)]? = some (.ref live_) := by rw [z_25]; exact (xw_gn (by decide) g_live)
    have g_30 : fs_24[(15 : Nat)]? = some (.int (nI vs)) := by rw [z_25]; exact (xw_gn (by decide) g_versions)
    have g_31 : fs_24[(16 : Nat)]? = some (.int (nI md)) := by rw [z_25]; exact (xw_gn (by decide) g_made)
    have g_32 : fs_24[(17 : Nat)]? = some (.ref row_) := by rw [z_25]; exact (xw_gn (by decide) g_row)
    have g_33 : fs_24[(18 : Nat)]? = some (.ref level_) := by rw [z_25]; exact (xw_gn (by decide) g_level)
    have g_34 : fs_24[(19 : Nat)]? = some (.int (nI lf)) := by rw [z_25]; exact (xw_gs (by simp [l]))
    have ga_35 : ∀ i : Nat, i ∉ [16, 19] → fs_24[i]? = fs[i]? := fun i hi => by rw [z_25]; exact xw_gn (fun z => hi (by rw [z]; simp)) (ga0 i hi)
    clear z_25
    refine s_Model_gathers_224 l_26 e_16 g_33 e_22 (vp_in_nI (by omega) (by decide)) g_32 g_34 e_21 (vp_in_nI (by omega) (by decide)) (xw_neC e_21 e_22 (by simp)) g_31 ?_
    rw [xw_up_up]
    refine x_u3 (fun h_36 e_37 f_38 h_39 e_40 f_41 h_42 e_43 f_44 => ?_)
    have e_45 := (f_38 entries_ (xw_neC e_18 e_22 (by simp))).trans e_18
    have e_46 := (f_38 lies_ (xw_neC e_19 e_22 (by simp))).trans e_19
    have e_47 := (f_38 live_ (xw_neC e_20 e_22 (by simp))).trans e_20
    have e_48 := (f_38 row_ (xw_neC e_21 e_22 (by simp))).trans e_21
    have e_49 := (f_38 m (xw_neC e_16 e_22 (by simp))).trans e_16
    have r_50 := r_23.up (by simp) f_38
    have e_51 := (f_41 entries_ n_entries_row).trans e_45
    have e_52 := (f_41 lies_ n_lies_row).trans e_46
    have e_53 := (f_41 live_ (xw_neC e_47 e_48 (by simp))).trans e_47
    have e_54 := (f_41 level_ (xw_neC e_37 e_48 (by simp))).trans e_37
    have e_55 := (f_41 m (xw_neC e_49 e_48 (by simp))).trans e_49
    have r_56 := r_50.up (by simp) f_41
    have e_57 := (f_44 entries_ (xw_neC e_51 e_55 (by simp))).trans e_51
    have e_58 := (f_44 lies_ (xw_neC e_52 e_55 (by simp))).trans e_52
    have e_59 := (f_44 live_ (xw_neC e_53 e_55 (by simp))).trans e_53
    have e_60 := (f_44 row_ (xw_neC e_40 e_55 (by simp))).trans e_40
    have e_61 := (f_44 level_ (xw_neC e_54 e_55 (by simp))).trans e_54
    have r_62 := r_56.up (by simp) f_44
    obtain ⟨fs_63, z_64⟩ : ∃ z, z = (fs_24.set 19 (.int ((nI lf) + 1))).set 16 (.int ((nI md) + 1)) := ⟨_, rfl⟩
    rw [← z_64] at e_43
    have l_65 : fs_63.length = 62 := by rw [z_64]; simp only [List.length_set]; exact l_26
    have g_66 : fs_63[(12 : Nat)]? = some (.ref entries_) := by rw [z_64]; exact (xw_gn (by decide) (xw_gn (by decide) g_27))
    have g_67 : fs_63[(13 : Nat)]? = some (.ref lies_) := by rw [z_64]; exact (xw_gn (by decide) (xw_gn (by decide) g_28))
    have g_68 : fs_63[(14 : Nat)]? = some (.ref live_) := by rw [z_64]; exact (xw_gn (by decide) (xw_gn (by decide) g_29))
    have g_69 : fs_63[(15 : Nat)]? = some (.int (nI vs)) := by rw [z_64]; exact (xw_gn (by decide) (xw_gn (by decide) g_30))
    have g_70 : fs_63[(16 : Nat)]? = some (.int ((nI md) + 1)) := by rw [z_64]; exact (xw_gs (by simp [l_26]))
    have g_71 : fs_63[(17 : Nat)]? = some (.ref row_) := by rw [z_64]; exact (xw_gn (by decide) (xw_gn (by decide) g_32))
    have g_72 : fs_63[(18 : Nat)]? = some (.ref level_) := by rw [z_64]; exact (xw_gn (by decide) (xw_gn (by decide) g_33))
    have g_73 : fs_63[(19 : Nat)]? = some (.int ((nI lf) + 1)) := by rw [z_64]; exact (xw_gn (by decide) (xw_gs (by simp [l_26])))
    have ga_74 : ∀ i : Nat, i ∉ [16, 19] → fs_63[i]? = fs[i]? := fun i hi => by rw [z_64]; exact xw_gn (fun z => hi (by rw [z]; simp)) (xw_gn (fun z => hi (by rw [z]; simp)) (ga_35 i hi))
    clear z_64
    refine s_Model_gathers_261 ?_
    rw [nI_1] at g_73 g_70
    rw [nI_clamp (show md < 2 ^ 31 by omega)] at e_61
    rw [nI_clamp (show lf < 2 ^ 31 by omega)] at e_60
    refine ⟨rfl, 1, lf, _, _, _, _, Nat.le_refl _, l_65, e_43, g_70, g_73, ga_74, e_58, e_60, e_61, LI1.1, fun k hk => ?_, fun s hs => pk_un (by omega), fun _ => pk_us, fun x => ?_, RI2.2.2.2.2.1, RI2.2.2.2.2.2.1, RI2.2.2.2.2.2.2, hlf, GaV.yes LV1 (fun q => z_13 (by rw [q]; rfl)) RV2, r_62⟩
    · by_cases q : k = lf
      · subst q; exact ⟨md, Nat.lt_succ_self _, pk_us⟩
      · rw [pk_un q]; obtain ⟨s, h1, h2⟩ := RI2.2.2.1 k (by omega); exact ⟨s, by omega, h2⟩
    · rw [cntE_new RI2.2.2.1 (by omega), RI2.2.2.2.1 x]
  · skip
    refine x_u1 (fun h_75 e_76 f_77 => ?_)
    have e_78 := (f_77 entries_ (xw_neC e_8 e_7 (by simp))).trans e_8
    have e_79 := (f_77 lies_ (xw_neC e_10 e_7 (by simp))).trans e_10
    have e_80 := (f_77 live_ (xw_neC e_9 e_7 (by simp))).trans e_9
    have e_81 := (f_77 row_ (xw_neC e2 e_7 (by simp))).trans e2
    have e_82 := (f_77 level_ (xw_neC e_11 e_7 (by simp))).trans e_11
    have r_83 := r_12.up (by simp) f_77
    obtain ⟨fs_84, z_85⟩ : ∃ z, z = fs.set 19 (.int (nI lf)) := ⟨_, rfl⟩
    rw [← z_85] at e_76
    have l_86 : fs_84.length = 62 := by rw [z_85]; simp only [List.length_set]; exact l
    have g_87 : fs_84[(12 : Nat)]? = some (.ref entries_) := by rw [z_85]; exact (xw_gn (by decide) g_entries)
    have g_88 : fs_84[(13 : Nat)]? = some (.ref lies_) := by rw [z_85]; exact (xw_gn (by decide) g_lies)
    have g_89 : fs_84[(14 : Nat)]? = some (.ref live_) := by rw [z_85]; exact (xw_gn (by decide) g_live)
    have g_90 : fs_84[(15 : Nat)]? = some (.int (nI vs)) := by rw [z_85]; exact (xw_gn (by decide) g_versions)
    have g_91 : fs_84[(16 : Nat)]? = some (.int (nI md)) := by rw [z_85]; exact (xw_gn (by decide) g_made)
    have g_92 : fs_84[(17 : Nat)]? = some (.ref row_) := by rw [z_85]; exact (xw_gn (by decide) g_row)
    have g_93 : fs_84[(18 : Nat)]? = some (.ref level_) := by rw [z_85]; exact (xw_gn (by decide) g_level)
    have g_94 : fs_84[(19 : Nat)]? = some (.int (nI lf)) := by rw [z_85]; exact (xw_gs (by simp [l]))
    have ga_95 : ∀ i : Nat, i ∉ [16, 19] → fs_84[i]? = fs[i]? := fun i hi => by rw [z_85]; exact xw_gn (fun z => hi (by rw [z]; simp)) (ga0 i hi)
    clear z_85
    refine s_Model_gathers_223 ?_
    have hc0 : c = 0 := (nI_eq (by omega) (by decide)).mp z_14
    exact ⟨rfl, 0, lf, _, _, _, _, Nat.zero_le _, l_86, e_76, g_91, g_94, ga_95, e_79, e_81, e_82, LI1.2 hc0, RI2.2.2.1, fun _ _ => rfl, fun q => absurd q (by decide), fun x => by rw [Nat.add_zero, RI2.2.2.2.1 x, ite_self, Nat.add_zero], RI2.2.2.2.2.1, RI2.2.2.2.2.2.1, RI2.2.2.2.2.2.2, hlf, GaV.no (by rw [hc0] at LV1; exact LV1) RV2, r_83⟩
