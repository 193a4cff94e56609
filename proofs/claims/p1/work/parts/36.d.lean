/-! ONE CALL ON A FRESH OBJECT: THE REFERENCE: by program (wip/tools/p1l.py) -/
set_option maxHeartbeats 1000000 in
theorem fm_letters_yes {G : xw_G} {F L : Nat} {h : xw_A} {w : Int64} {n : Nat} {draft_ : Nat} {m : Nat} {fs : List Value} (l : fs.length = 62) (e : h m = some (.inr (11, fs))) (g_err : fs[(0 : Nat)]? = some (.int 0)) (g_drafted : fs[(10 : Nat)]? = some (.int 0)) (g_draft : fs[(3 : Nat)]? = some (.ref draft_)) (e_draft : h draft_ = some (.inl (0, 96, .inl (fun _ => 0))))  (hN : ltr (oct w) 8 0 = some (n + 1)) (hn : n < 8) (hF : 2 ≤ F) (hL : 60 ≤ L) :
    xw_Met G m_Model_letters F L 0 0 [.ref m, .long w] h (fun v h' => v = some (.int (0 + nI (n + 1))) ∧ MP [m, draft_] m 0 h h') (fun _ _ => False) := by
  refine xw_Met.of rfl (by decide) (Nat.le_of_ble_eq_true rfl) ?_
  have r0 : FrO [m, draft_] h h := FrO.rf
  refine s_Model_letters_0 l e ?_
  refine x_u1 (fun h_1 e_2 f_3 => ?_)
  have e_4 := (f_3 draft_ (xw_neC e_draft e (by simp))).trans e_draft
  have r_5 := r0.up (by simp) f_3
  obtain ⟨fs_6, z_7⟩ : ∃ z, z = fs.set 0 (.int 0) := ⟨_, rfl⟩
  rw [← z_7] at e_2
  have l_8 : fs_6.length = 62 := by rw [z_7]; simp only [List.length_set]; exact l
  have g_9 : fs_6[(0 : Nat)]? = some (.int 0) := by rw [z_7]; exact (xw_gs (by simp [l]))
  have g_10 : fs_6[(3 : Nat)]? = some (.ref draft_) := by rw [z_7]; exact (xw_gn (by decide) g_draft)
  have g_11 : fs_6[(10 : Nat)]? = some (.int 0) := by rw [z_7]; exact (xw_gn (by decide) g_drafted)
  clear z_7
  refine lp_mlet l_8 e_2 g_9 (by omega) (by omega) (fun n_12 q_13 => ?_) (fun q_13 => ?_) 8 0 rfl rfl
  · skip
    obtain rfl : n_12 = n + 1 := by rw [hN] at q_13; exact (Option.some.inj q_13).symm
    refine s_Model_letters_83 (fun z_14 => ?_) (fun z => absurd z (nI_ne0 (by omega) (by omega)))
    refine s_Model_letters_92 ?_
    refine s_Model_letters_93 ?_
    refine x_callV (As := [.int 0, .int 1]) (b := m) (rest := []) (F1 := 1) (L1 := 20) (mc := 0) (ms := 0) d_Model_letters_94 cV_Model_139 (f_fails_no l_8 e_2 g_9 (by omega) (by omega)) e_2 ⟨by decide, rfl⟩ ⟨by omega, by show 8 + (3 + 11) + 20 ≤ _; omega⟩ ⟨by omega, by omega⟩ (Nat.le_of_ble_eq_true rfl) (fun v_16 h_15 p_17 => ?_)
    obtain ⟨rfl, rfl⟩ := p_17
    refine s_Model_letters_97 (fun z => absurd z (by decide)) (fun z_18 => ?_)
    refine s_Model_letters_100 l_8 e_2 g_11 (fun z_19 => ?_) (fun z => absurd (by rw [show (0 : Int32) = nI 0 from rfl, nI_add]; exact nI_le (b := 96) (by omega) (by decide)) z)
    refine s_Model_letters_116 ?_
    refine s_Model_letters_117 ?_
    refine x_callV (As := [.int 0, .int 2]) (b := m) (rest := []) (F1 := 1) (L1 := 20) (mc := 0) (ms := 0) d_Model_letters_118 cV_Model_139 (f_fails_no l_8 e_2 g_9 (by omega) (by omega)) e_2 ⟨by decide, rfl⟩ ⟨by omega, by show 8 + (3 + 11) + 20 ≤ _; omega⟩ ⟨by omega, by omega⟩ (Nat.le_of_ble_eq_true rfl) (fun v_21 h_20 p_22 => ?_)
    obtain ⟨rfl, rfl⟩ := p_22
    refine s_Model_letters_121 (fun z_23 => ?_) (fun z => absurd z (by decide))
    refine s_Model_letters_126 ?_
    refine lp_mcpy l_8 g_11 g_10 hn (fun h_24 f_25 e_26 e_27 r_28 => ?_) (n + 1) 0 _ _ (by omega) e_2 e_4 FrO.rf
    have r_29 := r_5.trans (r_28.mono (by simp))
    refine s_Model_letters_165 l_8 e_26 g_11 ?_
    obtain ⟨h_30, z_33⟩ : ∃ z, z = xw_up h_24 m (.inr (11, (fs_6.set 10 (.int (0 + (nI (n + 1))))))) := ⟨_, rfl⟩
    rw [← z_33]
    have e_31 : h_30 m = some (.inr (11, (fs_6.set 10 (.int (0 + (nI (n + 1))))))) := by rw [z_33]; exact xw_up_s _ _ _
    have f_32 : ∀ q, q ≠ m → h_30 q = h_24 q := fun q hq => by rw [z_33]; exact xw_up_n _ _ hq
    clear z_33
    have e_34 := (f_32 draft_ (xw_neC e_27 e_26 (by simp))).trans e_27
    have r_35 := r_29.up (by simp) f_32
    obtain ⟨fs_36, z_37⟩ : ∃ z, z = fs_6.set 10 (.int (0 + (nI (n + 1)))) := ⟨_, rfl⟩
    rw [← z_37] at e_31
    have l_38 : fs_36.length = 62 := by rw [z_37]; simp only [List.length_set]; exact l_8
    have g_39 : fs_36[(0 : Nat)]? = some (.int 0) := by rw [z_37]; exact (xw_gn (by decide) g_9)
    have g_40 : fs_36[(3 : Nat)]? = some (.ref draft_) := by rw [z_37]; exact (xw_gn (by decide) g_10)
    have g_41 : fs_36[(10 : Nat)]? = some (.int (0 + (nI (n + 1)))) := by rw [z_37]; exact (xw_gs (by simp [l_8]))
    clear z_37
    exact ⟨rfl, ⟨fs_36, l_38, e_31, g_39⟩, r_35⟩
  · skip
    rw [hN] at q_13; cases q_13
