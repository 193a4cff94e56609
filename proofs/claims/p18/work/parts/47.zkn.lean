set_option maxHeartbeats 2000000 in
theorem lp_a1H {G : xw_G} {F L bc bs : Nat} {pr : Option Value → xw_A → Prop} {px : String → xw_A → Prop} {m asked_ draft_ dl : Nat} {gs : List Value} {fd : Nat → Int32} {h0 : xw_A} (l : gs.length = 62) (q_m : h0 m = some (.inr (11, gs))) (g_drafted : gs[(10 : Nat)]? = some (.int (nI dl))) (g_draft : gs[(3 : Nat)]? = some (.ref draft_)) (g_asked : gs[(4 : Nat)]? = some (.ref asked_)) (q_d : h0 draft_ = some (.inl (0, 96, .inl fd))) (q_a : ∃ f, h0 asked_ = some (.inl (0, 96, .inl f))) (nda : draft_ ≠ asked_) (hdl : dl ≤ 96) (kk : ∀ (h : xw_A) (fa : Nat → Int32), h asked_ = some (.inl (0, 96, .inl fa)) → (∀ j, j < dl → fa j = fd j) → FrO [asked_] h0 h → xw G m_Model_ask F L bc bs pr px 33 [some (.ref m), none, none] [] h) :
    ∀ (dd i : Nat) (h : xw_A) (fa : Nat → Int32), i + dd = dl → h asked_ = some (.inl (0, 96, .inl fa)) → (∀ j, j < i → fa j = fd j) → FrO [asked_] h0 h → xw G m_Model_ask F L bc bs pr px 7 [some (.ref m), some (.int (nI i)), none] [] h := by
  intro dd
  induction dd with
  | zero =>
    intro i h fa hi e_asked hfa r0
    obtain rfl : i = dl := by omega
    have e := r0 m _ (by obtain ⟨f, o⟩ := q_a; simp only [List.mem_cons, List.not_mem_nil, or_false, not_or]; exact xw_neC q_m o (by simp)) q_m
    have e_draft := r0 draft_ _ (by simp only [List.mem_cons, List.not_mem_nil, or_false, not_or]; exact nda) q_d
    refine s_Model_ask_7 l e g_drafted (fun z_1 => ?_) (fun z => absurd (nI_le (Nat.le_refl _) (by omega)) z)
    exact kk _ _ e_asked (fun j hj => hfa j (by omega)) r0
  | succ dd ih =>
    intro i h fa hi e_asked hfa r0
    have e := r0 m _ (by obtain ⟨f, o⟩ := q_a; simp only [List.mem_cons, List.not_mem_nil, or_false, not_or]; exact xw_neC q_m o (by simp)) q_m
    have e_draft := r0 draft_ _ (by simp only [List.mem_cons, List.not_mem_nil, or_false, not_or]; exact nda) q_d
    refine s_Model_ask_7 l e g_drafted (fun z => absurd z (nI_ge (b := dl) (show i < dl by omega) (by omega))) (fun z_1 => ?_)
    refine s_Model_ask_15 l e g_asked g_draft e_draft (vp_in_nI (by omega) (by omega)) e_asked (vp_in_nI (by omega) (by omega)) ?_
    refine x_u1 (fun h_2 e_3 f_4 => ?_)
    have e_5 := (f_4 m (xw_neC e e_asked (by simp))).trans e
    have e_6 := (f_4 draft_ nda).trans e_draft
    have r_7 := r0.up (by simp) f_4
    rw [nI_1]
    rw [nI_clamp (show i < 2 ^ 31 by omega)] at e_3
    exact ih (i + 1) _ _ (by omega) e_3 (fun j hj => by by_cases q : j = i; (rw [q, pk_us]); (rw [pk_un q]; exact hfa j (by omega))) r_7
