set_option maxHeartbeats 400000 in
theorem f_pushesH {G : xw_G} {F L : Nat} {h : xw_A} {n mk : Nat} {x : Int32} {ct cm : Nat → Int32} {top_ masks_ : Nat} {m : Nat} {fs : List Value} (l : fs.length = 62) (e : h m = some (.inr (11, fs))) (g_tops : fs[(38 : Nat)]? = some (.int (nI n))) (g_mask : fs[(39 : Nat)]? = some (.int (nI mk))) (g_top : fs[(51 : Nat)]? = some (.ref top_)) (e_top : h top_ = some (.inl (0, 60, .inl (ct)))) (g_masks : fs[(52 : Nat)]? = some (.ref masks_)) (e_masks : h masks_ = some (.inl (0, 60, .inl (cm)))) (n_top_masks : top_ ≠ masks_) (hn : n < 60) (hF : 1 ≤ F) (hL : 20 ≤ L) :
    xw_Met G m_Model_pushes F L 0 0 [.ref m, .int x] h (fun v h' => v = none ∧ ∃ (fs' : List Value), fs'.length = 62 ∧ h' m = some (.inr (11, fs')) ∧ fs'[(38 : Nat)]? = some (.int (nI (n + 1))) ∧ (∀ i : Nat, i ∉ [38] → fs'[i]? = fs[i]?) ∧ h' top_ = some (.inl (0, 60, .inl (upd ct n x))) ∧ h' masks_ = some (.inl (0, 60, .inl (upd cm n (nI mk)))) ∧ FrO [m, top_, masks_] h h') (fun _ _ => False) := by
  refine xw_Met.of rfl (by decide) (Nat.le_of_ble_eq_true rfl) ?_
  have ga0 : ∀ i : Nat, i ∉ [38] → fs[i]? = fs[i]? := fun _ _ => rfl
  have r0 : FrO [m, top_, masks_] h h := FrO.rf
  refine s_Model_pushes_0 l e g_top g_tops e_top (vp_in_nI (by omega) (by omega)) g_masks g_mask e_masks (vp_in_nI (by omega) (by omega)) (Ne.symm n_top_masks) ?_
  obtain ⟨h_1, z_10⟩ : ∃ z, z = xw_up h top_ (.inl (0, 60, .inl (upd ct ((nI n)).toNatClampNeg x))) := ⟨_, rfl⟩
  rw [← z_10]
  have e_2 : h_1 top_ = some (.inl (0, 60, .inl (upd ct ((nI n)).toNatClampNeg x))) := by rw [z_10]; exact xw_up_s _ _ _
  have f_3 : ∀ q, q ≠ top_ → h_1 q = h q := fun q hq => by rw [z_10]; exact xw_up_n _ _ hq
  clear z_10
  have e_11 := (f_3 masks_ (Ne.symm n_top_masks)).trans e_masks
  have e_12 := (f_3 m (xw_neC e e_top (by simp))).trans e
  have r_13 := r0.up (by simp) f_3
  obtain ⟨h_4, z_14⟩ : ∃ z, z = xw_up h_1 masks_ (.inl (0, 60, .inl (upd cm ((nI n)).toNatClampNeg (nI mk)))) := ⟨_, rfl⟩
  rw [← z_14]
  have e_5 : h_4 masks_ = some (.inl (0, 60, .inl (upd cm ((nI n)).toNatClampNeg (nI mk)))) := by rw [z_14]; exact xw_up_s _ _ _
  have f_6 : ∀ q, q ≠ masks_ → h_4 q = h_1 q := fun q hq => by rw [z_14]; exact xw_up_n _ _ hq
  clear z_14
  have e_15 := (f_6 top_ n_top_masks).trans e_2
  have e_16 := (f_6 m (xw_neC e_12 e_11 (by simp))).trans e_12
  have r_17 := r_13.up (by simp) f_6
  obtain ⟨h_7, z_18⟩ : ∃ z, z = xw_up h_4 m (.inr (11, (fs.set 38 (.int ((nI n) + 1))))) := ⟨_, rfl⟩
  rw [← z_18]
  have e_8 : h_7 m = some (.inr (11, (fs.set 38 (.int ((nI n) + 1))))) := by rw [z_18]; exact xw_up_s _ _ _
  have f_9 : ∀ q, q ≠ m → h_7 q = h_4 q := fun q hq => by rw [z_18]; exact xw_up_n _ _ hq
  clear z_18
  have e_19 := (f_9 top_ (xw_neC e_15 e_16 (by simp))).trans e_15
  have e_20 := (f_9 masks_ (xw_neC e_5 e_16 (by simp))).trans e_5
  have r_21 := r_17.up (by simp) f_9
  obtain ⟨fs_22, z_23⟩ : ∃ z, z = fs.set 38 (.int ((nI n) + 1)) := ⟨_, rfl⟩
  rw [← z_23] at e_8
  have l_24 : fs_22.length = 62 := by rw [z_23]; simp only [List.length_set]; exact l
  have g_25 : fs_22[(38 : Nat)]? = some (.int ((nI n) + 1)) := by rw [z_23]; exact (xw_gs (by simp [l]))
  have g_26 : fs_22[(39 : Nat)]? = some (.int (nI mk)) := by rw [z_23]; exact (xw_gn (by decide) g_mask)
  have g_27 : fs_22[(51 : Nat)]? = some (.ref top_) := by rw [z_23]; exact (xw_gn (by decide) g_top)
  have g_28 : fs_22[(52 : Nat)]? = some (.ref masks_) := by rw [z_23]; exact (xw_gn (by decide) g_masks)
  have ga_29 : ∀ i : Nat, i ∉ [38] → fs_22[i]? = fs[i]? := fun i hi => by rw [z_23]; exact xw_gn (fun z => hi (by rw [z]; simp)) (ga0 i hi)
  clear z_23
  rw [nI_1] at g_25
  rw [nI_clamp (by omega)] at e_19 e_20
  exact ⟨rfl, _, l_24, e_8, g_25, ga_29, e_19, e_20, r_21⟩
set_option maxHeartbeats 2000000 in
theorem lp_cfH {G : xw_G} {F L bc bs : Nat} {pr : Option Value → xw_A → Prop} {px : String → xw_A → Prop} {m top_ masks_ : Nat} {gs : List Value} {ct cm : Nat → Int32} {R : List EV × Nat} {h0 : xw_A} (q_top : gs[(51 : Nat)]? = some (.ref top_)) (q_masks : gs[(52 : Nat)]? = some (.ref masks_)) (q_t : h0 top_ = some (.inl (0, 60, .inl ct))) (q_k : h0 masks_ = some (.inl (0, 60, .inl cm))) (q_m : ∃ f, h0 m = some (.inr (11, f))) (kk : ∀ (h : xw_A) (n : Nat) (st : List EV) (mk : Nat) (fs : List Value), fs.length = 62 → h m = some (.inr (11, fs)) → fs[(38 : Nat)]? = some (.int (nI n)) → fs[(39 : Nat)]? = some (.int (nI mk)) → (∀ i : Nat, i ∉ [38, 39] → fs[i]? = gs[i]?) → st.length = n → n ≤ 60 → StR st ct cm → mk ≤ 3 → R = (st, mk) → FrO [m] h0 h → pr none h) :
    ∀ (n : Nat) (h : xw_A) (st : List EV) (mk : Nat) (fs : List Value), fs.length = 62 → h m = some (.inr (11, fs)) → fs[(38 : Nat)]? = some (.int (nI n)) → fs[(39 : Nat)]? = some (.int (nI mk)) → (∀ i : Nat, i ∉ [38, 39] → fs[i]? = gs[i]?) → st.length = n → n ≤ 60 → StR st ct cm → mk ≤ 3 → cfS st mk = R → FrO [m] h0 h → xw G m_Model_closesFilters F L bc bs pr px 0 [some (.ref m)] [] h := by
  intro n
  induction n with
  | zero =>
    intro h st mk fs l e g_tops g_mask ga0 hN hN60 ST hmk hR r0
    have g_top := (ga0 51 (by decide)).trans q_top
    have g_masks := (ga0 52 (by decide)).trans q_masks
    have e_top := r0 top_ _ (by obtain ⟨f, o⟩ := q_m; simp only [List.mem_cons, List.not_mem_nil, or_false, not_or]; exact xw_neC q_t o (by simp)) q_t
    have e_masks := r0 masks_ _ (by obtain ⟨f, o⟩ := q_m; simp only [List.mem_cons, List.not_mem_nil, or_false, not_or]; exact xw_neC q_k o (by simp)) q_k
    refine s_Model_closesFilters_0 l e g_tops (fun z_1 => ?_) (fun z => absurd (show nI 0 ≤ 0 by decide) z)
    refine s_Model_closesFilters_49 ?_
    obtain rfl : st = [] := List.eq_nil_of_length_eq_zero hN
    exact kk _ _ _ _ _ l e g_tops g_mask ga0 hN hN60 ST hmk (hR.symm.trans rfl) r0
  | succ n ih =>
    intro h st mk fs l e g_tops g_mask ga0 hN hN60 ST hmk hR r0
    have g_top := (ga0 51 (by decide)).trans q_top
    have g_masks := (ga0 52 (by decide)).trans q_masks
    have e_top := r0 top_ _ (by obtain ⟨f, o⟩ := q_m; simp only [List.mem_cons, List.not_mem_nil, or_false, not_or]; exact xw_neC q_t o (by simp)) q_t
    have e_masks := r0 masks_ _ (by obtain ⟨f, o⟩ := q_m; simp only [List.mem_cons, List.not_mem_nil, or_false, not_or]; exact xw_neC q_k o (by simp)) q_k
    refine s_Model_closesFilters_0 l e g_tops (fun z => absurd z (nI_ge (b := n + 1) (show 0 < n + 1 by omega) (by omega))) (fun z_1 => ?_)
    obtain ⟨e9, st9, rfl⟩ : ∃ e9 st9, st = e9 :: st9 := by cases st with | nil => (cases hN) | cons e9 st9 => exact ⟨e9, st9, rfl⟩
    obtain ⟨hb9, hc9, hm9, ST9⟩ := ST
    have hl9 : st9.length = n := by rw [List.length_cons] at hN; omega
    rw [hl9] at hc9 hm9
    refine s_Model_closesFilters_7 l e g_top g_tops e_top (by rw [nI_pred]; exact vp_in_nI (by omega) (by decide)) (fun z_2 => ?_) (fun z_3 => ?_)
    · skip
      refine s_Model_closesFilters_49 ?_
      rw [nI_pred, nI_clamp (show n < 2 ^ 31 by omega), hc9] at z_2
      exact kk _ _ _ _ _ l e g_tops g_mask ga0 hN hN60 ⟨hb9, by rw [hl9]; exact hc9, by rw [hl9]; exact hm9, ST9⟩ hmk (hR.symm.trans (cf_n (fun q => z_2 (by rw [q]; rfl)))) r0
    · skip
      refine s_Model_closesFilters_23 l e g_tops g_masks e_masks (by rw [nI_pred]; exact vp_in_nI (by omega) (by decide)) ?_
      rw [xw_up_up]
      refine x_u1 (fun h_4 e_5 f_6 => ?_)
      have e_7 := (f_6 top_ (xw_neC e_top e (by simp))).trans e_top
      have e_8 := (f_6 masks_ (xw_neC e_masks e (by simp))).trans e_masks
      have r_9 := r0.up (by simp) f_6
      obtain ⟨fs_10, z_11⟩ : ∃ z, z = (fs.set 38 (.int ((nI (n + 1)) - 1))).set 39 (.int (cm ((nI (n + 1)) - 1).toNatClampNeg)) := ⟨_, rfl⟩
      rw [← z_11] at e_5
      have l_12 : fs_10.length = 62 := by rw [z_11]; simp only [List.length_set]; exact l
      have g_13 : fs_10[(38 : Nat)]? = some (.int ((nI (n + 1)) - 1)) := by rw [z_11]; exact (xw_gn (by decide) (xw_gs (by simp [l])))
      have g_14 : fs_10[(39 : Nat)]? = some (.int (cm ((nI (n + 1)) - 1).toNatClampNeg)) := by rw [z_11]; exact (xw_gs (by simp [l]))
      have g_15 : fs_10[(51 : Nat)]? = some (.ref top_) := by rw [z_11]; exact (xw_gn (by decide) (xw_gn (by decide) g_top))
      have g_16 : fs_10[(52 : Nat)]? = some (.ref masks_) := by rw [z_11]; exact (xw_gn (by decide) (xw_gn (by decide) g_masks))
      have ga_17 : ∀ i : Nat, i ∉ [38, 39] → fs_10[i]? = gs[i]? := fun i hi => by rw [z_11]; exact xw_gn (fun z => hi (by rw [z]; simp)) (xw_gn (fun z => hi (by rw [z]; simp)) (ga0 i hi))
      clear z_11
      rw [nI_pred, nI_clamp (show n < 2 ^ 31 by omega), hc9] at z_3
      rw [nI_pred] at g_13
      rw [nI_pred, nI_clamp (show n < 2 ^ 31 by omega), hm9] at g_14
      have h6 : e9.1 = 6 := (nI_eq (b := 6) (by omega) (by decide)).mp z_3
      exact ih _ st9 e9.2 _ l_12 e_5 g_13 g_14 ga_17 hl9 (by omega) ST9 hb9.2.2 (by rw [← hR, cf_y h6]) r_9
set_option maxHeartbeats 400000 in
theorem f_closesFiltersH {G : xw_G} {F L : Nat} {h : xw_A} {mk : Nat} {st : List EV} {ct cm : Nat → Int32} {top_ masks_ : Nat} {m : Nat} {fs : List Value} (l : fs.length = 62) (e : h m = some (.inr (11, fs))) (g_tops : fs[(38 : Nat)]? = some (.int (nI st.length))) (g_mask : fs[(39 : Nat)]? = some (.int (nI mk))) (g_top : fs[(51 : Nat)]? = some (.ref top_)) (e_top : h top_ = some (.inl (0, 60, .inl (ct)))) (g_masks : fs[(52 : Nat)]? = some (.ref masks_)) (e_masks : h masks_ = some (.inl (0, 60, .inl (cm)))) (n_top_masks : top_ ≠ masks_) (hn : st.length ≤ 60) (ST : StR st ct cm) (hmk : mk ≤ 3) (hF : 1 ≤ F) (hL : 20 ≤ L) :
    xw_Met G m_Model_closesFilters F L 0 0 [.ref m] h (fun v h' => v = none ∧ ∃ (fs' : List Value), fs'.length = 62 ∧ h' m = some (.inr (11, fs')) ∧ fs'[(38 : Nat)]? = some (.int (nI (cfS st mk).1.length)) ∧ fs'[(39 : Nat)]? = some (.int (nI (cfS st mk).2)) ∧ (∀ i : Nat, i ∉ [38, 39] → fs'[i]? = fs[i]?) ∧ StR (cfS st mk).1 ct cm ∧ (cfS st mk).2 ≤ 3 ∧ FrO [m] h h') (fun _ _ => False) := by
  refine xw_Met.of rfl (by decide) (Nat.le_of_ble_eq_true rfl) ?_
  have ga0 : ∀ i : Nat, i ∉ [38, 39] → fs[i]? = fs[i]? := fun _ _ => rfl
  have r0 : FrO [m] h h := FrO.rf
  exact lp_cfH (gs := fs) (h0 := h) g_top g_masks e_top e_masks ⟨_, e⟩ (fun h9 n9 st9 mk9 fs9 a1 a2 a3 a4 a5 a6 a60 a7 a8 a9 b1 => ⟨rfl, fs9, a1, a2, by rw [a9, a6]; exact a3, by rw [a9]; exact a4, a5, by rw [a9]; exact a7, by rw [a9]; exact a8, b1⟩) st.length h st mk _ l e g_tops g_mask (fun _ _ => rfl) rfl hn ST hmk rfl FrO.rf
set_option maxHeartbeats 2000000 in
theorem lp_rdH {G : xw_G} {F L bc bs : Nat} {pr : Option Value → xw_A → Prop} {px : String → xw_A → Prop} {m out_ top_ lv S0 : Nat} {x : Int32} {gs : List Value} {ct cm : Nat → Int32} {R : List EV × List EV} {h0 : xw_A} (q_out : gs[(50 : Nat)]? = some (.ref out_)) (q_top : gs[(51 : Nat)]? = some (.ref top_)) (q_t : h0 top_ = some (.inl (0, 60, .inl ct))) (q_m : ∃ f, h0 m = some (.inr (11, f))) (nto : top_ ≠ out_) (hx : x = nI lv) (hlv1 : 1 ≤ lv) (hlv : lv ≤ 4) (hS0 : S0 ≤ 60) (kk : ∀ (h : xw_A) (n : Nat) (st o : List EV) (co : Nat → Int32) (fs : List Value), fs.length = 62 → h m = some (.inr (11, fs)) → fs[(37 : Nat)]? = some (.int (nI o.length)) → fs[(38 : Nat)]? = some (.int (nI n)) → (∀ i : Nat, i ∉ [37, 38] → fs[i]? = gs[i]?) → h out_ = some (.inl (0, 60, .inl co)) → st.length = n → o.length + n = S0 → StR st ct cm → OuR o co → R = (st, o) → FrO [m, out_] h0 h → pr none h) :
    ∀ (n : Nat) (h : xw_A) (st : List EV) (o : List EV) (co : Nat → Int32) (fs : List Value), fs.length = 62 → h m = some (.inr (11, fs)) → fs[(37 : Nat)]? = some (.int (nI o.length)) → fs[(38 : Nat)]? = some (.int (nI n)) → (∀ i : Nat, i ∉ [37, 38] → fs[i]? = gs[i]?) → h out_ = some (.inl (0, 60, .inl co)) → st.length = n → o.length + n = S0 → StR st ct cm → OuR o co → redS lv st o = R → FrO [m, out_] h0 h → xw G m_Model_reduces F L bc bs pr px 0 [some (.ref m), some (.int x)] [] h := by
  intro n
  induction n with
  | zero =>
    intro h st o co fs l e g_outs g_tops ga0 e_out hN hS ST OU hR r0
    have g_out := (ga0 50 (by decide)).trans q_out
    have g_top := (ga0 51 (by decide)).trans q_top
    have e_top := r0 top_ _ (by obtain ⟨f, o⟩ := q_m; simp only [List.mem_cons, List.not_mem_nil, or_false, not_or]; exact ⟨xw_neC q_t o (by simp), nto⟩) q_t
    refine s_Model_reduces_0 l e g_tops (fun z_1 => ?_) (fun z => absurd (show nI 0 ≤ 0 by decide) z)
    refine s_Model_reduces_79 ?_
    obtain rfl : st = [] := List.eq_nil_of_length_eq_zero hN
    exact kk _ _ _ _ _ _ l e g_outs g_tops ga0 e_out hN hS ST OU (hR.symm.trans rfl) r0
  | succ n ih =>
    intro h st o co fs l e g_outs g_tops ga0 e_out hN hS ST OU hR r0
    have g_out := (ga0 50 (by decide)).trans q_out
    have g_top := (ga0 51 (by decide)).trans q_top
    have e_top := r0 top_ _ (by obtain ⟨f, o⟩ := q_m; simp only [List.mem_cons, List.not_mem_nil, or_false, not_or]; exact ⟨xw_neC q_t o (by simp), nto⟩) q_t
    refine s_Model_reduces_0 l e g_tops (fun z => absurd z (nI_ge (b := n + 1) (show 0 < n + 1 by omega) (by omega))) (fun z_1 => ?_)
    obtain ⟨e9, st9, rfl⟩ : ∃ e9 st9, st = e9 :: st9 := by cases st with | nil => (cases hN) | cons e9 st9 => exact ⟨e9, st9, rfl⟩
    obtain ⟨hb9, hc9, hm9, ST9⟩ := ST
    have hl9 : st9.length = n := by rw [List.length_cons] at hN; omega
    rw [hl9] at hc9 hm9
    refine s_Model_reduces_7 l e g_top g_tops e_top (by rw [nI_pred]; exact vp_in_nI (by omega) (by decide)) (fun z_2 => ?_) (fun z_3 => ?_)
    · skip
      refine s_Model_reduces_79 ?_
      rw [nI_pred, nI_clamp (show n < 2 ^ 31 by omega), hc9] at z_2
      exact kk _ _ _ _ _ _ l e g_outs g_tops ga0 e_out hN hS ⟨hb9, by rw [hl9]; exact hc9, by rw [hl9]; exact hm9, ST9⟩ OU (hR.symm.trans (rd_n (fun q => absurd z_2 (nI_ge (b := 5) q.1 (by decide))))) r0
    · skip
      refine s_Model_reduces_22 l e g_top g_tops e_top (by rw [nI_pred]; exact vp_in_nI (by omega) (by decide)) (fun z_4 => ?_) (fun z_5 => ?_)
      · skip
        refine s_Model_reduces_79 ?_
        rw [nI_pred, nI_clamp (show n < 2 ^ 31 by omega), hc9] at z_4
        exact kk _ _ _ _ _ _ l e g_outs g_tops ga0 e_out hN hS ⟨hb9, by rw [hl9]; exact hc9, by rw [hl9]; exact hm9, ST9⟩ OU (hR.symm.trans (rd_n (fun q => by rw [hx] at z_4; exact absurd z_4 (nI_nlt q.2 (by omega))))) r0
      · skip
        refine s_Model_reduces_37 l e g_tops g_out g_outs g_top e_top (by rw [nI_pred]; exact vp_in_nI (by omega) (by decide)) e_out (vp_in_nI (by omega) (by omega)) ?_
        refine x_u3 (fun h_6 e_7 f_8 h_9 e_10 f_11 h_12 e_13 f_14 => ?_)
        have e_15 := (f_8 top_ (xw_neC e_top e (by simp))).trans e_top
        have e_16 := (f_8 out_ (xw_neC e_out e (by simp))).trans e_out
        have r_17 := r0.up (by simp) f_8
        obtain ⟨fs_18, z_19⟩ : ∃ z, z = fs.set 38 (.int ((nI (n + 1)) - 1)) := ⟨_, rfl⟩
        rw [← z_19] at e_7
        have l_20 : fs_18.length = 62 := by rw [z_19]; simp only [List.length_set]; exact l
        have g_21 : fs_18[(37 : Nat)]? = some (.int (nI o.length)) := by rw [z_19]; exact (xw_gn (by decide) g_outs)
        have g_22 : fs_18[(38 : Nat)]? = some (.int ((nI (n + 1)) - 1)) := by rw [z_19]; exact (xw_gs (by simp [l]))
        have g_23 : fs_18[(50 : Nat)]? = some (.ref out_) := by rw [z_19]; exact (xw_gn (by decide) g_out)
        have g_24 : fs_18[(51 : Nat)]? = some (.ref top_) := by rw [z_19]; exact (xw_gn (by decide) g_top)
        have ga_25 : ∀ i : Nat, i ∉ [37, 38] → fs_18[i]? = gs[i]? := fun i hi => by rw [z_19]; exact xw_gn (fun z => hi (by rw [z]; simp)) (ga0 i hi)
        clear z_19
        have e_26 := (f_11 m (xw_neC e_7 e_16 (by simp))).trans e_7
        have e_27 := (f_11 top_ nto).trans e_15
        have r_28 := r_17.up (by simp) f_11
        have e_29 := (f_14 top_ (xw_neC e_27 e_26 (by simp))).trans e_27
        have e_30 := (f_14 out_ (xw_neC e_10 e_26 (by simp))).trans e_10
        have r_31 := r_28.up (by simp) f_14
        obtain ⟨fs_32, z_33⟩ : ∃ z, z = (fs.set 38 (.int ((nI (n + 1)) - 1))).set 37 (.int ((nI o.length) + 1)) := ⟨_, rfl⟩
        rw [← z_33] at e_13
        have l_34 : fs_32.length = 62 := by rw [z_33]; simp only [List.length_set]; exact l
        have g_35 : fs_32[(37 : Nat)]? = some (.int ((nI o.length) + 1)) := by rw [z_33]; exact (xw_gs (by simp [l]))
        have g_36 : fs_32[(38 : Nat)]? = some (.int ((nI (n + 1)) - 1)) := by rw [z_33]; exact (xw_gn (by decide) (xw_gs (by simp [l])))
        have g_37 : fs_32[(50 : Nat)]? = some (.ref out_) := by rw [z_33]; exact (xw_gn (by decide) (xw_gn (by decide) g_out))
        have g_38 : fs_32[(51 : Nat)]? = some (.ref top_) := by rw [z_33]; exact (xw_gn (by decide) (xw_gn (by decide) g_top))
        have ga_39 : ∀ i : Nat, i ∉ [37, 38] → fs_32[i]? = gs[i]? := fun i hi => by rw [z_33]; exact xw_gn (fun z => hi (by rw [z]; simp)) (xw_gn (fun z => hi (by rw [z]; simp)) (ga0 i hi))
        clear z_33
        rw [nI_pred, nI_clamp (show n < 2 ^ 31 by omega), hc9] at z_3
        rw [nI_pred, nI_clamp (show n < 2 ^ 31 by omega), hc9] at z_5
        rw [nI_pred] at g_36
        rw [nI_1] at g_35
        rw [nI_pred, nI_clamp (show n < 2 ^ 31 by omega), nI_clamp (show o.length < 2 ^ 31 by omega), hc9] at e_30
        have h5 : e9.1 < 5 := (nI_ltI (b := 5) (by omega) (by decide)).mp (Int32.not_le.mp z_3)
        have hl : lv ≤ e9.1 := Nat.le_of_not_lt (fun q => z_5 (by rw [hx]; exact nI_lt q (by omega)))
        have lo9 : (o ++ [(e9.1, 0)]).length = o.length + 1 := by rw [List.length_append]; rfl
        rw [← lo9] at g_35
        exact ih _ st9 (o ++ [(e9.1, 0)]) _ _ l_34 e_13 g_35 g_36 ga_39 e_30 hl9 (by omega) ST9 (OU.add (by rw [if_neg (by show ¬ e9.1 = 0; omega)]) (by show e9.1 ≤ 4; omega) (Nat.zero_le _)) (by rw [← hR, rd_y h5 hl]) r_31
set_option maxHeartbeats 400000 in
theorem f_reducesH {G : xw_G} {F L : Nat} {h : xw_A} {lv : Nat} {st o : List EV} {x : Int32} {co ct cm : Nat → Int32} {out_ top_ : Nat} {m : Nat} {fs : List Value} (l : fs.length = 62) (e : h m = some (.inr (11, fs))) (g_outs : fs[(37 : Nat)]? = some (.int (nI o.length))) (g_tops : fs[(38 : Nat)]? = some (.int (nI st.length))) (g_out : fs[(50 : Nat)]? = some (.ref out_)) (e_out : h out_ = some (.inl (0, 60, .inl (co)))) (g_top : fs[(51 : Nat)]? = some (.ref top_)) (e_top : h top_ = some (.inl (0, 60, .inl (ct)))) (n_out_top : out_ ≠ top_) (hon : o.length + st.length ≤ 60) (hx : x = nI lv) (hlv1 : 1 ≤ lv) (hlv : lv ≤ 4) (ST : StR st ct cm) (OU : OuR o co) (hF : 1 ≤ F) (hL : 20 ≤ L) :
    xw_Met G m_Model_reduces F L 0 0 [.ref m, .int x] h (fun v h' => v = none ∧ ∃ (co' : Nat → Int32) (fs' : List Value), fs'.length = 62 ∧ h' m = some (.inr (11, fs')) ∧ fs'[(37 : Nat)]? = some (.int (nI (redS lv st o).2.length)) ∧ fs'[(38 : Nat)]? = some (.int (nI (redS lv st o).1.length)) ∧ (∀ i : Nat, i ∉ [37, 38] → fs'[i]? = fs[i]?) ∧ h' out_ = some (.inl (0, 60, .inl co')) ∧ StR (redS lv st o).1 ct cm ∧ OuR (redS lv st o).2 co' ∧ FrO [m, out_] h h') (fun _ _ => False) := by
  refine xw_Met.of rfl (by decide) (Nat.le_of_ble_eq_true rfl) ?_
  have r0 : FrO [m, out_] h h := FrO.rf
  exact lp_rdH (gs := fs) (h0 := h) (cm := cm) g_out g_top e_top ⟨_, e⟩ (Ne.symm n_out_top) hx hlv1 hlv hon (fun h9 n9 st9 o9 co9 fs9 a1 a2 a3 a4 a5 a6 a7 a8 a9 b1 b2 b3 => ⟨rfl, co9, fs9, a1, a2, by rw [b2]; exact a3, by rw [b2, a7]; exact a4, a5, a6, by rw [b2]; exact a9, by rw [b2]; exact b1, b3⟩) st.length h st o _ _ l e g_outs g_tops (fun _ _ => rfl) e_out rfl rfl ST OU rfl FrO.rf
