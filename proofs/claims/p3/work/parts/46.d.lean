/-! the reference in general states: by program (wip/tools/gen3.py, gen4.py, gen5.py) -/
set_option maxHeartbeats 400000 in
theorem f_pushes {G : xw_G} {F L : Nat} {h : xw_A} {n : Nat} {x mk : Int32} {ct cm : Nat → Int32} {top_ masks_ : Nat} {m : Nat} {fs : List Value} (l : fs.length = 62) (e : h m = some (.inr (11, fs))) (g_tops : fs[(38 : Nat)]? = some (.int (nI n))) (g_mask : fs[(39 : Nat)]? = some (.int mk)) (g_top : fs[(51 : Nat)]? = some (.ref top_)) (e_top : h top_ = some (.inl (0, 60, .inl (ct)))) (g_masks : fs[(52 : Nat)]? = some (.ref masks_)) (e_masks : h masks_ = some (.inl (0, 60, .inl (cm)))) (n_top_masks : top_ ≠ masks_) (hn : n < 60) (hF : 1 ≤ F) (hL : 20 ≤ L) :
    xw_Met G m_Model_pushes F L 0 0 [.ref m, .int x] h (fun v h' => v = none ∧ ∃ (cm' : Nat → Int32) (fs' : List Value), fs'.length = 62 ∧ h' m = some (.inr (11, fs')) ∧ fs'[(38 : Nat)]? = some (.int (nI (n + 1))) ∧ (∀ i : Nat, i ∉ [38] → fs'[i]? = fs[i]?) ∧ h' top_ = some (.inl (0, 60, .inl (upd ct n x))) ∧ h' masks_ = some (.inl (0, 60, .inl cm')) ∧ FrO [m, top_, masks_] h h') (fun _ _ => False) := by
  refine xw_Met.of rfl (by decide) (Nat.le_of_ble_eq_true rfl) ?_
  have ga0 : ∀ i : Nat, i ∉ [38] → fs[i]? = fs[i]? := fun _ _ => rfl
  have r0 : FrO [m, top_, masks_] h h := FrO.rf
  refine s_Model_pushes_0 l e g_top g_tops e_top (vp_in_nI (by omega) (by omega)) g_masks g_mask e_masks (vp_in_nI (by omega) (by omega)) (Ne.symm n_top_masks) ?_
  obtain ⟨h_1, z_10⟩ : ∃ z, z = xw_up h top_ (.inl (0, 60, .inl (upd ct ((nI n)).toNatClampNeg x))) := ⟨_, rfl⟩
  rw [← z_10]
  have e_2 : h_1 top_ = some (.inl (0, 60, .inl (upd ct ((nI n)).toNatClampNeg x))) := by rw [z_10]; exact xw_up_s _ _ _
  have f_3 : ∀ q, q ≠ top_ → h_1 q = h q := fun q hq => by rw [z_10]; exact xw_up_n _ _ hq
  clear z_10
  have e_11 := (f_3 masks_ (Ne.symm n_top_masks)).trans e_masks
  have e_12 := (f_3 m (xw_neC e e_top (by simp))).trans e
  have r_13 := r0.up (by simp) f_3
  obtain ⟨h_4, z_14⟩ : ∃ z, z = xw_up h_1 masks_ (.inl (0, 60, .inl (upd cm ((nI n)).toNatClampNeg mk))) := ⟨_, rfl⟩
  rw [← z_14]
  have e_5 : h_4 masks_ = some (.inl (0, 60, .inl (upd cm ((nI n)).toNatClampNeg mk))) := by rw [z_14]; exact xw_up_s _ _ _
  have f_6 : ∀ q, q ≠ masks_ → h_4 q = h_1 q := fun q hq => by rw [z_14]; exact xw_up_n _ _ hq
  clear z_14
  have e_15 := (f_6 top_ n_top_masks).trans e_2
  have e_16 := (f_6 m (xw_neC e_12 e_11 (by simp))).trans e_12
  have r_17 := r_13.up (by simp) f_6
  obtain ⟨h_7, z_18⟩ : ∃ z, z = xw_up h_4 m (.inr (11, (fs.set 38 (.int ((nI n) + 1))))) := ⟨_, rfl⟩
  rw [← z_18]
  have e_8 : h_7 m = some (.inr (11, (fs.set 38 (.int ((nI n) + 1))))) := by rw [z_18]; exact xw_up_s _ _ _
  have f_9 : ∀ q, q ≠ m → h_7 q = h_4 q := fun q hq => by rw [z_18]; exact xw_up_n _ _ hq
  clear z_18
  have e_19 := (f_9 top_ (xw_neC e_15 e_16 (by simp))).trans e_15
  have e_20 := (f_9 masks_ (xw_neC e_5 e_16 (by simp))).trans e_5
  have r_21 := r_17.up (by simp) f_9
  obtain ⟨fs_22, z_23⟩ : ∃ z, z = fs.set 38 (.int ((nI n) + 1)) := ⟨_, rfl⟩
  rw [← z_23] at e_8
  have l_24 : fs_22.length = 62 := by rw [z_23]; simp only [List.length_set]; exact l
  have g_25 : fs_22[(38 : Nat)]? = some (.int ((nI n) + 1)) := by rw [z_23]; exact (xw_gs (by simp [l]))
  have g_26 : fs_22[(39 : Nat)]? = some (.int mk) := by rw [z_23]; exact (xw_gn (by decide) g_mask)
  have g_27 : fs_22[(51 : Nat)]? = some (.ref top_) := by rw [z_23]; exact (xw_gn (by decide) g_top)
  have g_28 : fs_22[(52 : Nat)]? = some (.ref masks_) := by rw [z_23]; exact (xw_gn (by decide) g_masks)
  have ga_29 : ∀ i : Nat, i ∉ [38] → fs_22[i]? = fs[i]? := fun i hi => by rw [z_23]; exact xw_gn (fun z => hi (by rw [z]; simp)) (ga0 i hi)
  clear z_23
  rw [nI_1] at g_25
  rw [nI_clamp (by omega)] at e_19
  exact ⟨rfl, _, _, l_24, e_8, g_25, ga_29, e_19, e_20, r_21⟩
set_option maxHeartbeats 2000000 in
theorem lp_cf {G : xw_G} {F L bc bs : Nat} {pr : Option Value → xw_A → Prop} {px : String → xw_A → Prop} {m top_ masks_ n0 J0 D0 : Nat} {gs : List Value} {ct cm : Nat → Int32} {h0 : xw_A} (q_top : gs[(51 : Nat)]? = some (.ref top_)) (q_masks : gs[(52 : Nat)]? = some (.ref masks_)) (q_t : h0 top_ = some (.inl (0, 60, .inl ct))) (q_k : h0 masks_ = some (.inl (0, 60, .inl cm))) (q_m : ∃ f, h0 m = some (.inr (11, f))) (hn0 : n0 ≤ 60) (kk : ∀ (h : xw_A) (n : Nat) (mk : Int32) (fs : List Value), fs.length = 62 → h m = some (.inr (11, fs)) → fs[(38 : Nat)]? = some (.int (nI n)) → fs[(39 : Nat)]? = some (.int mk) → (∀ i : Nat, i ∉ [38, 39] → fs[i]? = gs[i]?) → n ≤ n0 → cntJ ct n = J0 → cntD ct n ≤ D0 → FrO [m] h0 h → pr none h) :
    ∀ (n : Nat) (h : xw_A) (mk : Int32) (fs : List Value), fs.length = 62 → h m = some (.inr (11, fs)) → fs[(38 : Nat)]? = some (.int (nI n)) → fs[(39 : Nat)]? = some (.int mk) → (∀ i : Nat, i ∉ [38, 39] → fs[i]? = gs[i]?) → n ≤ n0 → cntJ ct n = J0 → cntD ct n ≤ D0 → FrO [m] h0 h → xw G m_Model_closesFilters F L bc bs pr px 0 [some (.ref m)] [] h := by
  intro n
  induction n with
  | zero =>
    intro h mk fs l e g_tops g_mask ga0 hN hJ hD r0
    have g_top := (ga0 51 (by decide)).trans q_top
    have g_masks := (ga0 52 (by decide)).trans q_masks
    have e_top := r0 top_ _ (by obtain ⟨f, o⟩ := q_m; simp only [List.mem_cons, List.not_mem_nil, or_false, not_or]; exact xw_neC q_t o (by simp)) q_t
    have e_masks := r0 masks_ _ (by obtain ⟨f, o⟩ := q_m; simp only [List.mem_cons, List.not_mem_nil, or_false, not_or]; exact xw_neC q_k o (by simp)) q_k
    refine s_Model_closesFilters_0 l e g_tops (fun z_1 => ?_) (fun z => absurd (show nI 0 ≤ 0 by decide) z)
    refine s_Model_closesFilters_49 ?_
    exact kk _ _ _ _ l e g_tops g_mask ga0 hN hJ hD r0
  | succ n ih =>
    intro h mk fs l e g_tops g_mask ga0 hN hJ hD r0
    have g_top := (ga0 51 (by decide)).trans q_top
    have g_masks := (ga0 52 (by decide)).trans q_masks
    have e_top := r0 top_ _ (by obtain ⟨f, o⟩ := q_m; simp only [List.mem_cons, List.not_mem_nil, or_false, not_or]; exact xw_neC q_t o (by simp)) q_t
    have e_masks := r0 masks_ _ (by obtain ⟨f, o⟩ := q_m; simp only [List.mem_cons, List.not_mem_nil, or_false, not_or]; exact xw_neC q_k o (by simp)) q_k
    refine s_Model_closesFilters_0 l e g_tops (fun z => absurd z (nI_ge (b := n + 1) (show 0 < n + 1 by omega) (by omega))) (fun z_1 => ?_)
    refine s_Model_closesFilters_7 l e g_top g_tops e_top (by rw [nI_pred]; exact vp_in_nI (by omega) (by decide)) (fun z_2 => ?_) (fun z_3 => ?_)
    · skip
      refine s_Model_closesFilters_49 ?_
      exact kk _ _ _ _ l e g_tops g_mask ga0 hN hJ hD r0
    · skip
      refine s_Model_closesFilters_23 l e g_tops g_masks e_masks (by rw [nI_pred]; exact vp_in_nI (by omega) (by decide)) ?_
      rw [xw_up_up]
      refine x_u1 (fun h_4 e_5 f_6 => ?_)
      have e_7 := (f_6 top_ (xw_neC e_top e (by simp))).trans e_top
      have e_8 := (f_6 masks_ (xw_neC e_masks e (by simp))).trans e_masks
      have r_9 := r0.up (by simp) f_6
      obtain ⟨fs_10, z_11⟩ : ∃ z, z = (fs.set 38 (.int ((nI (n + 1)) - 1))).set 39 (.int (cm ((nI (n + 1)) - 1).toNatClampNeg)) := ⟨_, rfl⟩
      rw [← z_11] at e_5
      have l_12 : fs_10.length = 62 := by rw [z_11]; simp only [List.length_set]; exact l
      have g_13 : fs_10[(38 : Nat)]? = some (.int ((nI (n + 1)) - 1)) := by rw [z_11]; exact (xw_gn (by decide) (xw_gs (by simp [l])))
      have g_14 : fs_10[(39 : Nat)]? = some (.int (cm ((nI (n + 1)) - 1).toNatClampNeg)) := by rw [z_11]; exact (xw_gs (by simp [l]))
      have g_15 : fs_10[(51 : Nat)]? = some (.ref top_) := by rw [z_11]; exact (xw_gn (by decide) (xw_gn (by decide) g_top))
      have g_16 : fs_10[(52 : Nat)]? = some (.ref masks_) := by rw [z_11]; exact (xw_gn (by decide) (xw_gn (by decide) g_masks))
      have ga_17 : ∀ i : Nat, i ∉ [38, 39] → fs_10[i]? = gs[i]? := fun i hi => by rw [z_11]; exact xw_gn (fun z => hi (by rw [z]; simp)) (xw_gn (fun z => hi (by rw [z]; simp)) (ga0 i hi))
      clear z_11
      rw [nI_pred, nI_clamp (show n < 2 ^ 31 by omega)] at z_3
      rw [nI_pred] at g_13
      rw [cntJ, z_3, if_neg (by decide), Nat.add_zero] at hJ
      rw [cntD] at hD
      exact ih _ _ _ l_12 e_5 g_13 g_14 ga_17 (by omega) hJ (by omega) r_9
set_option maxHeartbeats 400000 in
theorem f_closesFilters {G : xw_G} {F L : Nat} {h : xw_A} {n : Nat} {mk : Int32} {ct cm : Nat → Int32} {top_ masks_ : Nat} {m : Nat} {fs : List Value} (l : fs.length = 62) (e : h m = some (.inr (11, fs))) (g_tops : fs[(38 : Nat)]? = some (.int (nI n))) (g_mask : fs[(39 : Nat)]? = some (.int mk)) (g_top : fs[(51 : Nat)]? = some (.ref top_)) (e_top : h top_ = some (.inl (0, 60, .inl (ct)))) (g_masks : fs[(52 : Nat)]? = some (.ref masks_)) (e_masks : h masks_ = some (.inl (0, 60, .inl (cm)))) (n_top_masks : top_ ≠ masks_) (hn : n ≤ 60) (hF : 1 ≤ F) (hL : 20 ≤ L) :
    xw_Met G m_Model_closesFilters F L 0 0 [.ref m] h (fun v h' => v = none ∧ ∃ (n' : Nat) (mk' : Int32) (fs' : List Value), n' ≤ n ∧ cntJ ct n' = cntJ ct n ∧ cntD ct n' ≤ cntD ct n ∧ fs'.length = 62 ∧ h' m = some (.inr (11, fs')) ∧ fs'[(38 : Nat)]? = some (.int (nI n')) ∧ fs'[(39 : Nat)]? = some (.int mk') ∧ (∀ i : Nat, i ∉ [38, 39] → fs'[i]? = fs[i]?) ∧ FrO [m] h h') (fun _ _ => False) := by
  refine xw_Met.of rfl (by decide) (Nat.le_of_ble_eq_true rfl) ?_
  have ga0 : ∀ i : Nat, i ∉ [38, 39] → fs[i]? = fs[i]? := fun _ _ => rfl
  have r0 : FrO [m] h h := FrO.rf
  exact lp_cf (gs := fs) (h0 := h) g_top g_masks e_top e_masks ⟨_, e⟩ hn (fun h9 n9 mk9 fs9 a1 a2 a3 a4 a5 a6 a7 a8 a9 => ⟨rfl, n9, mk9, fs9, a6, a7, a8, a1, a2, a3, a4, a5, a9⟩) n h _ _ l e g_tops g_mask (fun _ _ => rfl) (Nat.le_refl _) rfl (Nat.le_refl _) FrO.rf
set_option maxHeartbeats 1000000 in
theorem lp_depth {G : xw_G} {F L bc bs : Nat} {pr : Option Value → xw_A → Prop} {px : String → xw_A → Prop} {h : xw_A} {n : Nat} {ct : Nat → Int32} {top_ : Nat} {m : Nat} {fs : List Value} (l : fs.length = 62) (e : h m = some (.inr (11, fs))) (g_tops : fs[(38 : Nat)]? = some (.int (nI n))) (g_top : fs[(51 : Nat)]? = some (.ref top_)) (e_top : h top_ = some (.inl (0, 60, .inl (ct)))) (hn : n ≤ 60) (kk : ∀ c : Nat, c = cntD ct n → pr (some (.int (nI c))) h) :
    ∀ (dd i : Nat) (c : Nat), i + dd = n → c = cntD ct i → xw G m_Model_depth F L bc bs pr px 4 [some (.ref m), some (.int (nI c)), some (.int (nI i))] [] h := by
  intro dd
  induction dd with
  | zero =>
    intro i c hi hp
    obtain rfl : i = n := by omega
    refine s_Model_depth_4 l e g_tops (fun z_1 => ?_) (fun z => absurd (nI_le (Nat.le_refl _) (by omega)) z)
    refine s_Model_depth_31 ?_
    exact kk _ hp
  | succ dd ih =>
    intro i c hi hp
    refine s_Model_depth_4 l e g_tops (fun z => absurd z (nI_ge (b := n) (show i < n by omega) (by omega))) (fun z_1 => ?_)
    refine s_Model_depth_12 l e g_top e_top (vp_in_nI (by omega) (by omega)) (fun z_2 => ?_) (fun z_3 => ?_)
    · skip
      refine s_Model_depth_25 ?_
      simp only [nI_1]
      exact ih (i + 1) _ (by omega) (by rw [nI_clamp (by omega)] at z_2; rw [cntD, if_pos z_2, Nat.add_zero]; exact hp)
    · skip
      refine s_Model_depth_22 ?_
      refine s_Model_depth_25 ?_
      simp only [nI_1]
      exact ih (i + 1) _ (by omega) (by rw [nI_clamp (by omega)] at z_3; rw [cntD, if_neg z_3, hp])
set_option maxHeartbeats 400000 in
theorem f_depth {G : xw_G} {F L : Nat} {h : xw_A} {n : Nat} {ct : Nat → Int32} {top_ : Nat} {m : Nat} {fs : List Value} (l : fs.length = 62) (e : h m = some (.inr (11, fs))) (g_tops : fs[(38 : Nat)]? = some (.int (nI n))) (g_top : fs[(51 : Nat)]? = some (.ref top_)) (e_top : h top_ = some (.inl (0, 60, .inl (ct)))) (hn : n ≤ 60) (hF : 1 ≤ F) (hL : 20 ≤ L) :
    xw_Met G m_Model_depth F L 0 0 [.ref m] h (fun v h' => v = some (.int (nI (cntD ct n))) ∧ h = h') (fun _ _ => False) := by
  refine xw_Met.of rfl (by decide) (Nat.le_of_ble_eq_true rfl) ?_
  refine s_Model_depth_0 ?_
  exact lp_depth l e g_tops g_top e_top hn (fun c hc => ⟨by rw [hc], rfl⟩) n 0 0 (Nat.zero_add _) rfl
set_option maxHeartbeats 2000000 in
theorem lp_rd {G : xw_G} {F L bc bs : Nat} {pr : Option Value → xw_A → Prop} {px : String → xw_A → Prop} {m out_ top_ o0 S0 K0 D0 : Nat} {x : Int32} {V : Prop} {gs : List Value} {ct co0 : Nat → Int32} {h0 : xw_A} (q_out : gs[(50 : Nat)]? = some (.ref out_)) (q_top : gs[(51 : Nat)]? = some (.ref top_)) (q_t : h0 top_ = some (.inl (0, 60, .inl ct))) (q_m : ∃ f, h0 m = some (.inr (11, f))) (nto : top_ ≠ out_) (hS0 : S0 ≤ 60) (hx : ¬ x < 1) (kk : ∀ (h : xw_A) (n o : Nat) (co : Nat → Int32) (fs : List Value), fs.length = 62 → h m = some (.inr (11, fs)) → fs[(37 : Nat)]? = some (.int (nI o)) → fs[(38 : Nat)]? = some (.int (nI n)) → (∀ i : Nat, i ∉ [37, 38] → fs[i]? = gs[i]?) → h out_ = some (.inl (0, 60, .inl co)) → o + n = S0 → o0 ≤ o → cntJ ct n + o = K0 → cntD ct n = D0 → (V → hgt co o = some (cntJ ct n + 1)) → (∀ k, k < o → co k < 0 ∨ (k < o0 ∧ co k = co0 k)) → FrO [m, out_] h0 h → (n = 0 ∨ ¬ ct (n - 1) < 5 ∨ ct (n - 1) < x) → pr none h) :
    ∀ (n : Nat) (h : xw_A) (o : Nat) (co : Nat → Int32) (fs : List Value), fs.length = 62 → h m = some (.inr (11, fs)) → fs[(37 : Nat)]? = some (.int (nI o)) → fs[(38 : Nat)]? = some (.int (nI n)) → (∀ i : Nat, i ∉ [37, 38] → fs[i]? = gs[i]?) → h out_ = some (.inl (0, 60, .inl co)) → o + n = S0 → o0 ≤ o → cntJ ct n + o = K0 → cntD ct n = D0 → (V → hgt co o = some (cntJ ct n + 1)) → (∀ k, k < o → co k < 0 ∨ (k < o0 ∧ co k = co0 k)) → FrO [m, out_] h0 h → xw G m_Model_reduces F L bc bs pr px 0 [some (.ref m), some (.int x)] [] h := by
  intro n
  induction n with
  | zero =>
    intro h o co fs l e g_outs g_tops ga0 e_out hS ho0 hK hD hV hE r0
    have g_out := (ga0 50 (by decide)).trans q_out
    have g_top := (ga0 51 (by decide)).trans q_top
    have e_top := r0 top_ _ (by obtain ⟨f, o⟩ := q_m; simp only [List.mem_cons, List.not_mem_nil, or_false, not_or]; exact ⟨xw_neC q_t o (by simp), nto⟩) q_t
    refine s_Model_reduces_0 l e g_tops (fun z_1 => ?_) (fun z => absurd (show nI 0 ≤ 0 by decide) z)
    refine s_Model_reduces_79 ?_
    exact kk _ _ _ _ _ l e g_outs g_tops ga0 e_out hS ho0 hK hD hV hE r0 (Or.inl rfl)
  | succ n ih =>
    intro h o co fs l e g_outs g_tops ga0 e_out hS ho0 hK hD hV hE r0
    have g_out := (ga0 50 (by decide)).trans q_out
    have g_top := (ga0 51 (by decide)).trans q_top
    have e_top := r0 top_ _ (by obtain ⟨f, o⟩ := q_m; simp only [List.mem_cons, List.not_mem_nil, or_false, not_or]; exact ⟨xw_neC q_t o (by simp), nto⟩) q_t
    refine s_Model_reduces_0 l e g_tops (fun z => absurd z (nI_ge (b := n + 1) (show 0 < n + 1 by omega) (by omega))) (fun z_1 => ?_)
    refine s_Model_reduces_7 l e g_top g_tops e_top (by rw [nI_pred]; exact vp_in_nI (by omega) (by decide)) (fun z_2 => ?_) (fun z_3 => ?_)
    · skip
      refine s_Model_reduces_79 ?_
      rw [nI_pred, nI_clamp (show n < 2 ^ 31 by omega)] at z_2
      exact kk _ _ _ _ _ l e g_outs g_tops ga0 e_out hS ho0 hK hD hV hE r0 (Or.inr (Or.inl (by rw [Nat.add_sub_cancel]; exact Int32.not_lt.mpr z_2)))
    · skip
      refine s_Model_reduces_22 l e g_top g_tops e_top (by rw [nI_pred]; exact vp_in_nI (by omega) (by decide)) (fun z_4 => ?_) (fun z_5 => ?_)
      · skip
        refine s_Model_reduces_79 ?_
        rw [nI_pred, nI_clamp (show n < 2 ^ 31 by omega)] at z_4
        exact kk _ _ _ _ _ l e g_outs g_tops ga0 e_out hS ho0 hK hD hV hE r0 (Or.inr (Or.inr (by rw [Nat.add_sub_cancel]; exact z_4)))
      · skip
        refine s_Model_reduces_37 l e g_tops g_out g_outs g_top e_top (by rw [nI_pred]; exact vp_in_nI (by omega) (by decide)) e_out (vp_in_nI (by omega) (by omega)) ?_
        refine x_u3 (fun h_6 e_7 f_8 h_9 e_10 f_11 h_12 e_13 f_14 => ?_)
        have e_15 := (f_8 top_ (xw_neC e_top e (by simp))).trans e_top
        have e_16 := (f_8 out_ (xw_neC e_out e (by simp))).trans e_out
        have r_17 := r0.up (by simp) f_8
        obtain ⟨fs_18, z_19⟩ : ∃ z, z = fs.set 38 (.int ((nI (n + 1)) - 1)) := ⟨_, rfl⟩
        rw [← z_19] at e_7
        have l_20 : fs_18.length = 62 := by rw [z_19]; simp only [List.length_set]; exact l
        have g_21 : fs_18[(37 : Nat)]? = some (.int (nI o)) := by rw [z_19]; exact (xw_gn (by decide) g_outs)
        have g_22 : fs_18[(38 : Nat)]? = some (.int ((nI (n + 1)) - 1)) := by rw [z_19]; exact (xw_gs (by simp [l]))
        have g_23 : fs_18[(50 : Nat)]? = some (.ref out_) := by rw [z_19]; exact (xw_gn (by decide) g_out)
        have g_24 : fs_18[(51 : Nat)]? = some (.ref top_) := by rw [z_19]; exact (xw_gn (by decide) g_top)
        have ga_25 : ∀ i : Nat, i ∉ [37, 38] → fs_18[i]? = gs[i]? := fun i hi => by rw [z_19]; exact xw_gn (fun z => hi (by rw [z]; simp)) (ga0 i hi)
        clear z_19
        have e_26 := (f_11 m (xw_neC e_7 e_16 (by simp))).trans e_7
        have e_27 := (f_11 top_ nto).trans e_15
        have r_28 := r_17.up (by simp) f_11
        have e_29 := (f_14 top_ (xw_neC e_27 e_26 (by simp))).trans e_27
        have e_30 := (f_14 out_ (xw_neC e_10 e_26 (by simp))).trans e_10
        have r_31 := r_28.up (by simp) f_14
        obtain ⟨fs_32, z_33⟩ : ∃ z, z = (fs.set 38 (.int ((nI (n + 1)) - 1))).set 37 (.int ((nI o) + 1)) := ⟨_, rfl⟩
        rw [← z_33] at e_13
        have l_34 : fs_32.length = 62 := by rw [z_33]; simp only [List.length_set]; exact l
        have g_35 : fs_32[(37 : Nat)]? = some (.int ((nI o) + 1)) := by rw [z_33]; exact (xw_gs (by simp [l]))
        have g_36 : fs_32[(38 : Nat)]? = some (.int ((nI (n + 1)) - 1)) := by rw [z_33]; exact (xw_gn (by decide) (xw_gs (by simp [l])))
        have g_37 : fs_32[(50 : Nat)]? = some (.ref out_) := by rw [z_33]; exact (xw_gn (by decide) (xw_gn (by decide) g_out))
        have g_38 : fs_32[(51 : Nat)]? = some (.ref top_) := by rw [z_33]; exact (xw_gn (by decide) (xw_gn (by decide) g_top))
        have ga_39 : ∀ i : Nat, i ∉ [37, 38] → fs_32[i]? = gs[i]? := fun i hi => by rw [z_33]; exact xw_gn (fun z => hi (by rw [z]; simp)) (xw_gn (fun z => hi (by rw [z]; simp)) (ga0 i hi))
        clear z_33
        rw [nI_pred, nI_clamp (show n < 2 ^ 31 by omega)] at z_3
        rw [nI_pred, nI_clamp (show n < 2 ^ 31 by omega)] at z_5
        rw [nI_pred] at g_36
        rw [nI_1] at g_35
        rw [nI_pred, nI_clamp (show n < 2 ^ 31 by omega), nI_clamp (show o < 2 ^ 31 by omega)] at e_30
        have hc : cntJ ct (n + 1) = cntJ ct n + 1 := by rw [cntJ, if_pos (lt5 z_3)]
        have hd : cntD ct (n + 1) = cntD ct n := by rw [cntD, if_pos (lt5 z_3)]; rfl
        rw [hd] at hD
        have hng : -(ct n) < 0 := neg_lt (lt1 hx z_5) z_3
        exact ih _ _ _ _ l_34 e_13 g_35 g_36 ga_39 e_30 (by omega) (by omega) (by omega) hD (fun v => by rw [hgt_op (hV v) (by omega) hng, hc]; rfl) (fun k hk => by by_cases q : k = o; (subst q; rw [pk_us]; exact Or.inl hng); (rw [pk_un q]; exact hE k (by omega))) r_31
set_option maxHeartbeats 400000 in
theorem f_reduces {G : xw_G} {F L : Nat} {h : xw_A} {n o : Nat} {x : Int32} {co ct : Nat → Int32} {out_ top_ : Nat} {m : Nat} {fs : List Value} (l : fs.length = 62) (e : h m = some (.inr (11, fs))) (g_outs : fs[(37 : Nat)]? = some (.int (nI o))) (g_tops : fs[(38 : Nat)]? = some (.int (nI n))) (g_out : fs[(50 : Nat)]? = some (.ref out_)) (e_out : h out_ = some (.inl (0, 60, .inl (co)))) (g_top : fs[(51 : Nat)]? = some (.ref top_)) (e_top : h top_ = some (.inl (0, 60, .inl (ct)))) (n_out_top : out_ ≠ top_) (hon : o + n ≤ 60) (hx : ¬ x < 1) (hF : 1 ≤ F) (hL : 20 ≤ L) :
    xw_Met G m_Model_reduces F L 0 0 [.ref m, .int x] h (fun v h' => v = none ∧ ∃ (n' o' : Nat) (co' : Nat → Int32) (fs' : List Value), o' + n' = o + n ∧ o ≤ o' ∧ cntJ ct n' + o' = cntJ ct n + o ∧ cntD ct n' = cntD ct n ∧ ((hgt co o = some (cntJ ct n + 1)) → hgt co' o' = some (cntJ ct n' + 1)) ∧ (∀ k, k < o' → co' k < 0 ∨ (k < o ∧ co' k = co k)) ∧ (n' = 0 ∨ ¬ ct (n' - 1) < 5 ∨ ct (n' - 1) < x) ∧ fs'.length = 62 ∧ h' m = some (.inr (11, fs')) ∧ fs'[(37 : Nat)]? = some (.int (nI o')) ∧ fs'[(38 : Nat)]? = some (.int (nI n')) ∧ (∀ i : Nat, i ∉ [37, 38] → fs'[i]? = fs[i]?) ∧ h' out_ = some (.inl (0, 60, .inl co')) ∧ FrO [m, out_] h h') (fun _ _ => False) := by
  refine xw_Met.of rfl (by decide) (Nat.le_of_ble_eq_true rfl) ?_
  have r0 : FrO [m, out_] h h := FrO.rf
  exact lp_rd (gs := fs) (h0 := h) (V := hgt co o = some (cntJ ct n + 1)) (co0 := co) (o0 := o) g_out g_top e_top ⟨_, e⟩ (Ne.symm n_out_top) hon hx (fun h9 n9 o9 co9 fs9 a1 a2 a3 a4 a5 a6 a7 b0 a8 a9 b1 b2 b3 b4 => ⟨rfl, n9, o9, co9, fs9, a7, b0, a8, a9, b1, b2, b4, a1, a2, a3, a4, a5, a6, b3⟩) n h _ _ _ l e g_outs g_tops (fun _ _ => rfl) e_out rfl (Nat.le_refl _) rfl rfl id (fun k hk => Or.inr ⟨hk, rfl⟩) FrO.rf
set_option maxHeartbeats 400000 in
theorem f_joins {G : xw_G} {F L : Nat} {h : xw_A} {n o : Nat} {x mk : Int32} {co ct cm : Nat → Int32} {out_ top_ masks_ : Nat} {m : Nat} {fs : List Value} (l : fs.length = 62) (e : h m = some (.inr (11, fs))) (g_outs : fs[(37 : Nat)]? = some (.int (nI o))) (g_tops : fs[(38 : Nat)]? = some (.int (nI n))) (g_mask : fs[(39 : Nat)]? = some (.int mk)) (g_out : fs[(50 : Nat)]? = some (.ref out_)) (e_out : h out_ = some (.inl (0, 60, .inl (co)))) (g_top : fs[(51 : Nat)]? = some (.ref top_)) (e_top : h top_ = some (.inl (0, 60, .inl (ct)))) (g_masks : fs[(52 : Nat)]? = some (.ref masks_)) (e_masks : h masks_ = some (.inl (0, 60, .inl (cm)))) (n_out_top : out_ ≠ top_) (n_out_masks : out_ ≠ masks_) (n_top_masks : top_ ≠ masks_) (hon : o + n ≤ 59) (hx : ¬ x < 1) (hF : 2 ≤ F) (hL : 41 ≤ L) :
    xw_Met G m_Model_joins F L 0 0 [.ref m, .int x] h (fun v h' => v = none ∧ ∃ (n' o' : Nat) (co' : Nat → Int32) (fs' : List Value), o' + n' = o + n ∧ o ≤ o' ∧ cntJ ct n' + o' = cntJ ct n + o ∧ cntD ct n' = cntD ct n ∧ ((hgt co o = some (cntJ ct n + 1)) → hgt co' o' = some (cntJ ct n' + 1)) ∧ (∀ k, k < o' → co' k < 0 ∨ (k < o ∧ co' k = co k)) ∧ (n' = 0 ∨ ¬ ct (n' - 1) < 5 ∨ ct (n' - 1) < x) ∧ fs'.length = 62 ∧ h' m = some (.inr (11, fs')) ∧ fs'[(37 : Nat)]? = some (.int (nI o')) ∧ fs'[(38 : Nat)]? = some (.int (nI (n' + 1))) ∧ (∀ i : Nat, i ∉ [37, 38] → fs'[i]? = fs[i]?) ∧ h' out_ = some (.inl (0, 60, .inl co')) ∧ h' top_ = some (.inl (0, 60, .inl (upd ct n' x))) ∧ (∃ cm' : Nat → Int32, h' masks_ = some (.inl (0, 60, .inl cm'))) ∧ FrO [m, out_, top_, masks_] h h') (fun _ _ => False) := by
  refine xw_Met.of rfl (by decide) (Nat.le_of_ble_eq_true rfl) ?_
  have ga0 : ∀ i : Nat, i ∉ [37, 38] → fs[i]? = fs[i]? := fun _ _ => rfl
  have r0 : FrO [m, out_, top_, masks_] h h := FrO.rf
  refine s_Model_joins_0 ?_
  refine x_callV (As := [.int x]) (b := m) (rest := []) (F1 := 1) (L1 := 20) (mc := 0) (ms := 0) d_Model_joins_2 cV_Model_281 (f_reduces l e g_outs g_tops g_out e_out g_top e_top n_out_top (by omega) hx (by omega) (by omega)) e ⟨by decide, rfl⟩ ⟨by omega, by show 8 + (2 + 11) + 20 ≤ _; omega⟩ ⟨by omega, by omega⟩ (Nat.le_of_ble_eq_true rfl) (fun v_2 h_1 p_3 => ?_)
  obtain ⟨rfl, n1, o1, co1, fs1, hS1, hO1, hK1, hD1, hV1, hE1, hX1, l1, e1, go1, gt1, ga1, eo1, r1⟩ := p_3
  have e_4 := r1 top_ _ (by simp only [List.mem_cons, List.not_mem_nil, or_false, not_or]; exact ⟨(xw_neC e_top e (by simp)), (Ne.symm n_out_top)⟩) e_top
  have e_5 := r1 masks_ _ (by simp only [List.mem_cons, List.not_mem_nil, or_false, not_or]; exact ⟨(xw_neC e_masks e (by simp)), (Ne.symm n_out_masks)⟩) e_masks
  have r_6 := r0.trans (r1.mono (by simp))
  have g_7 : fs1[(39 : Nat)]? = some (.int mk) := (ga1 39 (by decide)).trans g_mask
  have g_8 : fs1[(50 : Nat)]? = some (.ref out_) := (ga1 50 (by decide)).trans g_out
  have g_9 : fs1[(51 : Nat)]? = some (.ref top_) := (ga1 51 (by decide)).trans g_top
  have g_10 : fs1[(52 : Nat)]? = some (.ref masks_) := (ga1 52 (by decide)).trans g_masks
  have ga_11 : ∀ i : Nat, i ∉ [37, 38] → fs1[i]? = fs[i]? := fun i hi => (ga1 i (fun z => hi (by simp only [List.mem_cons, List.not_mem_nil, or_false] at z ⊢; omega))).trans (ga0 i hi)
  refine s_Model_joins_5 ?_
  refine x_callV (As := [.int x]) (b := m) (rest := []) (F1 := 1) (L1 := 20) (mc := 0) (ms := 0) d_Model_joins_7 cV_Model_285 (f_pushes l1 e1 gt1 g_7 g_9 e_4 g_10 e_5 n_top_masks (by omega) (by omega) (by omega)) e1 ⟨by decide, rfl⟩ ⟨by omega, by show 8 + (2 + 11) + 20 ≤ _; omega⟩ ⟨by omega, by omega⟩ (Nat.le_of_ble_eq_true rfl) (fun v_13 h_12 p_14 => ?_)
  obtain ⟨rfl, cm2, fs2, l2, e2, gt2, ga2, et2, em2, r2⟩ := p_14
  have e_15 := r2 out_ _ (by simp only [List.mem_cons, List.not_mem_nil, or_false, not_or]; exact ⟨(xw_neC eo1 e1 (by simp)), n_out_top, n_out_masks⟩) eo1
  have r_16 := r_6.trans (r2.mono (by simp))
  have g_17 : fs2[(39 : Nat)]? = some (.int mk) := (ga2 39 (by decide)).trans g_7
  have g_18 : fs2[(50 : Nat)]? = some (.ref out_) := (ga2 50 (by decide)).trans g_8
  have g_19 : fs2[(51 : Nat)]? = some (.ref top_) := (ga2 51 (by decide)).trans g_9
  have g_20 : fs2[(52 : Nat)]? = some (.ref masks_) := (ga2 52 (by decide)).trans g_10
  have g_21 : fs2[(37 : Nat)]? = some (.int (nI o1)) := (ga2 37 (by decide)).trans go1
  have ga_22 : ∀ i : Nat, i ∉ [37, 38] → fs2[i]? = fs[i]? := fun i hi => (ga2 i (fun z => hi (by simp only [List.mem_cons, List.not_mem_nil, or_false] at z ⊢; omega))).trans (ga_11 i hi)
  refine x_le (xw_le_n (xw_le_n xw_le_e)) ?_
  refine s_Model_joins_10 ?_
  exact ⟨rfl, n1, o1, co1, _, hS1, hO1, hK1, hD1, hV1, hE1, hX1, l2, e2, g_21, gt2, ga_22, e_15, et2, ⟨_, em2⟩, r_16⟩
