set_option maxHeartbeats 1000000 in
theorem lp_depth {G : xw_G} {F L bc bs : Nat} {pr : Option Value → xw_A → Prop} {px : String → xw_A → Prop} {h : xw_A} {n : Nat} {ct : Nat → Int32} {top_ : Nat} {m : Nat} {fs : List Value} (l : fs.length = 62) (e : h m = some (.inr (11, fs))) (g_tops : fs[(38 : Nat)]? = some (.int (nI n))) (g_top : fs[(51 : Nat)]? = some (.ref top_)) (e_top : h top_ = some (.inl (0, 60, .inl (ct)))) (hn : n ≤ 60) (kk : ∀ c : Nat, c = cntD ct n → pr (some (.int (nI c))) h) :
    ∀ (dd i : Nat) (c : Nat), i + dd = n → c = cntD ct i → xw G m_Model_depth F L bc bs pr px 4 [some (.ref m), some (.int (nI c)), some (.int (nI i))] [] h := by
  intro dd
  induction dd with
  | zero =>
    intro i c hi hp
    obtain rfl : i = n := by omega
    refine s_Model_depth_4 l e g_tops (fun z_1 => ?_) (fun z => absurd (nI_le (Nat.le_refl _) (by omega)) z)
    refine s_Model_depth_31 ?_
    exact kk _ hp
  | succ dd ih =>
    intro i c hi hp
    refine s_Model_depth_4 l e g_tops (fun z => absurd z (nI_ge (b := n) (show i < n by omega) (by omega))) (fun z_1 => ?_)
    refine s_Model_depth_12 l e g_top e_top (vp_in_nI (by omega) (by omega)) (fun z_2 => ?_) (fun z_3 => ?_)
    · skip
      refine s_Model_depth_25 ?_
      simp only [nI_1]
      exact ih (i + 1) _ (by omega) (by rw [nI_clamp (by omega)] at z_2; rw [cntD, if_pos z_2, Nat.add_zero]; exact hp)
    · skip
      refine s_Model_depth_22 ?_
      refine s_Model_depth_25 ?_
      simp only [nI_1]
      exact ih (i + 1) _ (by omega) (by rw [nI_clamp (by omega)] at z_3; rw [cntD, if_neg z_3, hp])
set_option maxHeartbeats 400000 in
theorem f_depth {G : xw_G} {F L : Nat} {h : xw_A} {n : Nat} {ct : Nat → Int32} {top_ : Nat} {m : Nat} {fs : List Value} (l : fs.length = 62) (e : h m = some (.inr (11, fs))) (g_tops : fs[(38 : Nat)]? = some (.int (nI n))) (g_top : fs[(51 : Nat)]? = some (.ref top_)) (e_top : h top_ = some (.inl (0, 60, .inl (ct)))) (hn : n ≤ 60) (hF : 1 ≤ F) (hL : 20 ≤ L) :
    xw_Met G m_Model_depth F L 0 0 [.ref m] h (fun v h' => v = some (.int (nI (cntD ct n))) ∧ h = h') (fun _ _ => False) := by
  refine xw_Met.of rfl (by decide) (Nat.le_of_ble_eq_true rfl) ?_
  refine s_Model_depth_0 ?_
  exact lp_depth l e g_tops g_top e_top hn (fun c hc => ⟨by rw [hc], rfl⟩) n 0 0 (Nat.zero_add _) rfl
set_option maxHeartbeats 2000000 in
theorem lp_rd {G : xw_G} {F L bc bs : Nat} {pr : Option Value → xw_A → Prop} {px : String → xw_A → Prop} {m out_ top_ o0 S0 K0 D0 : Nat} {x : Int32} {V : Prop} {gs : List Value} {ct co0 : Nat → Int32} {h0 : xw_A} (q_out : gs[(50 : Nat)]? = some (.ref out_)) (q_top : gs[(51 : Nat)]? = some (.ref top_)) (q_t : h0 top_ = some (.inl (0, 60, .inl ct))) (q_m : ∃ f, h0 m = some (.inr (11, f))) (nto : top_ ≠ out_) (hS0 : S0 ≤ 60) (hx : ¬ x < 1) (kk : ∀ (h : xw_A) (n o : Nat) (co : Nat → Int32) (fs : List Value), fs.length = 62 → h m = some (.inr (11, fs)) → fs[(37 : Nat)]? = some (.int (nI o)) → fs[(38 : Nat)]? = some (.int (nI n)) → (∀ i : Nat, i ∉ [37, 38] → fs[i]? = gs[i]?) → h out_ = some (.inl (0, 60, .inl co)) → o + n = S0 → o0 ≤ o → cntJ ct n + o = K0 → cntD ct n = D0 → (V → hgt co o = some (cntJ ct n + 1)) → (∀ k, k < o → co k < 0 ∨ (k < o0 ∧ co k = co0 k)) → FrO [m, out_] h0 h → (n = 0 ∨ ¬ ct (n - 1) < 5 ∨ ct (n - 1) < x) → pr none h) :
    ∀ (n : Nat) (h : xw_A) (o : Nat) (co : Nat → Int32) (fs : List Value), fs.length = 62 → h m = some (.inr (11, fs)) → fs[(37 : Nat)]? = some (.int (nI o)) → fs[(38 : Nat)]? = some (.int (nI n)) → (∀ i : Nat, i ∉ [37, 38] → fs[i]? = gs[i]?) → h out_ = some (.inl (0, 60, .inl co)) → o + n = S0 → o0 ≤ o → cntJ ct n + o = K0 → cntD ct n = D0 → (V → hgt co o = some (cntJ ct n + 1)) → (∀ k, k < o → co k < 0 ∨ (k < o0 ∧ co k = co0 k)) → FrO [m, out_] h0 h → xw G m_Model_reduces F L bc bs pr px 0 [some (.ref m), some (.int x)] [] h := by
  intro n
  induction n with
  | zero =>
    intro h o co fs l e g_outs g_tops ga0 e_out hS ho0 hK hD hV hE r0
    have g_out := (ga0 50 (by decide)).trans q_out
    have g_top := (ga0 51 (by decide)).trans q_top
    have e_top := r0 top_ _ (by obtain ⟨f, o⟩ := q_m; simp only [List.mem_cons, List.not_mem_nil, or_false, not_or]; exact ⟨xw_neC q_t o (by simp), nto⟩) q_t
    refine s_Model_reduces_0 l e g_tops (fun z_1 => ?_) (fun z => absurd (show nI 0 ≤ 0 by decide) z)
    refine s_Model_reduces_79 ?_
    exact kk _ _ _ _ _ l e g_outs g_tops ga0 e_out hS ho0 hK hD hV hE r0 (Or.inl rfl)
  | succ n ih =>
    intro h o co fs l e g_outs g_tops ga0 e_out hS ho0 hK hD hV hE r0
    have g_out := (ga0 50 (by decide)).trans q_out
    have g_top := (ga0 51 (by decide)).trans q_top
    have e_top := r0 top_ _ (by obtain ⟨f, o⟩ := q_m; simp only [List.mem_cons, List.not_mem_nil, or_false, not_or]; exact ⟨xw_neC q_t o (by simp), nto⟩) q_t
    refine s_Model_reduces_0 l e g_tops (fun z => absurd z (nI_ge (b := n + 1) (show 0 < n + 1 by omega) (by omega))) (fun z_1 => ?_)
    refine s_Model_reduces_7 l e g_top g_tops e_top (by rw [nI_pred]; exact vp_in_nI (by omega) (by decide)) (fun z_2 => ?_) (fun z_3 => ?_)
    · skip
      refine s_Model_reduces_79 ?_
      rw [nI_pred, nI_clamp (show n < 2 ^ 31 by omega)] at z_2
      exact kk _ _ _ _ _ l e g_outs g_tops ga0 e_out hS ho0 hK hD hV hE r0 (Or.inr (Or.inl (by rw [Nat.add_sub_cancel]; exact Int32.not_lt.mpr z_2)))
    · skip
      refine s_Model_reduces_22 l e g_top g_tops e_top (by rw [nI_pred]; exact vp_in_nI (by omega) (by decide)) (fun z_4 => ?_) (fun z_5 => ?_)
      · skip
        refine s_Model_reduces_79 ?_
        rw [nI_pred, nI_clamp (show n < 2 ^ 31 by omega)] at z_4
        exact kk _ _ _ _ _ l e g_outs g_tops ga0 e_out hS ho0 hK hD hV hE r0 (Or.inr (Or.inr (by rw [Nat.add_sub_cancel]; exact z_4)))
      · skip
        refine s_Model_reduces_37 l e g_tops g_out g_outs g_top e_top (by rw [nI_pred]; exact vp_in_nI (by omega) (by decide)) e_out (vp_in_nI (by omega) (by omega)) ?_
        refine x_u3 (fun h_6 e_7 f_8 h_9 e_10 f_11 h_12 e_13 f_14 => ?_)
        have e_15 := (f_8 top_ (xw_neC e_top e (by simp))).trans e_top
        have e_16 := (f_8 out_ (xw_neC e_out e (by simp))).trans e_out
        have r_17 := r0.up (by simp) f_8
        obtain ⟨fs_18, z_19⟩ : ∃ z, z = fs.set 38 (.int ((nI (n + 1)) - 1)) := ⟨_, rfl⟩
        rw [← z_19] at e_7
        have l_20 : fs_18.length = 62 := by rw [z_19]; simp only [List.length_set]; exact l
        have g_21 : fs_18[(37 : Nat)]? = some (.int (nI o)) := by rw [z_19]; exact (xw_gn (by decide) g_outs)
        have g_22 : fs_18[(38 : Nat)]? = some (.int ((nI (n + 1)) - 1)) := by rw [z_19]; exact (xw_gs (by simp [l]))
        have g_23 : fs_18[(50 : Nat)]? = some (.ref out_) := by rw [z_19]; exact (xw_gn (by decide) g_out)
        have g_24 : fs_18[(51 : Nat)]? = some (.ref top_) := by rw [z_19]; exact (xw_gn (by decide) g_top)
        have ga_25 : ∀ i : Nat, i ∉ [37, 38] → fs_18[i]? = gs[i]? := fun i hi => by rw [z_19]; exact xw_gn (fun z => hi (by rw [z]; simp)) (ga0 i hi)
        clear z_19
        have e_26 := (f_11 m (xw_neC e_7 e_16 (by simp))).trans e_7
        have e_27 := (f_11 top_ nto).trans e_15
        have r_28 := r_17.up (by simp) f_11
        have e_29 := (f_14 top_ (xw_neC e_27 e_26 (by simp))).trans e_27
        have e_30 := (f_14 out_ (xw_neC e_10 e_26 (by simp))).trans e_10
        have r_31 := r_28.up (by simp) f_14
        obtain ⟨fs_32, z_33⟩ : ∃ z, z = (fs.set 38 (.int ((nI (n + 1)) - 1))).set 37 (.int ((nI o) + 1)) := ⟨_, rfl⟩
        rw [← z_33] at e_13
        have l_34 : fs_32.length = 62 := by rw [z_33]; simp only [List.length_set]; exact l
        have g_35 : fs_32[(37 : Nat)]? = some (.int ((nI o) + 1)) := by rw [z_33]; exact (xw_gs (by simp [l]))
        have g_36 : fs_32[(38 : Nat)]? = some (.int ((nI (n + 1)) - 1)) := by rw [z_33]; exact (xw_gn (by decide) (xw_gs (by simp [l])))
        have g_37 : fs_32[(50 : Nat)]? = some (.ref out_) := by rw [z_33]; exact (xw_gn (by decide) (xw_gn (by decide) g_out))
        have g_38 : fs_32[(51 : Nat)]? = some (.ref top_) := by rw [z_33]; exact (xw_gn (by decide) (xw_gn (by decide) g_top))
        have ga_39 : ∀ i : Nat, i ∉ [37, 38] → fs_32[i]? = gs[i]? := fun i hi => by rw [z_33]; exact xw_gn (fun z => hi (by rw [z]; simp)) (xw_gn (fun z => hi (by rw [z]; simp)) (ga0 i hi))
        clear z_33
        rw [nI_pred, nI_clamp (show n < 2 ^ 31 by omega)] at z_3
        rw [nI_pred, nI_clamp (show n < 2 ^ 31 by omega)] at z_5
        rw [nI_pred] at g_36
        rw [nI_1] at g_35
        rw [nI_pred, nI_clamp (show n < 2 ^ 31 by omega), nI_clamp (show o < 2 ^ 31 by omega)] at e_30
        have hc : cntJ ct (n + 1) = cntJ ct n + 1 := by rw [cntJ, if_pos (lt5 z_3)]
        have hd : cntD ct (n + 1) = cntD ct n := by rw [cntD, if_pos (lt5 z_3)]; rfl
        rw [hd] at hD
        have hng : -(ct n) < 0 := neg_lt (lt1 hx z_5) z_3
        exact ih _ _ _ _ l_34 e_13 g_35 g_36 ga_39 e_30 (by omega) (by omega) (by omega) hD (fun v => by rw [hgt_op (hV v) (by omega) hng, hc]; rfl) (fun k hk => by by_cases q : k = o; (subst q; rw [pk_us]; exact Or.inl hng); (rw [pk_un q]; exact hE k (by omega))) r_31
set_option maxHeartbeats 400000 in
theorem f_reduces {G : xw_G} {F L : Nat} {h : xw_A} {n o : Nat} {x : Int32} {co ct : Nat → Int32} {out_ top_ : Nat} {m : Nat} {fs : List Value} (l : fs.length = 62) (e : h m = some (.inr (11, fs))) (g_outs : fs[(37 : Nat)]? = some (.int (nI o))) (g_tops : fs[(38 : Nat)]? = some (.int (nI n))) (g_out : fs[(50 : Nat)]? = some (.ref out_)) (e_out : h out_ = some (.inl (0, 60, .inl (co)))) (g_top : fs[(51 : Nat)]? = some (.ref top_)) (e_top : h top_ = some (.inl (0, 60, .inl (ct)))) (n_out_top : out_ ≠ top_) (hon : o + n ≤ 60) (hx : ¬ x < 1) (hF : 1 ≤ F) (hL : 20 ≤ L) :
    xw_Met G m_Model_reduces F L 0 0 [.ref m, .int x] h (fun v h' => v = none ∧ ∃ (n' o' : Nat) (co' : Nat → Int32) (fs' : List Value), o' + n' = o + n ∧ o ≤ o' ∧ cntJ ct n' + o' = cntJ ct n + o ∧ cntD ct n' = cntD ct n ∧ ((hgt co o = some (cntJ ct n + 1)) → hgt co' o' = some (cntJ ct n' + 1)) ∧ (∀ k, k < o' → co' k < 0 ∨ (k < o ∧ co' k = co k)) ∧ (n' = 0 ∨ ¬ ct (n' - 1) < 5 ∨ ct (n' - 1) < x) ∧ fs'.length = 62 ∧ h' m = some (.inr (11, fs')) ∧ fs'[(37 : Nat)]? = some (.int (nI o')) ∧ fs'[(38 : Nat)]? = some (.int (nI n')) ∧ (∀ i : Nat, i ∉ [37, 38] → fs'[i]? = fs[i]?) ∧ h' out_ = some (.inl (0, 60, .inl co')) ∧ FrO [m, out_] h h') (fun _ _ => False) := by
  refine xw_Met.of rfl (by decide) (Nat.le_of_ble_eq_true rfl) ?_
  have r0 : FrO [m, out_] h h := FrO.rf
  exact lp_rd (gs := fs) (h0 := h) (V := hgt co o = some (cntJ ct n + 1)) (co0 := co) (o0 := o) g_out g_top e_top ⟨_, e⟩ (Ne.symm n_out_top) hon hx (fun h9 n9 o9 co9 fs9 a1 a2 a3 a4 a5 a6 a7 b0 a8 a9 b1 b2 b3 b4 => ⟨rfl, n9, o9, co9, fs9, a7, b0, a8, a9, b1, b2, b4, a1, a2, a3, a4, a5, a6, b3⟩) n h _ _ _ l e g_outs g_tops (fun _ _ => rfl) e_out rfl (Nat.le_refl _) rfl rfl id (fun k hk => Or.inr ⟨hk, rfl⟩) FrO.rf
