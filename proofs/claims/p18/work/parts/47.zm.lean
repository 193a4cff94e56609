set_option maxHeartbeats 400000 in
theorem g_standsInS {G : xw_G} {F L : Nat} {h : xw_A} {qo : Nat} {so sp : Nat} {pf : Nat → Int32} (e_so : h so = some (.inr (7, [.ref sp, .ref qo]))) (e_sp : h sp = some (.inl (0, 576, .inl pf))) {Q : Nat → Nat → Nat → Nat → Prop} {p : Nat} (hp12 : p ≤ 12) (FL : FLs Q pf (p * 48)) {a r : Nat} (hap : a < p) (hr1 : 1 ≤ r) (hr2 : r ≤ 24) (hF : 3 ≤ F) (hL : 65 ≤ L) :
    xw_Met G m_Standing_standsIn F L 0 0 [.ref so, .int (nI a), .int (nI r)] h (fun v h' => (∃ y : Int32, v = some (.int y) ∧ ((y = 0 ∧ ¬ PSI Q a r) ∨ (y = 1 ∧ PSI Q a r))) ∧ h = h') (fun _ _ => False) := by
  refine xw_Met.of rfl (by decide) (Nat.le_of_ble_eq_true rfl) ?_
  refine s_Standing_standsIn_0 ?_
  refine x_callV (As := [.int (nI a), .int (nI r), .int (nI 0)]) (b := so) (rest := []) (F1 := 2) (L1 := 42) (mc := 0) (ms := 0) d_Standing_standsIn_4 cV_Standing_78 (g_placesOfH e_so e_sp (show a < 12 by omega) (by omega) (by omega) (by decide) (by omega) (by omega)) e_so ⟨by decide, rfl⟩ ⟨by omega, by show 8 + (4 + 11) + 42 ≤ _; omega⟩ ⟨by omega, by omega⟩ (Nat.le_of_ble_eq_true rfl) (fun v_2 h_1 p_3 => ?_)
  obtain ⟨rfl, rfl⟩ := p_3
  refine s_Standing_standsIn_7 ?_
  refine x_callV (As := [.int (nI a), .int (nI r), .int (nI 1)]) (b := so) (rest := [.int (pf ((a * 24 + r - 1) * 2 + 0))]) (F1 := 2) (L1 := 42) (mc := 0) (ms := 0) d_Standing_standsIn_11 cV_Standing_78 (g_placesOfH e_so e_sp (show a < 12 by omega) (by omega) (by omega) (by decide) (by omega) (by omega)) e_so ⟨by decide, rfl⟩ ⟨by omega, by show 8 + (4 + 11) + 42 ≤ _; omega⟩ ⟨by omega, by omega⟩ (Nat.le_of_ble_eq_true rfl) (fun v_5 h_4 p_6 => ?_)
  obtain ⟨rfl, rfl⟩ := p_6
  refine x_le (xw_le_n (xw_le_n (xw_le_n xw_le_e))) ?_
  refine s_Standing_standsIn_14 (fun z_7 => ?_) (fun z_8 => ?_)
  · skip
    refine s_Standing_standsIn_22 ?_
    refine s_Standing_standsIn_23 rfl ?_
    exact ⟨⟨_, rfl, Or.inl ⟨rfl, (FL.sin (a := a) hr1 hr2 (by omega)).mp z_7⟩⟩, rfl⟩
  · skip
    refine s_Standing_standsIn_18 ?_
    refine s_Standing_standsIn_23 rfl ?_
    exact ⟨⟨_, rfl, Or.inr ⟨rfl, Classical.byContradiction (fun q => z_8 ((FL.sin (a := a) hr1 hr2 (by omega)).mpr q))⟩⟩, rfl⟩
set_option maxHeartbeats 1000000 in
theorem lp_rowsWithS {G : xw_G} {F L bc bs : Nat} {pr : Option Value → xw_A → Prop} {px : String → xw_A → Prop} {h : xw_A} {qo : Nat} {so sp : Nat} {pf : Nat → Int32} (e_so : h so = some (.inr (7, [.ref sp, .ref qo]))) (e_sp : h sp = some (.inl (0, 576, .inl pf))) {Q : Nat → Nat → Nat → Nat → Prop} {p : Nat} (hp12 : p ≤ 12) (FL : FLs Q pf (p * 48)) {a : Nat} (hap : a < p) (hF : 4 ≤ F) (hL : 87 ≤ L) (kk : pr (some (.int (nI (wiQ Q a)))) h) :
    ∀ (dd i : Nat) (c : Nat), i + dd = 25 → (c = cP (fun k => PSI Q a (k + 1)) (i - 1) ∧ 1 ≤ i) → xw G m_Standing_rowsWith F L bc bs pr px 4 [some (.ref so), some (.int (nI a)), some (.int (nI c)), some (.int (nI i))] [] h := by
  intro dd
  induction dd with
  | zero =>
    intro i c hi hp
    obtain rfl : i = 25 := by omega
    refine s_Standing_rowsWith_4 (fun z_1 => ?_) (fun z => absurd (by decide) z)
    refine s_Standing_rowsWith_28 ?_
    have hc9 : c = wiQ Q a := hp.1
    rw [hc9]
    exact kk
  | succ dd ih =>
    intro i c hi hp
    refine s_Standing_rowsWith_4 (fun z => absurd z (nI_nlt (a := 24) (show i ≤ 24 by omega) (by decide))) (fun z_1 => ?_)
    refine s_Standing_rowsWith_10 ?_
    refine x_callV (As := [.int (nI a), .int (nI i)]) (b := so) (rest := []) (F1 := 3) (L1 := 65) (mc := 0) (ms := 0) d_Standing_rowsWith_13 cV_Standing_81 (g_standsInS e_so e_sp hp12 FL hap (by omega) (by omega) (by omega) (by omega)) e_so ⟨by decide, rfl⟩ ⟨by omega, by show 8 + (3 + 11) + 65 ≤ _; omega⟩ ⟨by omega, by omega⟩ (Nat.le_of_ble_eq_true rfl) (fun v_5 h_4 p_6 => ?_)
    obtain ⟨⟨y_2, rfl, hy_3⟩, rfl⟩ := p_6
    refine s_Standing_rowsWith_16 (fun z_7 => ?_) (fun z_8 => ?_)
    · skip
      refine s_Standing_rowsWith_22 ?_
      simp only [nI_1]
      exact ih (i + 1) _ (by omega) ⟨by obtain ⟨k9, rfl⟩ : ∃ k9, i = k9 + 1 := ⟨i - 1, by omega⟩; rw [Nat.add_sub_cancel, cP_n (P := fun k => PSI Q a (k + 1)) (n := k9) (yn_n hy_3 z_7)]; have := hp.1; rw [Nat.add_sub_cancel] at this; exact this, by omega⟩
    · skip
      refine s_Standing_rowsWith_19 ?_
      refine s_Standing_rowsWith_22 ?_
      simp only [nI_1]
      exact ih (i + 1) _ (by omega) ⟨by obtain ⟨k9, rfl⟩ : ∃ k9, i = k9 + 1 := ⟨i - 1, by omega⟩; rw [Nat.add_sub_cancel, cP_y (P := fun k => PSI Q a (k + 1)) (n := k9) (yn_y hy_3 z_8)]; have := hp.1; rw [Nat.add_sub_cancel] at this; omega, by omega⟩
set_option maxHeartbeats 400000 in
theorem g_rowsWithS {G : xw_G} {F L : Nat} {h : xw_A} {qo : Nat} {so sp : Nat} {pf : Nat → Int32} (e_so : h so = some (.inr (7, [.ref sp, .ref qo]))) (e_sp : h sp = some (.inl (0, 576, .inl pf))) {Q : Nat → Nat → Nat → Nat → Prop} {p : Nat} (hp12 : p ≤ 12) (FL : FLs Q pf (p * 48)) {a : Nat} (hap : a < p) (hF : 4 ≤ F) (hL : 87 ≤ L) :
    xw_Met G m_Standing_rowsWith F L 0 0 [.ref so, .int (nI a)] h (fun v h' => v = some (.int (nI (wiQ Q a))) ∧ h = h') (fun _ _ => False) := by
  refine xw_Met.of rfl (by decide) (Nat.le_of_ble_eq_true rfl) ?_
  refine s_Standing_rowsWith_0 ?_
  exact lp_rowsWithS e_so e_sp hp12 FL hap (by omega) (by omega) ⟨rfl, rfl⟩ 24 1 0 rfl ⟨rfl, by decide⟩
set_option maxHeartbeats 1000000 in
theorem lp_tokenCountS {G : xw_G} {F L bc bs : Nat} {pr : Option Value → xw_A → Prop} {px : String → xw_A → Prop} {h : xw_A} {A : List Nat} {st s1 s2 s3 s4 : Nat} {fr fp fs fl : Nat → Option Nat} {pc sc lc : Nat} {pe vm sm : Int32} (K : StoC A st s1 s2 s3 s4 fr fp fs fl pc sc lc pe vm sm h) {TW : Nat → Nat → List (List Int32)} (hVX : ∀ r, 1 ≤ r → r ≤ 24 → ∀ b, fr r = some b → VrX A h b (TW r 0) (TW r 1)) (hF : 2 ≤ F) (hL : 40 ≤ L) (kk : ∀ c : Nat, c = tkT fr TW 24 → c ≤ 1152 → pr (some (.int (nI c))) h) :
    ∀ (dd i : Nat) (c : Nat), i + dd = 25 → (c = tkT fr TW (i - 1) ∧ c ≤ 48 * (i - 1) ∧ 1 ≤ i) → xw G m_Store_tokenCount F L bc bs pr px 4 [some (.ref st), some (.int (nI c)), some (.int (nI i))] [] h := by
  obtain ⟨e_st, e_s1, e_s2, e_s3, e_s4, hpc, hsc, hlc, hR, hP, hS, hV, hAO⟩ := K
  intro dd
  induction dd with
  | zero =>
    intro i c hi hp
    obtain rfl : i = 25 := by omega
    refine s_Store_tokenCount_4 (fun z_1 => ?_) (fun z => absurd (by decide) z)
    refine s_Store_tokenCount_37 ?_
    exact kk _ hp.1 (by have := hp.2.1; omega)
  | succ dd ih =>
    intro i c hi hp
    refine s_Store_tokenCount_4 (fun z => absurd z (nI_nlt (a := 24) (show i ≤ 24 by omega) (by decide))) (fun z_1 => ?_)
    refine s_Store_tokenCount_10 (pending_a0 := some s2) (segments_a0 := some s3) (live_a0 := some s4) e_st e_s1 (vp_in_nI (by omega) (by omega)) (fun z_2 => ?_) (fun a_3 z_4 => ?_)
    · skip
      refine s_Store_tokenCount_31 ?_
      simp only [nI_1, nI_add]
      exact ih (i + 1) _ (by omega) ⟨by rw [tkT_n hp.2.2 (by have q9 := z_2; rw [nI_clamp (by omega)] at q9; exact q9)]; exact hp.1, by omega, by omega⟩
    · skip
      refine s_Store_tokenCount_19 (pending_a0 := some s2) (segments_a0 := some s3) (live_a0 := some s4) e_st e_s1 (vp_in_nI (by omega) (by omega)) ?_
      have her : fr i = some a_3 := by have q9 := z_4; rw [nI_clamp (by omega)] at q9; exact q9
      obtain ⟨-, vn, ve, vr, vp, vq, ev1, ⟨-, hl1, vl, vz, vm_, vk, vj, vW, vf, vg, -, -, tc1, tw1, -⟩, ⟨-, hl2, vl2, vz2, vm2, vk2, vj2, vW2, vf2, vg2, -, -, tc2, tw2, -⟩⟩ := hVX i (by omega) (by omega) _ her
      have ev2 := tc1.1
      have ev3 := tc2.1
      have hj1 := tw1.1
      have hj2 := tw2.1
      rw [z_4]
      refine x_callV (As := []) (b := a_3) (rest := [.int (nI c)]) (F1 := 1) (L1 := 20) (mc := 0) (ms := 0) d_Store_tokenCount_26 cV_Store_29 (g_vtokens ev1 ev2 ev3 (by omega) (by omega)) ev1 ⟨by decide, rfl⟩ ⟨by omega, by show 8 + (1 + 11) + 20 ≤ _; omega⟩ ⟨by omega, by omega⟩ (Nat.le_of_ble_eq_true rfl) (fun v_6 h_5 p_7 => ?_)
      obtain ⟨rfl, rfl⟩ := p_7
      refine x_le (xw_le_s (xw_le_n (xw_le_s xw_le_e))) ?_
      refine s_Store_tokenCount_29 ?_
      refine s_Store_tokenCount_31 ?_
      simp only [nI_1, nI_add]
      exact ih (i + 1) _ (by omega) ⟨by rw [tkT_y hp.2.2 her, hp.1, hj1, hj2], by omega, by omega⟩
set_option maxHeartbeats 400000 in
theorem g_tokenCountS {G : xw_G} {F L : Nat} {h : xw_A} {A : List Nat} {st s1 s2 s3 s4 : Nat} {fr fp fs fl : Nat → Option Nat} {pc sc lc : Nat} {pe vm sm : Int32} (K : StoC A st s1 s2 s3 s4 fr fp fs fl pc sc lc pe vm sm h) {TW : Nat → Nat → List (List Int32)} (hVX : ∀ r, 1 ≤ r → r ≤ 24 → ∀ b, fr r = some b → VrX A h b (TW r 0) (TW r 1)) (hF : 2 ≤ F) (hL : 40 ≤ L) :
    xw_Met G m_Store_tokenCount F L 0 0 [.ref st] h (fun v h' => (∃ c : Nat, v = some (.int (nI c)) ∧ c = tkT fr TW 24 ∧ c ≤ 1152) ∧ h = h') (fun _ _ => False) := by
  refine xw_Met.of rfl (by decide) (Nat.le_of_ble_eq_true rfl) ?_
  refine s_Store_tokenCount_0 ?_
  exact lp_tokenCountS K hVX (by omega) (by omega) (fun c hc hb => ⟨⟨c, rfl, hc, hb⟩, rfl⟩) 24 1 0 rfl ⟨rfl, by decide, by decide⟩
set_option maxHeartbeats 400000 in
theorem g_rarityS {G : xw_G} {F L : Nat} {h : xw_A} {r w : Nat} (hr : r < 25) (hw : w < 25) (hF : 2 ≤ F) (hL : 60 ≤ L) : xw_Met G m_Answers_rarity F L 0 0 [.int (nI r), .int (nI w)] h (fun v h' => v = some (.double (raF r w)) ∧ h = h') (fun _ _ => False) := by
  have hk := lnOK_all r hr w hw
  rw [lnOK] at hk
  simp only [Bool.and_eq_true] at hk
  obtain ⟨⟨⟨k1, k2⟩, k3⟩, k4⟩ := hk
  cases hF2 : lnF (lnA (nI r) (nI w)) with
  | none => rw [hF2] at k4; cases k4
  | some y =>
    have e9 : raF r w = if (Op.cmpValue (FP.dcmp y FP.dconst0) .l) ≤ 0 then 4517329193108106637 else y := by
      unfold raF
      rw [hF2]
    refine xw_Met.of rfl (by decide) (Nat.le_of_ble_eq_true rfl) ?_
    refine s_Answers_rarity_0 (n64.of k1) (n64.of k2) (n64.of k3) ?_
    refine x_callS (As := [.double (lnA (nI r) (nI w))]) (rest := []) (F1 := 1) (L1 := 20) (mc := 0) (ms := 0) d_Answers_rarity_15 cS_Answers_83 (g_ln hF2 (by omega) (by omega)) ⟨by omega, by show 8 + (12 + 11) + 20 ≤ _; omega⟩ ⟨by omega, by omega⟩ (Nat.le_of_ble_eq_true rfl) (fun v h1 p => ?_)
    obtain ⟨rfl, rfl⟩ := p
    refine x_le (xw_le_n (xw_le_n (xw_le_n (xw_le_n xw_le_e)))) ?_
    refine s_Answers_rarity_18 (fun z => ?_) (fun z => ?_)
    · rw [if_pos z] at e9
      refine s_Answers_rarity_29 ?_
      exact s_Answers_rarity_32 ⟨by rw [e9], rfl⟩
    · rw [if_neg z] at e9
      refine s_Answers_rarity_25 ?_
      exact s_Answers_rarity_32 ⟨by rw [e9], rfl⟩
set_option maxHeartbeats 1000000 in
theorem j_bitsS {G : xw_G} {F L : Nat} {h : xw_A} {x : Int32} (hF : 1 ≤ F) (hL : 20 ≤ L) : xw_Met G m_Integer_bitCount F L 0 0 [.int x] h (fun v h' => v = some (.int (nI (cB (btx x) 32))) ∧ h = h') (fun _ _ => False) := by
  refine xw_Met.of rfl (by decide) (Nat.le_of_ble_eq_true rfl) ?_
  refine x_iload_n d_Integer_bitCount_0 rfl rfl ?_
  refine x_iload_n d_Integer_bitCount_1 rfl rfl ?_
  refine x_iconst (v := 1) d_Integer_bitCount_2 (by decide) ?_
  refine x_iushr d_Integer_bitCount_3 rfl ?_
  refine x_ldcw (v := 1431655765) d_Integer_bitCount_4 (xw_in5 44 rfl rfl) ?_
  refine x_iand d_Integer_bitCount_7 ?_
  refine x_isub d_Integer_bitCount_8 ?_
  refine x_istore_n d_Integer_bitCount_9 rfl (by decide) trivial ?_
  refine x_iload_n d_Integer_bitCount_10 rfl rfl ?_
  refine x_ldcw (v := 858993459) d_Integer_bitCount_11 (xw_in5 45 rfl rfl) ?_
  refine x_iand d_Integer_bitCount_14 ?_
  refine x_iload_n d_Integer_bitCount_15 rfl rfl ?_
  refine x_iconst (v := 2) d_Integer_bitCount_16 (by decide) ?_
  refine x_iushr d_Integer_bitCount_17 rfl ?_
  refine x_ldcw (v := 858993459) d_Integer_bitCount_18 (xw_in5 45 rfl rfl) ?_
  refine x_iand d_Integer_bitCount_21 ?_
  refine x_iadd d_Integer_bitCount_22 ?_
  refine x_istore_n d_Integer_bitCount_23 rfl (by decide) trivial ?_
  refine x_iload_n d_Integer_bitCount_24 rfl rfl ?_
  refine x_iload_n d_Integer_bitCount_25 rfl rfl ?_
  refine x_iconst (v := 4) d_Integer_bitCount_26 (by decide) ?_
  refine x_iushr d_Integer_bitCount_27 rfl ?_
  refine x_iadd d_Integer_bitCount_28 ?_
  refine x_ldcw (v := 252645135) d_Integer_bitCount_29 (xw_in5 46 rfl rfl) ?_
  refine x_iand d_Integer_bitCount_32 ?_
  refine x_istore_n d_Integer_bitCount_33 rfl (by decide) trivial ?_
  refine x_iload_n d_Integer_bitCount_34 rfl rfl ?_
  refine x_iload_n d_Integer_bitCount_35 rfl rfl ?_
  refine x_bipush (v := 8) d_Integer_bitCount_36 (by decide) ?_
  refine x_iushr d_Integer_bitCount_38 rfl ?_
  refine x_iadd d_Integer_bitCount_39 ?_
  refine x_istore_n d_Integer_bitCount_40 rfl (by decide) trivial ?_
  refine x_iload_n d_Integer_bitCount_41 rfl rfl ?_
  refine x_iload_n d_Integer_bitCount_42 rfl rfl ?_
  refine x_bipush (v := 16) d_Integer_bitCount_43 (by decide) ?_
  refine x_iushr d_Integer_bitCount_45 rfl ?_
  refine x_iadd d_Integer_bitCount_46 ?_
  refine x_istore_n d_Integer_bitCount_47 rfl (by decide) trivial ?_
  refine x_iload_n d_Integer_bitCount_48 rfl rfl ?_
  refine x_bipush (v := 63) d_Integer_bitCount_49 (by decide) ?_
  refine x_iand d_Integer_bitCount_51 ?_
  exact x_iret d_Integer_bitCount_52 rfl ⟨congrArg (fun z => some (Value.int z)) (bc_ok x), rfl⟩
