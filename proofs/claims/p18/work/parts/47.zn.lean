set_option maxHeartbeats 2000000 in
theorem lp_addPhraseS {G : xw_G} {F L bc bs : Nat} {pr : Option Value → xw_A → Prop} {px : String → xw_A → Prop} {ao o1 o2 o3 o4 : Nat} {so sp w a qo : Nat} {ra av : UInt64} {pf wf : Nat → Int32} {w0 w1 : Nat} {h0 : xw_A} {sz : Nat} {f1 f3 f4 : Nat → Int32} {g2 : Nat → UInt64} (R0 : AnsR ao o1 o2 o3 o4 sz f1 g2 f3 f4 h0) (f_so : h0 so = some (.inr (7, [.ref sp, .ref qo]))) (f_sp : h0 sp = some (.inl (0, 576, .inl pf))) (f_w : h0 w = some (.inl (0, 2, .inl wf))) (hw0 : wf 0 = nI w0 ∧ w0 ≤ 9) (hw1 : wf 1 = nI w1 ∧ w1 ≤ 9) {Q : Nat → Nat → Nat → Nat → Prop} {p : Nat} (hp12 : p ≤ 12) (FL : FLs Q pf (p * 48)) (hap : a < p) (hra : smB ra = true) (hav : PO av) {rwf lf : Nat → Nat} (hrw : ∀ j, j < sz → f1 j = nI (rwf j) ∧ 1 ≤ rwf j ∧ rwf j ≤ 24 ∧ f3 j = nI (lf j) ∧ lf j ≤ 96) (hF : 3 ≤ F) (hL : 65 ≤ L) (kk : ∀ (h : xw_A) (f2 : Nat → UInt64), h o2 = some (.inl (3, 24, .inr (.inr (.inr (.inl f2))))) → (∀ j, j < sz → NN (f2 j)) → (∀ j, j < sz → f2 j = (nxS Q w0 w1 a ra av rwf lf g2 j)) → FrO [o2] h0 h → pr none h) :
    ∀ (dd i : Nat) (h : xw_A) (f2 : Nat → UInt64), i + dd = sz → h o2 = some (.inl (3, 24, .inr (.inr (.inr (.inl f2))))) → (∀ j, j < sz → NN (f2 j)) → (∀ j, j < sz → f2 j = if j < i then (nxS Q w0 w1 a ra av rwf lf g2 j) else g2 j) → FrO [o2] h0 h → xw G m_Answers_addPhrase F L bc bs pr px 3 [some (.ref ao), some (.ref so), some (.int (nI a)), some (.ref w), some (.double ra), none, some (.double av), none, some (.int (nI i)), none] [] h := by
  intro dd
  induction dd with
  | zero =>
    intro i h f2 hi e_o2 hN hS r0
    obtain rfl : i = sz := by omega
    obtain ⟨f_ao, f_o1, f_o2, f_o3, f_o4, hsz, hAR⟩ := id R0
    have e_ao := r0 ao _ (nm1 (xw_neC f_ao R0.2.2.1 (by simp))) f_ao
    have e_o1 := r0 o1 _ (nm1 (xw_neC f_o1 R0.2.2.1 (by simp))) f_o1
    have e_o3 := r0 o3 _ (nm1 (xw_neC f_o3 R0.2.2.1 (by simp))) f_o3
    have e_so := r0 so _ (nm1 (xw_neC f_so R0.2.2.1 (by simp))) f_so
    have e_sp := r0 sp _ (nm1 (xw_neC f_sp R0.2.2.1 (by simp))) f_sp
    have e_w := r0 w _ (nm1 (xw_neC f_w R0.2.2.1 (by simp))) f_w
    refine s_Answers_addPhrase_3 (rows_a0 := some o1) (scores_a0 := some o2) (lengths_a0 := some o3) (order_a0 := some o4) e_ao (fun z_1 => ?_) (fun z => absurd (nI_le (Nat.le_refl _) (by omega)) z)
    refine s_Answers_addPhrase_114 ?_
    exact kk _ _ e_o2 hN (fun j hj => by rw [hS j hj, if_pos hj]) r0
  | succ dd ih =>
    intro i h f2 hi e_o2 hN hS r0
    obtain ⟨f_ao, f_o1, f_o2, f_o3, f_o4, hsz, hAR⟩ := id R0
    have e_ao := r0 ao _ (nm1 (xw_neC f_ao R0.2.2.1 (by simp))) f_ao
    have e_o1 := r0 o1 _ (nm1 (xw_neC f_o1 R0.2.2.1 (by simp))) f_o1
    have e_o3 := r0 o3 _ (nm1 (xw_neC f_o3 R0.2.2.1 (by simp))) f_o3
    have e_so := r0 so _ (nm1 (xw_neC f_so R0.2.2.1 (by simp))) f_so
    have e_sp := r0 sp _ (nm1 (xw_neC f_sp R0.2.2.1 (by simp))) f_sp
    have e_w := r0 w _ (nm1 (xw_neC f_w R0.2.2.1 (by simp))) f_w
    refine s_Answers_addPhrase_3 (rows_a0 := some o1) (scores_a0 := some o2) (lengths_a0 := some o3) (order_a0 := some o4) e_ao (fun z => absurd z (nI_ge (b := sz) (show i < sz by omega) (by omega))) (fun z_1 => ?_)
    obtain ⟨h1, hr1, hr2, h3, hlen⟩ := hrw i (by omega)
    have er : f1 (nI i).toNatClampNeg = nI (rwf i) := by rw [nI_clamp (by omega)]; exact h1
    have el : f3 (nI i).toNatClampNeg = nI (lf i) := by rw [nI_clamp (by omega)]; exact h3
    refine s_Answers_addPhrase_12 (scores_a0 := some o2) (lengths_a0 := some o3) (order_a0 := some o4) e_ao e_o1 (vp_in_nI (by omega) (by omega)) ?_
    rw [er]
    refine x_callV (As := [.int (nI a), .int (nI (rwf i)), .int (nI 0)]) (b := so) (rest := []) (F1 := 2) (L1 := 42) (mc := 0) (ms := 0) d_Answers_addPhrase_22 cV_Answers_64 (g_placesOfH e_so e_sp (show a < 12 by omega) hr1 hr2 (by decide) (by omega) (by omega)) e_so ⟨by decide, rfl⟩ ⟨by omega, by show 8 + (4 + 11) + 42 ≤ _; omega⟩ ⟨by omega, by omega⟩ (Nat.le_of_ble_eq_true rfl) (fun v_3 h_2 p_4 => ?_)
    obtain ⟨rfl, rfl⟩ := p_4
    have hc_0 : cB (btx (pf ((a * 24 + rwf i - 1) * 2 + 0))) 32 = (cP (Q a (rwf i) 0) 32) := (FL a (rwf i) 0 hr1 hr2 (by decide) (by omega)).cnt
    refine x_callS (As := [.int (pf ((a * 24 + rwf i - 1) * 2 + 0))]) (rest := []) (F1 := 1) (L1 := 20) (mc := 0) (ms := 0) d_Answers_addPhrase_25 cS_Answers_68 (j_bitsS (by omega) (by omega)) ⟨by omega, by show 8 + (1 + 11) + 20 ≤ _; omega⟩ ⟨by omega, by omega⟩ (Nat.le_of_ble_eq_true rfl) (fun v_6 h_5 p_7 => ?_)
    obtain ⟨rfl, rfl⟩ := p_7
    rw [hc_0]
    refine s_Answers_addPhrase_28 (scores_a0 := some o2) (lengths_a0 := some o3) (order_a0 := some o4) e_w (by unfold vp_in; decide) e_ao e_o1 (vp_in_nI (by omega) (by omega)) ?_
    rw [er]
    refine x_callV (As := [.int (nI a), .int (nI (rwf i)), .int (nI 1)]) (b := so) (rest := [.int ((nI (cP (Q a (rwf i) 0) 32)) * (wf (0 : Int32).toNatClampNeg))]) (F1 := 2) (L1 := 42) (mc := 0) (ms := 0) d_Answers_addPhrase_42 cV_Answers_64 (g_placesOfH e_so e_sp (show a < 12 by omega) hr1 hr2 (by decide) (by omega) (by omega)) e_so ⟨by decide, rfl⟩ ⟨by omega, by show 8 + (4 + 11) + 42 ≤ _; omega⟩ ⟨by omega, by omega⟩ (Nat.le_of_ble_eq_true rfl) (fun v_9 h_8 p_10 => ?_)
    obtain ⟨rfl, rfl⟩ := p_10
    have hc_1 : cB (btx (pf ((a * 24 + rwf i - 1) * 2 + 1))) 32 = (cP (Q a (rwf i) 1) 32) := (FL a (rwf i) 1 hr1 hr2 (by decide) (by omega)).cnt
    refine x_callS (As := [.int (pf ((a * 24 + rwf i - 1) * 2 + 1))]) (rest := [.int ((nI (cP (Q a (rwf i) 0) 32)) * (wf (0 : Int32).toNatClampNeg))]) (F1 := 1) (L1 := 20) (mc := 0) (ms := 0) d_Answers_addPhrase_45 cS_Answers_68 (j_bitsS (by omega) (by omega)) ⟨by omega, by show 8 + (1 + 11) + 20 ≤ _; omega⟩ ⟨by omega, by omega⟩ (Nat.le_of_ble_eq_true rfl) (fun v_12 h_11 p_13 => ?_)
    obtain ⟨rfl, rfl⟩ := p_13
    rw [hc_1]
    rw [show wf (0 : Int32).toNatClampNeg = nI w0 from hw0.1, pk_mul]
    refine s_Answers_addPhrase_48 e_w (by unfold vp_in; decide) (fun z_14 => ?_) (fun z_15 => ?_)
    · skip
      refine s_Answers_addPhrase_108 ?_
      rw [nI_1]
      have hz0 : frq Q w0 w1 a (rwf i) = 0 := by have q9 := z_14; rw [show wf (1 : Int32).toNatClampNeg = nI w1 from hw1.1, pk_mul, nI_add] at q9; have hm1 := Nat.mul_le_mul (cP_le (P := Q a (rwf i) 0) 32) hw0.2; have hm2 := Nat.mul_le_mul (cP_le (P := Q a (rwf i) 1) 32) hw1.2; show (cP (Q a (rwf i) 0) 32) * w0 + (cP (Q a (rwf i) 1) 32) * w1 = 0; rcases Nat.eq_zero_or_pos ((cP (Q a (rwf i) 0) 32) * w0 + (cP (Q a (rwf i) 1) 32) * w1) with q | q; (exact q); (exact absurd q9 (by first | exact nI_nle q (by omega) | exact nI_ge (a := 0) q (by omega)))
      exact ih (i + 1) _ _ (by omega) e_o2 hN (fun j hj => by by_cases q : j = i; (subst q; rw [hS j hj, if_neg (Nat.lt_irrefl _), if_pos (Nat.lt_succ_self _)]; unfold nxS; rw [if_pos hz0]); (rw [hS j hj]; by_cases q2 : j < i; (rw [if_pos q2, if_pos (by omega)]); (rw [if_neg q2, if_neg (by omega)]))) r0
    · skip
      rw [show wf (1 : Int32).toNatClampNeg = nI w1 from hw1.1, pk_mul, nI_add] at z_15 ⊢
      have hm1 := Nat.mul_le_mul (cP_le (P := Q a (rwf i) 0) 32) hw0.2
      have hm2 := Nat.mul_le_mul (cP_le (P := Q a (rwf i) 1) 32) hw1.2
      obtain ⟨fN, hfN⟩ : ∃ fN, fN = (cP (Q a (rwf i) 0) 32) * w0 + (cP (Q a (rwf i) 1) 32) * w1 := ⟨_, rfl⟩
      rw [← hfN] at z_15 ⊢
      have hf1 : ¬ fN = 0 := fun q => z_15 (by rw [q]; decide)
      have hf2 : fN < 1135 := by omega
      have hfQ : frq Q w0 w1 a (rwf i) = fN := hfN.symm
      have q1 := (me_i2d fN (by omega)).resolve_left hf1
      have q76 := (me_22 fN hf2).resolve_left hf1
      have q77 := fi_dmul hra (meB.sm q76)
      have q98 : smB (FP.dmul 4604930618986332160 (FP.i2d (f3 (nI i).toNatClampNeg))) = true := by rw [el]; exact sm_len (lf i) (by omega)
      have q101 := nn_ddiv (smB.fi q98) hav
      have q102 := nn_dadd (x := 4598175219545276416) (PO.nn (meB.po (by decide +kernel))) q101
      have q103 := nn_dmul (x := 4608083138725491507) (by decide +kernel) q102
      have q104 := po_dadd q1 q103
      have q105 := nn_ddiv q77 q104
      have hnn2 : NN (f2 (nI i).toNatClampNeg) := by rw [nI_clamp (by omega)]; exact hN i (by omega)
      have q106 := nn_dadd hnn2 q105
      refine s_Answers_addPhrase_60 (rows_a0 := some o1) (order_a0 := some o4) e_ao e_o2 (vp_in_nI (by omega) (by omega)) (NN.num (FI.nn (smB.fi (meB.sm q76)))) (NN.num (FI.nn q77)) e_o3 (vp_in_nI (by omega) (by omega)) (NN.num (FI.nn (smB.fi q98))) (NN.num q101) (NN.num q102) (NN.num q103) (NN.num (PO.nn q104)) (NN.num q105) (NN.num q106) (vp_in_nI (by omega) (by omega)) ?_
      refine x_u1 (fun h_16 e_17 f_18 => ?_)
      have e_19 := (f_18 ao (xw_neC e_ao e_o2 (by simp))).trans e_ao
      have e_20 := (f_18 o1 (xw_neC e_o1 e_o2 (by simp))).trans e_o1
      have e_21 := (f_18 o3 (xw_neC e_o3 e_o2 (by simp))).trans e_o3
      have e_22 := (f_18 so (xw_neC e_so e_o2 (by simp))).trans e_so
      have e_23 := (f_18 sp (xw_neC e_sp e_o2 (by simp))).trans e_sp
      have e_24 := (f_18 w (xw_neC e_w e_o2 (by simp))).trans e_w
      have r_25 := r0.up (by simp) f_18
      refine s_Answers_addPhrase_108 ?_
      rw [nI_1]
      rw [nI_clamp (show i < 2 ^ 31 by omega)] at e_17
      rw [h3] at e_17
      refine ih (i + 1) _ _ (by omega) e_17 (fun j hj => ?_) (fun j hj => ?_) r_25
      · by_cases q : j = i
        · rw [q, vf_us]; rw [nI_clamp (show i < 2 ^ 31 by omega), h3] at q106; exact q106
        · rw [vf_un q]; exact hN j hj
      · by_cases q : j = i
        · subst q
          rw [vf_us, if_pos (Nat.lt_succ_self _), hS j hj, if_neg (Nat.lt_irrefl _)]
          unfold nxS
          rw [hfQ, if_neg hf1]
          rfl
        · rw [vf_un q, hS j hj]
          by_cases q2 : j < i
          · rw [if_pos q2, if_pos (by omega)]
          · rw [if_neg q2, if_neg (by omega)]
theorem g_addPhraseS {G : xw_G} {F L : Nat} {h : xw_A} {ao o1 o2 o3 o4 : Nat} {so sp w a qo : Nat} {ra av : UInt64} {pf wf : Nat → Int32} {w0 w1 : Nat} {sz : Nat} {f1 f3 f4 : Nat → Int32} {g2 : Nat → UInt64} (R0 : AnsR ao o1 o2 o3 o4 sz f1 g2 f3 f4 h) (f_so : h so = some (.inr (7, [.ref sp, .ref qo]))) (f_sp : h sp = some (.inl (0, 576, .inl pf))) (f_w : h w = some (.inl (0, 2, .inl wf))) (hw0 : wf 0 = nI w0 ∧ w0 ≤ 9) (hw1 : wf 1 = nI w1 ∧ w1 ≤ 9) {Q : Nat → Nat → Nat → Nat → Prop} {p : Nat} (hp12 : p ≤ 12) (FL : FLs Q pf (p * 48)) (hap : a < p) (hra : smB ra = true) (hav : PO av) {rwf lf : Nat → Nat} (hrw : ∀ j, j < sz → f1 j = nI (rwf j) ∧ 1 ≤ rwf j ∧ rwf j ≤ 24 ∧ f3 j = nI (lf j) ∧ lf j ≤ 96) (hF : 3 ≤ F) (hL : 65 ≤ L) :
    xw_Met G m_Answers_addPhrase F L 0 0 [.ref ao, .ref so, .int (nI a), .ref w, .double ra, .double av] h (fun v h' => v = none ∧ (∃ f2 : Nat → UInt64, AnsR ao o1 o2 o3 o4 sz f1 f2 f3 f4 h' ∧ ∀ j, j < sz → f2 j = (nxS Q w0 w1 a ra av rwf lf g2 j)) ∧ FrO [o2] h h') (fun _ _ => False) := by
  refine xw_Met.of rfl (by decide) (Nat.le_of_ble_eq_true rfl) ?_
  refine s_Answers_addPhrase_0 ?_
  refine lp_addPhraseS R0 f_so f_sp f_w hw0 hw1 hp12 FL hap hra hav hrw hF hL (fun h2 f2 e2 hN hS r2 => ⟨rfl, ⟨f2, ?_, hS⟩, r2⟩) sz 0 _ _ (Nat.zero_add _) R0.2.2.1 (fun j hj => (R0.2.2.2.2.2.2 j hj).elim (fun _ q => q.elim (fun _ q => q.2.2.2.2.2))) (fun j _ => by rw [if_neg (Nat.not_lt_zero _)]) FrO.rf
  obtain ⟨f_ao, f_o1, f_o2, f_o3, f_o4, hsz, hAR⟩ := R0
  refine ⟨r2 ao _ (nm1 (xw_neC f_ao f_o2 (by simp))) f_ao, r2 o1 _ (nm1 (xw_neC f_o1 f_o2 (by simp))) f_o1, e2, r2 o3 _ (nm1 (xw_neC f_o3 f_o2 (by simp))) f_o3, r2 o4 _ (nm1 (xw_neC f_o4 f_o2 (by simp))) f_o4, hsz, fun i hi => ?_⟩
  obtain ⟨r, len, a1, a2, a3, a4, a5, -⟩ := hAR i hi
  exact ⟨r, len, a1, a2, a3, a4, a5, hN i hi⟩
