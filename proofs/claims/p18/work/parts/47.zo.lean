set_option maxHeartbeats 1000000 in
theorem lp_sort1S {G : xw_G} {F L bc bs : Nat} {pr : Option Value → xw_A → Prop} {px : String → xw_A → Prop} {h0 : xw_A} {ao o1 o2 o3 o4 sz : Nat} {f2 : Nat → UInt64} {k : Nat} (hk : k < sz) (hsz : sz ≤ 24)
    (kk : ∀ (h : xw_A) (f : Nat → Int32) (t : Nat), t ≤ k → OrH f2 k f (ordL f2 k) t → insT f2 k (ordL f2 k) t = t → h ao = some (.inr (1, [.ref o1, .ref o2, .int (nI sz), .ref o3, .ref o4])) → h o2 = some (.inl (3, 24, .inr (.inr (.inr (.inl f2))))) → h o4 = some (.inl (0, 24, .inl f)) → FrO [o4] h0 h → xw G m_Answers_sort F L bc bs pr px 59 [some (.ref ao), some (.int (nI k)), some (.int (nI t))] [] h) :
    ∀ (t : Nat) (h : xw_A) (f : Nat → Int32), t ≤ k → OrH f2 k f (ordL f2 k) t → h ao = some (.inr (1, [.ref o1, .ref o2, .int (nI sz), .ref o3, .ref o4])) → h o2 = some (.inl (3, 24, .inr (.inr (.inr (.inl f2))))) → h o4 = some (.inl (0, 24, .inl f)) → FrO [o4] h0 h → xw G m_Answers_sort F L bc bs pr px 12 [some (.ref ao), some (.int (nI k)), some (.int (nI t))] [] h := by
  intro t
  induction t with
  | zero =>
    intro h f ht hf e_ao e_2 e_4 r0
    refine s_Answers_sort_12 (fun _ => ?_) (fun z => absurd z (by decide))
    exact kk _ _ 0 ht hf insT_0 e_ao e_2 e_4 r0
  | succ t ih =>
    intro h f ht hf e_ao e_2 e_4 r0
    obtain ⟨j, hj9⟩ : ∃ j, (ordL f2 k)[t]? = some j := ⟨_, List.getElem?_eq_getElem (by rw [ordL_len]; omega)⟩
    have hjk : j < k := ordL_lt k j (List.mem_of_getElem? hj9)
    have hj : f t = nI j := hf.2.2.1 t j (Nat.lt_succ_self t) hj9
    have ei : (nI (t + 1) - 1).toNatClampNeg = t := by rw [nI_pred]; exact nI_clamp (by omega)
    have eq : f (nI (t + 1) - 1).toNatClampNeg = nI j := by rw [ei]; exact hj
    refine s_Answers_sort_12 (fun z => absurd z (nI_nle (by omega) (by omega))) (fun _ => ?_)
    refine s_Answers_sort_16 (rows_a0 := some o1) (lengths_a0 := some o3) e_ao e_4 (by rw [nI_pred]; exact vp_in_nI (by omega) (by decide)) e_2 (by rw [eq]; exact vp_in_nI (by omega) (by decide)) (vp_in_nI (by omega) (by decide)) (fun z => ?_) (fun z => ?_)
    · rw [eq, nI_clamp (by omega), nI_clamp (by omega)] at z
      exact kk h f (t + 1) ht hf (insT_n hj9 (fun q => q z)) e_ao e_2 e_4 r0
    · rw [eq, nI_clamp (by omega), nI_clamp (by omega)] at z
      refine s_Answers_sort_39 (scores_a0 := some o2) (rows_a0 := some o1) (lengths_a0 := some o3) e_ao e_4 (by rw [nI_pred]; exact vp_in_nI (by omega) (by decide)) (vp_in_nI (by omega) (by decide)) ?_
      refine x_u1 (fun h1 e1 f1 => ?_)
      rw [pk_m1]
      rw [eq, nI_clamp (by omega)] at e1
      exact ih _ _ (by omega) (hf.step hj9 z) ((f1 _ (xw_neC e_ao e_4 (by simp))).trans e_ao) ((f1 _ (xw_neC e_2 e_4 (by simp))).trans e_2) e1 (r0.up (by simp) f1)
set_option maxHeartbeats 1000000 in
theorem lp_sort2S {G : xw_G} {F L bc bs : Nat} {pr : Option Value → xw_A → Prop} {px : String → xw_A → Prop} {h0 : xw_A} {ao o1 o2 o3 o4 sz : Nat} {f2 : Nat → UInt64} (hsz : sz ≤ 24)
    (kk : ∀ (h : xw_A) (f : Nat → Int32), OrR f (ordL f2 sz) → h o4 = some (.inl (0, 24, .inl f)) → FrO [o4] h0 h → pr none h) :
    ∀ (dd k : Nat) (h : xw_A) (f : Nat → Int32), k + dd = sz → OrR f (ordL f2 k) → h ao = some (.inr (1, [.ref o1, .ref o2, .int (nI sz), .ref o3, .ref o4])) → h o2 = some (.inl (3, 24, .inr (.inr (.inr (.inl f2))))) → h o4 = some (.inl (0, 24, .inl f)) → FrO [o4] h0 h → xw G m_Answers_sort F L bc bs pr px 2 [some (.ref ao), some (.int (nI k)), none] [] h := by
  intro dd
  induction dd with
  | zero =>
    intro k h f hi hf e_ao e_2 e_4 r0
    obtain rfl : k = sz := by omega
    refine s_Answers_sort_2 (scores_a0 := some o2) (rows_a0 := some o1) (lengths_a0 := some o3) (order_a0 := some o4) e_ao (fun _ => s_Answers_sort_72 (kk _ _ hf e_4 r0)) (fun z => absurd (nI_le (Nat.le_refl _) (by omega)) z)
  | succ dd ih =>
    intro k h f hi hf e_ao e_2 e_4 r0
    refine s_Answers_sort_2 (scores_a0 := some o2) (rows_a0 := some o1) (lengths_a0 := some o3) (order_a0 := some o4) e_ao (fun z => absurd z (nI_ge (b := sz) (show k < sz by omega) (by omega))) (fun _ => ?_)
    refine s_Answers_sort_10 ?_
    have hst : OrH f2 k f (ordL f2 k) k := by
      have := OrH.start (sc := f2) (k := k) hf
      rw [ordL_len] at this
      exact this
    refine lp_sort1S (h0 := h0) (show k < sz by omega) hsz (fun h2 g t ht hg he g_ao g_2 g_4 r2 => ?_) k _ _ (Nat.le_refl _) hst e_ao e_2 e_4 r0
    refine s_Answers_sort_59 (scores_a0 := some o2) (rows_a0 := some o1) (lengths_a0 := some o3) g_ao g_4 (vp_in_nI (by omega) (by decide)) ?_
    refine x_u1 (fun h3 e3 f3 => ?_)
    rw [nI_1]
    rw [nI_clamp (by omega)] at e3
    exact ih (k + 1) _ _ (by omega) (hg.fin he) ((f3 _ (xw_neC g_ao g_4 (by simp))).trans g_ao) ((f3 _ (xw_neC g_2 g_4 (by simp))).trans g_2) e3 (r2.up (by simp) f3)
theorem g_sortS {G : xw_G} {F L : Nat} {h : xw_A} {ao o1 o2 o3 o4 sz : Nat} {f2 : Nat → UInt64} {f : Nat → Int32} (e_ao : h ao = some (.inr (1, [.ref o1, .ref o2, .int (nI sz), .ref o3, .ref o4]))) (e_2 : h o2 = some (.inl (3, 24, .inr (.inr (.inr (.inl f2)))))) (e_4 : h o4 = some (.inl (0, 24, .inl f))) (hsz : sz ≤ 24) (hF : 1 ≤ F) (hL : 20 ≤ L) :
    xw_Met G m_Answers_sort F L 0 0 [.ref ao] h (fun v h' => v = none ∧ (∃ f' : Nat → Int32, h' o4 = some (.inl (0, 24, .inl f')) ∧ OrR f' (ordL f2 sz)) ∧ FrO [o4] h h') (fun _ _ => False) := by
  refine xw_Met.of rfl (by decide) (Nat.le_of_ble_eq_true rfl) ?_
  refine s_Answers_sort_0 ?_
  exact lp_sort2S (h0 := h) hsz (fun h2 f2 hf e4 r2 => ⟨rfl, ⟨f2, e4, hf⟩, r2⟩) sz 0 _ _ (Nat.zero_add _) OrR.nil e_ao e_2 e_4 FrO.rf
set_option maxHeartbeats 2000000 in
theorem lp_rankS {G : xw_G} {F L bc bs : Nat} {pr : Option Value → xw_A → Prop} {px : String → xw_A → Prop} {ao o1 o2 o3 o4 : Nat} {so sp w qo rc : Nat} {av : UInt64} {pf wf : Nat → Int32} {w0 w1 : Nat} {h0 : xw_A} {sz : Nat} {f1 f3 f4 : Nat → Int32} {g2 : Nat → UInt64} (R0 : AnsR ao o1 o2 o3 o4 sz f1 g2 f3 f4 h0) (f_so : h0 so = some (.inr (7, [.ref sp, .ref qo]))) (f_sp : h0 sp = some (.inl (0, 576, .inl pf))) (f_w : h0 w = some (.inl (0, 2, .inl wf))) (hw0 : wf 0 = nI w0 ∧ w0 ≤ 9) (hw1 : wf 1 = nI w1 ∧ w1 ≤ 9) {Q : Nat → Nat → Nat → Nat → Prop} {p : Nat} (hp12 : p ≤ 12) (FL : FLs Q pf (p * 48)) {rwf lf : Nat → Nat} (hrw : ∀ j, j < sz → f1 j = nI (rwf j) ∧ 1 ≤ rwf j ∧ rwf j ≤ 24 ∧ f3 j = nI (lf j) ∧ lf j ≤ 96) (hg0 : ∀ j, j < sz → g2 j = FP.dconst0) (hrc : rc ≤ 24) (hav : PO av) (hF : 5 ≤ F) (hL : 110 ≤ L) (kk : ∀ (h : xw_A) (f2 : Nat → UInt64), AnsR ao o1 o2 o3 o4 sz f1 f2 f3 f4 h → (∀ j, j < sz → f2 j = scN (fun q => frq Q w0 w1 q (rwf j)) (fun q => wiQ Q q) rc (lf j) av p) → FrO [o2] h0 h → xw G m_Answers_rank F L bc bs pr px 69 [some (.ref ao), none, none, none, none, none, none, none, none, none] [] h) :
    ∀ (dd i : Nat) (h : xw_A) (f2 : Nat → UInt64), i + dd = p → AnsR ao o1 o2 o3 o4 sz f1 f2 f3 f4 h → (∀ j, j < sz → f2 j = scN (fun q => frq Q w0 w1 q (rwf j)) (fun q => wiQ Q q) rc (lf j) av i) → FrO [o2] h0 h → xw G m_Answers_rank F L bc bs pr px 36 [some (.ref ao), some (.ref so), some (.int (nI p)), some (.ref w), none, some (.int (nI rc)), none, some (.double av), none, some (.int (nI i))] [] h := by
  intro dd
  induction dd with
  | zero =>
    intro i h f2 hi R hS r0
    obtain rfl : i = p := by omega
    obtain ⟨e_ao, e_o1, e_o2, e_o3, e_o4, hsz, hAR⟩ := id R
    have e_so := r0 so _ (nm1 (xw_neC f_so R0.2.2.1 (by simp))) f_so
    have e_sp := r0 sp _ (nm1 (xw_neC f_sp R0.2.2.1 (by simp))) f_sp
    have e_w := r0 w _ (nm1 (xw_neC f_w R0.2.2.1 (by simp))) f_w
    refine s_Answers_rank_36 (fun z_1 => ?_) (fun z => absurd (nI_le (Nat.le_refl _) (by omega)) z)
    exact kk _ _ R hS r0
  | succ dd ih =>
    intro i h f2 hi R hS r0
    obtain ⟨e_ao, e_o1, e_o2, e_o3, e_o4, hsz, hAR⟩ := id R
    have e_so := r0 so _ (nm1 (xw_neC f_so R0.2.2.1 (by simp))) f_so
    have e_sp := r0 sp _ (nm1 (xw_neC f_sp R0.2.2.1 (by simp))) f_sp
    have e_w := r0 w _ (nm1 (xw_neC f_w R0.2.2.1 (by simp))) f_w
    refine s_Answers_rank_36 (fun z => absurd z (nI_ge (b := p) (show i < p by omega) (by omega))) (fun z_1 => ?_)
    refine s_Answers_rank_42 ?_
    refine x_callV (As := [.int (nI i)]) (b := so) (rest := [.int (nI rc), .ref w, .int (nI i), .ref so, .ref ao]) (F1 := 4) (L1 := 87) (mc := 0) (ms := 0) d_Answers_rank_52 cV_Answers_47 (g_rowsWithS e_so e_sp hp12 FL (show i < p by omega) (by omega) (by omega)) e_so ⟨by decide, rfl⟩ ⟨by omega, by show 8 + (4 + 11) + 87 ≤ _; omega⟩ ⟨by omega, by omega⟩ (Nat.le_of_ble_eq_true rfl) (fun v_3 h_2 p_4 => ?_)
    obtain ⟨rfl, rfl⟩ := p_4
    have hwi := wiQ_le (Q := Q) (a := i)
    refine x_callS (As := [.int (nI rc), .int (nI (wiQ Q i))]) (rest := [.ref w, .int (nI i), .ref so, .ref ao]) (F1 := 2) (L1 := 60) (mc := 0) (ms := 0) d_Answers_rank_55 cS_Answers_53 (g_rarityS (by omega) (by omega) (by omega) (by omega)) ⟨by omega, by show 8 + (4 + 11) + 60 ≤ _; omega⟩ ⟨by omega, by omega⟩ (Nat.le_of_ble_eq_true rfl) (fun v_6 h_5 p_7 => ?_)
    obtain ⟨rfl, rfl⟩ := p_7
    refine s_Answers_rank_58 ?_
    refine x_callV (As := [.ref so, .int (nI i), .ref w, .double (raF rc (wiQ Q i)), .double av]) (b := ao) (rest := []) (F1 := 3) (L1 := 65) (mc := 0) (ms := 0) d_Answers_rank_60 cV_Answers_57 (g_addPhraseS R e_so e_sp e_w hw0 hw1 hp12 FL (show i < p by omega) (ra_sm (by omega) (by omega)) hav hrw (by omega) (by omega)) e_ao ⟨by decide, rfl⟩ ⟨by omega, by show 8 + (10 + 11) + 65 ≤ _; omega⟩ ⟨by omega, by omega⟩ (Nat.le_of_ble_eq_true rfl) (fun v_13 h_12 p_14 => ?_)
    obtain ⟨rfl, ⟨f_8, R_9, hS_10⟩, fr_11⟩ := p_14
    have r_15 := r0.trans fr_11
    refine s_Answers_rank_63 ?_
    rw [nI_1]
    exact ih (i + 1) _ _ (by omega) R_9 (fun j hj => by rw [hS_10 j hj, nxS, hS j hj]; rfl) r_15
set_option maxHeartbeats 1000000 in
theorem g_rankS {G : xw_G} {F L : Nat} {h : xw_A} {ao o1 o2 o3 o4 : Nat} {so sp w qo : Nat} {pf wf : Nat → Int32} {w0 w1 : Nat} {sz : Nat} {f1 f3 f4 : Nat → Int32} {g2 : Nat → UInt64} (R0 : AnsR ao o1 o2 o3 o4 sz f1 g2 f3 f4 h) (f_so : h so = some (.inr (7, [.ref sp, .ref qo]))) (f_sp : h sp = some (.inl (0, 576, .inl pf))) (f_w : h w = some (.inl (0, 2, .inl wf))) (hw0 : wf 0 = nI w0 ∧ w0 ≤ 9) (hw1 : wf 1 = nI w1 ∧ w1 ≤ 9) {Q : Nat → Nat → Nat → Nat → Prop} {p : Nat} (hp12 : p ≤ 12) (FL : FLs Q pf (p * 48)) {rwf lf : Nat → Nat} (hrw : ∀ j, j < sz → f1 j = nI (rwf j) ∧ 1 ≤ rwf j ∧ rwf j ≤ 24 ∧ f3 j = nI (lf j) ∧ lf j ≤ 96) (hg0 : ∀ j, j < sz → g2 j = FP.dconst0) (n14 : o1 ≠ o4) (n34 : o3 ≠ o4) {AL : List Nat} {st s1 s2 s3 s4 : Nat} {er ep es el : Nat → Option Nat} {pc sc lc : Nat} {pe vm sm : Int32} (KS : StoC AL st s1 s2 s3 s4 er ep es el pc sc lc pe vm sm h) {TW : Nat → Nat → List (List Int32)} (hV : ∀ r, 1 ≤ r → r ≤ 24 → ∀ b, er r = some b → VrX AL h b (TW r 0) (TW r 1)) (hF : 5 ≤ F) (hL : 110 ≤ L) :
    xw_Met G m_Answers_rank F L 0 0 [.ref ao, .ref so, .int (nI p), .ref w, .ref st] h (fun v h' => v = none ∧ (∃ (f2' : Nat → UInt64) (f4' : Nat → Int32), AnsC ao o1 o2 o3 o4 sz f1 f2' f3 f4' h' ∧ (∀ j, j < sz → f2' j = scR Q w0 w1 (cntS er 24) (tkT er TW 24) p (lf j) (rwf j)) ∧ OrR f4' (ordL f2' sz)) ∧ FrO [o2, o4] h h') (fun _ _ => False) := by
  refine xw_Met.of rfl (by decide) (Nat.le_of_ble_eq_true rfl) ?_
  refine s_Answers_rank_0 ?_
  refine x_callV (As := []) (b := st) (rest := []) (F1 := 1) (L1 := 20) (mc := 0) (ms := 0) d_Answers_rank_2 cV_Answers_41 (g_rowCount KS (by omega) (by omega)) KS.1 ⟨by decide, rfl⟩ ⟨by omega, by show 8 + (3 + 11) + 20 ≤ _; omega⟩ ⟨by omega, by omega⟩ (Nat.le_of_ble_eq_true rfl) (fun v h1 q => ?_)
  obtain ⟨⟨rc, rfl, hrc, hrcE⟩, rfl⟩ := q
  refine s_Answers_rank_5 ?_
  refine x_callV (As := []) (b := st) (rest := []) (F1 := 2) (L1 := 40) (mc := 0) (ms := 0) d_Answers_rank_9 cV_Answers_44 (g_tokenCountS KS hV (by omega) (by omega)) KS.1 ⟨by decide, rfl⟩ ⟨by omega, by show 8 + (3 + 11) + 40 ≤ _; omega⟩ ⟨by omega, by omega⟩ (Nat.le_of_ble_eq_true rfl) (fun v h1 q => ?_)
  obtain ⟨⟨tc, rfl, htcE, htc⟩, rfl⟩ := q
  refine x_le (xw_le_s (xw_le_s (xw_le_s (xw_le_s (xw_le_n (xw_le_s (xw_le_n (xw_le_n (xw_le_n (xw_le_n xw_le_e)))))))))) ?_
  refine s_Answers_rank_12 (fun z0 => ?_) (fun z1 => ?_)
  · refine s_Answers_rank_69 ?_
    refine x_callV (As := []) (b := ao) (rest := []) (F1 := 1) (L1 := 20) (mc := 0) (ms := 0) d_Answers_rank_70 cV_Answers_61 (g_sortS R0.1 R0.2.2.1 R0.2.2.2.2.1 R0.2.2.2.2.2.1 (by omega) (by omega)) R0.1 ⟨by decide, rfl⟩ ⟨by omega, by show 8 + (3 + 11) + 20 ≤ _; omega⟩ ⟨by omega, by omega⟩ (Nat.le_of_ble_eq_true rfl) (fun v hz q => ?_)
    obtain ⟨rfl, ⟨f4', e4', ho⟩, r4⟩ := q
    refine x_le (xw_le_n (xw_le_n (xw_le_n (xw_le_n (xw_le_n (xw_le_n (xw_le_n (xw_le_n (xw_le_n (xw_le_n xw_le_e)))))))))) ?_
    refine s_Answers_rank_73 ?_
    obtain ⟨y_ao, y_o1, y_o2, y_o3, y_o4, ysz, -⟩ := id R0
    exact ⟨rfl, ⟨_, f4', ⟨r4 ao _ (nm1 (xw_neC y_ao y_o4 (by simp))) y_ao, r4 o1 _ (nm1 n14) y_o1, r4 o2 _ (nm1 (xw_neC y_o2 y_o4 (by simp))) y_o2, r4 o3 _ (nm1 n34) y_o3, e4', ysz, ho.ix⟩, (fun j hj => by rw [hg0 j hj, ← hrcE, ← htcE]; unfold scR; rw [if_neg (fun q => absurd z0 (nI_nle q.1 (by omega)))]), ho⟩, r4.mono (by simp)⟩
  · refine s_Answers_rank_19 (fun z0 => ?_) (fun z2 => ?_)
    · refine s_Answers_rank_69 ?_
      refine x_callV (As := []) (b := ao) (rest := []) (F1 := 1) (L1 := 20) (mc := 0) (ms := 0) d_Answers_rank_70 cV_Answers_61 (g_sortS R0.1 R0.2.2.1 R0.2.2.2.2.1 R0.2.2.2.2.2.1 (by omega) (by omega)) R0.1 ⟨by decide, rfl⟩ ⟨by omega, by show 8 + (3 + 11) + 20 ≤ _; omega⟩ ⟨by omega, by omega⟩ (Nat.le_of_ble_eq_true rfl) (fun v hz q => ?_)
      obtain ⟨rfl, ⟨f4', e4', ho⟩, r4⟩ := q
      refine x_le (xw_le_n (xw_le_n (xw_le_n (xw_le_n (xw_le_n (xw_le_n (xw_le_n (xw_le_n (xw_le_n (xw_le_n xw_le_e)))))))))) ?_
      refine s_Answers_rank_73 ?_
      obtain ⟨y_ao, y_o1, y_o2, y_o3, y_o4, ysz, -⟩ := id R0
      exact ⟨rfl, ⟨_, f4', ⟨r4 ao _ (nm1 (xw_neC y_ao y_o4 (by simp))) y_ao, r4 o1 _ (nm1 n14) y_o1, r4 o2 _ (nm1 (xw_neC y_o2 y_o4 (by simp))) y_o2, r4 o3 _ (nm1 n34) y_o3, e4', ysz, ho.ix⟩, (fun j hj => by rw [hg0 j hj, ← hrcE, ← htcE]; unfold scR; rw [if_neg (fun q => absurd z0 (nI_nle q.2 (by omega)))]), ho⟩, r4.mono (by simp)⟩
    · have p1 : 0 < tc := Nat.pos_of_ne_zero (fun q => z2 (by rw [q]; decide))
      have p2 : 0 < rc := Nat.pos_of_ne_zero (fun q => z1 (by rw [q]; decide))
      have m1 := (me_i2d tc (by omega)).resolve_left (by omega)
      have m2 := (me_i2d rc (by omega)).resolve_left (by omega)
      have hav := po_ddiv m1 m2
      refine s_Answers_rank_24 (NN.num (PO.nn hav)) ?_
      refine lp_rankS (rc := rc) R0 f_so f_sp f_w hw0 hw1 hp12 FL hrw hg0 hrc hav (by omega) (by omega) (fun h2 f2 R2 hS2 r2 => ?_) p 0 _ _ (Nat.zero_add _) R0 (fun j hj => by rw [hg0 j hj]; rfl) FrO.rf
      refine s_Answers_rank_69 ?_
      refine x_callV (As := []) (b := ao) (rest := []) (F1 := 1) (L1 := 20) (mc := 0) (ms := 0) d_Answers_rank_70 cV_Answers_61 (g_sortS R2.1 R2.2.2.1 R2.2.2.2.2.1 R2.2.2.2.2.2.1 (by omega) (by omega)) R2.1 ⟨by decide, rfl⟩ ⟨by omega, by show 8 + (3 + 11) + 20 ≤ _; omega⟩ ⟨by omega, by omega⟩ (Nat.le_of_ble_eq_true rfl) (fun v hz q => ?_)
      obtain ⟨rfl, ⟨f4', e4', ho⟩, r4⟩ := q
      refine x_le (xw_le_n (xw_le_n (xw_le_n (xw_le_n (xw_le_n (xw_le_n (xw_le_n (xw_le_n (xw_le_n (xw_le_n xw_le_e)))))))))) ?_
      refine s_Answers_rank_73 ?_
      obtain ⟨y_ao, y_o1, y_o2, y_o3, y_o4, ysz, -⟩ := id R2
      exact ⟨rfl, ⟨_, f4', ⟨r4 ao _ (nm1 (xw_neC y_ao y_o4 (by simp))) y_ao, r4 o1 _ (nm1 n14) y_o1, r4 o2 _ (nm1 (xw_neC y_o2 y_o4 (by simp))) y_o2, r4 o3 _ (nm1 n34) y_o3, e4', ysz, ho.ix⟩, (fun j hj => by rw [hS2 j hj, ← hrcE, ← htcE]; unfold scR; rw [if_pos ⟨p2, p1⟩]; rfl), ho⟩, (r2.mono (by simp)).trans (r4.mono (by simp))⟩
