/-! the class in general states: by program (wip/tools/gen.py) -/
set_option maxHeartbeats 400000 in
theorem g_versionOf {G : xw_G} {F L : Nat} {h : xw_A} {r : Int32} {A : List Nat} {st s1 s2 s3 s4 : Nat} {fr fp fs fl : Nat → Option Nat} {pc sc lc : Nat} {pe vm sm : Int32} (K : StoC A st s1 s2 s3 s4 fr fp fs fl pc sc lc pe vm sm h) (hF : 1 ≤ F) (hL : 20 ≤ L) :
    xw_Met G m_Store_versionOf F L 0 0 [.ref st, .int r] h (fun v h' => (∃ o : Option Nat, v = some (va_rf o) ∧ (∀ a, o = some a → VerOK A h a ∧ ∃ j, 1 ≤ j ∧ j ≤ 24 ∧ r = nI j) ∧ ∀ j, 1 ≤ j → j ≤ 24 → r = nI j → o = fr j) ∧ h = h') (fun _ _ => False) := by
  refine xw_Met.of rfl (by decide) (Nat.le_of_ble_eq_true rfl) ?_
  obtain ⟨e_st, e_s1, e_s2, e_s3, e_s4, hpc, hsc, hlc, hR, hP, hS, hV, hAO⟩ := K
  refine s_Store_versionOf_0 (fun z_1 => ?_) (fun z_2 => ?_)
  · skip
    refine s_Store_versionOf_20 ?_
    refine s_Store_versionOf_21 (s0 := none) ?_
    exact ⟨⟨none, rfl, (fun a ha => nomatch ha), fun j9 h91 h92 e9 => absurd z_1 (row_rng h91 h92 e9).1⟩, rfl⟩
  · skip
    refine s_Store_versionOf_5 (fun z_3 => ?_) (fun z_4 => ?_)
    · skip
      refine s_Store_versionOf_20 ?_
      refine s_Store_versionOf_21 (s0 := none) ?_
      exact ⟨⟨none, rfl, (fun a ha => nomatch ha), fun j9 h91 h92 e9 => absurd z_3 (row_rng h91 h92 e9).2⟩, rfl⟩
    · skip
      refine s_Store_versionOf_11 (pending_a0 := some s2) (segments_a0 := some s3) (live_a0 := some s4) e_st e_s1 (row_in z_2 z_4) ?_
      refine s_Store_versionOf_21 (s0 := fr r.toNatClampNeg) ?_
      exact ⟨⟨_, rfl, fun a ha => ⟨hR _ a ha, row_ix z_2 z_4⟩, fun j9 h91 h92 e9 => by rw [e9, nI_clamp (by omega)]⟩, rfl⟩
set_option maxHeartbeats 1000000 in
theorem lp_rowCount {G : xw_G} {F L bc bs : Nat} {pr : Option Value → xw_A → Prop} {px : String → xw_A → Prop} {h : xw_A} {A : List Nat} {st s1 s2 s3 s4 : Nat} {fr fp fs fl : Nat → Option Nat} {pc sc lc : Nat} {pe vm sm : Int32} (K : StoC A st s1 s2 s3 s4 fr fp fs fl pc sc lc pe vm sm h) (kk : ∀ c : Nat, c ≤ 24 → c = cntS fr 24 → pr (some (.int (nI c))) h) :
    ∀ (dd i : Nat) (c : Nat), i + dd = 25 → (c = cntS fr (i - 1) ∧ 1 ≤ i) → xw G m_Store_rowCount F L bc bs pr px 4 [some (.ref st), some (.int (nI c)), some (.int (nI i))] [] h := by
  obtain ⟨e_st, e_s1, e_s2, e_s3, e_s4, hpc, hsc, hlc, hR, hP, hS, hV, hAO⟩ := K
  intro dd
  induction dd with
  | zero =>
    intro i c hi hp
    obtain rfl : i = 25 := by omega
    refine s_Store_rowCount_4 (fun z_1 => ?_) (fun z => absurd (by decide) z)
    refine s_Store_rowCount_28 ?_
    exact kk _ (by rw [hp.1]; exact cntS_le _ _) hp.1
  | succ dd ih =>
    intro i c hi hp
    refine s_Store_rowCount_4 (fun z => absurd z (nI_nlt (a := 24) (show i ≤ 24 by omega) (by decide))) (fun z_1 => ?_)
    refine s_Store_rowCount_10 (pending_a0 := some s2) (segments_a0 := some s3) (live_a0 := some s4) e_st e_s1 (vp_in_nI (by omega) (by omega)) (fun z_2 => ?_) (fun a_3 z_4 => ?_)
    · skip
      refine s_Store_rowCount_22 ?_
      simp only [nI_1]
      exact ih (i + 1) _ (by omega) ⟨by rw [cntS_n (f := fr) hp.2 (by rw [nI_clamp (by omega)] at z_2; exact z_2), hp.1], by omega⟩
    · skip
      refine s_Store_rowCount_19 ?_
      refine s_Store_rowCount_22 ?_
      simp only [nI_1]
      exact ih (i + 1) _ (by omega) ⟨by rw [cntS_s (f := fr) hp.2 (by rw [nI_clamp (by omega)] at z_4; exact z_4), hp.1], by omega⟩
set_option maxHeartbeats 400000 in
theorem g_rowCount {G : xw_G} {F L : Nat} {h : xw_A} {A : List Nat} {st s1 s2 s3 s4 : Nat} {fr fp fs fl : Nat → Option Nat} {pc sc lc : Nat} {pe vm sm : Int32} (K : StoC A st s1 s2 s3 s4 fr fp fs fl pc sc lc pe vm sm h) (hF : 1 ≤ F) (hL : 20 ≤ L) :
    xw_Met G m_Store_rowCount F L 0 0 [.ref st] h (fun v h' => (∃ c : Nat, v = some (.int (nI c)) ∧ c ≤ 24 ∧ c = cntS fr 24) ∧ h = h') (fun _ _ => False) := by
  refine xw_Met.of rfl (by decide) (Nat.le_of_ble_eq_true rfl) ?_
  refine s_Store_rowCount_0 ?_
  exact lp_rowCount K (fun c hc hn => ⟨⟨c, rfl, hc, hn⟩, rfl⟩) 24 1 0 rfl ⟨rfl, by decide⟩
set_option maxHeartbeats 1000000 in
theorem lp_tokenCount {G : xw_G} {F L bc bs : Nat} {pr : Option Value → xw_A → Prop} {px : String → xw_A → Prop} {h : xw_A} {A : List Nat} {st s1 s2 s3 s4 : Nat} {fr fp fs fl : Nat → Option Nat} {pc sc lc : Nat} {pe vm sm : Int32} (K : StoC A st s1 s2 s3 s4 fr fp fs fl pc sc lc pe vm sm h) (hF : 2 ≤ F) (hL : 40 ≤ L) (kk : ∀ c : Nat, c ≤ 2400 → pr (some (.int (nI c))) h) :
    ∀ (dd i : Nat) (c : Nat), i + dd = 25 → c ≤ 96 * i → xw G m_Store_tokenCount F L bc bs pr px 4 [some (.ref st), some (.int (nI c)), some (.int (nI i))] [] h := by
  obtain ⟨e_st, e_s1, e_s2, e_s3, e_s4, hpc, hsc, hlc, hR, hP, hS, hV, hAO⟩ := K
  intro dd
  induction dd with
  | zero =>
    intro i c hi hp
    obtain rfl : i = 25 := by omega
    refine s_Store_tokenCount_4 (fun z_1 => ?_) (fun z => absurd (by decide) z)
    refine s_Store_tokenCount_37 ?_
    exact kk _ (by omega)
  | succ dd ih =>
    intro i c hi hp
    refine s_Store_tokenCount_4 (fun z => absurd z (nI_nlt (a := 24) (show i ≤ 24 by omega) (by decide))) (fun z_1 => ?_)
    refine s_Store_tokenCount_10 (pending_a0 := some s2) (segments_a0 := some s3) (live_a0 := some s4) e_st e_s1 (vp_in_nI (by omega) (by omega)) (fun z_2 => ?_) (fun a_3 z_4 => ?_)
    · skip
      refine s_Store_tokenCount_31 ?_
      simp only [nI_1, nI_add]
      exact ih (i + 1) _ (by omega) (by omega)
    · skip
      refine s_Store_tokenCount_19 (pending_a0 := some s2) (segments_a0 := some s3) (live_a0 := some s4) e_st e_s1 (vp_in_nI (by omega) (by omega)) ?_
      obtain ⟨vn, ve, vr, vp, vq, vl, vz, vj, vl2, vz2, vj2, ev1, ev2, ev3, hj1, hj2⟩ := (hR _ _ z_4).tokens
      rw [z_4]
      refine x_callV (As := []) (b := a_3) (rest := [.int (nI c)]) (F1 := 1) (L1 := 20) (mc := 0) (ms := 0) d_Store_tokenCount_26 cV_Store_29 (g_vtokens ev1 ev2 ev3 (by omega) (by omega)) ev1 ⟨by decide, rfl⟩ ⟨by omega, by show 8 + (1 + 11) + 20 ≤ _; omega⟩ ⟨by omega, by omega⟩ (Nat.le_of_ble_eq_true rfl) (fun v_6 h_5 p_7 => ?_)
      obtain ⟨rfl, rfl⟩ := p_7
      refine x_le (xw_le_s (xw_le_n (xw_le_s xw_le_e))) ?_
      refine s_Store_tokenCount_29 ?_
      refine s_Store_tokenCount_31 ?_
      simp only [nI_1, nI_add]
      exact ih (i + 1) _ (by omega) (by omega)
set_option maxHeartbeats 400000 in
theorem g_tokenCount {G : xw_G} {F L : Nat} {h : xw_A} {A : List Nat} {st s1 s2 s3 s4 : Nat} {fr fp fs fl : Nat → Option Nat} {pc sc lc : Nat} {pe vm sm : Int32} (K : StoC A st s1 s2 s3 s4 fr fp fs fl pc sc lc pe vm sm h) (hF : 2 ≤ F) (hL : 40 ≤ L) :
    xw_Met G m_Store_tokenCount F L 0 0 [.ref st] h (fun v h' => (∃ c : Nat, v = some (.int (nI c)) ∧ c ≤ 2400) ∧ h = h') (fun _ _ => False) := by
  refine xw_Met.of rfl (by decide) (Nat.le_of_ble_eq_true rfl) ?_
  refine s_Store_tokenCount_0 ?_
  exact lp_tokenCount K (by omega) (by omega) (fun c hc => ⟨⟨c, rfl, hc⟩, rfl⟩) 24 1 0 rfl (by decide)
set_option maxHeartbeats 1000000 in
theorem lp_freeRow {G : xw_G} {F L bc bs : Nat} {pr : Option Value → xw_A → Prop} {px : String → xw_A → Prop} {h : xw_A} {A : List Nat} {st s1 s2 s3 s4 : Nat} {fr fp fs fl : Nat → Option Nat} {pc sc lc : Nat} {pe vm sm : Int32} (K : StoC A st s1 s2 s3 s4 fr fp fs fl pc sc lc pe vm sm h) (kk : ∀ c : Nat, ((c = 0 ∧ ∀ j, 1 ≤ j → j ≤ 24 → fr j ≠ none) ∨ (1 ≤ c ∧ c ≤ 24 ∧ fr c = none ∧ ∀ j, 1 ≤ j → j < c → fr j ≠ none)) → pr (some (.int (nI c))) h) :
    ∀ (dd i : Nat) , i + dd = 25 → (1 ≤ i ∧ ∀ j, 1 ≤ j → j < i → fr j ≠ none) → xw G m_Store_freeRow F L bc bs pr px 2 [some (.ref st), some (.int (nI i))] [] h := by
  obtain ⟨e_st, e_s1, e_s2, e_s3, e_s4, hpc, hsc, hlc, hR, hP, hS, hV, hAO⟩ := K
  intro dd
  induction dd with
  | zero =>
    intro i  hi hp
    obtain rfl : i = 25 := by omega
    refine s_Store_freeRow_2 (fun z_1 => ?_) (fun z => absurd (by decide) z)
    refine s_Store_freeRow_25 ?_
    exact kk 0 (Or.inl ⟨rfl, fun j h1 h2 => hp.2 j h1 (by omega)⟩)
  | succ dd ih =>
    intro i  hi hp
    refine s_Store_freeRow_2 (fun z => absurd z (nI_nlt (a := 24) (show i ≤ 24 by omega) (by decide))) (fun z_1 => ?_)
    refine s_Store_freeRow_8 (pending_a0 := some s2) (segments_a0 := some s3) (live_a0 := some s4) e_st e_s1 (vp_in_nI (by omega) (by omega)) (fun z_2 => ?_) (fun a_3 z_4 => ?_)
    · skip
      refine s_Store_freeRow_17 ?_
      exact kk i (Or.inr ⟨hp.1, by omega, by rw [nI_clamp (by omega)] at z_2; exact z_2, hp.2⟩)
    · skip
      refine s_Store_freeRow_19 ?_
      simp only [nI_1]
      exact ih (i + 1) (by omega) ⟨by omega, fun j h1 h2 q0 => by by_cases q : j = i; (rw [q] at q0; rw [nI_clamp (by omega)] at z_4; exact nomatch (z_4.symm.trans q0)); (exact hp.2 j h1 (by omega) q0)⟩
set_option maxHeartbeats 400000 in
theorem g_freeRow {G : xw_G} {F L : Nat} {h : xw_A} {A : List Nat} {st s1 s2 s3 s4 : Nat} {fr fp fs fl : Nat → Option Nat} {pc sc lc : Nat} {pe vm sm : Int32} (K : StoC A st s1 s2 s3 s4 fr fp fs fl pc sc lc pe vm sm h) (hF : 1 ≤ F) (hL : 20 ≤ L) :
    xw_Met G m_Store_freeRow F L 0 0 [.ref st] h (fun v h' => (∃ c : Nat, v = some (.int (nI c)) ∧ ((c = 0 ∧ ∀ j, 1 ≤ j → j ≤ 24 → fr j ≠ none) ∨ (1 ≤ c ∧ c ≤ 24 ∧ fr c = none ∧ ∀ j, 1 ≤ j → j < c → fr j ≠ none))) ∧ h = h') (fun _ _ => False) := by
  refine xw_Met.of rfl (by decide) (Nat.le_of_ble_eq_true rfl) ?_
  refine s_Store_freeRow_0 ?_
  exact lp_freeRow K (fun c hc => ⟨⟨c, rfl, hc⟩, rfl⟩) 24 1 rfl ⟨by decide, fun j h1 h2 => absurd h2 (by omega)⟩
set_option maxHeartbeats 2000000 in
theorem g_gatherLive {G : xw_G} {F L : Nat} {h : xw_A} {a : Nat} {A : List Nat} {st s1 s2 s3 s4 : Nat} {fr fp fs fl : Nat → Option Nat} {pc sc lc : Nat} {pe vm sm : Int32} (K : StoC A st s1 s2 s3 s4 fr fp fs fl pc sc lc pe vm sm h) (SA : StA A st s1 s2 s3 s4) (hv : VerOK A h a) (hF : 1 ≤ F) (hL : 20 ≤ L) :
    xw_Met G m_Store_gatherLive F L 0 0 [.ref st, .ref a] h (fun v h' => v = none ∧ (∃ (fl' : Nat → Option Nat) (lc' : Nat), StoC A st s1 s2 s3 s4 fr fp fs fl' pc sc lc' pe vm sm h') ∧ FrO [st, s4] h h') (fun _ _ => False) := by
  refine xw_Met.of rfl (by decide) (Nat.le_of_ble_eq_true rfl) ?_
  have K0 := K
  obtain ⟨e_st, e_s1, e_s2, e_s3, e_s4, hpc, hsc, hlc, hR, hP, hS, hV, hAO⟩ := K
  obtain ⟨va, vn, ve, vr, vp, vq, ev, hr1, hr2, -⟩ := id hv
  have r0 : FrO [st, s4] h h := FrO.rf
  refine s_Store_gatherLive_0 (pending_a0 := some s2) (segments_a0 := some s3) (live_a0 := some s4) (first_a1 := some vp) (second_a1 := some vq) e_st ev e_s1 (vp_in_nI (by omega) (by omega)) (fun z_1 => ?_) (fun a_2 z_3 => ?_)
  · skip
    refine s_Store_gatherLive_29 ?_
    refine s_Store_gatherLive_30 (fun z_4 => ?_) (fun z => absurd z (by decide))
    refine s_Store_gatherLive_67 ?_
    exact ⟨rfl, ⟨fl, lc, K0⟩, r0⟩
  · skip
    obtain ⟨-, wn, we, wr, wp, wq, ew, -⟩ := hR _ _ z_3
    rw [z_3]
    refine s_Store_gatherLive_14 (first_a2 := some wp) (second_a2 := some wq) (first_a1 := some vp) (second_a1 := some vq) ew ev (fun z_5 => ?_) (fun z_6 => ?_)
    · skip
      refine s_Store_gatherLive_29 ?_
      refine s_Store_gatherLive_30 (fun z_7 => ?_) (fun z => absurd z (by decide))
      refine s_Store_gatherLive_67 ?_
      exact ⟨rfl, ⟨fl, lc, K0⟩, r0⟩
    · skip
      refine s_Store_gatherLive_25 ?_
      refine s_Store_gatherLive_30 (fun z => absurd z (by decide)) (fun z_8 => ?_)
      refine s_Store_gatherLive_35 (rows_a0 := some s1) (pending_a0 := some s2) (segments_a0 := some s3) e_st e_s4 (fun z_9 => ?_) (fun z_10 => ?_)
      · skip
        refine s_Store_gatherLive_67 ?_
        exact ⟨rfl, ⟨fl, lc, K0⟩, r0⟩
      · skip
        have hl1 : lc < 24 := Nat.lt_of_not_le (fun q => z_10 (nI_le q (by omega)))
        refine s_Store_gatherLive_47 (rows_a0 := some s1) (pending_a0 := some s2) (segments_a0 := some s3) (first_a1 := some vp) (second_a1 := some vq) e_st e_s4 (vp_in_nI hl1 (by decide)) ev ?_
        refine x_u2 (fun h_11 e_12 f_13 h_14 e_15 f_16 => ?_)
        have e_17 := (f_13 st (xw_neC e_st e_s4 (by simp))).trans e_st
        have e_18 := (f_13 s1 (xw_neC e_s1 e_s4 (by simp))).trans e_s1
        have e_19 := (f_13 s2 (xw_neC e_s2 e_s4 (by simp))).trans e_s2
        have e_20 := (f_13 s3 (xw_neC e_s3 e_s4 (by simp))).trans e_s3
        have e_21 := (f_13 a (xw_neC ev e_s4 (by simp))).trans ev
        have r_22 := r0.up (by simp) f_13
        have e_23 := (f_16 s1 (xw_neC e_18 e_17 (by simp))).trans e_18
        have e_24 := (f_16 s2 (xw_neC e_19 e_17 (by simp))).trans e_19
        have e_25 := (f_16 s3 (xw_neC e_20 e_17 (by simp))).trans e_20
        have e_26 := (f_16 s4 (xw_neC e_12 e_17 (by simp))).trans e_12
        have e_27 := (f_16 a (xw_neC ev e_st (by simp))).trans e_21
        have r_28 := r_22.up (by simp) f_16
        refine s_Store_gatherLive_67 ?_
        rw [nI_1] at e_15
        rw [nI_clamp (by omega)] at e_26
        exact ⟨rfl, ⟨_, lc + 1, e_15, e_23, e_24, e_25, e_26, hpc, hsc, by omega, allR hR r_28 (fun q hq => (List.mem_cons.mp hq).elim (fun z => by rw [z]; exact SA.1) (fun z => by rw [List.mem_singleton.mp z]; exact SA.2.2.2.2)), allV hP r_28 (fun q hq => (List.mem_cons.mp hq).elim (fun z => by rw [z]; exact SA.1) (fun z => by rw [List.mem_singleton.mp z]; exact SA.2.2.2.2)), allS hS r_28 (fun q hq => (List.mem_cons.mp hq).elim (fun z => by rw [z]; exact SA.1) (fun z => by rw [List.mem_singleton.mp z]; exact SA.2.2.2.2)), allV (allU hV hv) r_28 (fun q hq => (List.mem_cons.mp hq).elim (fun z => by rw [z]; exact SA.1) (fun z => by rw [List.mem_singleton.mp z]; exact SA.2.2.2.2)), hAO.fr r_28 (exC e_15 (exC e_26 exN))⟩, r_28⟩
set_option maxHeartbeats 2000000 in
theorem lp_gatherAll {G : xw_G} {F L bc bs : Nat} {pr : Option Value → xw_A → Prop} {px : String → xw_A → Prop} {h0 : xw_A} {A : List Nat} {st s1 s2 s3 s4 : Nat} {fr fp fs : Nat → Option Nat} {pc sc : Nat} {pe vm sm : Int32} {a vs n lv : Nat} {se : Int32} {f : Nat → Option Nat} (SA : StA A st s1 s2 s3 s4) (haA : a ∉ A) (hvA : vs ∉ A) (hn : n ≤ 24) (hF : 2 ≤ F) (hL : 43 ≤ L) (kk : ∀ (h : xw_A) (fl : Nat → Option Nat) (lc : Nat), StoC A st s1 s2 s3 s4 fr fp fs fl pc sc lc pe vm sm h → FrO [st, s4] h0 h → pr none h) :
    ∀ (dd i : Nat) (h : xw_A) (fl : Nat → Option Nat) (lc : Nat), i + dd = n → StoC A st s1 s2 s3 s4 fr fp fs fl pc sc lc pe vm sm h → h a = some (.inr (6, [.int (nI lv), .ref vs, .int se])) → h vs = some (oa n 10 f) → (∀ t, t < n → ∃ b, f t = some b ∧ VerOK A h b) → FrO [st, s4] h0 h → xw G m_Store_gatherAllLive F L bc bs pr px 2 [some (.ref st), some (.ref a), some (.int (nI i))] [] h := by
  intro dd
  induction dd with
  | zero =>
    intro i h fl lc hi K e_a e_vs hv r0
    obtain rfl : i = n := by omega
    have K0 := K
    obtain ⟨e_st, e_s1, e_s2, e_s3, e_s4, hpc, hsc, hlc, hR, hP, hS, hV, hAO⟩ := K0
    refine s_Store_gatherAllLive_2 e_a e_vs (fun z_1 => ?_) (fun z => absurd (nI_le (Nat.le_refl _) (by omega)) z)
    refine s_Store_gatherAllLive_27 ?_
    exact kk _ _ _ K r0
  | succ dd ih =>
    intro i h fl lc hi K e_a e_vs hv r0
    have K0 := K
    obtain ⟨e_st, e_s1, e_s2, e_s3, e_s4, hpc, hsc, hlc, hR, hP, hS, hV, hAO⟩ := K0
    refine s_Store_gatherAllLive_2 e_a e_vs (fun z => absurd z (nI_ge (b := n) (show i < n by omega) (by omega))) (fun z_1 => ?_)
    refine s_Store_gatherAllLive_11 e_a e_vs (vp_in_nI (by omega) (by omega)) ?_
    obtain ⟨b, hb, hbv⟩ := hv i (by omega)
    rw [nI_clamp (by omega), hb]
    refine x_callV (As := [.ref b]) (b := st) (rest := []) (F1 := 1) (L1 := 20) (mc := 0) (ms := 0) d_Store_gatherAllLive_18 cV_Store_54 (g_gatherLive K SA hbv (by omega) (by omega)) e_st ⟨by decide, rfl⟩ ⟨by omega, by show 8 + (4 + 11) + 20 ≤ _; omega⟩ ⟨by omega, by omega⟩ (Nat.le_of_ble_eq_true rfl) (fun v_7 h_6 p_8 => ?_)
    obtain ⟨rfl, ⟨fl_2, lc_3, K_4⟩, fr_5⟩ := p_8
    have e_9 := fr_5 a _ (by simp only [List.mem_cons, List.not_mem_nil, or_false, not_or]; exact ⟨fun z => haA (by rw [z]; exact SA.1), fun z => haA (by rw [z]; exact SA.2.2.2.2)⟩) e_a
    have e_10 := fr_5 vs _ (by simp only [List.mem_cons, List.not_mem_nil, or_false, not_or]; exact ⟨fun z => hvA (by rw [z]; exact SA.1), fun z => hvA (by rw [z]; exact SA.2.2.2.2)⟩) e_vs
    have r_11 := r0.trans fr_5
    refine s_Store_gatherAllLive_21 ?_
    rw [nI_1]
    exact ih (i + 1) _ _ _ (by omega) K_4 e_9 e_10 (allV hv fr_5 (fun q hq => (List.mem_cons.mp hq).elim (fun z => by rw [z]; exact SA.1) (fun z => by rw [List.mem_singleton.mp z]; exact SA.2.2.2.2))) r_11
set_option maxHeartbeats 400000 in
theorem g_gatherAll {G : xw_G} {F L : Nat} {h : xw_A} {a : Nat} {A : List Nat} {st s1 s2 s3 s4 : Nat} {fr fp fs fl : Nat → Option Nat} {pc sc lc : Nat} {pe vm sm : Int32} (K : StoC A st s1 s2 s3 s4 fr fp fs fl pc sc lc pe vm sm h) (SA : StA A st s1 s2 s3 s4) (hs : SegOK A h a) (hF : 2 ≤ F) (hL : 43 ≤ L) :
    xw_Met G m_Store_gatherAllLive F L 0 0 [.ref st, .ref a] h (fun v h' => v = none ∧ (∃ (fl' : Nat → Option Nat) (lc' : Nat), StoC A st s1 s2 s3 s4 fr fp fs fl' pc sc lc' pe vm sm h') ∧ FrO [st, s4] h h') (fun _ _ => False) := by
  refine xw_Met.of rfl (by decide) (Nat.le_of_ble_eq_true rfl) ?_
  obtain ⟨haA, vs, n, lv, se, f, e_a, hlv, hvA, e_vs, hn, hv⟩ := hs
  refine s_Store_gatherAllLive_0 ?_
  exact lp_gatherAll SA haA hvA hn (by omega) (by omega) (fun h2 fl lc K2 r2 => ⟨rfl, ⟨fl, lc, K2⟩, r2⟩) n 0 _ _ _ (Nat.zero_add _) K e_a e_vs hv FrO.rf
set_option maxHeartbeats 1000000 in
theorem lp_segsOf {G : xw_G} {F L bc bs : Nat} {pr : Option Value → xw_A → Prop} {px : String → xw_A → Prop} {h : xw_A} {y : Int32} {A : List Nat} {st s1 s2 s3 s4 : Nat} {fr fp fs fl : Nat → Option Nat} {pc sc lc : Nat} {pe vm sm : Int32} (K : StoC A st s1 s2 s3 s4 fr fp fs fl pc sc lc pe vm sm h) (kk : ∀ r : Int32, pr (some (.int r)) h) :
    ∀ (dd i : Nat) (r : Int32), i + dd = sc → xw G m_Store_segmentsOf F L bc bs pr px 4 [some (.ref st), some (.int y), some (.int r), some (.int (nI i))] [] h := by
  obtain ⟨e_st, e_s1, e_s2, e_s3, e_s4, hpc, hsc, hlc, hR, hP, hS, hV, hAO⟩ := K
  intro dd
  induction dd with
  | zero =>
    intro i r hi
    obtain rfl : i = sc := by omega
    refine s_Store_segmentsOf_4 (rows_a0 := some s1) (pending_a0 := some s2) (segments_a0 := some s3) (live_a0 := some s4) e_st (fun z_1 => ?_) (fun z => absurd (nI_le (Nat.le_refl _) (by omega)) z)
    refine s_Store_segmentsOf_34 ?_
    exact kk _
  | succ dd ih =>
    intro i r hi
    refine s_Store_segmentsOf_4 (rows_a0 := some s1) (pending_a0 := some s2) (segments_a0 := some s3) (live_a0 := some s4) e_st (fun z => absurd z (nI_ge (b := sc) (show i < sc by omega) (by omega))) (fun z_1 => ?_)
    obtain ⟨b, hb, -, vs, vn, lv, se, vf, eb, -⟩ := hS i (by omega)
    refine s_Store_segmentsOf_12 (g17 := b) (rows_a0 := some s1) (pending_a0 := some s2) (live_a0 := some s4) (versions_g17 := some vs) e_st e_s3 (vp_in_nI (by omega) (by omega)) (by rw [nI_clamp (by omega)]; exact hb) eb (fun _ => ?_) (fun _ => ?_)
    · skip
      refine s_Store_segmentsOf_28 ?_
      rw [nI_1]
      exact ih (i + 1) _ (by omega)
    · skip
      refine s_Store_segmentsOf_25 ?_
      refine s_Store_segmentsOf_28 ?_
      rw [nI_1]
      exact ih (i + 1) _ (by omega)
set_option maxHeartbeats 400000 in
theorem g_segsOf {G : xw_G} {F L : Nat} {h : xw_A} {y : Int32} {A : List Nat} {st s1 s2 s3 s4 : Nat} {fr fp fs fl : Nat → Option Nat} {pc sc lc : Nat} {pe vm sm : Int32} (K : StoC A st s1 s2 s3 s4 fr fp fs fl pc sc lc pe vm sm h) (hF : 1 ≤ F) (hL : 20 ≤ L) :
    xw_Met G m_Store_segmentsOf F L 0 0 [.ref st, .int y] h (fun v h' => (∃ r : Int32, v = some (.int r)) ∧ h = h') (fun _ _ => False) := by
  refine xw_Met.of rfl (by decide) (Nat.le_of_ble_eq_true rfl) ?_
  refine s_Store_segmentsOf_0 ?_
  exact lp_segsOf K (fun r => ⟨⟨r, rfl⟩, rfl⟩) _ 0 0 (Nat.zero_add _)
set_option maxHeartbeats 2000000 in
theorem lp_segInit {G : xw_G} {F L bc bs : Nat} {pr : Option Value → xw_A → Prop} {px : String → xw_A → Prop} {hb : xw_A} {A : List Nat} {a s4 n vs : Nat} {lv : Int32} {fl : Nat → Option Nat} (hn : n ≤ 24) (hba : hb a = some (.inr (6, [.int 0, .null, .int 0]))) (hbv : hb vs = none) (hb4 : hb s4 = some (oa 24 10 fl)) (hV : ∀ i, i < n → ∃ b, fl i = some b ∧ VerOK A hb b)
    (kk : ∀ (h : xw_A) (e : Int32) (f : Nat → Option Nat), h a = some (.inr (6, [.int lv, .ref vs, .int e])) → h vs = some (oa n 10 f) → (∀ i, i < n → f i = fl i) → FrO [a] hb h → pr none h) :
    ∀ (d i : Nat) (h : xw_A) (f : Nat → Option Nat) (r : Int32), i + d = n → h a = some (.inr (6, [.int lv, .ref vs, .int 0])) → h vs = some (oa n 10 f) → (∀ t, t < i → f t = fl t) → FrO [a] hb h → xw G m_Segment_init F L bc bs pr px 23 [some (.ref a), none, some (.ref s4), some (.int (nI n)), some (.int r), some (.int (nI i))] [] h := by
  have n4a : s4 ≠ a := xw_neC hb4 hba (by simp)
  have n4v : s4 ≠ vs := xw_neN hb4 hbv
  intro d
  induction d with
  | zero =>
    intro i h f r hi e_a e_vs hf r0
    obtain rfl : i = n := by omega
    refine s_Segment_init_23 (fun _ => ?_) (fun z => absurd (nI_le (Nat.le_refl _) (by omega)) z)
    refine s_Segment_init_58 (versions_a0 := some vs) e_a ?_
    have nva : vs ≠ a := xw_neC e_vs e_a (by simp)
    exact kk _ r f (xw_up_s _ _ _) ((xw_up_n _ _ nva).trans e_vs) hf (r0.up (by simp) (fun q hq => xw_up_n _ _ hq))
  | succ d ih =>
    intro i h f r hi e_a e_vs hf r0
    refine s_Segment_init_23 (fun z => absurd z (nI_ge (b := n) (show i < n by omega) (by omega))) (fun _ => ?_)
    obtain ⟨b, hb1, hb2⟩ := hV i (by omega)
    obtain ⟨-, vn, ve, vr, vp, vq, ev, -⟩ := id hb2
    have nba : b ≠ a := xw_neC ev hba (by simp)
    have e_4 := r0 s4 _ (by simp [n4a]) hb4
    have e_b := r0 b _ (by simp [nba]) ev
    refine s_Segment_init_29 (g38 := b) (g45 := b) (first_g38 := some vp) (second_g38 := some vq) (first_g45 := some vp) (second_g45 := some vq) e_a e_4 (vp_in_nI (by omega) (by decide)) (by rw [nI_clamp (by omega)]; exact hb1) e_vs (vp_in_nI (by omega) (by omega)) e_b (vp_in_nI (by omega) (by decide)) (by rw [nI_clamp (by omega)]; exact hb1) n4v e_b ?_
    have nav : a ≠ vs := xw_neC e_a e_vs (by simp)
    rw [nI_1, nI_clamp (by omega)]
    refine ih (i + 1) _ _ _ (by omega) ((xw_up_n _ _ nav).trans e_a) (xw_up_s _ _ _) (fun t ht => ?_) ?_
    · by_cases et : t = i
      · subst et
        rw [va_up_self, hb1]
      · rw [va_up_ne _ _ et]
        exact hf t (by omega)
    · exact FrO.newB FrO.rf hbv (by simp [Ne.symm nav]) r0 (fun q hq => xw_up_n _ _ hq)
set_option maxHeartbeats 1000000 in
theorem g_segInit {G : xw_G} {F L : Nat} {h : xw_A} {A : List Nat} {a s4 n : Nat} {lv : Int32} {fl : Nat → Option Nat} (hn : n ≤ 24) (e_a : h a = some (.inr (6, [.int 0, .null, .int 0]))) (e_4 : h s4 = some (oa 24 10 fl)) (hV : ∀ i, i < n → ∃ b, fl i = some b ∧ VerOK A h b) (hF : 1 ≤ F) (hL : 20 ≤ L) :
    xw_Met G m_Segment_init F L 1 24 [.ref a, .int lv, .ref s4, .int (nI n)] h (fun v h' => v = none ∧ ∃ (vs : Nat) (e : Int32) (f : Nat → Option Nat), h' a = some (.inr (6, [.int lv, .ref vs, .int e])) ∧ h vs = none ∧ h' vs = some (oa n 10 f) ∧ (∀ i, i < n → f i = fl i) ∧ FrO [a] h h') (fun _ _ => False) := by
  have e1 : (nI n).toNatClampNeg = n := nI_clamp (by omega)
  refine xw_Met.of rfl (by decide) (Nat.le_of_ble_eq_true rfl) ?_
  refine s_Segment_init_0 (versions_a0 := none) ⟨hF, by omega⟩ e_a (nI_pos (by omega)) (by rw [e1]; omega) (by rw [e1]; omega) (fun q hq => ?_)
  obtain ⟨n1, y1⟩ := xw_upN hq
  rw [e1]
  refine lp_segInit hn e_a y1 e_4 hV (fun h2 e f a1 a2 a3 a4 => ⟨rfl, q, e, f, a1, y1, a2, a3, a4⟩) n 0 _ (fun _ => none) 0 (Nat.zero_add _) (xw_up_s _ _ _) ?_ (fun t ht => absurd ht (Nat.not_lt_zero _)) ?_
  · rw [xw_up_n _ _ n1, xw_up_s]
  · intro p e hp he
    simp only [List.mem_cons, List.not_mem_nil, or_false] at hp
    rw [xw_up_n _ _ hp, xw_up_n _ _ (xw_neN he y1), xw_up_n _ _ hp]
    exact he
set_option maxHeartbeats 2000000 in
theorem g_addSeg {G : xw_G} {F L : Nat} {h : xw_A} {lv : Nat} {A : List Nat} {st s1 s2 s3 s4 : Nat} {fr fp fs fl : Nat → Option Nat} {pc sc lc : Nat} {pe vm sm : Int32} (K : StoC A st s1 s2 s3 s4 fr fp fs fl pc sc lc pe vm sm h) (SA : StA A st s1 s2 s3 s4) (hlv : lv ≤ 5) (hF : 2 ≤ F) (hL : 60 ≤ L) :
    xw_Met G m_Store_addSegment F L 2 27 [.ref st, .int (nI lv)] h (fun v h' => v = none ∧ (∃ (fs' : Nat → Option Nat) (sc' : Nat) (sm' : Int32), StoC A st s1 s2 s3 s4 fr fp fs' fl pc sc' lc pe vm sm' h') ∧ FrO [st, s3] h h') (fun _ _ => False) := by
  have K0 := K
  obtain ⟨e_st, e_s1, e_s2, e_s3, e_s4, hpc, hsc, hlc, hR, hP, hS, hV, hAO⟩ := K
  have SB : ∀ q ∈ [st, s3], q ∈ A := suC SA.1 (suC SA.2.2.2.1 suN)
  refine xw_Met.of rfl (by decide) (Nat.le_of_ble_eq_true rfl) ?_
  refine s_Store_addSegment_0 (rows_a0 := some s1) (pending_a0 := some s2) (segments_a0 := some s3) (live_a0 := some s4) e_st (fun _ => s_Store_addSegment_62 ⟨rfl, ⟨fs, sc, sm, K0⟩, FrO.rf⟩) (fun z1 => ?_)
  refine s_Store_addSegment_7 (rows_a0 := some s1) (pending_a0 := some s2) (segments_a0 := some s3) (live_a0 := some s4) e_st (fun _ => s_Store_addSegment_62 ⟨rfl, ⟨fs, sc, sm, K0⟩, FrO.rf⟩) (fun z2 => ?_)
  have hs1 : sc < 512 := Nat.lt_of_not_le (fun q => z2 (nI_le q (by omega)))
  refine s_Store_addSegment_17 (rows_a0 := some s1) (pending_a0 := some s2) (segments_a0 := some s3) (live_a0 := some s4) e_st ⟨by omega, by omega⟩ (fun q hq => ?_)
  have fz : FrO [] h (xw_up h q (.inr (6, [.int 0, .null, .int 0]))) := fun p e _ he => (xw_up_n _ _ (xw_neN he hq)).trans he
  refine x_callI (As := [.int (nI lv), .ref s4, .int (nI lc)]) (b := q) (rest := [.ref q, .int (nI sc), .ref s3]) (F1 := 1) (L1 := 20) (mc := 1) (ms := 24) d_Store_addSegment_38 cI_Store_95 (g_segInit (A := A) (n := lc) hlc (xw_up_s _ _ _) (fz s4 _ (by simp) e_s4) (allV hV fz suN) (by omega) (by omega)) ⟨by omega, by show 8 + (6 + 11) + 20 ≤ _; omega⟩ ⟨by omega, by omega⟩ (Nat.le_of_ble_eq_true rfl) (fun v h2 p => ?_)
  obtain ⟨rfl, vs, e, f, e1, y1, e2, hv, fr9⟩ := p
  obtain ⟨nv, y2⟩ := xw_upN y1
  have F0 : FrO [] h h2 := fun p e _ he => fr9 p e (by simp only [List.mem_cons, List.not_mem_nil, or_false]; exact xw_neN he hq) ((xw_up_n _ _ (xw_neN he hq)).trans he)
  have F1 : FrO [q] (xw_up h q (.inr (6, [.int 0, .null, .int 0]))) h2 := fr9
  have E0 := F0 st _ (by simp) e_st
  have E1 := F0 s1 _ (by simp) e_s1
  have E2 := F0 s2 _ (by simp) e_s2
  have E3 := F0 s3 _ (by simp) e_s3
  have E4 := F0 s4 _ (by simp) e_s4
  refine x_le (xw_le_s (xw_le_n xw_le_e)) ?_
  refine s_Store_addSegment_41 (rows_a0 := some s1) (pending_a0 := some s2) (segments_a0 := some s3) (live_a0 := some s4) (versions_b0 := some vs) E3 (vp_in_nI hs1 (by decide)) e1 E0 ?_
  rw [xw_up_up, nI_1, nI_clamp (by omega)]
  refine s_Store_addSegment_62 ?_
  have n30 : s3 ≠ st := xw_neC e_s3 e_st (by simp)
  have nq0 : q ≠ st := Ne.symm (xw_neN e_st hq)
  have nq3 : q ≠ s3 := Ne.symm (xw_neN e_s3 hq)
  have nv0 : vs ≠ st := Ne.symm (xw_neN e_st y2)
  have nv3 : vs ≠ s3 := Ne.symm (xw_neN e_s3 y2)
  have up : ∀ {p : Nat}, p ≠ st → p ≠ s3 → ∀ {c d : xw_C}, xw_up (xw_up h2 s3 c) st d p = h2 p := fun h1 h3 _ _ => by rw [xw_up_n _ _ h1, xw_up_n _ _ h3]
  have F2 : ∀ {c d : xw_C}, FrO [st, s3] h2 (xw_up (xw_up h2 s3 c) st d) := fun p e hp he => by
    simp only [List.mem_cons, List.not_mem_nil, or_false, not_or] at hp
    rw [up hp.1 hp.2]
    exact he
  have F3 : ∀ {c d : xw_C}, FrO [st, s3] h (xw_up (xw_up h2 s3 c) st d) := (F0.mono (fun _ h => nomatch h)).trans F2
  refine ⟨rfl, ⟨va_up fs sc (some q), sc + 1, _, xw_up_s _ _ _, ?_, ?_, ?_, ?_, hpc, by omega, hlc, allR hR F3 SB, allV hP F3 SB, allU (allS hS F3 SB) ?_, allV hV F3 SB, ?_⟩, F3⟩
  · rw [up (xw_neC e_s1 e_st (by simp)) (xw_neC e_s1 e_s3 (by simp))]; exact E1
  · rw [up (xw_neC e_s2 e_st (by simp)) (xw_neC e_s2 e_s3 (by simp))]; exact E2
  · rw [xw_up_n _ _ n30, xw_up_s]
  · rw [up (xw_neC e_s4 e_st (by simp)) (xw_neC e_s4 e_s3 (by simp))]; exact E4
  · refine ⟨hAO.new hq, vs, lc, lv, e, f, ?_, hlv, hAO.new y2, ?_, hlc, fun t ht => ?_⟩
    · rw [up nq0 nq3]; exact e1
    · rw [up nv0 nv3]; exact e2
    · obtain ⟨b, b1, b2⟩ := hV t ht
      exact ⟨b, (hv t ht).trans b1, b2.fr F3 SB⟩
  · exact hAO.fr F3 (exC (xw_up_s _ _ _) (exC (by rw [xw_up_n _ _ n30]; exact xw_up_s _ _ _) exN))
set_option maxHeartbeats 2000000 in
theorem lp_merge {G : xw_G} {F L bc bs : Nat} {pr : Option Value → xw_A → Prop} {px : String → xw_A → Prop} {h0 : xw_A} {A : List Nat} {st s1 s2 s3 s4 : Nat} {fr fp : Nat → Option Nat} {pc sc lv : Nat} {pe vm sm x y : Int32} (SA : StA A st s1 s2 s3 s4) (hlv : lv ≤ 5) (hb2 : 2 ≤ bc ∧ 27 ≤ bs) (hF : 3 ≤ F) (hL : 100 ≤ L) (kk : ∀ (h : xw_A) (fs fl : Nat → Option Nat) (sc lc : Nat) (sm : Int32), StoC A st s1 s2 s3 s4 fr fp fs fl pc sc lc pe vm sm h → FrO [st, s3, s4] h0 h → pr none h) :
    ∀ (dd i : Nat) (h : xw_A) (fs : Nat → Option Nat) (fl : Nat → Option Nat) (lc : Nat) (t : Nat), i + dd = sc → StoC A st s1 s2 s3 s4 fr fp fs fl pc sc lc pe vm sm h → t ≤ i → FrO [st, s3, s4] h0 h → xw G m_Store_mergeLevels F L bc bs pr px 11 [some (.ref st), some (.int x), some (.int y), some (.int (nI lv)), some (.int (nI t)), some (.int (nI i)), none] [] h := by
  intro dd
  induction dd with
  | zero =>
    intro i h fs fl lc t hi K ht r0
    obtain rfl : i = sc := by omega
    have K0 := K
    obtain ⟨e_st, e_s1, e_s2, e_s3, e_s4, hpc, hsc, hlc, hR, hP, hS, hV, hAO⟩ := K0
    refine s_Store_mergeLevels_11 (rows_a0 := some s1) (pending_a0 := some s2) (segments_a0 := some s3) (live_a0 := some s4) e_st (fun z_1 => ?_) (fun z => absurd (nI_le (Nat.le_refl _) (by omega)) z)
    refine s_Store_mergeLevels_74 (rows_a0 := some s1) (pending_a0 := some s2) (segments_a0 := some s3) (live_a0 := some s4) e_st ?_
    refine x_u1 (fun h1 e1 f1 => ?_)
    have fq : FrO [st] h h1 := FrO.rf.up (by simp) f1
    have K1 : StoC A st s1 s2 s3 s4 fr fp fs fl pc t lc pe vm sm h1 := ⟨e1, (f1 s1 (xw_neC e_s1 e_st (by simp))).trans e_s1, (f1 s2 (xw_neC e_s2 e_st (by simp))).trans e_s2, (f1 s3 (xw_neC e_s3 e_st (by simp))).trans e_s3, (f1 s4 (xw_neC e_s4 e_st (by simp))).trans e_s4, hpc, by omega, hlc, allR hR fq (suC SA.1 suN), allV hP fq (suC SA.1 suN), fun j hj => allS hS fq (suC SA.1 suN) j (by omega), allV hV fq (suC SA.1 suN), hAO.fr fq (exC e1 exN)⟩
    refine x_callV (As := [.int (nI lv)]) (b := st) (rest := []) (F1 := 2) (L1 := 60) (mc := 2) (ms := 27) d_Store_mergeLevels_82 cV_Store_58 (g_addSeg K1 SA hlv (by omega) (by omega)) e1 ⟨by decide, rfl⟩ ⟨by omega, by show 8 + (2 + 11) + 60 ≤ _; omega⟩ ⟨by omega, by omega⟩ (Nat.le_of_ble_eq_true rfl) (fun v h2 p => ?_)
    obtain ⟨rfl, ⟨fs2, sc2, sm2, K2⟩, r2⟩ := p
    refine x_le (xw_le_n (xw_le_n (xw_le_n (xw_le_n (xw_le_n (xw_le_n (xw_le_n xw_le_e))))))) ?_
    exact s_Store_mergeLevels_85 (kk _ _ _ _ _ _ K2 ((r0.trans (fq.mono (by simp))).trans (r2.mono (by simp))))
  | succ dd ih =>
    intro i h fs fl lc t hi K ht r0
    have K0 := K
    obtain ⟨e_st, e_s1, e_s2, e_s3, e_s4, hpc, hsc, hlc, hR, hP, hS, hV, hAO⟩ := K0
    refine s_Store_mergeLevels_11 (rows_a0 := some s1) (pending_a0 := some s2) (segments_a0 := some s3) (live_a0 := some s4) e_st (fun z => absurd z (nI_ge (b := sc) (show i < sc by omega) (by omega))) (fun z_1 => ?_)
    obtain ⟨b, hb, hbs⟩ := hS i (by omega)
    obtain ⟨hbA, vs, vn, lw, se, vf, eb, -⟩ := id hbs
    refine s_Store_mergeLevels_20 (g26 := b) (rows_a0 := some s1) (pending_a0 := some s2) (live_a0 := some s4) (versions_g26 := some vs) e_st e_s3 (vp_in_nI (by omega) (by decide)) (by rw [nI_clamp (by omega)]; exact hb) eb (fun _ => ?_) (fun _ => ?_)
    · skip
      refine s_Store_mergeLevels_47 (rows_a0 := some s1) (pending_a0 := some s2) (live_a0 := some s4) (versions_a6 := some vs) e_st e_s3 (vp_in_nI (by omega) (by decide)) eb ?_
      refine x_u1 (fun h_2 e_3 f_4 => ?_)
      have e_5 := (f_4 st (xw_neC e_st e_s3 (by simp))).trans e_st
      have e_6 := (f_4 s1 (xw_neC e_s1 e_s3 (by simp))).trans e_s1
      have e_7 := (f_4 s2 (xw_neC e_s2 e_s3 (by simp))).trans e_s2
      have e_8 := (f_4 s4 (xw_neC e_s4 e_s3 (by simp))).trans e_s4
      have e_9 := (f_4 b (xw_neC eb e_s3 (by simp))).trans eb
      have r_10 := r0.up (by simp) f_4
      have fq_11 : FrO [s3] h h_2 := FrO.rf.up (by simp) f_4
      refine s_Store_mergeLevels_68 ?_
      rw [nI_clamp (by omega)] at e_3
      simp only [nI_1]
      exact ih (i + 1) _ _ _ _ _ (by omega) ⟨e_5, e_6, e_7, e_3, e_8, hpc, hsc, hlc, allR hR fq_11 (suC SA.2.2.2.1 suN), allV hP fq_11 (suC SA.2.2.2.1 suN), allS (allW hS hbs) fq_11 (suC SA.2.2.2.1 suN), allV hV fq_11 (suC SA.2.2.2.1 suN), hAO.fr fq_11 (exC e_3 exN)⟩ (by omega) r_10
    · skip
      refine s_Store_mergeLevels_38 (versions_a6 := some vs) eb (fun z_12 => ?_) (fun z_13 => ?_)
      · skip
        refine s_Store_mergeLevels_62 ?_
        refine x_callV (As := [.ref b]) (b := st) (rest := []) (F1 := 2) (L1 := 43) (mc := 0) (ms := 0) d_Store_mergeLevels_65 cV_Store_82 (g_gatherAll K SA hbs (by omega) (by omega)) e_st ⟨by decide, rfl⟩ ⟨by omega, by show 8 + (3 + 11) + 43 ≤ _; omega⟩ ⟨by omega, by omega⟩ (Nat.le_of_ble_eq_true rfl) (fun v_19 h_18 p_20 => ?_)
        obtain ⟨rfl, ⟨fl_14, lc_15, K_16⟩, fr_17⟩ := p_20
        have r_21 := r0.trans (fr_17.mono (by simp))
        refine x_le (xw_le_s (xw_le_s (xw_le_s (xw_le_s (xw_le_s (xw_le_s (xw_le_n xw_le_e))))))) ?_
        refine s_Store_mergeLevels_68 ?_
        rw [nI_1]
        exact ih (i + 1) _ _ _ _ _ (by omega) K_16 (by omega) r_21
      · skip
        refine s_Store_mergeLevels_47 (rows_a0 := some s1) (pending_a0 := some s2) (live_a0 := some s4) (versions_a6 := some vs) e_st e_s3 (vp_in_nI (by omega) (by decide)) eb ?_
        refine x_u1 (fun h_22 e_23 f_24 => ?_)
        have e_25 := (f_24 st (xw_neC e_st e_s3 (by simp))).trans e_st
        have e_26 := (f_24 s1 (xw_neC e_s1 e_s3 (by simp))).trans e_s1
        have e_27 := (f_24 s2 (xw_neC e_s2 e_s3 (by simp))).trans e_s2
        have e_28 := (f_24 s4 (xw_neC e_s4 e_s3 (by simp))).trans e_s4
        have e_29 := (f_24 b (xw_neC eb e_s3 (by simp))).trans eb
        have r_30 := r0.up (by simp) f_24
        have fq_31 : FrO [s3] h h_22 := FrO.rf.up (by simp) f_24
        refine s_Store_mergeLevels_68 ?_
        rw [nI_clamp (by omega)] at e_23
        simp only [nI_1]
        exact ih (i + 1) _ _ _ _ _ (by omega) ⟨e_25, e_26, e_27, e_23, e_28, hpc, hsc, hlc, allR hR fq_31 (suC SA.2.2.2.1 suN), allV hP fq_31 (suC SA.2.2.2.1 suN), allS (allW hS hbs) fq_31 (suC SA.2.2.2.1 suN), allV hV fq_31 (suC SA.2.2.2.1 suN), hAO.fr fq_31 (exC e_23 exN)⟩ (by omega) r_30
