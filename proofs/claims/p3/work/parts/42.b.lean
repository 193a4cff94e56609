/-! the class in general states: by program (wip/tools/gen.py) -/
set_option maxHeartbeats 400000 in
theorem g_versionOf {G : xw_G} {F L : Nat} {h : xw_A} {r : Int32} {A : List Nat} {st s1 s2 s3 s4 : Nat} {fr fp fs fl : Nat → Option Nat} {pc sc lc : Nat} {pe vm sm : Int32} (K : StoC A st s1 s2 s3 s4 fr fp fs fl pc sc lc pe vm sm h) (hF : 1 ≤ F) (hL : 20 ≤ L) :
    xw_Met G m_Store_versionOf F L 0 0 [.ref st, .int r] h (fun v h' => (∃ o : Option Nat, v = some (va_rf o) ∧ (∀ a, o = some a → VerOK A h a ∧ ∃ j, 1 ≤ j ∧ j ≤ 24 ∧ r = nI j) ∧ ∀ j, 1 ≤ j → j ≤ 24 → r = nI j → o = fr j) ∧ h = h') (fun _ _ => False) := by
  refine xw_Met.of rfl (by decide) (Nat.le_of_ble_eq_true rfl) ?_
  obtain ⟨e_st, e_s1, e_s2, e_s3, e_s4, hpc, hsc, hlc, hR, hP, hS, hV, hAO⟩ := K
  refine s_Store_versionOf_0 (fun z_1 => ?_) (fun z_2 => ?_)
  · skip
    refine s_Store_versionOf_20 ?_
    refine s_Store_versionOf_21 (s0 := none) ?_
    exact ⟨⟨none, rfl, (fun a ha => nomatch ha), fun j9 h91 h92 e9 => absurd z_1 (row_rng h91 h92 e9).1⟩, rfl⟩
  · skip
    refine s_Store_versionOf_5 (fun z_3 => ?_) (fun z_4 => ?_)
    · skip
      refine s_Store_versionOf_20 ?_
      refine s_Store_versionOf_21 (s0 := none) ?_
      exact ⟨⟨none, rfl, (fun a ha => nomatch ha), fun j9 h91 h92 e9 => absurd z_3 (row_rng h91 h92 e9).2⟩, rfl⟩
    · skip
      refine s_Store_versionOf_11 (pending_a0 := some s2) (segments_a0 := some s3) (live_a0 := some s4) e_st e_s1 (row_in z_2 z_4) ?_
      refine s_Store_versionOf_21 (s0 := fr r.toNatClampNeg) ?_
      exact ⟨⟨_, rfl, fun a ha => ⟨hR _ a ha, row_ix z_2 z_4⟩, fun j9 h91 h92 e9 => by rw [e9, nI_clamp (by omega)]⟩, rfl⟩
set_option maxHeartbeats 1000000 in
theorem lp_rowCount {G : xw_G} {F L bc bs : Nat} {pr : Option Value → xw_A → Prop} {px : String → xw_A → Prop} {h : xw_A} {A : List Nat} {st s1 s2 s3 s4 : Nat} {fr fp fs fl : Nat → Option Nat} {pc sc lc : Nat} {pe vm sm : Int32} (K : StoC A st s1 s2 s3 s4 fr fp fs fl pc sc lc pe vm sm h) (kk : ∀ c : Nat, c ≤ 24 → c = cntS fr 24 → pr (some (.int (nI c))) h) :
    ∀ (dd i : Nat) (c : Nat), i + dd = 25 → (c = cntS fr (i - 1) ∧ 1 ≤ i) → xw G m_Store_rowCount F L bc bs pr px 4 [some (.ref st), some (.int (nI c)), some (.int (nI i))] [] h := by
  obtain ⟨e_st, e_s1, e_s2, e_s3, e_s4, hpc, hsc, hlc, hR, hP, hS, hV, hAO⟩ := K
  intro dd
  induction dd with
  | zero =>
    intro i c hi hp
    obtain rfl : i = 25 := by omega
    refine s_Store_rowCount_4 (fun z_1 => ?_) (fun z => absurd (by decide) z)
    refine s_Store_rowCount_28 ?_
    exact kk _ (by rw [hp.1]; exact cntS_le _ _) hp.1
  | succ dd ih =>
    intro i c hi hp
    refine s_Store_rowCount_4 (fun z => absurd z (nI_nlt (a := 24) (show i ≤ 24 by omega) (by decide))) (fun z_1 => ?_)
    refine s_Store_rowCount_10 (pending_a0 := some s2) (segments_a0 := some s3) (live_a0 := some s4) e_st e_s1 (vp_in_nI (by omega) (by omega)) (fun z_2 => ?_) (fun a_3 z_4 => ?_)
    · skip
      refine s_Store_rowCount_22 ?_
      simp only [nI_1]
      exact ih (i + 1) _ (by omega) ⟨by rw [cntS_n (f := fr) hp.2 (by rw [nI_clamp (by omega)] at z_2; exact z_2), hp.1], by omega⟩
    · skip
      refine s_Store_rowCount_19 ?_
      refine s_Store_rowCount_22 ?_
      simp only [nI_1]
      exact ih (i + 1) _ (by omega) ⟨by rw [cntS_s (f := fr) hp.2 (by rw [nI_clamp (by omega)] at z_4; exact z_4), hp.1], by omega⟩
set_option maxHeartbeats 400000 in
theorem g_rowCount {G : xw_G} {F L : Nat} {h : xw_A} {A : List Nat} {st s1 s2 s3 s4 : Nat} {fr fp fs fl : Nat → Option Nat} {pc sc lc : Nat} {pe vm sm : Int32} (K : StoC A st s1 s2 s3 s4 fr fp fs fl pc sc lc pe vm sm h) (hF : 1 ≤ F) (hL : 20 ≤ L) :
    xw_Met G m_Store_rowCount F L 0 0 [.ref st] h (fun v h' => (∃ c : Nat, v = some (.int (nI c)) ∧ c ≤ 24 ∧ c = cntS fr 24) ∧ h = h') (fun _ _ => False) := by
  refine xw_Met.of rfl (by decide) (Nat.le_of_ble_eq_true rfl) ?_
  refine s_Store_rowCount_0 ?_
  exact lp_rowCount K (fun c hc hn => ⟨⟨c, rfl, hc, hn⟩, rfl⟩) 24 1 0 rfl ⟨rfl, by decide⟩
set_option maxHeartbeats 1000000 in
theorem lp_tokenCount {G : xw_G} {F L bc bs : Nat} {pr : Option Value → xw_A → Prop} {px : String → xw_A → Prop} {h : xw_A} {A : List Nat} {st s1 s2 s3 s4 : Nat} {fr fp fs fl : Nat → Option Nat} {pc sc lc : Nat} {pe vm sm : Int32} (K : StoC A st s1 s2 s3 s4 fr fp fs fl pc sc lc pe vm sm h) (hF : 2 ≤ F) (hL : 40 ≤ L) (kk : ∀ c : Nat, c ≤ 2400 → pr (some (.int (nI c))) h) :
    ∀ (dd i : Nat) (c : Nat), i + dd = 25 → c ≤ 96 * i → xw G m_Store_tokenCount F L bc bs pr px 4 [some (.ref st), some (.int (nI c)), some (.int (nI i))] [] h := by
  obtain ⟨e_st, e_s1, e_s2, e_s3, e_s4, hpc, hsc, hlc, hR, hP, hS, hV, hAO⟩ := K
  intro dd
  induction dd with
  | zero =>
    intro i c hi hp
    obtain rfl : i = 25 := by omega
    refine s_Store_tokenCount_4 (fun z_1 => ?_) (fun z => absurd (by decide) z)
    refine s_Store_tokenCount_37 ?_
    exact kk _ (by omega)
  | succ dd ih =>
    intro i c hi hp
    refine s_Store_tokenCount_4 (fun z => absurd z (nI_nlt (a := 24) (show i ≤ 24 by omega) (by decide))) (fun z_1 => ?_)
    refine s_Store_tokenCount_10 (pending_a0 := some s2) (segments_a0 := some s3) (live_a0 := some s4) e_st e_s1 (vp_in_nI (by omega) (by omega)) (fun z_2 => ?_) (fun a_3 z_4 => ?_)
    · skip
      refine s_Store_tokenCount_31 ?_
      simp only [nI_1, nI_add]
      exact ih (i + 1) _ (by omega) (by omega)
    · skip
      refine s_Store_tokenCount_19 (pending_a0 := some s2) (segments_a0 := some s3) (live_a0 := some s4) e_st e_s1 (vp_in_nI (by omega) (by omega)) ?_
      obtain ⟨vn, ve, vr, vp, vq, vl, vz, vj, vl2, vz2, vj2, ev1, ev2, ev3, hj1, hj2⟩ := (hR _ _ z_4).tokens
      rw [z_4]
      refine x_callV (As := []) (b := a_3) (rest := [.int (nI c)]) (F1 := 1) (L1 := 20) (mc := 0) (ms := 0) d_Store_tokenCount_26 cV_Store_29 (g_vtokens ev1 ev2 ev3 (by omega) (by omega)) ev1 ⟨by decide, rfl⟩ ⟨by omega, by show 8 + (1 + 11) + 20 ≤ _; omega⟩ ⟨by omega, by omega⟩ (Nat.le_of_ble_eq_true rfl) (fun v_6 h_5 p_7 => ?_)
      obtain ⟨rfl, rfl⟩ := p_7
      refine x_le (xw_le_s (xw_le_n (xw_le_s xw_le_e))) ?_
      refine s_Store_tokenCount_29 ?_
      refine s_Store_tokenCount_31 ?_
      simp only [nI_1, nI_add]
      exact ih (i + 1) _ (by omega) (by omega)
set_option maxHeartbeats 400000 in
theorem g_tokenCount {G : xw_G} {F L : Nat} {h : xw_A} {A : List Nat} {st s1 s2 s3 s4 : Nat} {fr fp fs fl : Nat → Option Nat} {pc sc lc : Nat} {pe vm sm : Int32} (K : StoC A st s1 s2 s3 s4 fr fp fs fl pc sc lc pe vm sm h) (hF : 2 ≤ F) (hL : 40 ≤ L) :
    xw_Met G m_Store_tokenCount F L 0 0 [.ref st] h (fun v h' => (∃ c : Nat, v = some (.int (nI c)) ∧ c ≤ 2400) ∧ h = h') (fun _ _ => False) := by
  refine xw_Met.of rfl (by decide) (Nat.le_of_ble_eq_true rfl) ?_
  refine s_Store_tokenCount_0 ?_
  exact lp_tokenCount K (by omega) (by omega) (fun c hc => ⟨⟨c, rfl, hc⟩, rfl⟩) 24 1 0 rfl (by decide)
set_option maxHeartbeats 1000000 in
theorem lp_freeRow {G : xw_G} {F L bc bs : Nat} {pr : Option Value → xw_A → Prop} {px : String → xw_A → Prop} {h : xw_A} {A : List Nat} {st s1 s2 s3 s4 : Nat} {fr fp fs fl : Nat → Option Nat} {pc sc lc : Nat} {pe vm sm : Int32} (K : StoC A st s1 s2 s3 s4 fr fp fs fl pc sc lc pe vm sm h) (kk : ∀ c : Nat, ((c = 0 ∧ ∀ j, 1 ≤ j → j ≤ 24 → fr j ≠ none) ∨ (1 ≤ c ∧ c ≤ 24 ∧ fr c = none ∧ ∀ j, 1 ≤ j → j < c → fr j ≠ none)) → pr (some (.int (nI c))) h) :
    ∀ (dd i : Nat) , i + dd = 25 → (1 ≤ i ∧ ∀ j, 1 ≤ j → j < i → fr j ≠ none) → xw G m_Store_freeRow F L bc bs pr px 2 [some (.ref st), some (.int (nI i))] [] h := by
  obtain ⟨e_st, e_s1, e_s2, e_s3, e_s4, hpc, hsc, hlc, hR, hP, hS, hV, hAO⟩ := K
  intro dd
  induction dd with
  | zero =>
    intro i  hi hp
    obtain rfl : i = 25 := by omega
    refine s_Store_freeRow_2 (fun z_1 => ?_) (fun z => absurd (by decide) z)
    refine s_Store_freeRow_25 ?_
    exact kk 0 (Or.inl ⟨rfl, fun j h1 h2 => hp.2 j h1 (by omega)⟩)
  | succ dd ih =>
    intro i  hi hp
    refine s_Store_freeRow_2 (fun z => absurd z (nI_nlt (a := 24) (show i ≤ 24 by omega) (by decide))) (fun z_1 => ?_)
    refine s_Store_freeRow_8 (pending_a0 := some s2) (segments_a0 := some s3) (live_a0 := some s4) e_st e_s1 (vp_in_nI (by omega) (by omega)) (fun z_2 => ?_) (fun a_3 z_4 => ?_)
    · skip
      refine s_Store_freeRow_17 ?_
      exact kk i (Or.inr ⟨hp.1, by omega, by rw [nI_clamp (by omega)] at z_2; exact z_2, hp.2⟩)
    · skip
      refine s_Store_freeRow_19 ?_
      simp only [nI_1]
      exact ih (i + 1) (by omega) ⟨by omega, fun j h1 h2 q0 => by by_cases q : j = i; (rw [q] at q0; rw [nI_clamp (by omega)] at z_4; exact nomatch (z_4.symm.trans q0)); (exact hp.2 j h1 (by omega) q0)⟩
set_option maxHeartbeats 400000 in
theorem g_freeRow {G : xw_G} {F L : Nat} {h : xw_A} {A : List Nat} {st s1 s2 s3 s4 : Nat} {fr fp fs fl : Nat → Option Nat} {pc sc lc : Nat} {pe vm sm : Int32} (K : StoC A st s1 s2 s3 s4 fr fp fs fl pc sc lc pe vm sm h) (hF : 1 ≤ F) (hL : 20 ≤ L) :
    xw_Met G m_Store_freeRow F L 0 0 [.ref st] h (fun v h' => (∃ c : Nat, v = some (.int (nI c)) ∧ ((c = 0 ∧ ∀ j, 1 ≤ j → j ≤ 24 → fr j ≠ none) ∨ (1 ≤ c ∧ c ≤ 24 ∧ fr c = none ∧ ∀ j, 1 ≤ j → j < c → fr j ≠ none))) ∧ h = h') (fun _ _ => False) := by
  refine xw_Met.of rfl (by decide) (Nat.le_of_ble_eq_true rfl) ?_
  refine s_Store_freeRow_0 ?_
  exact lp_freeRow K (fun c hc => ⟨⟨c, rfl, hc⟩, rfl⟩) 24 1 rfl ⟨by decide, fun j h1 h2 => absurd h2 (by omega)⟩
