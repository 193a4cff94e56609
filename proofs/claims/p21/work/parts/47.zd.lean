set_option maxHeartbeats 1000000 in
theorem lp_blanksH {G : xw_G} {F L bc bs : Nat} {pr : Option Value → xw_A → Prop} {px : String → xw_A → Prop} {h : xw_A} {a : Nat} {po k1 k2 k3 d ln : Nat} {fd : Nat → Int32} (e_po : h po = some (.inr (3, [.ref k1, .ref k2, .ref k3, .ref d, .int (nI ln)]))) (e_d : h d = some (.inl (1, 96, .inl fd))) (hln : ln ≤ 96) (kk : pr (some (.int (nI (bl fd ln a)))) h) :
    ∀ (dd i : Nat) , i + dd = ln → (a ≤ i ∧ bl fd ln a = bl fd ln i) → xw G m_Parts_blanksEnd F L bc bs pr px 2 [some (.ref po), none, some (.int (nI i))] [] h := by
  intro dd
  induction dd with
  | zero =>
    intro i  hi hp
    obtain rfl : i = ln := by omega
    refine s_Parts_blanksEnd_2 (kinds_a0 := some k1) (starts_a0 := some k2) (ends_a0 := some k3) (letters_a0 := some d) e_po (fun z_1 => ?_) (fun z => absurd (nI_le (Nat.le_refl _) (by omega)) z)
    refine s_Parts_blanksEnd_27 ?_
    rw [hp.2, blkE_stop (fun q => absurd q.1 (Nat.lt_irrefl _))] at kk
    exact kk
  | succ dd ih =>
    intro i  hi hp
    refine s_Parts_blanksEnd_2 (kinds_a0 := some k1) (starts_a0 := some k2) (ends_a0 := some k3) (letters_a0 := some d) e_po (fun z => absurd z (nI_ge (b := ln) (show i < ln by omega) (by omega))) (fun z_1 => ?_)
    refine s_Parts_blanksEnd_10 (kinds_a0 := some k1) (starts_a0 := some k2) (ends_a0 := some k3) e_po e_d (vp_in_nI (by omega) (by omega)) (fun z_2 => ?_) (fun z_3 => ?_)
    · skip
      refine s_Parts_blanksEnd_27 ?_
      rw [nI_clamp (show i < 2 ^ 31 by omega)] at z_2
      rw [hp.2, blkE_stop (fun q => z_2 q.2)] at kk
      exact kk
    · skip
      refine s_Parts_blanksEnd_21 ?_
      simp only [nI_1]
      exact ih (i + 1) (by omega) ⟨by omega, hp.2.trans (blkE_step ⟨by omega, by rw [nI_clamp (show i < 2 ^ 31 by omega)] at z_3; exact z_3⟩)⟩
set_option maxHeartbeats 400000 in
theorem g_blanksH {G : xw_G} {F L : Nat} {h : xw_A} {a : Nat} {po k1 k2 k3 d ln : Nat} {fd : Nat → Int32} (e_po : h po = some (.inr (3, [.ref k1, .ref k2, .ref k3, .ref d, .int (nI ln)]))) (e_d : h d = some (.inl (1, 96, .inl fd))) (hln : ln ≤ 96) (ha : a ≤ ln) (hF : 1 ≤ F) (hL : 20 ≤ L) :
    xw_Met G m_Parts_blanksEnd F L 0 0 [.ref po, .int (nI a)] h (fun v h' => v = some (.int (nI (bl fd ln a))) ∧ h = h') (fun _ _ => False) := by
  refine xw_Met.of rfl (by decide) (Nat.le_of_ble_eq_true rfl) ?_
  refine s_Parts_blanksEnd_0 ?_
  exact lp_blanksH e_po e_d hln ⟨rfl, rfl⟩ (ln - a) a (by omega) ⟨Nat.le_refl _, rfl⟩
set_option maxHeartbeats 1000000 in
theorem lp_wordH {G : xw_G} {F L bc bs : Nat} {pr : Option Value → xw_A → Prop} {px : String → xw_A → Prop} {h : xw_A} {a : Nat} {po k1 k2 k3 d ln : Nat} {fd : Nat → Int32} (e_po : h po = some (.inr (3, [.ref k1, .ref k2, .ref k3, .ref d, .int (nI ln)]))) (e_d : h d = some (.inl (1, 96, .inl fd))) (hln : ln ≤ 96) (hF : 2 ≤ F) (hL : 40 ≤ L) (kk : pr (some (.int (nI (wr fd ln a)))) h) :
    ∀ (dd i : Nat) , i + dd = ln → (a ≤ i ∧ wr fd ln a = wr fd ln i) → xw G m_Parts_wordEnd F L bc bs pr px 2 [some (.ref po), none, some (.int (nI i))] [] h := by
  intro dd
  induction dd with
  | zero =>
    intro i  hi hp
    obtain rfl : i = ln := by omega
    refine s_Parts_wordEnd_2 (kinds_a0 := some k1) (starts_a0 := some k2) (ends_a0 := some k3) (letters_a0 := some d) e_po (fun z_1 => ?_) (fun z => absurd (nI_le (Nat.le_refl _) (by omega)) z)
    refine s_Parts_wordEnd_28 ?_
    rw [hp.2, wr_stop (fun q => absurd q.1 (Nat.lt_irrefl _))] at kk
    exact kk
  | succ dd ih =>
    intro i  hi hp
    refine s_Parts_wordEnd_2 (kinds_a0 := some k1) (starts_a0 := some k2) (ends_a0 := some k3) (letters_a0 := some d) e_po (fun z => absurd z (nI_ge (b := ln) (show i < ln by omega) (by omega))) (fun z_1 => ?_)
    refine s_Parts_wordEnd_10 (kinds_a0 := some k1) (starts_a0 := some k2) (ends_a0 := some k3) e_po e_d (vp_in_nI (by omega) (by omega)) ?_
    refine x_callSN (As := [.int (fd (nI i).toNatClampNeg)]) (rest := []) (F1 := 1) (L1 := 20) (mc := 0) (ms := 0) d_Parts_wordEnd_16 cN_Parts_37 (g_isWord (by omega) (by omega)) ⟨by omega, by show 8 + (1 + 11) + 20 ≤ _; omega⟩ ⟨by omega, by omega⟩ (Nat.le_of_ble_eq_true rfl) (fun v_3 h_2 p_4 => ?_)
    obtain ⟨rfl, rfl⟩ := p_4
    refine s_Parts_wordEnd_19 (fun z_5 => ?_) (fun z_6 => ?_)
    · skip
      refine s_Parts_wordEnd_28 ?_
      rw [nI_clamp (show i < 2 ^ 31 by omega)] at z_5
      rw [hp.2, wr_stop (fun q => by have q3 := b01_f z_5; rw [q.2] at q3; cases q3)] at kk
      exact kk
    · skip
      refine s_Parts_wordEnd_22 ?_
      simp only [nI_1]
      exact ih (i + 1) (by omega) ⟨by omega, hp.2.trans (wr_step ⟨by omega, by rw [nI_clamp (show i < 2 ^ 31 by omega)] at z_6; exact b01_t z_6⟩)⟩
set_option maxHeartbeats 400000 in
theorem g_wordEndH {G : xw_G} {F L : Nat} {h : xw_A} {a : Nat} {po k1 k2 k3 d ln : Nat} {fd : Nat → Int32} (e_po : h po = some (.inr (3, [.ref k1, .ref k2, .ref k3, .ref d, .int (nI ln)]))) (e_d : h d = some (.inl (1, 96, .inl fd))) (hln : ln ≤ 96) (ha : a ≤ ln) (hF : 2 ≤ F) (hL : 40 ≤ L) :
    xw_Met G m_Parts_wordEnd F L 0 0 [.ref po, .int (nI a)] h (fun v h' => v = some (.int (nI (wr fd ln a))) ∧ h = h') (fun _ _ => False) := by
  refine xw_Met.of rfl (by decide) (Nat.le_of_ble_eq_true rfl) ?_
  refine s_Parts_wordEnd_0 ?_
  exact lp_wordH e_po e_d hln (by omega) (by omega) ⟨rfl, rfl⟩ (ln - a) a (by omega) ⟨Nat.le_refl _, rfl⟩
set_option maxHeartbeats 1000000 in
theorem lp_quoteH {G : xw_G} {F L bc bs : Nat} {pr : Option Value → xw_A → Prop} {px : String → xw_A → Prop} {h : xw_A} {a : Nat} {po k1 k2 k3 d ln : Nat} {fd : Nat → Int32} (e_po : h po = some (.inr (3, [.ref k1, .ref k2, .ref k3, .ref d, .int (nI ln)]))) (e_d : h d = some (.inl (1, 96, .inl fd))) (hln : ln ≤ 96) (ha : a < ln) (kk : pr (some (.int (nI (if qu fd ln (a + 1) < ln then qu fd ln (a + 1) + 1 else a)))) h) :
    ∀ (dd i : Nat) , i + dd = ln → (a + 1 ≤ i ∧ qu fd ln (a + 1) = qu fd ln i) → xw G m_Parts_quoteEnd F L bc bs pr px 4 [some (.ref po), some (.int (nI a)), some (.int (nI i))] [] h := by
  intro dd
  induction dd with
  | zero =>
    intro i  hi hp
    obtain rfl : i = ln := by omega
    refine s_Parts_quoteEnd_4 (kinds_a0 := some k1) (starts_a0 := some k2) (ends_a0 := some k3) (letters_a0 := some d) e_po (fun z_1 => ?_) (fun z => absurd (nI_le (Nat.le_refl _) (by omega)) z)
    refine s_Parts_quoteEnd_33 ?_
    rw [hp.2, qu_stop (fun q => absurd q.1 (Nat.lt_irrefl _)), if_neg (Nat.lt_irrefl _)] at kk
    exact kk
  | succ dd ih =>
    intro i  hi hp
    refine s_Parts_quoteEnd_4 (kinds_a0 := some k1) (starts_a0 := some k2) (ends_a0 := some k3) (letters_a0 := some d) e_po (fun z => absurd z (nI_ge (b := ln) (show i < ln by omega) (by omega))) (fun z_1 => ?_)
    refine s_Parts_quoteEnd_12 (kinds_a0 := some k1) (starts_a0 := some k2) (ends_a0 := some k3) e_po e_d (vp_in_nI (by omega) (by omega)) (fun z_2 => ?_) (fun z_3 => ?_)
    · skip
      refine s_Parts_quoteEnd_27 ?_
      simp only [nI_1]
      exact ih (i + 1) (by omega) ⟨by omega, hp.2.trans (qu_step ⟨by omega, by rw [nI_clamp (show i < 2 ^ 31 by omega)] at z_2; exact z_2⟩)⟩
    · skip
      refine s_Parts_quoteEnd_23 ?_
      rw [nI_clamp (show i < 2 ^ 31 by omega)] at z_3
      rw [hp.2, qu_stop (fun q => q.2 z_3), if_pos (show i < ln by omega), ← nI_1] at kk
      exact kk
set_option maxHeartbeats 400000 in
theorem g_quoteH {G : xw_G} {F L : Nat} {h : xw_A} {a : Nat} {po k1 k2 k3 d ln : Nat} {fd : Nat → Int32} (e_po : h po = some (.inr (3, [.ref k1, .ref k2, .ref k3, .ref d, .int (nI ln)]))) (e_d : h d = some (.inl (1, 96, .inl fd))) (hln : ln ≤ 96) (ha : a < ln) (hF : 1 ≤ F) (hL : 20 ≤ L) :
    xw_Met G m_Parts_quoteEnd F L 0 0 [.ref po, .int (nI a)] h (fun v h' => v = some (.int (nI (if qu fd ln (a + 1) < ln then qu fd ln (a + 1) + 1 else a))) ∧ h = h') (fun _ _ => False) := by
  refine xw_Met.of rfl (by decide) (Nat.le_of_ble_eq_true rfl) ?_
  refine s_Parts_quoteEnd_0 ?_
  rw [nI_1]
  exact lp_quoteH e_po e_d hln ha ⟨rfl, rfl⟩ (ln - (a + 1)) (a + 1) (by omega) ⟨Nat.le_refl _, rfl⟩
set_option maxHeartbeats 1000000 in
theorem lp_isNameH {G : xw_G} {F L bc bs : Nat} {pr : Option Value → xw_A → Prop} {px : String → xw_A → Prop} {h : xw_A} {po k1 k2 k3 d ln : Nat} {fd : Nat → Int32} (e_po : h po = some (.inr (3, [.ref k1, .ref k2, .ref k3, .ref d, .int (nI ln)]))) (e_d : h d = some (.inl (1, 96, .inl fd))) (hln : ln ≤ 96) {q b n : Nat} {f : Nat → Int32} (hS : xw_Str G q b n f) (hn : n < 2 ^ 31) {a : Nat} (han : a + n ≤ 96) (hF : 5 ≤ F) (hL : 181 ≤ L) (kk : ∀ y : Int32, ((y = 1 ∧ ∀ j, j < n → fd (a + j) = f j &&& 255) ∨ (y = 0 ∧ ∃ j, j < n ∧ ¬ fd (a + j) = f j &&& 255)) → pr (some (.int y)) h) :
    ∀ (dd i : Nat) , i + dd = n → (∀ j, j < i → fd (a + j) = f j &&& 255) → xw G m_Parts_isName F L bc bs pr px 15 [some (.ref po), some (.int (nI a)), none, some (.ref q), some (.int (nI i))] [] h := by
  intro dd
  induction dd with
  | zero =>
    intro i  hi hp
    obtain rfl : n = i := by omega
    refine s_Parts_isName_15 ?_
    refine x_callVS (As := []) (b := q) (rest := [.int (nI n)]) (F1 := 2) (L1 := 60) (mc := 0) (ms := 0) d_Parts_isName_18 cV_Parts_70 (j_length hS hn (by omega) (by omega)) hS rfl ⟨by omega, by show 8 + (1 + 11) + 60 ≤ _; omega⟩ ⟨by omega, by omega⟩ (Nat.le_of_ble_eq_true rfl) (fun v_2 h_1 p_3 => ?_)
    obtain ⟨rfl, rfl⟩ := p_3
    refine s_Parts_isName_21 (fun z_4 => ?_) (fun z => absurd (nI_le (Nat.le_refl _) (by omega)) z)
    refine s_Parts_isName_50 ?_
    exact kk _ (Or.inl ⟨rfl, hp⟩)
  | succ dd ih =>
    intro i  hi hp
    refine s_Parts_isName_15 ?_
    refine x_callVS (As := []) (b := q) (rest := [.int (nI i)]) (F1 := 2) (L1 := 60) (mc := 0) (ms := 0) d_Parts_isName_18 cV_Parts_70 (j_length hS hn (by omega) (by omega)) hS rfl ⟨by omega, by show 8 + (1 + 11) + 60 ≤ _; omega⟩ ⟨by omega, by omega⟩ (Nat.le_of_ble_eq_true rfl) (fun v_2 h_1 p_3 => ?_)
    obtain ⟨rfl, rfl⟩ := p_3
    refine s_Parts_isName_21 (fun z => absurd z (nI_ge (b := n) (show i < n by omega) (by omega))) (fun z_4 => ?_)
    refine s_Parts_isName_24 (kinds_a0 := some k1) (starts_a0 := some k2) (ends_a0 := some k3) e_po e_d (by rw [nI_add]; exact vp_in_nI (by omega) (by decide)) ?_
    refine x_callVS (As := [.int (nI i)]) (b := q) (rest := [.int (fd ((nI a) + (nI i)).toNatClampNeg)]) (F1 := 4) (L1 := 160) (mc := 0) (ms := 0) d_Parts_isName_36 cV_Parts_73 (j_charAt hS hn (show i < n by omega) (by omega) (by omega)) hS rfl ⟨by omega, by show 8 + (2 + 11) + 160 ≤ _; omega⟩ ⟨by omega, by omega⟩ (Nat.le_of_ble_eq_true rfl) (fun v_6 h_5 p_7 => ?_)
    obtain ⟨rfl, rfl⟩ := p_7
    refine s_Parts_isName_39 (fun z_8 => ?_) (fun z_9 => ?_)
    · skip
      refine s_Parts_isName_44 ?_
      simp only [nI_1]
      exact ih (i + 1) (by omega) (fun j9 hj9 => by by_cases q9 : j9 = i; (rw [q9]; rw [nI_add, nI_clamp (show a + i < 2 ^ 31 by omega)] at z_8; exact z_8); (exact hp j9 (by omega)))
    · skip
      refine s_Parts_isName_42 ?_
      rw [nI_add, nI_clamp (show a + i < 2 ^ 31 by omega)] at z_9
      exact kk _ (Or.inr ⟨rfl, i, by omega, z_9⟩)
set_option maxHeartbeats 400000 in
theorem g_isNameH {G : xw_G} {F L : Nat} {h : xw_A} {po k1 k2 k3 d ln : Nat} {fd : Nat → Int32} (e_po : h po = some (.inr (3, [.ref k1, .ref k2, .ref k3, .ref d, .int (nI ln)]))) (e_d : h d = some (.inl (1, 96, .inl fd))) (hln : ln ≤ 96) {q b n : Nat} {f : Nat → Int32} (hS : xw_Str G q b n f) (hn : n < 2 ^ 31) {w : List Int32} (hw : n = w.length ∧ ∀ i, i < n → w[i]? = some (f i &&& 255)) {a e : Nat} (hae : a ≤ e) (hel : e ≤ ln) (hF : 5 ≤ F) (hL : 181 ≤ L) :
    xw_Met G m_Parts_isName F L 0 0 [.ref po, .int (nI a), .int (nI e), .ref q] h (fun v h' => (∃ y : Int32, v = some (.int y) ∧ ((y = 1 ∧ isN fd a e w) ∨ (y = 0 ∧ ¬ isN fd a e w))) ∧ h = h') (fun _ _ => False) := by
  refine xw_Met.of rfl (by decide) (Nat.le_of_ble_eq_true rfl) ?_
  refine s_Parts_isName_0 ?_
  refine x_callVS (As := []) (b := q) (rest := [.int ((nI e) - (nI a))]) (F1 := 2) (L1 := 60) (mc := 0) (ms := 0) d_Parts_isName_4 cV_Parts_70 (j_length hS hn (by omega) (by omega)) hS rfl ⟨by omega, by show 8 + (1 + 11) + 60 ≤ _; omega⟩ ⟨by omega, by omega⟩ (Nat.le_of_ble_eq_true rfl) (fun v_2 h_1 p_3 => ?_)
  obtain ⟨rfl, rfl⟩ := p_3
  refine x_le (xw_le_s (xw_le_s (xw_le_n (xw_le_s (xw_le_n xw_le_e))))) ?_
  refine s_Parts_isName_7 (fun z_4 => ?_) (fun z_5 => ?_)
  · skip
    refine s_Parts_isName_12 ?_
    have hz9 : e - a = n := by rw [pk_sub hae] at z_4; exact (nI_eq (by omega) (by omega)).mp z_4
    have hz8 := isN_f (t := fd) (s := a) (e := e) (f := fun i => f i &&& 255) hw
    exact lp_isNameH e_po e_d hln hS hn (show a + n ≤ 96 by omega) (by omega) (by omega) (fun y hy => ⟨⟨y, rfl, hy.elim (fun q => Or.inl ⟨q.1, hz8.mpr ⟨by omega, q.2⟩⟩) (fun q => Or.inr ⟨q.1, fun z9 => by obtain ⟨-, j, hj, hne⟩ := q; exact hne ((hz8.mp z9).2 j hj)⟩)⟩, rfl⟩) n 0 (Nat.zero_add _) (fun j hj => absurd hj (Nat.not_lt_zero _))
  · skip
    refine s_Parts_isName_10 ?_
    exact ⟨⟨0, rfl, Or.inr ⟨rfl, fun q => z_5 (by rw [pk_sub hae]; have q1 := q.1; rw [show e - a = n by omega])⟩⟩, rfl⟩
set_option maxHeartbeats 400000 in
theorem g_wordKindH {G : xw_G} {F L : Nat} {h : xw_A} {po k1 k2 k3 d ln : Nat} {fd : Nat → Int32} (e_po : h po = some (.inr (3, [.ref k1, .ref k2, .ref k3, .ref d, .int (nI ln)]))) (e_d : h d = some (.inl (1, 96, .inl fd))) (hln : ln ≤ 96) {a e : Nat} (hae : a ≤ e) (hel : e ≤ ln) (hF : 6 ≤ F) (hL : 205 ≤ L) :
    xw_Met G m_Parts_wordKind F L 0 0 [.ref po, .int (nI a), .int (nI e)] h (fun v h' => v = some (.int (nI (wkd fd ln a e))) ∧ h = h') (fun _ _ => False) := by
  refine xw_Met.of rfl (by decide) (Nat.le_of_ble_eq_true rfl) ?_
  refine s_Parts_wordKind_0 ?_
  refine x_ldcS d_Parts_wordKind_3 st_58 (by decide) (fun q_1 b_2 hS_3 => ?_)
  refine x_callV (As := [.int (nI a), .int (nI e), .ref q_1]) (b := po) (rest := []) (F1 := 5) (L1 := 181) (mc := 0) (ms := 0) d_Parts_wordKind_5 cV_Parts_60 (g_isNameH (w := [79, 82]) e_po e_d hln hS_3 (by decide) ⟨rfl, by decide⟩ hae hel (by omega) (by omega)) e_po ⟨by decide, rfl⟩ ⟨by omega, by show 8 + (5 + 11) + 181 ≤ _; omega⟩ ⟨by omega, by omega⟩ (Nat.le_of_ble_eq_true rfl) (fun v_7 h_6 p_8 => ?_)
  obtain ⟨⟨y_4, rfl, hy_5⟩, rfl⟩ := p_8
  refine s_Parts_wordKind_8 (fun z_9 => ?_) (fun z_10 => ?_)
  · skip
    refine s_Parts_wordKind_13 ?_
    refine x_ldcS d_Parts_wordKind_16 st_64 (by decide) (fun q_11 b_12 hS_13 => ?_)
    refine x_callV (As := [.int (nI a), .int (nI e), .ref q_11]) (b := po) (rest := []) (F1 := 5) (L1 := 181) (mc := 0) (ms := 0) d_Parts_wordKind_18 cV_Parts_60 (g_isNameH (w := [65, 78, 68]) e_po e_d hln hS_13 (by decide) ⟨rfl, by decide⟩ hae hel (by omega) (by omega)) e_po ⟨by decide, rfl⟩ ⟨by omega, by show 8 + (5 + 11) + 181 ≤ _; omega⟩ ⟨by omega, by omega⟩ (Nat.le_of_ble_eq_true rfl) (fun v_17 h_16 p_18 => ?_)
    obtain ⟨⟨y_14, rfl, hy_15⟩, rfl⟩ := p_18
    refine s_Parts_wordKind_21 (fun z_19 => ?_) (fun z_20 => ?_)
    · skip
      refine s_Parts_wordKind_27 ?_
      refine x_ldcS d_Parts_wordKind_30 st_66 (by decide) (fun q_21 b_22 hS_23 => ?_)
      refine x_callV (As := [.int (nI a), .int (nI e), .ref q_21]) (b := po) (rest := []) (F1 := 5) (L1 := 181) (mc := 0) (ms := 0) d_Parts_wordKind_32 cV_Parts_60 (g_isNameH (w := [78, 79, 84]) e_po e_d hln hS_23 (by decide) ⟨rfl, by decide⟩ hae hel (by omega) (by omega)) e_po ⟨by decide, rfl⟩ ⟨by omega, by show 8 + (5 + 11) + 181 ≤ _; omega⟩ ⟨by omega, by omega⟩ (Nat.le_of_ble_eq_true rfl) (fun v_27 h_26 p_28 => ?_)
      obtain ⟨⟨y_24, rfl, hy_25⟩, rfl⟩ := p_28
      refine s_Parts_wordKind_35 (fun z_29 => ?_) (fun z_30 => ?_)
      · skip
        refine s_Parts_wordKind_41 ?_
        refine x_ldcS d_Parts_wordKind_44 st_68 (by decide) (fun q_31 b_32 hS_33 => ?_)
        refine x_callV (As := [.int (nI a), .int (nI e), .ref q_31]) (b := po) (rest := []) (F1 := 5) (L1 := 181) (mc := 0) (ms := 0) d_Parts_wordKind_46 cV_Parts_60 (g_isNameH (w := [78, 69, 65, 82]) e_po e_d hln hS_33 (by decide) ⟨rfl, by decide⟩ hae hel (by omega) (by omega)) e_po ⟨by decide, rfl⟩ ⟨by omega, by show 8 + (5 + 11) + 181 ≤ _; omega⟩ ⟨by omega, by omega⟩ (Nat.le_of_ble_eq_true rfl) (fun v_37 h_36 p_38 => ?_)
        obtain ⟨⟨y_34, rfl, hy_35⟩, rfl⟩ := p_38
        refine x_le (xw_le_s (xw_le_n (xw_le_s xw_le_e))) ?_
        refine s_Parts_wordKind_49 (fun z_39 => ?_) (fun z_40 => ?_)
        · skip
          refine s_Parts_wordKind_55 (kinds_a0 := some k1) (starts_a0 := some k2) (ends_a0 := some k3) (letters_a0 := some d) e_po (fun z_41 => ?_) (fun z_42 => ?_)
          · skip
            refine s_Parts_wordKind_78 ?_
            refine s_Parts_wordKind_79 ?_
            have hn_43 := (hy_5.resolve_left (fun q => absurd (q.1.symm.trans z_9) (by decide))).2
            have hn_44 := (hy_15.resolve_left (fun q => absurd (q.1.symm.trans z_19) (by decide))).2
            have hn_45 := (hy_25.resolve_left (fun q => absurd (q.1.symm.trans z_29) (by decide))).2
            have hn_46 := (hy_35.resolve_left (fun q => absurd (q.1.symm.trans z_39) (by decide))).2
            exact ⟨congrArg (fun z => some (Value.int z)) (by rw [wkd_n hn_43 hn_44 hn_45 hn_46, if_neg (fun q => absurd z_41 (nI_ge q.1 (by omega)))]; rfl), rfl⟩
          · skip
            refine s_Parts_wordKind_63 (kinds_a0 := some k1) (starts_a0 := some k2) (ends_a0 := some k3) e_po e_d (vp_in_nI (show e < 96 by have h9 : e < ln := Nat.lt_of_not_le (fun q => z_42 (nI_le q (by omega))); omega) (by decide)) (fun z_47 => ?_) (fun z_48 => ?_)
            · skip
              refine s_Parts_wordKind_78 ?_
              refine s_Parts_wordKind_79 ?_
              have hn_49 := (hy_5.resolve_left (fun q => absurd (q.1.symm.trans z_9) (by decide))).2
              have hn_50 := (hy_15.resolve_left (fun q => absurd (q.1.symm.trans z_19) (by decide))).2
              have hn_51 := (hy_25.resolve_left (fun q => absurd (q.1.symm.trans z_29) (by decide))).2
              have hn_52 := (hy_35.resolve_left (fun q => absurd (q.1.symm.trans z_39) (by decide))).2
              exact ⟨congrArg (fun z => some (Value.int z)) (by rw [wkd_n hn_49 hn_50 hn_51 hn_52, if_neg (fun q => by rw [nI_clamp (show e < 2 ^ 31 by omega)] at z_47; exact z_47 q.2)]; rfl), rfl⟩
            · skip
              refine s_Parts_wordKind_74 ?_
              refine s_Parts_wordKind_79 ?_
              have hn_53 := (hy_5.resolve_left (fun q => absurd (q.1.symm.trans z_9) (by decide))).2
              have hn_54 := (hy_15.resolve_left (fun q => absurd (q.1.symm.trans z_19) (by decide))).2
              have hn_55 := (hy_25.resolve_left (fun q => absurd (q.1.symm.trans z_29) (by decide))).2
              have hn_56 := (hy_35.resolve_left (fun q => absurd (q.1.symm.trans z_39) (by decide))).2
              exact ⟨congrArg (fun z => some (Value.int z)) (by rw [wkd_n hn_53 hn_54 hn_55 hn_56, if_pos ⟨Nat.lt_of_not_le (fun q => z_42 (nI_le q (by omega))), by rw [nI_clamp (by omega)] at z_48; exact z_48⟩]; rfl), rfl⟩
        · skip
          refine s_Parts_wordKind_52 ?_
          have hn_57 := (hy_5.resolve_left (fun q => absurd (q.1.symm.trans z_9) (by decide))).2
          have hn_58 := (hy_15.resolve_left (fun q => absurd (q.1.symm.trans z_19) (by decide))).2
          have hn_59 := (hy_25.resolve_left (fun q => absurd (q.1.symm.trans z_29) (by decide))).2
          have hn_60 := (hy_35.resolve_right (fun q => z_40 q.1)).2
          exact ⟨congrArg (fun z => some (Value.int z)) (by rw [wkd_8 hn_57 hn_58 hn_59 hn_60]; rfl), rfl⟩
      · skip
        refine s_Parts_wordKind_38 ?_
        have hn_61 := (hy_5.resolve_left (fun q => absurd (q.1.symm.trans z_9) (by decide))).2
        have hn_62 := (hy_15.resolve_left (fun q => absurd (q.1.symm.trans z_19) (by decide))).2
        have hn_63 := (hy_25.resolve_right (fun q => z_30 q.1)).2
        exact ⟨congrArg (fun z => some (Value.int z)) (by rw [wkd_7 hn_61 hn_62 hn_63]; rfl), rfl⟩
    · skip
      refine s_Parts_wordKind_24 ?_
      have hn_64 := (hy_5.resolve_left (fun q => absurd (q.1.symm.trans z_9) (by decide))).2
      have hn_65 := (hy_15.resolve_right (fun q => z_20 q.1)).2
      exact ⟨congrArg (fun z => some (Value.int z)) (by rw [wkd_6 hn_64 hn_65]; rfl), rfl⟩
  · skip
    refine s_Parts_wordKind_11 ?_
    have hn_66 := (hy_5.resolve_right (fun q => z_10 q.1)).2
    exact ⟨congrArg (fun z => some (Value.int z)) (by rw [wkd_5 hn_66]; rfl), rfl⟩
set_option maxHeartbeats 2000000 in
theorem g_readPartH {G : xw_G} {F L : Nat} {h : xw_A} {po k1 k2 k3 d ln : Nat} {fd : Nat → Int32} (e_po : h po = some (.inr (3, [.ref k1, .ref k2, .ref k3, .ref d, .int (nI ln)]))) (e_d : h d = some (.inl (1, 96, .inl fd))) (hln : ln ≤ 96) {fk fs fe : Nat → Int32} (e_k1 : h k1 = some (.inl (0, 97, .inl fk))) (e_k2 : h k2 = some (.inl (0, 97, .inl fs))) (e_k3 : h k3 = some (.inl (0, 97, .inl fe))) {i a : Nat} (hi : i < 97) (ha : fs i = nI a) (hal : a ≤ ln) (nk : k1 ≠ k2 ∧ k1 ≠ k3 ∧ k2 ≠ k3) (h128 : ∀ j, j < ln → ∃ c, c < 128 ∧ fd j = nI c) (hF : 7 ≤ F) (hL : 227 ≤ L) :
    xw_Met G m_Parts_readPart F L 0 0 [.ref po, .int (nI i)] h (fun v h' => v = none ∧ h' k1 = some (.inl (0, 97, .inl (upd fk i (nI (lexK fd ln a).1)))) ∧ h' k3 = some (.inl (0, 97, .inl (upd fe i (nI (lexK fd ln a).2)))) ∧ FrO [k1, k3] h h') (fun _ _ => False) := by
  refine xw_Met.of rfl (by decide) (Nat.le_of_ble_eq_true rfl) ?_
  have r0 : FrO [k1, k3] h h := FrO.rf
  refine s_Parts_readPart_0 (kinds_a0 := some k1) (ends_a0 := some k3) (letters_a0 := some d) e_po e_k2 (vp_in_nI (by omega) (by decide)) (fun z_1 => ?_) (fun z_2 => ?_)
  · skip
    rw [nI_clamp (show i < 2 ^ 31 by omega), ha] at z_1 ⊢
    have hal2 : a < ln := (nI_ltI (by omega) (by omega)).mp z_1
    refine s_Parts_readPart_32 (kinds_a0 := some k1) (starts_a0 := some k2) (ends_a0 := some k3) e_po e_d (vp_in_nI (by omega) (by decide)) ?_
    rw [nI_clamp (show a < 2 ^ 31 by omega)]
    refine x_callSN (As := [.int (fd a)]) (rest := []) (F1 := 1) (L1 := 20) (mc := 0) (ms := 0) d_Parts_readPart_38 cN_Parts_37 (g_isWord (by omega) (by omega)) ⟨by omega, by show 8 + (1 + 11) + 20 ≤ _; omega⟩ ⟨by omega, by omega⟩ (Nat.le_of_ble_eq_true rfl) (fun v_4 h_3 p_5 => ?_)
    obtain ⟨rfl, rfl⟩ := p_5
    refine s_Parts_readPart_41 (fun z_6 => ?_) (fun z_7 => ?_)
    · skip
      refine s_Parts_readPart_75 (kinds_a0 := some k1) (starts_a0 := some k2) (ends_a0 := some k3) e_po e_d (vp_in_nI (by omega) (by decide)) (fun z_8 => ?_) (fun z_9 => ?_)
      · skip
        have hnw : ¬ isW (fd a) = true := by rw [b01_f z_6]; decide
        have h34 : ¬ fd a = 34 := by rw [nI_clamp (show a < 2 ^ 31 by omega)] at z_8; exact z_8
        refine x_ldcS d_Parts_readPart_121 st_51 (by decide) (fun q b hS => ?_)
        refine x_aload_n d_Parts_readPart_123 rfl rfl ?_
        refine x_get d_Parts_readPart_124 f_Parts_21 e_po rfl ?_
        refine x_iload_n d_Parts_readPart_127 rfl rfl ?_
        refine x_cald d_Parts_readPart_128 e_d (vp_in_nI (show a < 96 by omega) (by decide)) ?_
        rw [nI_clamp (show a < 2 ^ 31 by omega)]
        refine x_callVS (As := [.int (fd a)]) (b := q) (rest := []) (F1 := 4) (L1 := 170) (mc := 0) (ms := 0) d_Parts_readPart_129 cV_Parts_53 (j_indexOf hS (by decide) (by decide) (by omega) (by omega)) hS rfl ⟨by omega, by show 8 + (2 + 11) + 170 ≤ _; omega⟩ ⟨by omega, by omega⟩ (Nat.le_of_ble_eq_true rfl) (fun v h1 pp => ?_)
        obtain ⟨⟨y, rfl, -, hy2⟩, rfl⟩ := pp
        obtain ⟨c9, hc9, e9⟩ := h128 a hal2
        have hy := hy2 (by rw [e9]; exact lt128 c9 hc9)
        have hsg : (y = -1 ∧ sgn (fd a) = 1) ∨ (y = nI (sgn (fd a) - 9) ∧ 9 ≤ sgn (fd a) ∧ sgn (fd a) ≤ 16) := by rw [hy, e9]; exact sgn_ix c9 hc9
        refine s_Parts_readPart_132 (kinds_a0 := some k1) (starts_a0 := some k2) (ends_a0 := some k3) (letters_a0 := some d) e_po (fun z_10 => ?_) (fun z_11 => ?_)
        · skip
          refine s_Parts_readPart_149 ?_
          have hs1 : sgn (fd a) = 1 := (hsg.resolve_right (fun q => absurd z_10 (by rw [q.1]; exact nI_nlt (Nat.zero_le _) (by omega)))).2
          refine s_Parts_readPart_150 (kinds_a0 := some k1) (starts_a0 := some k2) (letters_a0 := some d) e_k1 (vp_in_nI (by omega) (by decide)) e_po e_k3 (vp_in_nI (by omega) (by decide)) (Ne.symm nk.2.1) ?_
          refine x_u2 (fun h_12 e_13 f_14 h_15 e_16 f_17 => ?_)
          have e_18 := (f_14 po (xw_neC e_po e_k1 (by simp))).trans e_po
          have e_19 := (f_14 d (xw_neC e_d e_k1 (by simp))).trans e_d
          have e_20 := (f_14 k2 (Ne.symm nk.1)).trans e_k2
          have e_21 := (f_14 k3 (Ne.symm nk.2.1)).trans e_k3
          have r_22 := r0.up (by simp) f_14
          have e_23 := (f_17 po (xw_neC e_18 e_21 (by simp))).trans e_18
          have e_24 := (f_17 d (xw_neC e_19 e_21 (by simp))).trans e_19
          have e_25 := (f_17 k1 nk.2.1).trans e_13
          have e_26 := (f_17 k2 nk.2.2).trans e_20
          have r_27 := r_22.up (by simp) f_17
          refine s_Parts_readPart_160 ?_
          rw [nI_clamp (show i < 2 ^ 31 by omega)] at e_25 e_16
          rw [nI_1] at e_16
          rw [lexK_s hal2 hnw h34, hs1]
          exact ⟨rfl, e_25, e_16, r_27⟩
        · skip
          refine s_Parts_readPart_142 ?_
          have hs9 := hsg.resolve_left (fun q => z_11 (by rw [q.1]; decide))
          have hk9 : 9 + y = nI (sgn (fd a)) := by rw [hs9.1, show (9 : Int32) = nI 9 from rfl, nI_add]; congr 1; omega
          rw [hk9]
          refine s_Parts_readPart_150 (kinds_a0 := some k1) (starts_a0 := some k2) (letters_a0 := some d) e_k1 (vp_in_nI (by omega) (by decide)) e_po e_k3 (vp_in_nI (by omega) (by decide)) (Ne.symm nk.2.1) ?_
          refine x_u2 (fun h_28 e_29 f_30 h_31 e_32 f_33 => ?_)
          have e_34 := (f_30 po (xw_neC e_po e_k1 (by simp))).trans e_po
          have e_35 := (f_30 d (xw_neC e_d e_k1 (by simp))).trans e_d
          have e_36 := (f_30 k2 (Ne.symm nk.1)).trans e_k2
          have e_37 := (f_30 k3 (Ne.symm nk.2.1)).trans e_k3
          have r_38 := r0.up (by simp) f_30
          have e_39 := (f_33 po (xw_neC e_34 e_37 (by simp))).trans e_34
          have e_40 := (f_33 d (xw_neC e_35 e_37 (by simp))).trans e_35
          have e_41 := (f_33 k1 nk.2.1).trans e_29
          have e_42 := (f_33 k2 nk.2.2).trans e_36
          have r_43 := r_38.up (by simp) f_33
          refine s_Parts_readPart_160 ?_
          rw [nI_clamp (show i < 2 ^ 31 by omega)] at e_41 e_32
          rw [nI_1] at e_32
          rw [lexK_s hal2 hnw h34]
          exact ⟨rfl, e_41, e_32, r_43⟩
      · skip
        refine s_Parts_readPart_86 (kinds_a0 := some k1) (starts_a0 := some k2) (ends_a0 := some k3) (letters_a0 := some d) e_po ?_
        have hnw : ¬ isW (fd a) = true := by rw [b01_f z_6]; decide
        have h34 : fd a = 34 := by rw [nI_clamp (show a < 2 ^ 31 by omega)] at z_9; exact z_9
        obtain ⟨b, hb⟩ : ∃ b, b = (if qu fd ln (a + 1) < ln then qu fd ln (a + 1) + 1 else a) := ⟨_, rfl⟩
        refine x_callV (As := [.int (nI a)]) (b := po) (rest := [.int (nI i), .ref k3]) (F1 := 1) (L1 := 20) (mc := 0) (ms := 0) d_Parts_readPart_93 cV_Parts_48 (g_quoteH e_po e_d hln hal2 (by omega) (by omega)) e_po ⟨by decide, rfl⟩ ⟨by omega, by show 8 + (3 + 11) + 20 ≤ _; omega⟩ ⟨by omega, by omega⟩ (Nat.le_of_ble_eq_true rfl) (fun v_45 h_44 p_46 => ?_)
        obtain ⟨rfl, rfl⟩ := p_46
        rw [← hb]
        refine s_Parts_readPart_96e (kinds_a0 := some k1) (starts_a0 := some k2) (letters_a0 := some d) e_k3 (vp_in_nI (by omega) (by decide)) e_po (fun z_47 => ?_) (fun z_48 => ?_)
        · skip
          refine x_u1 (fun h_49 e_50 f_51 => ?_)
          have e_52 := (f_51 po (xw_neC e_po e_k3 (by simp))).trans e_po
          have e_53 := (f_51 d (xw_neC e_d e_k3 (by simp))).trans e_d
          have e_54 := (f_51 k1 nk.2.1).trans e_k1
          have e_55 := (f_51 k2 nk.2.2).trans e_k2
          have r_56 := r0.up (by simp) f_51
          refine s_Parts_readPart_116 ?_
          refine s_Parts_readPart_117 e_54 (vp_in_nI (by omega) (by decide)) ?_
          refine x_u1 (fun h_57 e_58 f_59 => ?_)
          have e_60 := (f_59 po (xw_neC e_52 e_54 (by simp))).trans e_52
          have e_61 := (f_59 d (xw_neC e_53 e_54 (by simp))).trans e_53
          have e_62 := (f_59 k2 (Ne.symm nk.1)).trans e_55
          have e_63 := (f_59 k3 (Ne.symm nk.2.1)).trans e_50
          have r_64 := r_56.up (by simp) f_59
          refine s_Parts_readPart_160 ?_
          rw [nI_clamp (show i < 2 ^ 31 by omega)] at e_58 e_63
          have hqn : ¬ qu fd ln (a + 1) < ln := fun q => by rw [if_pos q] at hb; exact absurd z_47 (nI_ge (show a < b by have := (qu_ge fd ln (a + 1)).1; omega) (by have := (qu_ge fd ln (a + 1)).2 hal2; omega))
          rw [if_neg hqn] at hb
          rw [lexK_q hal2 hnw h34, if_neg hqn]
          subst hb
          exact ⟨rfl, e_58, e_63, r_64⟩
        · skip
          refine x_u1 (fun h_65 e_66 f_67 => ?_)
          have e_68 := (f_67 po (xw_neC e_po e_k3 (by simp))).trans e_po
          have e_69 := (f_67 d (xw_neC e_d e_k3 (by simp))).trans e_d
          have e_70 := (f_67 k1 nk.2.1).trans e_k1
          have e_71 := (f_67 k2 nk.2.2).trans e_k2
          have r_72 := r0.up (by simp) f_67
          refine s_Parts_readPart_112 ?_
          refine s_Parts_readPart_117 e_70 (vp_in_nI (by omega) (by decide)) ?_
          refine x_u1 (fun h_73 e_74 f_75 => ?_)
          have e_76 := (f_75 po (xw_neC e_68 e_70 (by simp))).trans e_68
          have e_77 := (f_75 d (xw_neC e_69 e_70 (by simp))).trans e_69
          have e_78 := (f_75 k2 (Ne.symm nk.1)).trans e_71
          have e_79 := (f_75 k3 (Ne.symm nk.2.1)).trans e_66
          have r_80 := r_72.up (by simp) f_75
          refine s_Parts_readPart_160 ?_
          rw [nI_clamp (show i < 2 ^ 31 by omega)] at e_74 e_79
          have hqn : qu fd ln (a + 1) < ln := Classical.byContradiction (fun q => by rw [if_neg q] at hb; exact z_48 (nI_le (by omega) (by omega)))
          rw [if_pos hqn] at hb
          rw [lexK_q hal2 hnw h34, if_pos hqn]
          subst hb
          exact ⟨rfl, e_74, e_79, r_80⟩
    · skip
      refine s_Parts_readPart_44 (kinds_a0 := some k1) (starts_a0 := some k2) (ends_a0 := some k3) (letters_a0 := some d) e_po ?_
      have hw9 : isW (fd a) = true := b01_t z_7
      refine x_callV (As := [.int (nI a)]) (b := po) (rest := [.int (nI i), .ref k3]) (F1 := 2) (L1 := 40) (mc := 0) (ms := 0) d_Parts_readPart_51 cV_Parts_41 (g_wordEndH e_po e_d hln hal (by omega) (by omega)) e_po ⟨by decide, rfl⟩ ⟨by omega, by show 8 + (3 + 11) + 40 ≤ _; omega⟩ ⟨by omega, by omega⟩ (Nat.le_of_ble_eq_true rfl) (fun v_82 h_81 p_83 => ?_)
      obtain ⟨rfl, rfl⟩ := p_83
      refine s_Parts_readPart_54e (kinds_a0 := some k1) (starts_a0 := some k2) (letters_a0 := some d) e_k3 (vp_in_nI (by omega) (by decide)) e_po ?_
      refine x_u1 (fun h_84 e_85 f_86 => ?_)
      have e_87 := (f_86 po (xw_neC e_po e_k3 (by simp))).trans e_po
      have e_88 := (f_86 d (xw_neC e_d e_k3 (by simp))).trans e_d
      have e_89 := (f_86 k1 nk.2.1).trans e_k1
      have e_90 := (f_86 k2 nk.2.2).trans e_k2
      have r_91 := r0.up (by simp) f_86
      refine x_callV (As := [.int (nI a), .int (nI (wr fd ln a))]) (b := po) (rest := [.int (nI i), .ref k1]) (F1 := 6) (L1 := 205) (mc := 0) (ms := 0) d_Parts_readPart_68 cV_Parts_44 (g_wordKindH e_87 e_88 hln (wr_ge fd ln a).1 ((wr_ge fd ln a).2 hal) (by omega) (by omega)) e_87 ⟨by decide, rfl⟩ ⟨by omega, by show 8 + (3 + 11) + 205 ≤ _; omega⟩ ⟨by omega, by omega⟩ (Nat.le_of_ble_eq_true rfl) (fun v_93 h_92 p_94 => ?_)
      obtain ⟨rfl, rfl⟩ := p_94
      refine x_le (xw_le_n (xw_le_n (xw_le_n (xw_le_n xw_le_e)))) ?_
      refine s_Parts_readPart_71 e_89 (vp_in_nI (by omega) (by decide)) ?_
      refine x_u1 (fun h_95 e_96 f_97 => ?_)
      have e_98 := (f_97 po (xw_neC e_87 e_89 (by simp))).trans e_87
      have e_99 := (f_97 d (xw_neC e_88 e_89 (by simp))).trans e_88
      have e_100 := (f_97 k2 (Ne.symm nk.1)).trans e_90
      have e_101 := (f_97 k3 (Ne.symm nk.2.1)).trans e_85
      have r_102 := r_91.up (by simp) f_97
      refine s_Parts_readPart_160 ?_
      rw [nI_clamp (show i < 2 ^ 31 by omega)] at e_96 e_101
      rw [lexK_w hal2 hw9]
      exact ⟨rfl, e_96, e_101, r_102⟩
  · skip
    rw [nI_clamp (show i < 2 ^ 31 by omega), ha] at z_2 ⊢
    refine s_Parts_readPart_15 (starts_a0 := some k2) (letters_a0 := some d) e_po e_k1 (vp_in_nI (by omega) (by decide)) e_k3 (vp_in_nI (by omega) (by decide)) (Ne.symm nk.2.1) ?_
    refine x_u2 (fun h_103 e_104 f_105 h_106 e_107 f_108 => ?_)
    have e_109 := (f_105 po (xw_neC e_po e_k1 (by simp))).trans e_po
    have e_110 := (f_105 d (xw_neC e_d e_k1 (by simp))).trans e_d
    have e_111 := (f_105 k2 (Ne.symm nk.1)).trans e_k2
    have e_112 := (f_105 k3 (Ne.symm nk.2.1)).trans e_k3
    have r_113 := r0.up (by simp) f_105
    have e_114 := (f_108 po (xw_neC e_109 e_112 (by simp))).trans e_109
    have e_115 := (f_108 d (xw_neC e_110 e_112 (by simp))).trans e_110
    have e_116 := (f_108 k1 nk.2.1).trans e_104
    have e_117 := (f_108 k2 nk.2.2).trans e_111
    have r_118 := r_113.up (by simp) f_108
    refine s_Parts_readPart_160 ?_
    rw [nI_clamp (show i < 2 ^ 31 by omega)] at e_116 e_107
    rw [lexK_e (show ln ≤ a from Nat.le_of_not_lt (fun q => z_2 (nI_lt q (by omega))))]
    exact ⟨rfl, e_116, e_107, r_118⟩
set_option maxHeartbeats 2000000 in
theorem lp_splitH {G : xw_G} {F L bc bs : Nat} {pr : Option Value → xw_A → Prop} {px : String → xw_A → Prop} {h0 : xw_A} {po k1 k2 k3 d ln : Nat} {fd : Nat → Int32} (hln : ln ≤ 96) (nk : k1 ≠ k2 ∧ k1 ≠ k3 ∧ k2 ≠ k3) (h128 : ∀ j, j < ln → ∃ c, c < 128 ∧ fd j = nI c) (hF : 8 ≤ F) (hL : 250 ≤ L) (kk : ∀ (h : xw_A) (c : Nat) (fk fs fe : Nat → Int32), PkC po k1 k2 k3 d ln c fk fs fe fd h → LxF c fd ln fk fs fe → FrO [po, k1, k2, k3] h0 h → pr none h) :
    ∀ (dd i : Nat) (h : xw_A) (x : Nat) (fk : Nat → Int32) (fs : Nat → Int32) (fe : Nat → Int32), i + dd = 97 → h po = some (.inr (3, [.ref k1, .ref k2, .ref k3, .ref d, .int (nI ln)])) → h d = some (.inl (1, 96, .inl fd)) → h k1 = some (.inl (0, 97, .inl fk)) → h k2 = some (.inl (0, 97, .inl fs)) → h k3 = some (.inl (0, 97, .inl fe)) → LxI i x fd ln fk fs fe → FrO [po, k1, k2, k3] h0 h → xw G m_Parts_split F L bc bs pr px 15 [some (.ref po), none, none, some (.int (nI x)), some (.int (nI i))] [] h := by
  intro dd
  induction dd with
  | zero =>
    intro i h x fk fs fe hi e_po e_d e_k1 e_k2 e_k3 SP r0
    obtain rfl : i = 97 := by omega
    refine s_Parts_split_15 (starts_a0 := some k2) (ends_a0 := some k3) (letters_a0 := some d) e_po e_k1 (fun z_1 => ?_) (fun z => absurd z (by decide))
    refine s_Parts_split_81 ?_
    exact absurd (pls_le fd ln 97) (by have h9 := SP.1; have h8 := SP.2.1; omega)
  | succ dd ih =>
    intro i h x fk fs fe hi e_po e_d e_k1 e_k2 e_k3 SP r0
    refine s_Parts_split_15 (starts_a0 := some k2) (ends_a0 := some k3) (letters_a0 := some d) e_po e_k1 (fun z => absurd z (nI_ge (b := 97) (show i < 97 by omega) (by decide))) (fun z_1 => ?_)
    refine s_Parts_split_25 ?_
    have hxl : x ≤ ln := by rw [SP.1]; exact pls_le fd ln i
    refine x_callV (As := [.int (nI x)]) (b := po) (rest := []) (F1 := 1) (L1 := 20) (mc := 0) (ms := 0) d_Parts_split_27 cV_Parts_29 (g_blanksH e_po e_d hln hxl (by omega) (by omega)) e_po ⟨by decide, rfl⟩ ⟨by omega, by show 8 + (3 + 11) + 20 ≤ _; omega⟩ ⟨by omega, by omega⟩ (Nat.le_of_ble_eq_true rfl) (fun v_3 h_2 p_4 => ?_)
    obtain ⟨rfl, rfl⟩ := p_4
    refine x_le (xw_le_s (xw_le_n (xw_le_n (xw_le_n (xw_le_s xw_le_e))))) ?_
    refine s_Parts_split_30 (kinds_a0 := some k1) (ends_a0 := some k3) (letters_a0 := some d) e_po e_k2 (vp_in_nI (by omega) (by decide)) ?_
    refine x_u1 (fun h_5 e_6 f_7 => ?_)
    have e_8 := (f_7 po (xw_neC e_po e_k2 (by simp))).trans e_po
    have e_9 := (f_7 d (xw_neC e_d e_k2 (by simp))).trans e_d
    have e_10 := (f_7 k1 nk.1).trans e_k1
    have e_11 := (f_7 k3 (Ne.symm nk.2.2)).trans e_k3
    have r_12 := r0.up (by simp) f_7
    rw [nI_clamp (show i < 2 ^ 31 by omega)] at e_6
    refine x_callV (As := [.int (nI i)]) (b := po) (rest := []) (F1 := 7) (L1 := 227) (mc := 0) (ms := 0) d_Parts_split_42 cV_Parts_33 (g_readPartH e_8 e_9 hln e_10 e_6 e_11 (show i < 97 by omega) pk_us ((bl_ge fd ln x).2 hxl) nk h128 (by omega) (by omega)) e_8 ⟨by decide, rfl⟩ ⟨by omega, by show 8 + (4 + 11) + 227 ≤ _; omega⟩ ⟨by omega, by omega⟩ (Nat.le_of_ble_eq_true rfl) (fun v_17 h_16 p_18 => ?_)
    obtain ⟨rfl, e_13, e_14, fr_15⟩ := p_18
    have e_19 := fr_15 po _ (by simp only [List.mem_cons, List.not_mem_nil, or_false, not_or]; exact ⟨xw_neC e_po e_k1 (by simp), xw_neC e_po e_k3 (by simp)⟩) e_8
    have e_20 := fr_15 d _ (by simp only [List.mem_cons, List.not_mem_nil, or_false, not_or]; exact ⟨xw_neC e_d e_k1 (by simp), xw_neC e_d e_k3 (by simp)⟩) e_9
    have e_21 := fr_15 k2 _ (by simp only [List.mem_cons, List.not_mem_nil, or_false, not_or]; exact ⟨Ne.symm nk.1, nk.2.2⟩) e_6
    have r_22 := r_12.trans (fr_15.mono (by simp))
    refine x_le (xw_le_s (xw_le_n (xw_le_n (xw_le_n (xw_le_s xw_le_e))))) ?_
    refine s_Parts_split_45 (starts_a0 := some k2) (letters_a0 := some d) e_19 e_14 (vp_in_nI (by omega) (by decide)) e_13 (vp_in_nI (by omega) (by decide)) (fun z_23 => ?_) (fun z_24 => ?_)
    · skip
      refine s_Parts_split_74 ?_
      rw [nI_clamp (show i < 2 ^ 31 by omega), pk_us] at z_23
      have LF := SP.fin (Or.inl z_23)
      exact kk _ _ _ _ _ ⟨e_19, e_20, e_13, e_21, e_14, hln, LF.pk hln⟩ LF r_22
    · skip
      refine s_Parts_split_63 (starts_a0 := some k2) (ends_a0 := some k3) (letters_a0 := some d) e_19 e_13 (vp_in_nI (by omega) (by decide)) (fun z_25 => ?_) (fun z_26 => ?_)
      · skip
        refine s_Parts_split_75 ?_
        rw [nI_clamp (show i < 2 ^ 31 by omega), pk_us] at z_24
        rw [nI_clamp (show i < 2 ^ 31 by omega), pk_us] at z_25
        rw [nI_1, nI_clamp (show i < 2 ^ 31 by omega), pk_us]
        exact ih (i + 1) _ _ _ _ _ (by omega) e_19 e_20 e_13 e_21 e_14 (SP.next z_24 z_25) r_22
      · skip
        refine s_Parts_split_74 ?_
        rw [nI_clamp (show i < 2 ^ 31 by omega), pk_us] at z_26
        have LF := SP.fin (Or.inr z_26)
        exact kk _ _ _ _ _ ⟨e_19, e_20, e_13, e_21, e_14, hln, LF.pk hln⟩ LF r_22
set_option maxHeartbeats 400000 in
theorem g_splitH {G : xw_G} {F L : Nat} {h : xw_A} {po k1 k2 k3 d ln : Nat} {dq : Option Nat} {x0 : Int32} {fk fs fe fd : Nat → Int32} (e_po : h po = some (.inr (3, [.ref k1, .ref k2, .ref k3, va_rf dq, .int x0]))) (e_d : h d = some (.inl (1, 96, .inl fd))) (hln : ln ≤ 96) (e_k1 : h k1 = some (.inl (0, 97, .inl fk))) (e_k2 : h k2 = some (.inl (0, 97, .inl fs))) (e_k3 : h k3 = some (.inl (0, 97, .inl fe))) (nk : k1 ≠ k2 ∧ k1 ≠ k3 ∧ k2 ≠ k3) (h128 : ∀ j, j < ln → ∃ c, c < 128 ∧ fd j = nI c) (hF : 8 ≤ F) (hL : 250 ≤ L) :
    xw_Met G m_Parts_split F L 0 0 [.ref po, .ref d, .int (nI ln)] h (fun v h' => v = none ∧ (∃ (c : Nat) (fk fs fe : Nat → Int32), PkC po k1 k2 k3 d ln c fk fs fe fd h' ∧ LxF c fd ln fk fs fe) ∧ FrO [po, k1, k2, k3] h h') (fun _ _ => False) := by
  refine xw_Met.of rfl (by decide) (Nat.le_of_ble_eq_true rfl) ?_
  refine s_Parts_split_0 (kinds_a0 := some k1) (starts_a0 := some k2) (ends_a0 := some k3) (letters_a0 := dq) e_po ?_
  rw [xw_up_up]
  refine x_u1 (fun h1 e1 f1 => ?_)
  exact lp_splitH (h0 := h) hln nk h128 (by omega) (by omega) (fun h2 c fk fs fe P LF r => ⟨rfl, ⟨c, fk, fs, fe, P, LF⟩, r⟩) 97 0 _ 0 _ _ _ rfl e1 ((f1 _ (xw_neC e_d e_po (by simp))).trans e_d) ((f1 _ (xw_neC e_k1 e_po (by simp))).trans e_k1) ((f1 _ (xw_neC e_k2 e_po (by simp))).trans e_k2) ((f1 _ (xw_neC e_k3 e_po (by simp))).trans e_k3) ⟨rfl, Nat.le_refl _, fun j hj => absurd hj (Nat.not_lt_zero _)⟩ (FrO.rf.up (by simp) f1)
