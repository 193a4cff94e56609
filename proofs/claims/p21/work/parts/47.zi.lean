set_option maxHeartbeats 400000 in
theorem g_placesOfH {G : xw_G} {F L : Nat} {h : xw_A} {qo : Nat} {so sp : Nat} {pf : Nat → Int32} (e_so : h so = some (.inr (7, [.ref sp, .ref qo]))) (e_sp : h sp = some (.inl (0, 576, .inl pf))) {a r cc : Nat} (ha : a < 12) (hr1 : 1 ≤ r) (hr2 : r ≤ 24) (hcc : cc < 2) (hF : 2 ≤ F) (hL : 42 ≤ L) :
    xw_Met G m_Standing_placesOf F L 0 0 [.ref so, .int (nI a), .int (nI r), .int (nI cc)] h (fun v h' => v = some (.int (pf ((a * 24 + r - 1) * 2 + cc))) ∧ h = h') (fun _ _ => False) := by
  refine xw_Met.of rfl (by decide) (Nat.le_of_ble_eq_true rfl) ?_
  refine s_Standing_placesOf_0 (places_a0 := some sp) (question_a0 := some qo) e_so ?_
  refine x_callS (As := [.int (nI a), .int (nI r), .int (nI cc)]) (rest := [.ref sp]) (F1 := 1) (L1 := 20) (mc := 0) (ms := 0) d_Standing_placesOf_7 cS_Standing_45 (g_index hr1 (by omega) (by omega)) ⟨by omega, by show 8 + (3 + 11) + 20 ≤ _; omega⟩ ⟨by omega, by omega⟩ (Nat.le_of_ble_eq_true rfl) (fun v_2 h_1 p_3 => ?_)
  obtain ⟨rfl, rfl⟩ := p_3
  refine x_le (xw_le_n (xw_le_n (xw_le_n (xw_le_n xw_le_e)))) ?_
  refine s_Standing_placesOf_10 e_sp (vp_in_nI (by omega) (by decide)) ?_
  exact ⟨congrArg (fun z => some (Value.int z)) (by rw [nI_clamp (by omega)]), rfl⟩
set_option maxHeartbeats 1000000 in
theorem lp_allReachH {G : xw_G} {F L bc bs : Nat} {pr : Option Value → xw_A → Prop} {px : String → xw_A → Prop} {h : xw_A} {qo tk tl tz ph nd po k1 k2 k3 d ln c : Nat} {fk fs fe fd : Nat → Int32} {fp fn : Nat → Option Nat} {p nn n t : Nat} {wp : Int32} {f g : Nat → Int32} (K : QuC qo tk tl tz ph nd po k1 k2 k3 d ln c fk fs fe fd fp fn p nn n t wp f g h) {so sp : Nat} {pf : Nat → Int32} (e_so : h so = some (.inr (7, [.ref sp, .ref qo]))) (e_sp : h sp = some (.inl (0, 576, .inl pf))) {nq ua ub far cc9 : Nat} {nl nr : Option Nat} {z0 z1 z2 z3 z4 : Int32} {PL : Nat → Prop} (e_nq : h nq = some (.inr (2, [.int z0, va_rf nl, va_rf nr, .int (nI ua), .int (nI ub), .int z1, .int z2, .int z3, .int z4]))) (huv : ua ≤ ub) (hvp : ub ≤ p) (hfar : z1 = nI far ∧ far < 100) (hz2 : z2 = nI cc9 ∧ cc9 ≤ 3) (hPL : BW z3 PL) {Q : Nat → Nat → Nat → Nat → Prop} {lq : Nat → Nat} (FL : FLs Q pf (p * 48)) (hlq : ∀ i, i < p → ∃ (pa : Nat) (x b : Int32), fp i = some pa ∧ h pa = some (.inr (4, [.int x, .int (nI (lq i)), .int b])) ∧ lq i ≤ 96) {r cc : Nat} (hr1 : 1 ≤ r) (hr2 : r ≤ 24) (hcc : cc < 2) {ev : Nat} (he1 : 1 ≤ ev) (he2 : ev ≤ 24) (hF : 3 ≤ F) (hL : 65 ≤ L) (kk : ∀ y : Int32, ((y = 0 ∧ ¬ RAp Q lq ua ub far r cc ev) ∨ (y = 1 ∧ RAp Q lq ua ub far r cc ev)) → pr (some (.int y)) h) :
    ∀ (dd i : Nat) , i + dd = ub → (ua ≤ i ∧ ∀ p9, ua ≤ p9 → p9 < i → ∃ j, ev - lq p9 ≤ j ∧ j ≤ min 24 (ev + far) ∧ Q p9 r cc j) → xw G m_Standing_allReach F L bc bs pr px 6 [some (.ref so), some (.ref nq), some (.int (nI r)), some (.int (nI cc)), some (.int (nI ev)), some (.int (nI i)), none, none, none] [] h := by
  obtain ⟨e_qo, T, e_ph, e_nd, P, hp, hnn, ht, Fp, Nd⟩ := id K
  obtain ⟨e_po, e_d, e_k1, e_k2, e_k3, hln, PF⟩ := id P
  have e_tk := T.1
  have hc := PF.1
  intro dd
  induction dd with
  | zero =>
    intro i  hi hp
    obtain rfl : i = ub := by omega
    refine s_Standing_allReach_6 (left_a1 := nl) (right_a1 := nr) e_nq (fun z_1 => ?_) (fun z => absurd (nI_le (Nat.le_refl _) (by omega)) z)
    refine s_Standing_allReach_86 ?_
    exact kk _ (Or.inr ⟨rfl, fun p9 q1 q2 => hp.2 p9 q1 q2⟩)
  | succ dd ih =>
    intro i  hi hp
    refine s_Standing_allReach_6 (left_a1 := nl) (right_a1 := nr) e_nq (fun z => absurd z (nI_ge (b := ub) (show i < ub by omega) (by omega))) (fun z_1 => ?_)
    obtain ⟨pa, px1, pb1, ea1, ea2, hl96⟩ := hlq i (by omega)
    refine s_Standing_allReach_15 (g27 := pa) (places_a0 := some sp) (tokens_question_a0 := some tk) (nodes_question_a0 := some nd) (parts_question_a0 := some po) (letters_question_a0 := some d) e_so e_qo e_ph (vp_in_nI (by omega) (by omega)) (by rw [nI_clamp (by omega)]; exact ea1) ea2 ?_
    refine x_mmaxH (e := ev) (s := lq i) (by omega) (by omega) d_Standing_allReach_32 cM_Standing_138 (by omega) (by show 0 + 13 ≤ _; omega) ?_
    refine s_Standing_allReach_35 (left_a1 := nl) (right_a1 := nr) e_nq ?_
    rw [hfar.1, nI_add]
    refine x_mminH (a := 24) (b := ev + far) (by decide) (by omega) d_Standing_allReach_46 cM_Standing_147 (by omega) (by show 0 + 13 ≤ _; omega) ?_
    refine s_Standing_allReach_49 ?_
    refine x_callV (As := [.int (nI i), .int (nI r), .int (nI cc)]) (b := so) (rest := []) (F1 := 2) (L1 := 42) (mc := 0) (ms := 0) d_Standing_allReach_69 cV_Standing_78 (g_placesOfH e_so e_sp (by omega) hr1 hr2 hcc (by omega) (by omega)) e_so ⟨by decide, rfl⟩ ⟨by omega, by show 8 + (4 + 11) + 42 ≤ _; omega⟩ ⟨by omega, by omega⟩ (Nat.le_of_ble_eq_true rfl) (fun v_3 h_2 p_4 => ?_)
    obtain ⟨rfl, rfl⟩ := p_4
    refine x_le (xw_le_s (xw_le_s (xw_le_s (xw_le_s (xw_le_s (xw_le_s (xw_le_n (xw_le_n (xw_le_s xw_le_e))))))))) ?_
    refine s_Standing_allReach_72 (fun z_5 => ?_) (fun z_6 => ?_)
    · skip
      refine s_Standing_allReach_80 ?_
      simp only [nI_1]
      have hbs : BW (((1 : Int32) <<< ((nI (min 24 (ev + far)) + 1) &&& 31)) - ((1 : Int32) <<< (nI (ev - lq i) &&& 31))) (fun j => ev - lq i ≤ j ∧ j ≤ min 24 (ev + far)) := fun j hj => tb_span _ (by omega) _ (by omega) j hj
      have hba := (FL i r cc hr1 hr2 hcc (by omega)).and0 hbs
      exact ih (i + 1) (by omega) ⟨by omega, fun p9 q1 q2 => by by_cases q : p9 = i; (rw [q]; exact Classical.byContradiction (fun q9 => z_5 (hba.mpr (fun j hj w9 => q9 ⟨j, w9.2.1, w9.2.2, w9.1⟩)))); (exact hp.2 p9 q1 (by omega))⟩
    · skip
      refine s_Standing_allReach_78 ?_
      have hbs : BW (((1 : Int32) <<< ((nI (min 24 (ev + far)) + 1) &&& 31)) - ((1 : Int32) <<< (nI (ev - lq i) &&& 31))) (fun j => ev - lq i ≤ j ∧ j ≤ min 24 (ev + far)) := fun j hj => tb_span _ (by omega) _ (by omega) j hj
      have hba := (FL i r cc hr1 hr2 hcc (by omega)).and0 hbs
      exact kk _ (Or.inl ⟨rfl, fun R => by obtain ⟨j, q1, q2, q3⟩ := R i hp.1 (by omega); exact (hba.mp z_6) j (by omega) ⟨q3, q1, q2⟩⟩)
set_option maxHeartbeats 400000 in
theorem g_allReachH {G : xw_G} {F L : Nat} {h : xw_A} {qo tk tl tz ph nd po k1 k2 k3 d ln c : Nat} {fk fs fe fd : Nat → Int32} {fp fn : Nat → Option Nat} {p nn n t : Nat} {wp : Int32} {f g : Nat → Int32} (K : QuC qo tk tl tz ph nd po k1 k2 k3 d ln c fk fs fe fd fp fn p nn n t wp f g h) {so sp : Nat} {pf : Nat → Int32} (e_so : h so = some (.inr (7, [.ref sp, .ref qo]))) (e_sp : h sp = some (.inl (0, 576, .inl pf))) {nq ua ub far cc9 : Nat} {nl nr : Option Nat} {z0 z1 z2 z3 z4 : Int32} {PL : Nat → Prop} (e_nq : h nq = some (.inr (2, [.int z0, va_rf nl, va_rf nr, .int (nI ua), .int (nI ub), .int z1, .int z2, .int z3, .int z4]))) (huv : ua ≤ ub) (hvp : ub ≤ p) (hfar : z1 = nI far ∧ far < 100) (hz2 : z2 = nI cc9 ∧ cc9 ≤ 3) (hPL : BW z3 PL) {Q : Nat → Nat → Nat → Nat → Prop} {lq : Nat → Nat} (FL : FLs Q pf (p * 48)) (hlq : ∀ i, i < p → ∃ (pa : Nat) (x b : Int32), fp i = some pa ∧ h pa = some (.inr (4, [.int x, .int (nI (lq i)), .int b])) ∧ lq i ≤ 96) {r cc : Nat} (hr1 : 1 ≤ r) (hr2 : r ≤ 24) (hcc : cc < 2) {ev : Nat} (he1 : 1 ≤ ev) (he2 : ev ≤ 24) (hF : 3 ≤ F) (hL : 65 ≤ L) :
    xw_Met G m_Standing_allReach F L 0 0 [.ref so, .ref nq, .int (nI r), .int (nI cc), .int (nI ev)] h (fun v h' => (∃ y : Int32, v = some (.int y) ∧ ((y = 0 ∧ ¬ RAp Q lq ua ub far r cc ev) ∨ (y = 1 ∧ RAp Q lq ua ub far r cc ev))) ∧ h = h') (fun _ _ => False) := by
  refine xw_Met.of rfl (by decide) (Nat.le_of_ble_eq_true rfl) ?_
  refine s_Standing_allReach_0 (left_a1 := nl) (right_a1 := nr) e_nq ?_
  exact lp_allReachH K e_so e_sp e_nq huv hvp hfar hz2 hPL FL hlq hr1 hr2 hcc he1 he2 (by omega) (by omega) (fun y hy => ⟨⟨y, rfl, hy⟩, rfl⟩) (ub - ua) ua (by omega) ⟨Nat.le_refl _, fun p9 q1 q2 => absurd q2 (by omega)⟩
set_option maxHeartbeats 1000000 in
theorem lp_areNearH {G : xw_G} {F L bc bs : Nat} {pr : Option Value → xw_A → Prop} {px : String → xw_A → Prop} {h : xw_A} {qo tk tl tz ph nd po k1 k2 k3 d ln c : Nat} {fk fs fe fd : Nat → Int32} {fp fn : Nat → Option Nat} {p nn n t : Nat} {wp : Int32} {f g : Nat → Int32} (K : QuC qo tk tl tz ph nd po k1 k2 k3 d ln c fk fs fe fd fp fn p nn n t wp f g h) {so sp : Nat} {pf : Nat → Int32} (e_so : h so = some (.inr (7, [.ref sp, .ref qo]))) (e_sp : h sp = some (.inl (0, 576, .inl pf))) {nq ua ub far cc9 : Nat} {nl nr : Option Nat} {z0 z1 z2 z3 z4 : Int32} {PL : Nat → Prop} (e_nq : h nq = some (.inr (2, [.int z0, va_rf nl, va_rf nr, .int (nI ua), .int (nI ub), .int z1, .int z2, .int z3, .int z4]))) (huv : ua ≤ ub) (hvp : ub ≤ p) (hfar : z1 = nI far ∧ far < 100) (hz2 : z2 = nI cc9 ∧ cc9 ≤ 3) (hPL : BW z3 PL) {Q : Nat → Nat → Nat → Nat → Prop} {lq : Nat → Nat} (FL : FLs Q pf (p * 48)) (hlq : ∀ i, i < p → ∃ (pa : Nat) (x b : Int32), fp i = some pa ∧ h pa = some (.inr (4, [.int x, .int (nI (lq i)), .int b])) ∧ lq i ≤ 96) {r cc : Nat} (hr1 : 1 ≤ r) (hr2 : r ≤ 24) (hcc : cc < 2) (hF : 4 ≤ F) (hL : 93 ≤ L) (kk : ∀ y : Int32, ((y = 0 ∧ ¬ (∃ e, 1 ≤ e ∧ e ≤ 24 ∧ RAp Q lq ua ub far r cc e)) ∨ (y = 1 ∧ (∃ e, 1 ≤ e ∧ e ≤ 24 ∧ RAp Q lq ua ub far r cc e))) → pr (some (.int y)) h) :
    ∀ (dd i : Nat) , i + dd = 25 → (1 ≤ i ∧ ∀ e9, 1 ≤ e9 → e9 < i → ¬ RAp Q lq ua ub far r cc e9) → xw G m_Standing_areNear F L bc bs pr px 3 [some (.ref so), some (.ref nq), some (.int (nI r)), some (.int (nI cc)), some (.int (nI i))] [] h := by
  intro dd
  induction dd with
  | zero =>
    intro i  hi hp
    obtain rfl : i = 25 := by omega
    refine s_Standing_areNear_3 (fun z_1 => ?_) (fun z => absurd (by decide) z)
    refine s_Standing_areNear_30 ?_
    exact kk _ (Or.inl ⟨rfl, fun ⟨e9, q1, q2, q3⟩ => hp.2 e9 q1 (by omega) q3⟩)
  | succ dd ih =>
    intro i  hi hp
    refine s_Standing_areNear_3 (fun z => absurd z (nI_nlt (a := 24) (show i ≤ 24 by omega) (by decide))) (fun z_1 => ?_)
    refine s_Standing_areNear_10 ?_
    refine x_callV (As := [.ref nq, .int (nI r), .int (nI cc), .int (nI i)]) (b := so) (rest := []) (F1 := 3) (L1 := 65) (mc := 0) (ms := 0) d_Standing_areNear_16 cV_Standing_134 (g_allReachH K e_so e_sp e_nq huv hvp hfar hz2 hPL FL hlq hr1 hr2 hcc (show 1 ≤ i by omega) (by omega) (by omega) (by omega)) e_so ⟨by decide, rfl⟩ ⟨by omega, by show 8 + (9 + 11) + 65 ≤ _; omega⟩ ⟨by omega, by omega⟩ (Nat.le_of_ble_eq_true rfl) (fun v_5 h_4 p_6 => ?_)
    obtain ⟨⟨y_2, rfl, hy_3⟩, rfl⟩ := p_6
    refine s_Standing_areNear_19 (fun z_7 => ?_) (fun z_8 => ?_)
    · skip
      refine s_Standing_areNear_24 ?_
      simp only [nI_1]
      have hf_9 := (hy_3.resolve_right (fun q => absurd (q.1.symm.trans z_7) (by decide))).2
      exact ih (i + 1) (by omega) ⟨by omega, fun e9 q1 q2 q3 => by by_cases q : e9 = i; (rw [q] at q3; exact hf_9 q3); (exact hp.2 e9 q1 (by omega) q3)⟩
    · skip
      refine s_Standing_areNear_22 ?_
      have hf_10 := (hy_3.resolve_left (fun q => z_8 q.1)).2
      exact kk _ (Or.inr ⟨rfl, i, hp.1, by omega, hf_10⟩)
set_option maxHeartbeats 400000 in
theorem g_areNearH {G : xw_G} {F L : Nat} {h : xw_A} {qo tk tl tz ph nd po k1 k2 k3 d ln c : Nat} {fk fs fe fd : Nat → Int32} {fp fn : Nat → Option Nat} {p nn n t : Nat} {wp : Int32} {f g : Nat → Int32} (K : QuC qo tk tl tz ph nd po k1 k2 k3 d ln c fk fs fe fd fp fn p nn n t wp f g h) {so sp : Nat} {pf : Nat → Int32} (e_so : h so = some (.inr (7, [.ref sp, .ref qo]))) (e_sp : h sp = some (.inl (0, 576, .inl pf))) {nq ua ub far cc9 : Nat} {nl nr : Option Nat} {z0 z1 z2 z3 z4 : Int32} {PL : Nat → Prop} (e_nq : h nq = some (.inr (2, [.int z0, va_rf nl, va_rf nr, .int (nI ua), .int (nI ub), .int z1, .int z2, .int z3, .int z4]))) (huv : ua ≤ ub) (hvp : ub ≤ p) (hfar : z1 = nI far ∧ far < 100) (hz2 : z2 = nI cc9 ∧ cc9 ≤ 3) (hPL : BW z3 PL) {Q : Nat → Nat → Nat → Nat → Prop} {lq : Nat → Nat} (FL : FLs Q pf (p * 48)) (hlq : ∀ i, i < p → ∃ (pa : Nat) (x b : Int32), fp i = some pa ∧ h pa = some (.inr (4, [.int x, .int (nI (lq i)), .int b])) ∧ lq i ≤ 96) {r cc : Nat} (hr1 : 1 ≤ r) (hr2 : r ≤ 24) (hcc : cc < 2) (hF : 4 ≤ F) (hL : 93 ≤ L) :
    xw_Met G m_Standing_areNear F L 0 0 [.ref so, .ref nq, .int (nI r), .int (nI cc)] h (fun v h' => (∃ y : Int32, v = some (.int y) ∧ ((y = 0 ∧ ¬ (∃ e, 1 ≤ e ∧ e ≤ 24 ∧ RAp Q lq ua ub far r cc e)) ∨ (y = 1 ∧ (∃ e, 1 ≤ e ∧ e ≤ 24 ∧ RAp Q lq ua ub far r cc e)))) ∧ h = h') (fun _ _ => False) := by
  refine xw_Met.of rfl (by decide) (Nat.le_of_ble_eq_true rfl) ?_
  refine s_Standing_areNear_0 ?_
  exact lp_areNearH K e_so e_sp e_nq huv hvp hfar hz2 hPL FL hlq hr1 hr2 hcc (by omega) (by omega) (fun y hy => ⟨⟨y, rfl, hy⟩, rfl⟩) 24 1 rfl ⟨Nat.le_refl _, fun e9 q1 q2 => absurd q2 (by omega)⟩
set_option maxHeartbeats 1000000 in
theorem lp_holdsH {G : xw_G} {F L bc bs : Nat} {pr : Option Value → xw_A → Prop} {px : String → xw_A → Prop} {h : xw_A} {qo tk tl tz ph nd po k1 k2 k3 d ln c : Nat} {fk fs fe fd : Nat → Int32} {fp fn : Nat → Option Nat} {p nn n t : Nat} {wp : Int32} {f g : Nat → Int32} (K : QuC qo tk tl tz ph nd po k1 k2 k3 d ln c fk fs fe fd fp fn p nn n t wp f g h) {so sp : Nat} {pf : Nat → Int32} (e_so : h so = some (.inr (7, [.ref sp, .ref qo]))) (e_sp : h sp = some (.inl (0, 576, .inl pf))) {nq ua ub far cc9 : Nat} {nl nr : Option Nat} {z0 z1 z2 z3 z4 : Int32} {PL : Nat → Prop} (e_nq : h nq = some (.inr (2, [.int z0, va_rf nl, va_rf nr, .int (nI ua), .int (nI ub), .int z1, .int z2, .int z3, .int z4]))) (huv : ua ≤ ub) (hvp : ub ≤ p) (hfar : z1 = nI far ∧ far < 100) (hz2 : z2 = nI cc9 ∧ cc9 ≤ 3) (hPL : BW z3 PL) {Q : Nat → Nat → Nat → Nat → Prop} {lq : Nat → Nat} (FL : FLs Q pf (p * 48)) (hlq : ∀ i, i < p → ∃ (pa : Nat) (x b : Int32), fp i = some pa ∧ h pa = some (.inr (4, [.int x, .int (nI (lq i)), .int b])) ∧ lq i ≤ 96) {r cc : Nat} (hr1 : 1 ≤ r) (hr2 : r ≤ 24) (hcc : cc < 2) (kk0 : ¬ (∀ p9, ua ≤ p9 → p9 < ub → ∃ j, j < 32 ∧ Q p9 r cc j ∧ PL j) → pr (some (.int 0)) h) (hF : 3 ≤ F) (hL : 65 ≤ L) (kk : (∀ p9, ua ≤ p9 → p9 < ub → ∃ j, j < 32 ∧ Q p9 r cc j ∧ PL j) → xw G m_Standing_holds F L bc bs pr px 39 [some (.ref so), some (.ref nq), some (.int (nI r)), some (.int (nI cc)), none] [] h) :
    ∀ (dd i : Nat) , i + dd = ub → (ua ≤ i ∧ (∀ p9, ua ≤ p9 → p9 < i → ∃ j, j < 32 ∧ Q p9 r cc j ∧ PL j)) → xw G m_Standing_holds F L bc bs pr px 6 [some (.ref so), some (.ref nq), some (.int (nI r)), some (.int (nI cc)), some (.int (nI i))] [] h := by
  obtain ⟨e_qo, T, e_ph, e_nd, P, hp, hnn, ht, Fp, Nd⟩ := id K
  obtain ⟨e_po, e_d, e_k1, e_k2, e_k3, hln, PF⟩ := id P
  have e_tk := T.1
  have hc := PF.1
  intro dd
  induction dd with
  | zero =>
    intro i  hi hp
    obtain rfl : i = ub := by omega
    refine s_Standing_holds_6 (left_a1 := nl) (right_a1 := nr) e_nq (fun z_1 => ?_) (fun z => absurd (nI_le (Nat.le_refl _) (by omega)) z)
    exact kk hp.2
  | succ dd ih =>
    intro i  hi hp
    refine s_Standing_holds_6 (left_a1 := nl) (right_a1 := nr) e_nq (fun z => absurd z (nI_ge (b := ub) (show i < ub by omega) (by omega))) (fun z_1 => ?_)
    refine s_Standing_holds_15 ?_
    refine x_callV (As := [.int (nI i), .int (nI r), .int (nI cc)]) (b := so) (rest := []) (F1 := 2) (L1 := 42) (mc := 0) (ms := 0) d_Standing_holds_20 cV_Standing_78 (g_placesOfH e_so e_sp (by omega) hr1 hr2 hcc (by omega) (by omega)) e_so ⟨by decide, rfl⟩ ⟨by omega, by show 8 + (4 + 11) + 42 ≤ _; omega⟩ ⟨by omega, by omega⟩ (Nat.le_of_ble_eq_true rfl) (fun v_3 h_2 p_4 => ?_)
    obtain ⟨rfl, rfl⟩ := p_4
    refine s_Standing_holds_23 (left_a1 := nl) (right_a1 := nr) e_nq (fun z_5 => ?_) (fun z_6 => ?_)
    · skip
      refine s_Standing_holds_33 ?_
      simp only [nI_1]
      exact ih (i + 1) (by omega) ⟨by omega, fun p9 q1 q2 => by by_cases q : p9 = i; (rw [q]; exact Classical.byContradiction (fun q9 => z_5 (((FL i r cc hr1 hr2 hcc (by omega)).and0 hPL).mpr (fun j hj w9 => q9 ⟨j, hj, w9⟩)))); (exact hp.2 p9 q1 (by omega))⟩
    · skip
      refine s_Standing_holds_31 ?_
      exact kk0 (fun R => by obtain ⟨j, q1, q2, q3⟩ := R i hp.1 (by omega); exact (((FL i r cc hr1 hr2 hcc (by omega)).and0 hPL).mp z_6) j q1 ⟨q2, q3⟩)
set_option maxHeartbeats 400000 in
theorem g_holdsH {G : xw_G} {F L : Nat} {h : xw_A} {qo tk tl tz ph nd po k1 k2 k3 d ln c : Nat} {fk fs fe fd : Nat → Int32} {fp fn : Nat → Option Nat} {p nn n t : Nat} {wp : Int32} {f g : Nat → Int32} (K : QuC qo tk tl tz ph nd po k1 k2 k3 d ln c fk fs fe fd fp fn p nn n t wp f g h) {so sp : Nat} {pf : Nat → Int32} (e_so : h so = some (.inr (7, [.ref sp, .ref qo]))) (e_sp : h sp = some (.inl (0, 576, .inl pf))) {nq ua ub far cc9 : Nat} {nl nr : Option Nat} {z0 z1 z2 z3 z4 : Int32} {PL : Nat → Prop} (e_nq : h nq = some (.inr (2, [.int z0, va_rf nl, va_rf nr, .int (nI ua), .int (nI ub), .int z1, .int z2, .int z3, .int z4]))) (huv : ua ≤ ub) (hvp : ub ≤ p) (hfar : z1 = nI far ∧ far < 100) (hz2 : z2 = nI cc9 ∧ cc9 ≤ 3) (hPL : BW z3 PL) {Q : Nat → Nat → Nat → Nat → Prop} {lq : Nat → Nat} (FL : FLs Q pf (p * 48)) (hlq : ∀ i, i < p → ∃ (pa : Nat) (x b : Int32), fp i = some pa ∧ h pa = some (.inr (4, [.int x, .int (nI (lq i)), .int b])) ∧ lq i ≤ 96) {r cc : Nat} (hr1 : 1 ≤ r) (hr2 : r ≤ 24) (hcc : cc < 2) (hF : 5 ≤ F) (hL : 117 ≤ L) :
    xw_Met G m_Standing_holds F L 0 0 [.ref so, .ref nq, .int (nI r), .int (nI cc)] h (fun v h' => (∃ y : Int32, v = some (.int y) ∧ ((y = 0 ∧ ¬ HOp Q lq ua ub far PL r cc) ∨ (y = 1 ∧ HOp Q lq ua ub far PL r cc))) ∧ h = h') (fun _ _ => False) := by
  refine xw_Met.of rfl (by decide) (Nat.le_of_ble_eq_true rfl) ?_
  have hp12 := K.2.2.2.2.2.1
  refine s_Standing_holds_0 (left_a1 := nl) (right_a1 := nr) e_nq ?_
  refine lp_holdsH K e_so e_sp e_nq huv hvp hfar hz2 hPL FL hlq hr1 hr2 hcc (fun q => ⟨⟨0, rfl, Or.inl ⟨rfl, fun q2 => q q2.1⟩⟩, rfl⟩) (by omega) (by omega) (fun hall => ?_) (ub - ua) ua (by omega) ⟨Nat.le_refl _, fun p9 q1 q2 => absurd q2 (by omega)⟩
  refine s_Standing_holds_39 (left_a1 := nl) (right_a1 := nr) e_nq (fun z_1 => ?_) (fun z_2 => ?_)
  · skip
    refine s_Standing_holds_62 ?_
    refine s_Standing_holds_67 rfl ?_
    have hn1 : ub = ua + 1 := by rw [pk_sub (by omega)] at z_1; have := (nI_eq (b := 1) (by omega) (by decide)).mp z_1; omega
    exact ⟨⟨_, rfl, Or.inr ⟨rfl, hall, Or.inl hn1⟩⟩, rfl⟩
  · skip
    refine s_Standing_holds_52 ?_
    have hn1 : ¬ ub = ua + 1 := fun q => z_2 (by rw [pk_sub (by omega), show ub - ua = 1 by omega]; rfl)
    refine x_callV (As := [.ref nq, .int (nI r), .int (nI cc)]) (b := so) (rest := []) (F1 := 4) (L1 := 93) (mc := 0) (ms := 0) d_Standing_holds_56 cV_Standing_131 (g_areNearH K e_so e_sp e_nq huv hvp hfar hz2 hPL FL hlq hr1 hr2 hcc (by omega) (by omega)) e_so ⟨by decide, rfl⟩ ⟨by omega, by show 8 + (5 + 11) + 93 ≤ _; omega⟩ ⟨by omega, by omega⟩ (Nat.le_of_ble_eq_true rfl) (fun v_6 h_5 p_7 => ?_)
    obtain ⟨⟨y_3, rfl, hy_4⟩, rfl⟩ := p_7
    refine x_le (xw_le_n (xw_le_n (xw_le_n (xw_le_n (xw_le_n xw_le_e))))) ?_
    refine s_Standing_holds_59 (fun z_8 => ?_) (fun z_9 => ?_)
    · skip
      refine s_Standing_holds_66 ?_
      refine s_Standing_holds_67 rfl ?_
      have hf_10 := (hy_4.resolve_right (fun q => absurd (q.1.symm.trans z_8) (by decide))).2
      exact ⟨⟨_, rfl, Or.inl ⟨rfl, fun q => q.2.elim hn1 hf_10⟩⟩, rfl⟩
    · skip
      refine s_Standing_holds_62 ?_
      refine s_Standing_holds_67 rfl ?_
      have hf_11 := (hy_4.resolve_left (fun q => z_9 q.1)).2
      exact ⟨⟨_, rfl, Or.inr ⟨rfl, hall, Or.inr hf_11⟩⟩, rfl⟩
set_option maxHeartbeats 1000000 in
theorem lp_rowsG1H {G : xw_G} {F L bc bs : Nat} {pr : Option Value → xw_A → Prop} {px : String → xw_A → Prop} {h : xw_A} {qo tk tl tz ph nd po k1 k2 k3 d ln c : Nat} {fk fs fe fd : Nat → Int32} {fp fn : Nat → Option Nat} {p nn n t : Nat} {wp : Int32} {f g : Nat → Int32} (K : QuC qo tk tl tz ph nd po k1 k2 k3 d ln c fk fs fe fd fp fn p nn n t wp f g h) {so sp : Nat} {pf : Nat → Int32} (e_so : h so = some (.inr (7, [.ref sp, .ref qo]))) (e_sp : h sp = some (.inl (0, 576, .inl pf))) {nq ua ub far cc9 : Nat} {nl nr : Option Nat} {z0 z1 z2 z3 z4 : Int32} {PL : Nat → Prop} (e_nq : h nq = some (.inr (2, [.int z0, va_rf nl, va_rf nr, .int (nI ua), .int (nI ub), .int z1, .int z2, .int z3, .int z4]))) (huv : ua ≤ ub) (hvp : ub ≤ p) (hfar : z1 = nI far ∧ far < 100) (hz2 : z2 = nI cc9 ∧ cc9 ≤ 3) (hPL : BW z3 PL) {Q : Nat → Nat → Nat → Nat → Prop} {lq : Nat → Nat} (FL : FLs Q pf (p * 48)) (hlq : ∀ i, i < p → ∃ (pa : Nat) (x b : Int32), fp i = some pa ∧ h pa = some (.inr (4, [.int x, .int (nI (lq i)), .int b])) ∧ lq i ≤ 96) {r : Nat} (hr1 : 1 ≤ r) (hr2 : r ≤ 24) (hF : 6 ≤ F) (hL : 141 ≤ L) (kk : ∀ s : Int32, BW s (fun q => (1 ≤ q ∧ q < r ∧ GOp Q lq ua ub far PL cc9 q) ∨ (q = r ∧ ∃ c, c < 2 ∧ cc9.testBit c = true ∧ HOp Q lq ua ub far PL r c)) → xw G m_Standing_rowsOfGroup F L bc bs pr px 55 [some (.ref so), some (.ref nq), some (.int s), some (.int (nI r)), none] [] h) :
    ∀ (dd i : Nat) (s : Int32), i + dd = 2 → BW s (fun q => (1 ≤ q ∧ q < r ∧ GOp Q lq ua ub far PL cc9 q) ∨ (q = r ∧ ∃ c, c < i ∧ cc9.testBit c = true ∧ HOp Q lq ua ub far PL r c)) → xw G m_Standing_rowsOfGroup F L bc bs pr px 13 [some (.ref so), some (.ref nq), some (.int s), some (.int (nI r)), some (.int (nI i))] [] h := by
  intro dd
  induction dd with
  | zero =>
    intro i s hi hp
    obtain rfl : i = 2 := by omega
    refine s_Standing_rowsOfGroup_13 (fun z_1 => ?_) (fun z => absurd z (by decide))
    exact kk _ hp
  | succ dd ih =>
    intro i s hi hp
    refine s_Standing_rowsOfGroup_13 (fun z => absurd z (nI_ge (b := 2) (show i < 2 by omega) (by decide))) (fun z_1 => ?_)
    refine s_Standing_rowsOfGroup_19 (left_a1 := nl) (right_a1 := nr) e_nq (fun z_2 => ?_) (fun z_3 => ?_)
    · skip
      refine s_Standing_rowsOfGroup_49 ?_
      simp only [nI_1]
      have hcol := col_ask cc9 hz2.2 i (by omega)
      rw [hz2.1] at z_2
      exact ih (i + 1) _ (by omega) (hp.congr (fun q _ => ⟨fun z => z.imp id (fun z => ⟨z.1, by obtain ⟨c, c1, c2⟩ := z.2; exact ⟨c, by omega, c2⟩⟩), fun z => z.imp id (fun z => ⟨z.1, by obtain ⟨c, c1, q3⟩ := z.2; by_cases q9 : c = i; (rw [q9] at q3; exact absurd (hcol.mpr q3.1) z_2); (exact ⟨c, by omega, q3⟩)⟩)⟩))
    · skip
      refine s_Standing_rowsOfGroup_32 ?_
      refine x_callV (As := [.ref nq, .int (nI r), .int (nI i)]) (b := so) (rest := []) (F1 := 5) (L1 := 117) (mc := 0) (ms := 0) d_Standing_rowsOfGroup_37 cV_Standing_119 (g_holdsH K e_so e_sp e_nq huv hvp hfar hz2 hPL FL hlq (show 1 ≤ r by omega) (by omega) (show i < 2 by omega) (by omega) (by omega)) e_so ⟨by decide, rfl⟩ ⟨by omega, by show 8 + (5 + 11) + 117 ≤ _; omega⟩ ⟨by omega, by omega⟩ (Nat.le_of_ble_eq_true rfl) (fun v_7 h_6 p_8 => ?_)
      obtain ⟨⟨y_4, rfl, hy_5⟩, rfl⟩ := p_8
      refine s_Standing_rowsOfGroup_40 (fun z_9 => ?_) (fun z_10 => ?_)
      · skip
        refine s_Standing_rowsOfGroup_49 ?_
        simp only [nI_1]
        have hf_11 := (hy_5.resolve_right (fun q => absurd (q.1.symm.trans z_9) (by decide))).2
        have hcol := col_ask cc9 hz2.2 i (by omega)
        rw [hz2.1] at z_3
        exact ih (i + 1) _ (by omega) (hp.congr (fun q _ => ⟨fun z => z.imp id (fun z => ⟨z.1, by obtain ⟨c, c1, c2⟩ := z.2; exact ⟨c, by omega, c2⟩⟩), fun z => z.imp id (fun z => ⟨z.1, by obtain ⟨c, c1, q3⟩ := z.2; by_cases q9 : c = i; (rw [q9] at q3; exact absurd q3.2 hf_11); (exact ⟨c, by omega, q3⟩)⟩)⟩))
      · skip
        refine s_Standing_rowsOfGroup_43 ?_
        refine s_Standing_rowsOfGroup_49 ?_
        simp only [nI_1]
        have hf_12 := (hy_5.resolve_left (fun q => z_10 q.1)).2
        have hcol := col_ask cc9 hz2.2 i (by omega)
        rw [hz2.1] at z_3
        exact ih (i + 1) _ (by omega) ((hp.set (n := r) (by omega)).congr (fun q _ => ⟨fun z => z.elim (fun z => z.imp id (fun z => ⟨z.1, by obtain ⟨c, c1, c2⟩ := z.2; exact ⟨c, by omega, c2⟩⟩)) (fun z => Or.inr ⟨z, i, by omega, hcol.mp z_3, hf_12⟩), fun z => z.elim (fun z => Or.inl (Or.inl z)) (fun z => Or.inr z.1)⟩))
set_option maxHeartbeats 1000000 in
theorem lp_rowsG2H {G : xw_G} {F L bc bs : Nat} {pr : Option Value → xw_A → Prop} {px : String → xw_A → Prop} {h : xw_A} {qo tk tl tz ph nd po k1 k2 k3 d ln c : Nat} {fk fs fe fd : Nat → Int32} {fp fn : Nat → Option Nat} {p nn n t : Nat} {wp : Int32} {f g : Nat → Int32} (K : QuC qo tk tl tz ph nd po k1 k2 k3 d ln c fk fs fe fd fp fn p nn n t wp f g h) {so sp : Nat} {pf : Nat → Int32} (e_so : h so = some (.inr (7, [.ref sp, .ref qo]))) (e_sp : h sp = some (.inl (0, 576, .inl pf))) {nq ua ub far cc9 : Nat} {nl nr : Option Nat} {z0 z1 z2 z3 z4 : Int32} {PL : Nat → Prop} (e_nq : h nq = some (.inr (2, [.int z0, va_rf nl, va_rf nr, .int (nI ua), .int (nI ub), .int z1, .int z2, .int z3, .int z4]))) (huv : ua ≤ ub) (hvp : ub ≤ p) (hfar : z1 = nI far ∧ far < 100) (hz2 : z2 = nI cc9 ∧ cc9 ≤ 3) (hPL : BW z3 PL) {Q : Nat → Nat → Nat → Nat → Prop} {lq : Nat → Nat} (FL : FLs Q pf (p * 48)) (hlq : ∀ i, i < p → ∃ (pa : Nat) (x b : Int32), fp i = some pa ∧ h pa = some (.inr (4, [.int x, .int (nI (lq i)), .int b])) ∧ lq i ≤ 96) (hF : 6 ≤ F) (hL : 141 ≤ L) (kk : ∀ s : Int32, BW s (fun q => 1 ≤ q ∧ q < 25 ∧ GOp Q lq ua ub far PL cc9 q) → pr (some (.int s)) h) :
    ∀ (dd i : Nat) (s : Int32), i + dd = 25 → (1 ≤ i ∧ BW s (fun q => 1 ≤ q ∧ q < i ∧ GOp Q lq ua ub far PL cc9 q)) → xw G m_Standing_rowsOfGroup F L bc bs pr px 4 [some (.ref so), some (.ref nq), some (.int s), some (.int (nI i)), none] [] h := by
  intro dd
  induction dd with
  | zero =>
    intro i s hi hp
    obtain rfl : i = 25 := by omega
    refine s_Standing_rowsOfGroup_4 (fun z_1 => ?_) (fun z => absurd (by decide) z)
    refine s_Standing_rowsOfGroup_61 ?_
    exact kk _ hp.2
  | succ dd ih =>
    intro i s hi hp
    refine s_Standing_rowsOfGroup_4 (fun z => absurd z (nI_nlt (a := 24) (show i ≤ 24 by omega) (by decide))) (fun z_1 => ?_)
    refine s_Standing_rowsOfGroup_10 ?_
    refine lp_rowsG1H (r := i) K e_so e_sp e_nq huv hvp hfar hz2 hPL FL hlq (show 1 ≤ i by omega) (show i ≤ 24 by omega) (by omega) (by omega) (fun s_2 hs_3 => ?_) 2 0 _ rfl (hp.2.congr (fun q _ => ⟨fun z => Or.inl z, fun z => z.elim id (fun z => by obtain ⟨c, c1, -⟩ := z.2; exact absurd c1 (Nat.not_lt_zero _))⟩))
    refine s_Standing_rowsOfGroup_55 ?_
    simp only [nI_1]
    exact ih (i + 1) _ (by omega) ⟨by omega, hs_3.congr (fun q _ => ⟨fun z => z.elim (fun z => ⟨z.1, by omega, z.2.2⟩) (fun z => ⟨by omega, by omega, by rw [z.1]; exact z.2⟩), fun z => (Nat.lt_or_ge q i).elim (fun w9 => Or.inl ⟨z.1, w9, z.2.2⟩) (fun w9 => Or.inr ⟨by have := z.2.1; omega, by have e9 : q = i := (by have := z.2.1; omega); rw [e9] at z; exact z.2.2⟩)⟩)⟩
set_option maxHeartbeats 400000 in
theorem g_rowsOfGroupH {G : xw_G} {F L : Nat} {h : xw_A} {qo tk tl tz ph nd po k1 k2 k3 d ln c : Nat} {fk fs fe fd : Nat → Int32} {fp fn : Nat → Option Nat} {p nn n t : Nat} {wp : Int32} {f g : Nat → Int32} (K : QuC qo tk tl tz ph nd po k1 k2 k3 d ln c fk fs fe fd fp fn p nn n t wp f g h) {so sp : Nat} {pf : Nat → Int32} (e_so : h so = some (.inr (7, [.ref sp, .ref qo]))) (e_sp : h sp = some (.inl (0, 576, .inl pf))) {nq ua ub far cc9 : Nat} {nl nr : Option Nat} {z0 z1 z2 z3 z4 : Int32} {PL : Nat → Prop} (e_nq : h nq = some (.inr (2, [.int z0, va_rf nl, va_rf nr, .int (nI ua), .int (nI ub), .int z1, .int z2, .int z3, .int z4]))) (huv : ua ≤ ub) (hvp : ub ≤ p) (hfar : z1 = nI far ∧ far < 100) (hz2 : z2 = nI cc9 ∧ cc9 ≤ 3) (hPL : BW z3 PL) {Q : Nat → Nat → Nat → Nat → Prop} {lq : Nat → Nat} (FL : FLs Q pf (p * 48)) (hlq : ∀ i, i < p → ∃ (pa : Nat) (x b : Int32), fp i = some pa ∧ h pa = some (.inr (4, [.int x, .int (nI (lq i)), .int b])) ∧ lq i ≤ 96) (hF : 6 ≤ F) (hL : 141 ≤ L) :
    xw_Met G m_Standing_rowsOfGroup F L 0 0 [.ref so, .ref nq] h (fun v h' => (∃ y : Int32, v = some (.int y) ∧ BW y (fun q => (1 ≤ q ∧ q ≤ 24) ∧ GOp Q lq ua ub far PL cc9 q)) ∧ h = h') (fun _ _ => False) := by
  refine xw_Met.of rfl (by decide) (Nat.le_of_ble_eq_true rfl) ?_
  refine s_Standing_rowsOfGroup_0 ?_
  exact lp_rowsG2H K e_so e_sp e_nq huv hvp hfar hz2 hPL FL hlq (by omega) (by omega) (fun y hy => ⟨⟨y, rfl, hy.congr (fun q _ => ⟨fun z => ⟨⟨z.1, by omega⟩, z.2.2⟩, fun z => ⟨z.1.1, by omega, z.2⟩⟩)⟩, rfl⟩) 24 1 0 rfl ⟨Nat.le_refl _, BW.zero.congr (fun q _ => ⟨fun z => z.elim, fun z => absurd z.2.1 (by have := z.1; omega)⟩)⟩
set_option maxHeartbeats 400000 in
theorem g_rowsOfJoinH {G : xw_G} {F L : Nat} {h : xw_A} {l : Nat} {ll lr : Option Nat} {l0 l1 l2 l3 l4 l5 l6 : Int32} (e_l : h l = some (.inr (2, [.int l0, va_rf ll, va_rf lr, .int l1, .int l2, .int l3, .int l4, .int l5, .int l6]))) {r : Nat} {rl rr : Option Nat} {r0 r1 r2 r3 r4 r5 r6 : Int32} (e_r : h r = some (.inr (2, [.int r0, va_rf rl, va_rf rr, .int r1, .int r2, .int r3, .int r4, .int r5, .int r6]))) {j : Nat} {j0 j1 j2 j3 j4 j5 j6 : Int32} (e_j : h j = some (.inr (2, [.int j0, .ref l, .ref r, .int j1, .int j2, .int j3, .int j4, .int j5, .int j6]))) {rk : Nat} {R : Nat → Prop} {va vb : Nat → Bool} (hj : j0 = nI (if rk = 4 then 6 else rk + 4)) (hk1 : 1 ≤ rk) (hk4 : rk ≤ 4) (hl : BW l6 (fun q => R q ∧ va q = true)) (hr_ : BW r6 (fun q => R q ∧ vb q = true)) (hF : 1 ≤ F) (hL : 20 ≤ L) :
    xw_Met G m_Standing_rowsOfJoin F L 0 0 [.ref j] h (fun v h' => (∃ y : Int32, v = some (.int y) ∧ BW y (fun q => R q ∧ opB rk (va q) (vb q) = true)) ∧ h = h') (fun _ _ => False) := by
  refine xw_Met.of rfl (by decide) (Nat.le_of_ble_eq_true rfl) ?_
  refine s_Standing_rowsOfJoin_0 (left_a0 := some l) (right_a0 := some r) e_j (fun z_1 => ?_) (fun z_2 => ?_)
  · skip
    refine s_Standing_rowsOfJoin_24 (right_a0 := some r) (left_left_a0 := ll) (right_left_a0 := lr) e_j e_l (fun z_3 => ?_) (fun z_4 => ?_)
    · skip
      refine s_Standing_rowsOfJoin_50 (left_a0 := some l) (left_right_a0 := rl) (right_right_a0 := rr) e_j e_r ?_
      refine s_Standing_rowsOfJoin_59 ?_
      have hr1 : ¬ rk = 1 := fun q => z_1 (by rw [hj, q]; rfl)
      have hr3 : rk = 3 := by have q2 : ¬ rk = 2 := fun q => z_3 (by rw [hj, q]; rfl); have q4 : ¬ rk = 4 := fun q => z_3 (by rw [hj, q]; rfl); omega
      subst hr3
      exact ⟨⟨_, rfl, (hl.and hr_.not).congr (fun q _ => opB_not)⟩, rfl⟩
    · skip
      refine s_Standing_rowsOfJoin_40 (left_a0 := some l) (left_right_a0 := rl) (right_right_a0 := rr) e_j e_r ?_
      refine s_Standing_rowsOfJoin_59 ?_
      have hr1 : ¬ rk = 1 := fun q => z_1 (by rw [hj, q]; rfl)
      have hr3 : ¬ rk = 3 := fun q => absurd z_4 (by rw [hj, q]; decide)
      exact ⟨⟨_, rfl, (hl.and hr_).congr (fun q _ => opB_and hr1 hr3)⟩, rfl⟩
  · skip
    refine s_Standing_rowsOfJoin_8 (left_left_a0 := ll) (right_left_a0 := lr) (left_right_a0 := rl) (right_right_a0 := rr) e_j e_l e_r ?_
    have hr : rk = 1 := by have q := hj.symm.trans z_2; by_cases q4 : rk = 4; (rw [if_pos q4] at q; exact absurd q (by decide)); (rw [if_neg q4] at q; have := (nI_eq (b := 5) (by omega) (by decide)).mp q; omega)
    subst hr
    exact ⟨⟨_, rfl, (hl.or hr_).congr (fun q _ => opB_or)⟩, rfl⟩
set_option maxHeartbeats 4000000 in
theorem lp_rowsFoundH {G : xw_G} {F L bc bs : Nat} {pr : Option Value → xw_A → Prop} {px : String → xw_A → Prop} {B : List Nat} {qo tk tl tz ph nd po k1 k2 k3 d ln c : Nat} {fk fs fe fd : Nat → Int32} {fp fn : Nat → Option Nat} {p nn n t : Nat} {wp : Int32} {f g : Nat → Int32} {h0 : xw_A} {so sp : Nat} {pf : Nat → Int32} {gr : List GRt} {nds : List NDt} {Q : Nat → Nat → Nat → Nat → Prop} {lq : Nat → Nat} (A : QuA B qo tk tl tz ph nd po k1 k2 k3 d fp fn) (FL : FLs Q pf (p * 48)) (hnd : nn = nds.length) (hok : ∀ (g9 : Nat) (y : GRt), gr[g9]? = some y → OKg y p) (hlk : ∀ (i : Nat) (x : NDt), nds[i]? = some x → ¬ x.1 = 0 → (x.2.1 < i ∧ x.2.2 < i) ∧ 1 ≤ x.1 ∧ x.1 ≤ 4) (hF : 7 ≤ F) (hL : 165 ≤ L) (kk : ∀ (h : xw_A) (m : Int32), QuC qo tk tl tz ph nd po k1 k2 k3 d ln c fk fs fe fd fp fn p nn n t wp f g h → NdT fn gr nds h → (∀ j, j + 1 = nn → BW m (fun q => (1 ≤ q ∧ q ≤ 24) ∧ (fun r9 i9 => vAt (vlN (gB Q lq gr r9) nds []) i9) q j = true)) → FrO B h0 h → pr (some (.int m)) h) :
    ∀ (dd i : Nat) (h : xw_A) (m : Int32), i + dd = nn → QuC qo tk tl tz ph nd po k1 k2 k3 d ln c fk fs fe fd fp fn p nn n t wp f g h → h so = some (.inr (7, [.ref sp, .ref qo])) → h sp = some (.inl (0, 576, .inl pf)) → (∀ i, i < p → ∃ (pa : Nat) (x b : Int32), fp i = some pa ∧ h pa = some (.inr (4, [.int x, .int (nI (lq i)), .int b])) ∧ lq i ≤ 96) → NdT fn gr nds h → NRw fn (fun r9 i9 => vAt (vlN (gB Q lq gr r9) nds []) i9) i h → (∀ j, j + 1 = i → BW m (fun q => (1 ≤ q ∧ q ≤ 24) ∧ (fun r9 i9 => vAt (vlN (gB Q lq gr r9) nds []) i9) q j = true)) → FrO B h0 h → xw G m_Standing_rowsFound F L bc bs pr px 4 [some (.ref so), some (.ref qo), some (.int m), some (.int (nI i)), none] [] h := by
  intro dd
  induction dd with
  | zero =>
    intro i h m hi K e_so e_sp hlq ND NR hm r0
    obtain rfl : i = nn := by omega
    obtain ⟨e_qo, T, e_ph, e_nd, P, hp, hnn, ht, Fp, Nd⟩ := id K
    obtain ⟨e_po, e_d, e_k1, e_k2, e_k3, hln, PF⟩ := id P
    have e_tk := T.1
    have hc := PF.1
    refine s_Standing_rowsFound_4 (tokens_a1 := some tk) (phrases_a1 := some ph) (nodes_a1 := some nd) (parts_a1 := some po) (letters_a1 := some d) e_qo (fun z_1 => ?_) (fun z => absurd (nI_le (Nat.le_refl _) (by omega)) z)
    refine s_Standing_rowsFound_59 ?_
    exact kk _ _ K ND hm r0
  | succ dd ih =>
    intro i h m hi K e_so e_sp hlq ND NR hm r0
    obtain ⟨e_qo, T, e_ph, e_nd, P, hp, hnn, ht, Fp, Nd⟩ := id K
    obtain ⟨e_po, e_d, e_k1, e_k2, e_k3, hln, PF⟩ := id P
    have e_tk := T.1
    have hc := PF.1
    refine s_Standing_rowsFound_4 (tokens_a1 := some tk) (phrases_a1 := some ph) (nodes_a1 := some nd) (parts_a1 := some po) (letters_a1 := some d) e_qo (fun z => absurd z (nI_ge (b := nn) (show i < nn by omega) (by omega))) (fun z_1 => ?_)
    have hnd9 : i < nds.length := by rw [← hnd]; omega
    obtain ⟨xn, hxn⟩ : ∃ xn, nds[i]? = some xn := ⟨_, List.getElem?_eq_getElem hnd9⟩
    obtain ⟨a, l, r, k, y0, y1, y2, y3, y4, y5, ea1, ea2, eo⟩ := ND i xn hxn
    have ea3 : i < nn → (k = 0 ∧ ∃ u v, y0 = nI u ∧ y1 = nI v ∧ u ≤ v ∧ v ≤ p) ∨ (¬ k = 0 ∧ ∃ i1 i2, i1 < nn ∧ i2 < nn ∧ l = fn i1 ∧ r = fn i2) := by obtain ⟨b, l2, r2, k2, w0, w1, w2, w3, w4, w5, eb1, eb2, eb3⟩ := Nd i (by omega); obtain rfl : a = b := Option.some.inj (ea1.symm.trans eb1); rw [ea2] at eb2; simp only [Option.some.injEq, Sum.inr.injEq, Prod.mk.injEq, List.cons.injEq, Value.int.injEq, true_and, and_true] at eb2; obtain ⟨rfl, hl9, hr9, rfl, rfl, -⟩ := eb2; rw [va_rf_inj hl9, va_rf_inj hr9]; exact eb3
    have hva := fun r9 => vl_at (gB Q lq gr r9) hxn (fun q => (hlk i xn hxn q).1)
    refine s_Standing_rowsFound_12 (g17 := a) (tokens_a1 := some tk) (phrases_a1 := some ph) (parts_a1 := some po) (letters_a1 := some d) (left_g17 := l) (right_g17 := r) e_qo e_nd (vp_in_nI (by omega) (by omega)) (by rw [nI_clamp (by omega)]; exact ea1) ea2 (fun z_2 => ?_) (fun z_3 => ?_)
    · skip
      refine s_Standing_rowsFound_39 ?_
      have hx0 : ¬ xn.1 = 0 := fun q => z_2 (eo.1 q).1
      obtain ⟨gk, gl, gr_⟩ := eo.2 hx0
      obtain ⟨⟨hk1, hk2⟩, hk3, hk4⟩ := hlk i xn hxn hx0
      obtain ⟨a1, l1, r1, k1_, x1, y1_, za1, zb1, zc1, zd1, eb1, ec1, ed1⟩ := NR xn.2.1 hk1
      obtain ⟨a2, l2, r2, k2_, x2, y2_, za2, zb2, zc2, zd2, eb2, ec2, ed2⟩ := NR xn.2.2 hk2
      have ea9 := ea2
      rw [gl, gr_, eb1, eb2] at ea9
      refine x_callS (As := [.ref a]) (rest := [.ref a]) (F1 := 1) (L1 := 20) (mc := 0) (ms := 0) d_Standing_rowsFound_41 cS_Standing_101 (g_rowsOfJoinH (rk := xn.1) (R := fun q => 1 ≤ q ∧ q ≤ 24) (va := fun q => (fun r9 i9 => vAt (vlN (gB Q lq gr r9) nds []) i9) q xn.2.1) (vb := fun q => (fun r9 i9 => vAt (vlN (gB Q lq gr r9) nds []) i9) q xn.2.2) ec1 ec2 ea9 gk hk3 hk4 ed1 ed2 (by omega) (by omega)) ⟨by omega, by show 8 + (1 + 11) + 20 ≤ _; omega⟩ ⟨by omega, by omega⟩ (Nat.le_of_ble_eq_true rfl) (fun v_7 h_6 p_8 => ?_)
      obtain ⟨⟨y_4, rfl, hy_5⟩, rfl⟩ := p_8
      have hb_9 : BW y_4 (fun q => (1 ≤ q ∧ q ≤ 24) ∧ (fun r9 i9 => vAt (vlN (gB Q lq gr r9) nds []) i9) q i = true) := hy_5.congr (fun q _ => and_congr_right (fun _ => by show _ ↔ vAt (vlN (gB Q lq gr q) nds []) i = true; rw [hva q, if_neg hx0]))
      refine s_Standing_rowsFound_44 (left_a4 := l) (right_a4 := r) ea2 ?_
      refine x_u1 (fun h_10 e_11 f_12 => ?_)
      have e_13 := (f_12 qo (xw_neC e_qo ea2 (by simp))).trans e_qo
      have e_14 := (f_12 tk (xw_neC e_tk ea2 (by simp))).trans e_tk
      have e_15 := (f_12 ph (xw_neC e_ph ea2 (by simp))).trans e_ph
      have e_16 := (f_12 nd (xw_neC e_nd ea2 (by simp))).trans e_nd
      have e_17 := (f_12 po (xw_neC e_po ea2 (by simp))).trans e_po
      have e_18 := (f_12 d (xw_neC e_d ea2 (by simp))).trans e_d
      have e_19 := (f_12 k1 (xw_neC e_k1 ea2 (by simp))).trans e_k1
      have e_20 := (f_12 k2 (xw_neC e_k2 ea2 (by simp))).trans e_k2
      have e_21 := (f_12 k3 (xw_neC e_k3 ea2 (by simp))).trans e_k3
      have e_22 := (f_12 so (xw_neC e_so ea2 (by simp))).trans e_so
      have e_23 := (f_12 sp (xw_neC e_sp ea2 (by simp))).trans e_sp
      have r_24 := r0.up (A.2.2.1 i a (by omega) ea1) f_12
      rw [nI_1]
      have rA : FrO [a] h h_10 := FrO.rf.up (by simp) f_12
      exact ih (i + 1) _ _ (by omega) (K.nd0 A rA (by omega) ea1 ea2 e_11 ea3) (rA so _ (nm1 (xw_neC e_so ea2 (by simp))) e_so) (rA sp _ (nm1 (xw_neC e_sp ea2 (by simp))) e_sp) (fun i9 q9 => by obtain ⟨pa, x9, b9, u1, u2, u3⟩ := hlq i9 q9; exact ⟨pa, x9, b9, u1, rA _ _ (nm1 (xw_neC u2 ea2 (by simp))) u2, u3⟩) (ND.rows rA (by omega) ea1 A.2.2.2.2.2 (by omega) ea2 e_11) (NR.rows rA (by omega) ea1 A.2.2.2.2.2 e_11 hb_9) (fun j q9 => by obtain rfl : j = i := (by omega); exact hb_9) r_24
    · skip
      refine s_Standing_rowsFound_30 ?_
      have hx0 : xn.1 = 0 := Classical.byContradiction (fun q => by have q2 := (eo.2 q).1; rw [z_3] at q2; have q3 := (hlk i xn hxn q).2; exact absurd q2.symm (nI_ne0 (by split <;> omega) (by split <;> omega)))
      obtain ⟨-, yg, hyg, g0, g1, g2, g3, g4⟩ := eo.1 hx0
      have hog := hok _ _ hyg
      subst g0
      subst g1
      refine x_callV (As := [.ref a]) (b := so) (rest := [.ref a]) (F1 := 6) (L1 := 141) (mc := 0) (ms := 0) d_Standing_rowsFound_33 cV_Standing_97 (g_rowsOfGroupH (far := if yg.1 = 2 then yg.2.2.2.2 else 0) (cc9 := yg.2.2.2.1) (PL := PLy yg) K e_so e_sp ea2 (by have := hog.1; omega) hog.2.1 ⟨g2, by have := hog.2.2.2.1; split <;> omega⟩ ⟨g3, hog.2.2.1⟩ (PLy.bw g4) FL hlq (by omega) (by omega)) e_so ⟨by decide, rfl⟩ ⟨by omega, by show 8 + (5 + 11) + 141 ≤ _; omega⟩ ⟨by omega, by omega⟩ (Nat.le_of_ble_eq_true rfl) (fun v_28 h_27 p_29 => ?_)
      obtain ⟨⟨y_25, rfl, hy_26⟩, rfl⟩ := p_29
      have hb_30 : BW y_25 (fun q => (1 ≤ q ∧ q ≤ 24) ∧ (fun r9 i9 => vAt (vlN (gB Q lq gr r9) nds []) i9) q i = true) := hy_26.congr (fun q _ => and_congr_right (fun _ => by show _ ↔ vAt (vlN (gB Q lq gr q) nds []) i = true; rw [hva q, if_pos hx0, gB_iff]; exact ⟨fun z => ⟨yg, hyg, z⟩, fun ⟨y9, h9, z⟩ => by rw [hyg] at h9; cases h9; exact z⟩))
      refine s_Standing_rowsFound_36 ?_
      refine s_Standing_rowsFound_44 (left_a4 := l) (right_a4 := r) ea2 ?_
      refine x_u1 (fun h_31 e_32 f_33 => ?_)
      have e_34 := (f_33 qo (xw_neC e_qo ea2 (by simp))).trans e_qo
      have e_35 := (f_33 tk (xw_neC e_tk ea2 (by simp))).trans e_tk
      have e_36 := (f_33 ph (xw_neC e_ph ea2 (by simp))).trans e_ph
      have e_37 := (f_33 nd (xw_neC e_nd ea2 (by simp))).trans e_nd
      have e_38 := (f_33 po (xw_neC e_po ea2 (by simp))).trans e_po
      have e_39 := (f_33 d (xw_neC e_d ea2 (by simp))).trans e_d
      have e_40 := (f_33 k1 (xw_neC e_k1 ea2 (by simp))).trans e_k1
      have e_41 := (f_33 k2 (xw_neC e_k2 ea2 (by simp))).trans e_k2
      have e_42 := (f_33 k3 (xw_neC e_k3 ea2 (by simp))).trans e_k3
      have e_43 := (f_33 so (xw_neC e_so ea2 (by simp))).trans e_so
      have e_44 := (f_33 sp (xw_neC e_sp ea2 (by simp))).trans e_sp
      have r_45 := r0.up (A.2.2.1 i a (by omega) ea1) f_33
      rw [nI_1]
      have rA : FrO [a] h h_31 := FrO.rf.up (by simp) f_33
      exact ih (i + 1) _ _ (by omega) (K.nd0 A rA (by omega) ea1 ea2 e_32 ea3) (rA so _ (nm1 (xw_neC e_so ea2 (by simp))) e_so) (rA sp _ (nm1 (xw_neC e_sp ea2 (by simp))) e_sp) (fun i9 q9 => by obtain ⟨pa, x9, b9, u1, u2, u3⟩ := hlq i9 q9; exact ⟨pa, x9, b9, u1, rA _ _ (nm1 (xw_neC u2 ea2 (by simp))) u2, u3⟩) (ND.rows rA (by omega) ea1 A.2.2.2.2.2 (by omega) ea2 e_32) (NR.rows rA (by omega) ea1 A.2.2.2.2.2 e_32 hb_30) (fun j q9 => by obtain rfl : j = i := (by omega); exact hb_30) r_45
set_option maxHeartbeats 1000000 in
theorem g_rowsFoundH {G : xw_G} {F L : Nat} {h : xw_A} {B : List Nat} {qo tk tl tz ph nd po k1 k2 k3 d ln c : Nat} {fk fs fe fd : Nat → Int32} {fp fn : Nat → Option Nat} {p nn n t : Nat} {wp : Int32} {f g : Nat → Int32} (K : QuC qo tk tl tz ph nd po k1 k2 k3 d ln c fk fs fe fd fp fn p nn n t wp f g h) (A : QuA B qo tk tl tz ph nd po k1 k2 k3 d fp fn) {so sp : Nat} {pf : Nat → Int32} (e_so : h so = some (.inr (7, [.ref sp, .ref qo]))) (e_sp : h sp = some (.inl (0, 576, .inl pf))) {gr : List GRt} {nds : List NDt} {Q : Nat → Nat → Nat → Nat → Prop} {lq : Nat → Nat} (FL : FLs Q pf (p * 48)) (hnd : nn = nds.length) (hok : ∀ (g9 : Nat) (y : GRt), gr[g9]? = some y → OKg y p) (hlk : ∀ (i : Nat) (x : NDt), nds[i]? = some x → ¬ x.1 = 0 → (x.2.1 < i ∧ x.2.2 < i) ∧ 1 ≤ x.1 ∧ x.1 ≤ 4) (hlq : (∀ i, i < p → ∃ (pa : Nat) (x b : Int32), fp i = some pa ∧ h pa = some (.inr (4, [.int x, .int (nI (lq i)), .int b])) ∧ lq i ≤ 96)) (ND : NdT fn gr nds h) (hF : 7 ≤ F) (hL : 165 ≤ L) :
    xw_Met G m_Standing_rowsFound F L 0 0 [.ref so, .ref qo] h (fun v h' => (∃ m : Int32, v = some (.int m) ∧ ∀ j, j + 1 = nn → BW m (fun q => (1 ≤ q ∧ q ≤ 24) ∧ (fun r9 i9 => vAt (vlN (gB Q lq gr r9) nds []) i9) q j = true)) ∧ QuC qo tk tl tz ph nd po k1 k2 k3 d ln c fk fs fe fd fp fn p nn n t wp f g h' ∧ NdT fn gr nds h' ∧ FrO B h h') (fun _ _ => False) := by
  refine xw_Met.of rfl (by decide) (Nat.le_of_ble_eq_true rfl) ?_
  refine s_Standing_rowsFound_0 ?_
  exact lp_rowsFoundH A FL hnd hok hlk (by omega) (by omega) (fun h2 m2 K2 N2 hm2 r2 => ⟨⟨m2, rfl, hm2⟩, K2, N2, r2⟩) nn 0 _ 0 (Nat.zero_add _) K e_so e_sp hlq ND (fun i hi => absurd hi (Nat.not_lt_zero _)) (fun j hj => absurd hj (by omega)) FrO.rf
set_option maxHeartbeats 2000000 in
theorem lp_takeH {G : xw_G} {F L bc bs : Nat} {pr : Option Value → xw_A → Prop} {px : String → xw_A → Prop} {ao o1 o2 o3 o4 : Nat} {h0 : xw_A} {fs0 : List Value} {m1 m3 f4 : Nat → Int32} {m2 : Nat → UInt64} {x : Int32} (g_ao : h0 ao = some (.inr (1, fs0))) (g_o1 : h0 o1 = some (.inl (0, 24, .inl m1))) (g_o2 : h0 o2 = some (.inl (3, 24, .inr (.inr (.inr (.inl m2)))))) (g_o3 : h0 o3 = some (.inl (0, 24, .inl m3))) (n13 : o1 ≠ o3) (n14 : o1 ≠ o4) (n34 : o3 ≠ o4) {AL : List Nat} {st s1 s2 s3 s4 : Nat} {er ep es el : Nat → Option Nat} {pc sc lc : Nat} {pe vm sm : Int32} (KS0 : StoC AL st s1 s2 s3 s4 er ep es el pc sc lc pe vm sm h0) (hoA : ao ∈ AL ∧ o1 ∈ AL ∧ o2 ∈ AL ∧ o3 ∈ AL) {TW : Nat → Nat → List (List Int32)} {V : Nat → Prop} (hx : BW x (fun q => (1 ≤ q ∧ q ≤ 24) ∧ V q)) (hV : ∀ r, 1 ≤ r → r ≤ 24 → ∀ b, er r = some b → VrX AL h0 b (TW r 0) (TW r 1)) (hF : 2 ≤ F) (hL : 41 ≤ L) (kk : ∀ (h : xw_A) (sz : Nat) (f1 : Nat → Int32) (f2 : Nat → UInt64) (f3 : Nat → Int32), AnsR ao o1 o2 o3 o4 sz f1 f2 f3 f4 h → TkF (fun r => er r ≠ none ∧ V r) (fun r => (TW r 0).length + (TW r 1).length) (24) sz f1 f2 f3 → FrO [ao, o1, o2, o3] h0 h → pr none h) :
    ∀ (dd i : Nat) (h : xw_A) (sz : Nat) (f1 : Nat → Int32) (f2 : Nat → UInt64) (f3 : Nat → Int32), i + dd = 25 → AnsR ao o1 o2 o3 o4 sz f1 f2 f3 f4 h → sz < i → TkF (fun r => er r ≠ none ∧ V r) (fun r => (TW r 0).length + (TW r 1).length) (i - 1) sz f1 f2 f3 → 1 ≤ i → FrO [ao, o1, o2, o3] h0 h → xw G m_Answers_take F L bc bs pr px 7 [some (.ref ao), some (.int x), some (.ref st), some (.int (nI i)), none] [] h := by
  intro dd
  induction dd with
  | zero =>
    intro i h sz f1 f2 f3 hi R hsi TK h1i r0
    obtain rfl : i = 25 := by omega
    obtain ⟨e_ao, e_o1, e_o2, e_o3, e_o4, hsz, hAR⟩ := id R
    have KS := KS0.fr r0 (suC hoA.1 (suC hoA.2.1 (suC hoA.2.2.1 (suC hoA.2.2.2 suN)))) ⟨(by simp only [List.mem_cons, List.not_mem_nil, or_false, not_or]; exact ⟨xw_neC KS0.1 g_ao (by simp), xw_neC KS0.1 g_o1 (by simp), xw_neC KS0.1 g_o2 (by simp), xw_neC KS0.1 g_o3 (by simp)⟩), (by simp only [List.mem_cons, List.not_mem_nil, or_false, not_or]; exact ⟨xw_neC KS0.2.1 g_ao (by simp), xw_neC KS0.2.1 g_o1 (by simp), xw_neC KS0.2.1 g_o2 (by simp), xw_neC KS0.2.1 g_o3 (by simp)⟩), (by simp only [List.mem_cons, List.not_mem_nil, or_false, not_or]; exact ⟨xw_neC KS0.2.2.1 g_ao (by simp), xw_neC KS0.2.2.1 g_o1 (by simp), xw_neC KS0.2.2.1 g_o2 (by simp), xw_neC KS0.2.2.1 g_o3 (by simp)⟩), (by simp only [List.mem_cons, List.not_mem_nil, or_false, not_or]; exact ⟨xw_neC KS0.2.2.2.1 g_ao (by simp), xw_neC KS0.2.2.2.1 g_o1 (by simp), xw_neC KS0.2.2.2.1 g_o2 (by simp), xw_neC KS0.2.2.2.1 g_o3 (by simp)⟩), (by simp only [List.mem_cons, List.not_mem_nil, or_false, not_or]; exact ⟨xw_neC KS0.2.2.2.2.1 g_ao (by simp), xw_neC KS0.2.2.2.2.1 g_o1 (by simp), xw_neC KS0.2.2.2.2.1 g_o2 (by simp), xw_neC KS0.2.2.2.2.1 g_o3 (by simp)⟩)⟩ (exC e_ao (exC e_o1 (exC e_o2 (exC e_o3 exN))))
    have e_st := KS.1
    refine s_Answers_take_7 (fun z_1 => ?_) (fun z => absurd (by decide) z)
    refine s_Answers_take_84 ?_
    exact kk _ _ _ _ _ R TK r0
  | succ dd ih =>
    intro i h sz f1 f2 f3 hi R hsi TK h1i r0
    obtain ⟨e_ao, e_o1, e_o2, e_o3, e_o4, hsz, hAR⟩ := id R
    have KS := KS0.fr r0 (suC hoA.1 (suC hoA.2.1 (suC hoA.2.2.1 (suC hoA.2.2.2 suN)))) ⟨(by simp only [List.mem_cons, List.not_mem_nil, or_false, not_or]; exact ⟨xw_neC KS0.1 g_ao (by simp), xw_neC KS0.1 g_o1 (by simp), xw_neC KS0.1 g_o2 (by simp), xw_neC KS0.1 g_o3 (by simp)⟩), (by simp only [List.mem_cons, List.not_mem_nil, or_false, not_or]; exact ⟨xw_neC KS0.2.1 g_ao (by simp), xw_neC KS0.2.1 g_o1 (by simp), xw_neC KS0.2.1 g_o2 (by simp), xw_neC KS0.2.1 g_o3 (by simp)⟩), (by simp only [List.mem_cons, List.not_mem_nil, or_false, not_or]; exact ⟨xw_neC KS0.2.2.1 g_ao (by simp), xw_neC KS0.2.2.1 g_o1 (by simp), xw_neC KS0.2.2.1 g_o2 (by simp), xw_neC KS0.2.2.1 g_o3 (by simp)⟩), (by simp only [List.mem_cons, List.not_mem_nil, or_false, not_or]; exact ⟨xw_neC KS0.2.2.2.1 g_ao (by simp), xw_neC KS0.2.2.2.1 g_o1 (by simp), xw_neC KS0.2.2.2.1 g_o2 (by simp), xw_neC KS0.2.2.2.1 g_o3 (by simp)⟩), (by simp only [List.mem_cons, List.not_mem_nil, or_false, not_or]; exact ⟨xw_neC KS0.2.2.2.2.1 g_ao (by simp), xw_neC KS0.2.2.2.2.1 g_o1 (by simp), xw_neC KS0.2.2.2.2.1 g_o2 (by simp), xw_neC KS0.2.2.2.2.1 g_o3 (by simp)⟩)⟩ (exC e_ao (exC e_o1 (exC e_o2 (exC e_o3 exN))))
    have e_st := KS.1
    refine s_Answers_take_7 (fun z => absurd z (nI_nlt (a := 24) (show i ≤ 24 by omega) (by decide))) (fun z_1 => ?_)
    refine s_Answers_take_13 ?_
    refine x_callV (As := [.int (nI i)]) (b := st) (rest := []) (F1 := 1) (L1 := 20) (mc := 0) (ms := 0) d_Answers_take_15 cV_Answers_29 (g_versionOf KS (by omega) (by omega)) e_st ⟨by decide, rfl⟩ ⟨by omega, by show 8 + (2 + 11) + 20 ≤ _; omega⟩ ⟨by omega, by omega⟩ (Nat.le_of_ble_eq_true rfl) (fun v_6 h_5 p_7 => ?_)
    obtain ⟨⟨o_2, rfl, ho_3, he_4⟩, rfl⟩ := p_7
    refine s_Answers_take_18 (s0 := o_2) (fun z_8 => ?_) (fun a_9 z_10 => ?_)
    · skip
      refine s_Answers_take_78 ?_
      rw [nI_1]
      exact ih (i + 1) _ _ _ _ _ (by omega) R (by omega) (TK.no (by omega) (fun q => q.1 ((he_4 i (by omega) (by omega) rfl).symm.trans z_8))) (by omega) r0
    · skip
      refine s_Answers_take_25 (r4 := o_2) (fun z_11 => ?_) (fun z_12 => ?_)
      · skip
        refine s_Answers_take_78 ?_
        rw [nI_1]
        exact ih (i + 1) _ _ _ _ _ (by omega) R (by omega) (TK.no (by omega) (fun q => z_11 ((tb_ask i (by omega) x).mpr ((hx i (by omega)).mpr ⟨⟨by omega, by omega⟩, q.2⟩)))) (by omega) r0
      · skip
        refine s_Answers_take_34 (r4 := o_2) (scores_a0 := some o2) (lengths_a0 := some o3) (order_a0 := some o4) e_ao e_o1 (vp_in_nI (by omega) (by omega)) ?_
        refine x_u1 (fun h_13 e_14 f_15 => ?_)
        have e_16 := (f_15 ao (xw_neC e_ao e_o1 (by simp))).trans e_ao
        have e_17 := (f_15 o2 (xw_neC e_o2 e_o1 (by simp))).trans e_o2
        have e_18 := (f_15 o3 (Ne.symm n13)).trans e_o3
        have e_19 := (f_15 o4 (Ne.symm n14)).trans e_o4
        have e_20 := (f_15 st (xw_neC e_st e_o1 (by simp))).trans e_st
        have r_21 := r0.up (by simp) f_15
        have fq9 : FrO [o1] h h_13 := FrO.rf.up (by simp) f_15
        have her : er i = some a_9 := (he_4 i (by omega) (by omega) rfl).symm.trans z_10
        obtain ⟨-, vn, ve, vr, vp, vq, ev1, ⟨-, hl1, vl, vz, vm_, vk, vj, vW, vf, vg, -, -, tc1, tw1, -⟩, ⟨-, hl2, vl2, vz2, vm2, vk2, vj2, vW2, vf2, vg2, -, -, tc2, tw2, -⟩⟩ := ((hV i (by omega) (by omega) _ her).fr r0 (suC hoA.1 (suC hoA.2.1 (suC hoA.2.2.1 (suC hoA.2.2.2 suN))))).fr fq9 (suC hoA.2.1 suN)
        have ev2 := tc1.1
        have ev3 := tc2.1
        have hj1 := tw1.1
        have hj2 := tw2.1
        rw [z_10]
        refine x_callV (As := []) (b := a_9) (rest := [.int (nI sz), .ref o3]) (F1 := 1) (L1 := 20) (mc := 0) (ms := 0) d_Answers_take_54 cV_Answers_35 (g_vtokens ev1 ev2 ev3 (by omega) (by omega)) ev1 ⟨by decide, rfl⟩ ⟨by omega, by show 8 + (1 + 11) + 20 ≤ _; omega⟩ ⟨by omega, by omega⟩ (Nat.le_of_ble_eq_true rfl) (fun v_23 h_22 p_24 => ?_)
        obtain ⟨rfl, rfl⟩ := p_24
        refine x_le (xw_le_s (xw_le_s (xw_le_s (xw_le_s (xw_le_n xw_le_e))))) ?_
        refine s_Answers_take_57 (rows_a0 := some o1) (lengths_a0 := some o3) (order_a0 := some o4) e_18 (vp_in_nI (by omega) (by omega)) e_16 e_17 (vp_in_nI (by omega) (by omega)) ?_
        refine x_u3 (fun h_25 e_26 f_27 h_28 e_29 f_30 h_31 e_32 f_33 => ?_)
        have e_34 := (f_27 ao (xw_neC e_16 e_18 (by simp))).trans e_16
        have e_35 := (f_27 o1 n13).trans e_14
        have e_36 := (f_27 o2 (xw_neC e_17 e_18 (by simp))).trans e_17
        have e_37 := (f_27 o4 (Ne.symm n34)).trans e_19
        have e_38 := (f_27 st (xw_neC e_20 e_18 (by simp))).trans e_20
        have r_39 := r_21.up (by simp) f_27
        have e_40 := (f_30 ao (xw_neC e_34 e_36 (by simp))).trans e_34
        have e_41 := (f_30 o1 (xw_neC e_35 e_36 (by simp))).trans e_35
        have e_42 := (f_30 o3 (xw_neC e_26 e_36 (by simp))).trans e_26
        have e_43 := (f_30 o4 (xw_neC e_37 e_36 (by simp))).trans e_37
        have e_44 := (f_30 st (xw_neC e_38 e_36 (by simp))).trans e_38
        have r_45 := r_39.up (by simp) f_30
        have e_46 := (f_33 o1 (xw_neC e_41 e_40 (by simp))).trans e_41
        have e_47 := (f_33 o2 (xw_neC e_29 e_40 (by simp))).trans e_29
        have e_48 := (f_33 o3 (xw_neC e_42 e_40 (by simp))).trans e_42
        have e_49 := (f_33 o4 (xw_neC e_43 e_40 (by simp))).trans e_43
        have e_50 := (f_33 st (xw_neC e_44 e_40 (by simp))).trans e_44
        have r_51 := r_45.up (by simp) f_33
        refine s_Answers_take_78 ?_
        rw [nI_1]
        rw [nI_1] at e_32
        rw [nI_clamp (show sz < 2 ^ 31 by omega)] at e_46
        rw [nI_clamp (show sz < 2 ^ 31 by omega)] at e_47
        rw [nI_clamp (show sz < 2 ^ 31 by omega)] at e_48
        have hP9 : er i ≠ none ∧ V i := ⟨(by rw [her]; exact fun z => (nomatch z)), ((hx i (by omega)).mp ((tb_ask i (by omega) x).mp z_12)).2⟩
        refine ih (i + 1) _ _ _ _ _ (by omega) ⟨e_32, e_46, e_47, e_48, e_49, by omega, fun j hj => ?_⟩ (by omega) (TK.yes (by omega) hP9 (by rw [hj1, hj2])) (by omega) r_51
        by_cases q : j = sz
        · subst q; exact ⟨i, vj + vj2, pk_us, by omega, by omega, pk_us, by omega, by rw [vf_us]; exact nn0⟩
        · obtain ⟨r, len, a1, a2, a3, a4, a5, a6⟩ := hAR j (by omega)
          exact ⟨r, len, by rw [pk_un q]; exact a1, a2, a3, by rw [pk_un q]; exact a4, a5, by rw [vf_un q]; exact a6⟩
set_option maxHeartbeats 1000000 in
theorem g_takeH {G : xw_G} {F L : Nat} {h : xw_A} {ao o1 o2 o3 o4 : Nat} {sz0 : Nat} {m1 m3 f4 : Nat → Int32} {m2 : Nat → UInt64} {x : Int32} (N : h ao = some (.inr (1, [.ref o1, .ref o2, .int (nI sz0), .ref o3, .ref o4]))) (g_o1 : h o1 = some (.inl (0, 24, .inl m1))) (g_o2 : h o2 = some (.inl (3, 24, .inr (.inr (.inr (.inl m2)))))) (g_o3 : h o3 = some (.inl (0, 24, .inl m3))) (g_o4 : h o4 = some (.inl (0, 24, .inl f4))) (n13 : o1 ≠ o3) (n14 : o1 ≠ o4) (n34 : o3 ≠ o4) {AL : List Nat} {st s1 s2 s3 s4 : Nat} {er ep es el : Nat → Option Nat} {pc sc lc : Nat} {pe vm sm : Int32} (KS : StoC AL st s1 s2 s3 s4 er ep es el pc sc lc pe vm sm h) (hoA : ao ∈ AL ∧ o1 ∈ AL ∧ o2 ∈ AL ∧ o3 ∈ AL) {TW : Nat → Nat → List (List Int32)} {V : Nat → Prop} (hx : BW x (fun q => (1 ≤ q ∧ q ≤ 24) ∧ V q)) (hV : ∀ r, 1 ≤ r → r ≤ 24 → ∀ b, er r = some b → VrX AL h b (TW r 0) (TW r 1)) (hF : 2 ≤ F) (hL : 41 ≤ L) :
    xw_Met G m_Answers_take F L 0 0 [.ref ao, .int x, .ref st] h (fun v h' => v = none ∧ (∃ (sz : Nat) (f1 : Nat → Int32) (f2 : Nat → UInt64) (f3 : Nat → Int32), AnsR ao o1 o2 o3 o4 sz f1 f2 f3 f4 h' ∧ TkF (fun r => er r ≠ none ∧ V r) (fun r => (TW r 0).length + (TW r 1).length) (24) sz f1 f2 f3) ∧ FrO [ao, o1, o2, o3] h h') (fun _ _ => False) := by
  refine xw_Met.of rfl (by decide) (Nat.le_of_ble_eq_true rfl) ?_
  refine s_Answers_take_0 (rows_a0 := some o1) (scores_a0 := some o2) (lengths_a0 := some o3) (order_a0 := some o4) N ?_
  refine x_u1 (fun h1 e1 f_1 => ?_)
  have q1 : FrO [ao] h h1 := FrO.rf.up (by simp) f_1
  have KS1 := KS.fr q1 (suC hoA.1 suN) ⟨nm1 (xw_neC KS.1 N (by simp)), nm1 (xw_neC KS.2.1 N (by simp)), nm1 (xw_neC KS.2.2.1 N (by simp)), nm1 (xw_neC KS.2.2.2.1 N (by simp)), nm1 (xw_neC KS.2.2.2.2.1 N (by simp))⟩ (exC e1 exN)
  have a1 := (f_1 _ (xw_neC g_o1 N (by simp))).trans g_o1
  have a2 := (f_1 _ (xw_neC g_o2 N (by simp))).trans g_o2
  have a3 := (f_1 _ (xw_neC g_o3 N (by simp))).trans g_o3
  have a4 := (f_1 _ (xw_neC g_o4 N (by simp))).trans g_o4
  exact lp_takeH e1 a1 a2 a3 n13 n14 n34 KS1 hoA hx (fun r9 q2 q3 b9 q4 => (hV r9 q2 q3 b9 q4).fr q1 (suC hoA.1 suN)) hF hL (fun h2 sz f1 f2 f3 R TK r2 => ⟨rfl, ⟨sz, f1, f2, f3, R, TK⟩, (q1.mono (by simp)).trans r2⟩) 24 1 _ 0 _ _ _ rfl ⟨e1, a1, a2, a3, a4, Nat.zero_le _, fun j hj => absurd hj (Nat.not_lt_zero _)⟩ (by decide) ⟨rfl, fun j r hr => by cases hr⟩ (Nat.le_refl _) FrO.rf
set_option maxHeartbeats 4000000 in
theorem g_askH {G : xw_G} {F L : Nat} {h : xw_A} {B : List Nat} {x d tx w st sv qo so ao dl : Nat} {mo li op wp gp : Int32} (e_x : h x = some (.inr (0, [.ref d, .ref tx, .ref w, .ref st, .ref sv, .ref qo, .ref so, .ref ao, .int (nI dl), .int mo, .int li, .int op, .int wp, .int gp]))) (hdl : dl ≤ 96) {fd : Nat → Int32} (e_d : h d = some (.inl (1, 96, .inl fd))) {tk tl tz ph nd po k1 k2 k3 : Nat} {fp fn : Nat → Option Nat} (A : QuA B qo tk tl tz ph nd po k1 k2 k3 d fp fn) (QE : QuE B qo tk tl tz fp fn) (QI : QuI qo tk tl tz ph nd po k1 k2 k3 fp fn h) (nk : k1 ≠ k2 ∧ k1 ≠ k3 ∧ k2 ≠ k3) {sp : Nat} {qq : Option Nat} {pf : Nat → Int32} (e_so : h so = some (.inr (7, [.ref sp, va_rf qq]))) (e_sp : h sp = some (.inl (0, 576, .inl pf))) {o1 o2 o3 o4 sz : Nat} {f1 f3 f4 : Nat → Int32} {f2 : Nat → UInt64} (N : AnsC ao o1 o2 o3 o4 sz f1 f2 f3 f4 h) (n13 : o1 ≠ o3) (n14 : o1 ≠ o4) (n34 : o3 ≠ o4) {wf : Nat → Int32} {w0 w1 : Nat} (e_w : h w = some (.inl (0, 2, .inl wf))) (hw0 : wf 0 = nI w0 ∧ w0 ≤ 9) (hw1 : wf 1 = nI w1 ∧ w1 ≤ 9) {AL : List Nat} {s1 s2 s3 s4 : Nat} {er ep es el : Nat → Option Nat} {pc sc lc : Nat} {pe vm sm : Int32} (KS : StoC AL st s1 s2 s3 s4 er ep es el pc sc lc pe vm sm h) (hxA : x ∈ AL) (hBA : ∀ a ∈ (po :: k1 :: k2 :: k3 :: B), a ∈ AL) (hsA : so ∈ AL ∧ sp ∈ AL) (hoA : ao ∈ AL ∧ o1 ∈ AL ∧ o2 ∈ AL ∧ o3 ∈ AL) (DB : ∀ a ∈ [x, so, sp, ao, o1, o2, o3, o4, w, st, s1, s2, s3, s4, d], a ∉ (po :: k1 :: k2 :: k3 :: B)) (Z : Z0 tz h) (h128 : ∀ j, j < dl → ∃ c, c < 128 ∧ fd j = nI c) {TW : Nat → Nat → List (List Int32)} (hV : ∀ r, 1 ≤ r → r ≤ 24 → ∀ b, er r = some b → VrX AL h b (TW r 0) (TW r 1)) (hF : 96 ≤ F) (hL : 3703 ≤ L) :
    xw_Met G m_Shelf_ask F L 1 6 [.ref x] h (fun v h' => (∃ (sg : PSt) (e : List EV) (wp' : Int32) (sz' : Nat) (f1' f3' f4' : Nat → Int32) (f2' : Nat → UInt64), v = some (.int (nI sz')) ∧ resJ (kdS fd dl) (j1T fd dl 9 3 0 (0, [], [])) = some (sg, e) ∧ j1T fd dl 9 3 0 (0, [], []) = some (sg, e) ∧ h' x = some (.inr (0, [.ref d, .ref tx, .ref w, .ref st, .ref sv, .ref qo, .ref so, .ref ao, .int (0), .int mo, .int li, .int op, .int wp', .int (nI sg.2.1.length)])) ∧ (QuI qo tk tl tz ph nd po k1 k2 k3 fp fn h' ∧ Z0 tz h' ∧ (∃ (qq' : Option Nat) (pf' : Nat → Int32), h' so = some (.inr (7, [.ref sp, va_rf qq'])) ∧ h' sp = some (.inl (0, 576, .inl pf')))) ∧ AnsC ao o1 o2 o3 o4 sz' f1' f2' f3' f4' h' ∧ sz' = (fL (FdP fd sg e TW er) 24).length ∧ ∀ j r : Nat, (fL (FdP fd sg e TW er) 24)[j]? = some r → f1' j = nI r) ∧ FrO (x :: so :: sp :: ao :: o1 :: o2 :: o3 :: o4 :: po :: k1 :: k2 :: k3 :: B) h h') (fun E h' => E = "java/lang/IllegalArgumentException" ∧ (resJ (kdS fd dl) (j1T fd dl 9 3 0 (0, [], [])) = none ∧ (∃ wp' : Int32, h' x = some (.inr (0, [.ref d, .ref tx, .ref w, .ref st, .ref sv, .ref qo, .ref so, .ref ao, .int (0), .int mo, .int li, .int op, .int wp', .int gp]))) ∧ (QuI qo tk tl tz ph nd po k1 k2 k3 fp fn h' ∧ Z0 tz h' ∧ (∃ (qq' : Option Nat) (pf' : Nat → Int32), h' so = some (.inr (7, [.ref sp, va_rf qq'])) ∧ h' sp = some (.inl (0, 576, .inl pf')))) ∧ AnsC ao o1 o2 o3 o4 sz f1 f2 f3 f4 h') ∧ FrO (x :: so :: sp :: ao :: o1 :: o2 :: o3 :: o4 :: po :: k1 :: k2 :: k3 :: B) h h') := by
  refine xw_Met.of rfl (by decide) (Nat.le_of_ble_eq_true rfl) ?_
  obtain ⟨e_ao, e_o1, e_o2, e_o3, e_o4, hsz, hord⟩ := id N
  have M8 : ∀ a ∈ (po :: k1 :: k2 :: k3 :: B), a ∈ (x :: so :: sp :: ao :: o1 :: o2 :: o3 :: o4 :: po :: k1 :: k2 :: k3 :: B) := fun a ha => List.mem_cons_of_mem _ (List.mem_cons_of_mem _ (List.mem_cons_of_mem _ (List.mem_cons_of_mem _ (List.mem_cons_of_mem _ (List.mem_cons_of_mem _ (List.mem_cons_of_mem _ (List.mem_cons_of_mem _ (ha))))))))
  have M9 : ∀ a ∈ x :: po :: k1 :: k2 :: k3 :: B, a ∈ (x :: so :: sp :: ao :: o1 :: o2 :: o3 :: o4 :: po :: k1 :: k2 :: k3 :: B) := fun a ha => (List.mem_cons.mp ha).elim (fun z => by rw [z]; exact List.mem_cons_self) (M8 a)
  have nx : ∀ a, a ∈ (po :: k1 :: k2 :: k3 :: B) → a ∉ [x] := fun a ha => nm1 (fun z => DB x (by simp) (by rw [← z]; exact ha))
  refine s_Shelf_ask_0 (draft_a0 := some d) (texts_a0 := some tx) (weights_a0 := some w) (store_a0 := some st) (saved_a0 := some sv) (question_a0 := some qo) (standing_a0 := some so) (answers_a0 := some ao) e_x ?_
  refine x_u1 (fun h1 e1 t1 => ?_)
  have r1 : FrO [x] h h1 := FrO.rf.up (by simp) t1
  have nq : ∀ a, a ∈ B → a ∉ [x] := fun a ha => nx a ((fun a ha => List.mem_cons_of_mem _ (List.mem_cons_of_mem _ (List.mem_cons_of_mem _ (List.mem_cons_of_mem _ ha)))) a ha)
  have QI1 : QuI qo tk tl tz ph nd po k1 k2 k3 fp fn h1 := by
    obtain ⟨pA, nA, wA, tA, x0, dq, dq2, n0, f, g, fk, fs, fe, q0, T, q1, q2, -⟩ := id QI
    exact QI.fr r1 ⟨nq _ A.1.1, nm1 (xw_neC q1 e_x (by simp)), nm1 (xw_neC q2 e_x (by simp)), nx _ (by simp), nx _ (by simp), nx _ (by simp), nx _ (by simp)⟩ ⟨nq _ A.1.2.1, nq _ A.1.2.2.1, nq _ A.1.2.2.2⟩ (fun i a hi ha => nq _ (A.2.1 i a hi ha)) (fun i a hi ha => nq _ (A.2.2.1 i a hi ha))
  have a_d := (t1 _ (xw_neC e_d e_x (by simp))).trans e_d
  obtain ⟨pA, nA, wA, tA, x0, dq, dq2, n0, f0, g0, fk0, fs0, fe0, a_qo, -⟩ := id QI1
  have Z1 : Z0 tz h1 := by
    obtain ⟨g9, z1, z2⟩ := Z
    exact ⟨g9, r1 _ _ (nq _ A.1.2.2.2) z1, z2⟩
  refine x_callV (As := [.ref d, .int (nI dl)]) (b := qo) (rest := []) (F1 := 95) (L1 := 3680) (mc := 0) (ms := 0) d_Shelf_ask_19 cV_Shelf_163 (g_readH A QI1 a_d hdl nk Z1 h128 (by omega) (by omega)) a_qo ⟨by decide, rfl⟩ ⟨by omega, by show 8 + (4 + 11) + 3680 ≤ _; omega⟩ ⟨by omega, by omega⟩ (Nat.le_of_ble_eq_true rfl) (fun v h2 q => ?_)
  obtain ⟨b, c, fk, fs, fe, rfl, r2, hres⟩ := q
  have e2 := r2 x _ (DB x (by simp)) e1
  refine x_le (xw_le_s (xw_le_n (xw_le_n xw_le_e))) ?_
  rcases hres with ⟨rfl, hnone, p, nn, n, t, wp2, f, g, K2, G2⟩ | ⟨rfl, sg, ev, hsome, hjs, LK, p, nn, n, t, wp2, f, g, K2, X2⟩
  rotate_left
  · refine s_Shelf_ask_22 (draft_a0 := some d) (texts_a0 := some tx) (weights_a0 := some w) (store_a0 := some st) (saved_a0 := some sv) (standing_a0 := some so) (answers_a0 := some ao) (tokens_question_a0 := some tk) (phrases_question_a0 := some ph) (nodes_question_a0 := some nd) (parts_question_a0 := some po) (letters_question_a0 := some d) e2 K2.1 (fun _ => ?_) (fun z => absurd z (by decide))
    refine x_u1 (fun h3 e3 t3 => ?_)
    have K3 := K2.frx (FrO.rf.up (by simp) t3) e2 (by simp) (by simp) (by simp) (by simp) (by simp) (by simp) (by simp) (by simp) (by simp) (by simp)
    refine s_Shelf_ask_48 (draft_a0 := some d) (texts_a0 := some tx) (weights_a0 := some w) (store_a0 := some st) (saved_a0 := some sv) (standing_a0 := some so) (answers_a0 := some ao) (tokens_question_a0 := some tk) (phrases_question_a0 := some ph) (nodes_question_a0 := some nd) (parts_question_a0 := some po) (letters_question_a0 := some d) e3 K3.1 ?_
    refine x_u1 (fun h4 e4 t4 => ?_)
    have K4 := K3.frx (FrO.rf.up (by simp) t4) e3 (by simp) (by simp) (by simp) (by simp) (by simp) (by simp) (by simp) (by simp) (by simp) (by simp)
    have nX : ∀ {cc : Nat} (_ : ¬ cc = 0) (a : Nat) (vs : List Value) {hh : xw_A} {vs2 : List Value}, hh x = some (.inr (0, vs2)) → hh a = some (.inr (cc, vs)) → a ∉ [x] := fun hcc a vs hh vs2 hx ha => nm1 (xw_neC ha hx (by simp [hcc]))
    have X3 := X2.fr (FrO.rf.up (by simp) t3 : FrO [x] h2 h3) (fun a vs ha => nX (by decide) a vs e2 ha) (fun a vs ha => nX (by decide) a vs e2 ha)
    have X4 := X3.fr (FrO.rf.up (by simp) t4 : FrO [x] h3 h4) (fun a vs ha => nX (by decide) a vs e3 ha) (fun a vs ha => nX (by decide) a vs e3 ha)
    have sA4 : FrO (x :: po :: k1 :: k2 :: k3 :: B) h h4 := (((r1.mono (by simp)).trans (r2.mono (fun a ha => List.mem_cons_of_mem _ ha))).up (by simp) t3).up (by simp) t4
    have no : ∀ a ∈ [x, so, sp, ao, o1, o2, o3, o4, w, st, s1, s2, s3, s4, d], a ≠ x → a ∉ x :: po :: k1 :: k2 :: k3 :: B := fun a ha hn hz => (List.mem_cons.mp hz).elim hn (DB a ha)
    have g_so := sA4 so _ (no so (by simp) (xw_neC e_so e_x (by simp))) e_so
    have g_sp := sA4 sp _ (no sp (by simp) (xw_neC e_sp e_x (by simp))) e_sp
    have g_ao := sA4 ao _ (no ao (by simp) (xw_neC e_ao e_x (by simp))) e_ao
    have g_o1 := sA4 o1 _ (no o1 (by simp) (xw_neC e_o1 e_x (by simp))) e_o1
    have g_o2 := sA4 o2 _ (no o2 (by simp) (xw_neC e_o2 e_x (by simp))) e_o2
    have g_o3 := sA4 o3 _ (no o3 (by simp) (xw_neC e_o3 e_x (by simp))) e_o3
    have g_o4 := sA4 o4 _ (no o4 (by simp) (xw_neC e_o4 e_x (by simp))) e_o4
    have g_w := sA4 w _ (no w (by simp) (xw_neC e_w e_x (by simp))) e_w
    have KS4 := KS.fr sA4 (suC hxA hBA) ⟨no st (by simp) (xw_neC KS.1 e_x (by simp)), no s1 (by simp) (xw_neC KS.2.1 e_x (by simp)), no s2 (by simp) (xw_neC KS.2.2.1 e_x (by simp)), no s3 (by simp) (xw_neC KS.2.2.2.1 e_x (by simp)), no s4 (by simp) (xw_neC KS.2.2.2.2.1 e_x (by simp))⟩ (exC e4 (QuI.ex K4.s.i QE))
    refine x_callV (As := [.ref qo, .ref st]) (b := so) (rest := []) (F1 := 5) (L1 := 117) (mc := 0) (ms := 0) d_Shelf_ask_71 cV_Shelf_176 (g_fillH K4 X4 hdl g_so g_sp KS4 hsA (fun r9 q1 q2 b9 q3 => (hV r9 q1 q2 b9 q3).fr sA4 (suC hxA hBA)) (by omega) (by omega)) g_so ⟨by decide, rfl⟩ ⟨by omega, by show 8 + (8 + 11) + 117 ≤ _; omega⟩ ⟨by omega, by omega⟩ (Nat.le_of_ble_eq_true rfl) (fun v h5 q => ?_)
    obtain ⟨rfl, i_so, ⟨pf5, i_sp, FL5⟩, r5⟩ := q
    have np5 : ∀ {a : Nat} {e : xw_C}, h4 a = some e → (∀ vs, e ≠ .inr (7, vs)) → (∀ f, e ≠ .inl (0, 576, f)) → a ∉ [so, sp] := fun ha m1 m2 => by
      simp only [List.mem_cons, List.not_mem_nil, or_false, not_or]
      exact ⟨xw_neC ha g_so (m1 _), xw_neC ha g_sp (m2 _)⟩
    have K5 : QuC qo tk tl tz ph nd po k1 k2 k3 d dl c fk fs fe fd fp fn p nn n t wp2 f g h5 := by
      obtain ⟨q0, T, q1, q2, P, m1, m2, m3, Fq, Nq⟩ := K4
      exact ⟨r5 _ _ (np5 q0 (by simp) (by simp)) q0, T.frq r5 ⟨np5 T.1 (by simp) (by simp), np5 T.2.1 (by simp) (by simp), np5 T.2.2.1 (by simp) (by simp)⟩, r5 _ _ (np5 q1 (by simp) (by simp)) q1, r5 _ _ (np5 q2 (by simp) (by simp)) q2, P.fr r5 ⟨np5 P.1 (by simp) (by simp), np5 P.2.1 (by simp) (by simp), np5 P.2.2.1 (by simp) (by simp), np5 P.2.2.2.1 (by simp) (by simp), np5 P.2.2.2.2.1 (by simp) (by simp)⟩, m1, m2, m3, Fq.fr r5 (fun a x y b ha => np5 ha (by simp) (by simp)) (Nat.le_refl _), Nq.fr r5 (fun a vs ha => np5 ha (by simp) (by simp)) (Nat.le_refl _)⟩
    have X5 := X4.fr r5 (fun a vs ha => np5 ha (by simp) (by simp)) (fun a vs ha => np5 ha (by simp) (by simp))
    have hpl : p = sg.2.1.length := X5.2.2.1
    have hOK := read_ok hjs
    have hlq : ∀ i, i < p → ∃ (pa : Nat) (x b : Int32), fp i = some pa ∧ h5 pa = some (.inr (4, [.int x, .int (nI (lqW fd sg.2.1 i)), .int b])) ∧ lqW fd sg.2.1 i ≤ 96 := fun i hi => by
      obtain ⟨xp, hxp⟩ : ∃ xp, sg.2.1[i]? = some xp := ⟨_, List.getElem?_eq_getElem (by rw [← hpl]; exact hi)⟩
      obtain ⟨pa, u1, u2⟩ := X5.2.2.2.2.2.2.2.2.1 i xp hxp
      refine ⟨pa, _, _, u1, by rw [lqW_at hxp]; exact u2, ?_⟩
      rw [lqW_at hxp]
      have s1 := spn_take (t := fd) hxp
      have s2 := X5.n0
      have s3 := K5.2.1.2.2.2.1
      omega
    have e5 := r5 x _ (np5 e4 (by simp) (by simp)) e4
    have j_ao := r5 ao _ (np5 g_ao (by simp) (by simp)) g_ao
    have j_o1 := r5 o1 _ (np5 g_o1 (by simp) (by simp)) g_o1
    have j_o2 := r5 o2 _ (np5 g_o2 (by simp) (by simp)) g_o2
    have j_o3 := r5 o3 _ (np5 g_o3 (by simp) (by simp)) g_o3
    have j_o4 := r5 o4 _ (np5 g_o4 (by simp) (by simp)) g_o4
    have j_w := r5 w _ (np5 g_w (by simp) (by simp)) g_w
    have KS5 := KS4.fr r5 (suC hsA.1 (suC hsA.2 suN)) ⟨np5 KS4.1 (by simp) (by simp), np5 KS4.2.1 (by simp) (by simp), np5 KS4.2.2.1 (by simp) (by simp), np5 KS4.2.2.2.1 (by simp) (by simp), np5 KS4.2.2.2.2.1 (by simp) (by simp)⟩ (exC i_so (exC i_sp exN))
    refine s_Shelf_ask_74 (draft_a0 := some d) (texts_a0 := some tx) (weights_a0 := some w) (store_a0 := some st) (saved_a0 := some sv) (question_a0 := some qo) (standing_a0 := some so) (answers_a0 := some ao) e5 ?_
    refine x_callV (As := [.ref qo]) (b := so) (rest := [.ref ao]) (F1 := 7) (L1 := 165) (mc := 0) (ms := 0) d_Shelf_ask_86 cV_Shelf_180 (g_rowsFoundH (gr := sg.2.2) (nds := [] ++ lks ev ([] : List NDt).length []) (lq := lqW fd sg.2.1) K5 A i_so i_sp FL5 X5.2.2.2.1 (fun g9 y9 q9 => by rw [hpl]; exact hOK g9 y9 q9) (read_lk hjs) hlq X5.2.2.2.2.2.2.2.2.2 (by omega) (by omega)) i_so ⟨by decide, rfl⟩ ⟨by omega, by show 8 + (5 + 11) + 165 ≤ _; omega⟩ ⟨by omega, by omega⟩ (Nat.le_of_ble_eq_true rfl) (fun v h6 q => ?_)
    obtain ⟨⟨m6, rfl, hm6⟩, K6, -, r6⟩ := q
    have hnn9 : nn = ev.length := by have q1 := X5.2.2.2.1; rw [List.nil_append, lks_len] at q1; exact q1
    have hb6 := hm6 (ev.length - 1) (by have := LK.1.1; omega)
    have r6' : FrO (po :: k1 :: k2 :: k3 :: B) h5 h6 := r6.mono (fun a ha => List.mem_cons_of_mem _ (List.mem_cons_of_mem _ (List.mem_cons_of_mem _ (List.mem_cons_of_mem _ ha))))
    have r6b := r6'
    have nb : ∀ a ∈ [x, so, sp, ao, o1, o2, o3, o4, w, st, s1, s2, s3, s4, d], a ∉ (po :: k1 :: k2 :: k3 :: B) := DB
    have e6 := r6' x _ (DB x (by simp)) e5
    have l_so := r6' so _ (DB so (by simp)) i_so
    have l_sp := r6' sp _ (DB sp (by simp)) i_sp
    have l_ao := r6' ao _ (DB ao (by simp)) j_ao
    have l_o1 := r6' o1 _ (DB o1 (by simp)) j_o1
    have l_o2 := r6' o2 _ (DB o2 (by simp)) j_o2
    have l_o3 := r6' o3 _ (DB o3 (by simp)) j_o3
    have l_o4 := r6' o4 _ (DB o4 (by simp)) j_o4
    have l_w := r6' w _ (DB w (by simp)) j_w
    have KS6 := KS5.fr r6' hBA ⟨DB st (by simp), DB s1 (by simp), DB s2 (by simp), DB s3 (by simp), DB s4 (by simp)⟩ (QuI.ex K6.s.i QE)
    refine s_Shelf_ask_89 (draft_a0 := some d) (texts_a0 := some tx) (weights_a0 := some w) (store_a0 := some st) (saved_a0 := some sv) (question_a0 := some qo) (standing_a0 := some so) (answers_a0 := some ao) e6 ?_
    refine x_callV (As := [.int m6, .ref st]) (b := ao) (rest := []) (F1 := 2) (L1 := 41) (mc := 0) (ms := 0) d_Shelf_ask_93 cV_Shelf_184 (g_takeH l_ao l_o1 l_o2 l_o3 l_o4 n13 n14 n34 KS6 hoA hb6 (fun r9 q1 q2 b9 q3 => (((hV r9 q1 q2 b9 q3).fr sA4 (suC hxA hBA)).fr r5 (suC hsA.1 (suC hsA.2 suN))).fr r6b hBA) (by omega) (by omega)) l_ao ⟨by decide, rfl⟩ ⟨by omega, by show 8 + (5 + 11) + 41 ≤ _; omega⟩ ⟨by omega, by omega⟩ (Nat.le_of_ble_eq_true rfl) (fun v h7 q => ?_)
    obtain ⟨rfl, ⟨sz7, f17, f27, f37, R7, TK7⟩, r7⟩ := q
    have n7 : ∀ {a : Nat} {e : xw_C}, h6 a = some e → (∀ vs, e ≠ .inr (1, vs)) → (∀ f, e ≠ .inl (0, 24, f)) → (∀ f, e ≠ .inl (3, 24, f)) → a ∉ [ao, o1, o2, o3] := fun ha m1 m2 m3 => by
      simp only [List.mem_cons, List.not_mem_nil, or_false, not_or]
      exact ⟨xw_neC ha l_ao (m1 _), xw_neC ha l_o1 (m2 _), xw_neC ha l_o2 (m3 _), xw_neC ha l_o3 (m2 _)⟩
    have e7 := r7 x _ (n7 e6 (by simp) (by simp) (by simp)) e6
    have m_so := r7 so _ (n7 l_so (by simp) (by simp) (by simp)) l_so
    have m_sp := r7 sp _ (n7 l_sp (by simp) (by simp) (by simp)) l_sp
    have m_w := r7 w _ (n7 l_w (by simp) (by simp) (by simp)) l_w
    have K7 : QuC qo tk tl tz ph nd po k1 k2 k3 d dl c fk fs fe fd fp fn p nn n t wp2 f g h7 := by
      obtain ⟨q0, T, q1, q2, P, m1, m2, m3, Fq, Nq⟩ := K6
      exact ⟨r7 _ _ (n7 q0 (by simp) (by simp) (by simp)) q0, T.frq r7 ⟨n7 T.1 (by simp) (by simp) (by simp), n7 T.2.1 (by simp) (by simp) (by simp), n7 T.2.2.1 (by simp) (by simp) (by simp)⟩, r7 _ _ (n7 q1 (by simp) (by simp) (by simp)) q1, r7 _ _ (n7 q2 (by simp) (by simp) (by simp)) q2, P.fr r7 ⟨n7 P.1 (by simp) (by simp) (by simp), n7 P.2.1 (by simp) (by simp) (by simp), n7 P.2.2.1 (by simp) (by simp) (by simp), n7 P.2.2.2.1 (by simp) (by simp) (by simp), n7 P.2.2.2.2.1 (by simp) (by simp) (by simp)⟩, m1, m2, m3, Fq.fr r7 (fun a x y b ha => n7 ha (by simp) (by simp) (by simp)) (Nat.le_refl _), Nq.fr r7 (fun a vs ha => n7 ha (by simp) (by simp) (by simp)) (Nat.le_refl _)⟩
    have KS7 := KS6.fr r7 (suC hoA.1 (suC hoA.2.1 (suC hoA.2.2.1 (suC hoA.2.2.2 suN)))) ⟨n7 KS6.1 (by simp) (by simp) (by simp), n7 KS6.2.1 (by simp) (by simp) (by simp), n7 KS6.2.2.1 (by simp) (by simp) (by simp), n7 KS6.2.2.2.1 (by simp) (by simp) (by simp), n7 KS6.2.2.2.2.1 (by simp) (by simp) (by simp)⟩ (exC R7.1 (exC R7.2.1 (exC R7.2.2.1 (exC R7.2.2.2.1 exN))))
    refine s_Shelf_ask_96 (draft_a0 := some d) (texts_a0 := some tx) (weights_a0 := some w) (store_a0 := some st) (saved_a0 := some sv) (question_a0 := some qo) (standing_a0 := some so) (answers_a0 := some ao) e7 ?_
    refine x_callV (As := [.ref so, .int (nI p), .ref w, .ref st]) (b := ao) (rest := []) (F1 := 5) (L1 := 110) (mc := 0) (ms := 0) d_Shelf_ask_116 cV_Shelf_188 (g_rank R7 m_so m_sp m_w hw0 hw1 K7.2.2.2.2.2.1 n14 n34 KS7 (by omega) (by omega)) R7.1 ⟨by decide, rfl⟩ ⟨by omega, by show 8 + (10 + 11) + 110 ≤ _; omega⟩ ⟨by omega, by omega⟩ (Nat.le_of_ble_eq_true rfl) (fun v h8 q => ?_)
    obtain ⟨rfl, ⟨f28, f48, N8⟩, r8⟩ := q
    have n8 : ∀ {a : Nat} {e : xw_C}, h7 a = some e → (∀ f, e ≠ .inl (0, 24, f)) → (∀ f, e ≠ .inl (3, 24, f)) → a ∉ [o2, o4] := fun ha m2 m3 => by
      simp only [List.mem_cons, List.not_mem_nil, or_false, not_or]
      exact ⟨xw_neC ha R7.2.2.1 (m3 _), xw_neC ha R7.2.2.2.2.1 (m2 _)⟩
    have e8 := r8 x _ (n8 e7 (by simp) (by simp)) e7
    have K8 : QuC qo tk tl tz ph nd po k1 k2 k3 d dl c fk fs fe fd fp fn p nn n t wp2 f g h8 := by
      obtain ⟨q0, T, q1, q2, P, m1, m2, m3, Fq, Nq⟩ := K7
      exact ⟨r8 _ _ (n8 q0 (by simp) (by simp)) q0, T.frq r8 ⟨n8 T.1 (by simp) (by simp), n8 T.2.1 (by simp) (by simp), n8 T.2.2.1 (by simp) (by simp)⟩, r8 _ _ (n8 q1 (by simp) (by simp)) q1, r8 _ _ (n8 q2 (by simp) (by simp)) q2, P.fr r8 ⟨n8 P.1 (by simp) (by simp), n8 P.2.1 (by simp) (by simp), n8 P.2.2.1 (by simp) (by simp), n8 P.2.2.2.1 (by simp) (by simp), n8 P.2.2.2.2.1 (by simp) (by simp)⟩, m1, m2, m3, Fq.fr r8 (fun a x y b ha => n8 ha (by simp) (by simp)) (Nat.le_refl _), Nq.fr r8 (fun a vs ha => n8 ha (by simp) (by simp)) (Nat.le_refl _)⟩
    refine s_Shelf_ask_119 (draft_a0 := some d) (texts_a0 := some tx) (weights_a0 := some w) (store_a0 := some st) (saved_a0 := some sv) (question_a0 := some qo) (standing_a0 := some so)  (rows_answers_a0 := some o1) (scores_answers_a0 := some o2) (lengths_answers_a0 := some o3) (order_answers_a0 := some o4) e8 N8.1 ?_
    have e9 := e8
    rw [hpl] at e9
    exact ⟨⟨sg, ev, _, sz7, _, _, _, _, rfl, hsome, hjs, e9, ⟨K8.s.i, ⟨g, K8.2.1.2.2.1, X5.g0⟩, ⟨some qo, pf5, r8 so _ (n8 m_so (by simp) (by simp)) m_so, r8 sp _ (n8 m_sp (by simp) (by simp)) m_sp⟩⟩, N8, TK7.1, fun j r hr => (TK7.2 j r hr).1⟩, ((((sA4.mono M9).trans (r5.mono (by simp))).trans (r6'.mono M8)).trans (r7.mono (by simp))).trans (r8.mono (by simp))⟩
  · refine s_Shelf_ask_22 (draft_a0 := some d) (texts_a0 := some tx) (weights_a0 := some w) (store_a0 := some st) (saved_a0 := some sv) (standing_a0 := some so) (answers_a0 := some ao) (tokens_question_a0 := some tk) (phrases_question_a0 := some ph) (nodes_question_a0 := some nd) (parts_question_a0 := some po) (letters_question_a0 := some d) e2 K2.1 (fun z => absurd rfl z) (fun _ => ?_)
    refine x_u1 (fun h3 e3 t3 => ?_)
    have K3 := K2.frx (FrO.rf.up (by simp) t3) e2 (by simp) (by simp) (by simp) (by simp) (by simp) (by simp) (by simp) (by simp) (by simp) (by simp)
    have sA3 : FrO (x :: po :: k1 :: k2 :: k3 :: B) h h3 := ((r1.mono (by simp)).trans (r2.mono (fun a ha => List.mem_cons_of_mem _ ha))).up (by simp) t3
    have no : ∀ a ∈ [x, so, sp, ao, o1, o2, o3, o4, w, st, s1, s2, s3, s4, d], a ≠ x → a ∉ x :: po :: k1 :: k2 :: k3 :: B := fun a ha hn hz => (List.mem_cons.mp hz).elim hn (DB a ha)
    refine x_throw rfl th_Shelf_71_168_75 d_Shelf_ask_38 d_Shelf_ask_41 d_Shelf_ask_42 d_Shelf_ask_44 d_Shelf_ask_47 ⟨by show 1 + 4 < _; omega, by show 0 + (13 * (1 + 2) + 43) ≤ _; omega⟩ ⟨by omega, by omega⟩ ?_
    exact ⟨rfl, ⟨hnone, ⟨_, e3⟩, ⟨K3.s.i, ⟨g, K3.2.1.2.2.1, G2⟩, ⟨qq, pf, sA3 so _ (no so (by simp) (xw_neC e_so e_x (by simp))) e_so, sA3 sp _ (no sp (by simp) (xw_neC e_sp e_x (by simp))) e_sp⟩⟩, ⟨sA3 ao _ (no ao (by simp) (xw_neC e_ao e_x (by simp))) e_ao, sA3 o1 _ (no o1 (by simp) (xw_neC e_o1 e_x (by simp))) e_o1, sA3 o2 _ (no o2 (by simp) (xw_neC e_o2 e_x (by simp))) e_o2, sA3 o3 _ (no o3 (by simp) (xw_neC e_o3 e_x (by simp))) e_o3, sA3 o4 _ (no o4 (by simp) (xw_neC e_o4 e_x (by simp))) e_o4, hsz, hord⟩⟩, sA3.mono M9⟩
