/-! THE LAW'S CASES ON FRESH OBJECTS: by program (wip/tools/p1l.py) -/
set_option maxHeartbeats 2000000 in
theorem lc_rollback {G : xw_G} {F L bc bs b : Nat} {xs : Nat → Int32} {x d tx w st s1 s2 s3 s4 sv v1 v2 v3 v4 qo t tl ts pa na po k1 k2 k3 so ao o1 o2 o3 o4 x0 l0 z0 x1 l1 z1 : Nat} {wf : Nat → Int32} {m m0 m1 m2 m3 m4 m5 m6 m7 m8 m9 m10 m11 m12 m13 m14 m15 m16 m17 m18 m19 m20 m21 m22 m23 m24 m25 m26 m27 m28 m29 m30 m31 m32 m33 m34 : Nat} {lf wg : Nat → Int32} {o od : Nat} {h : xw_A}  (hX : va_X b 3 xs G.2.2.1 G.2.2.1.heap) (hA : FrA x d tx w st s1 s2 s3 s4 sv v1 v2 v3 v4 qo t tl ts pa na po k1 k2 k3 so ao o1 o2 o3 o4 x0 l0 z0 x1 l1 z1 wf m m0 m1 m2 m3 m4 m5 m6 m7 m8 m9 m10 m11 m12 m13 m14 m15 m16 m17 m18 m19 m20 m21 m22 m23 m24 m25 m26 m27 m28 m29 m30 m31 m32 m33 m34 lf wg o od h)   (hF : 8 ≤ F) (hL : 132 ≤ L) (hbc : 1 ≤ bc) (hbs : 6 ≤ bs) :
    xw G m_Law_law F L bc bs (fun v _ => v = some (.int 1)) (fun _ _ => False) 521 [some (.ref b), some (.ref x), some (.ref m), some (.ref o), some (.ref od), some (.int 0), none, none, none] [] h := by
  obtain ⟨KC, KM, eo, eod, hD, hoC, hoM, hw0, hw1, hlf, hg0, hg1⟩ := hA
  refine s_Law_law_521 ?_
  have sC : ∀ a ∈ [x], a ∈ CLs x d tx w st s1 s2 s3 s4 sv v1 v2 v3 v4 qo t tl ts pa na po k1 k2 k3 so ao o1 o2 o3 o4 x0 l0 z0 x1 l1 z1 := (List.forall_mem_cons.mpr ⟨List.mem_of_getElem? (i := 0) rfl, (fun _ h => nomatch h)⟩)
  refine x_callSH (As := [.ref x, .ref o]) (rest := []) (F1 := 7) (L1 := 110) (mc := 1) (ms := 6) d_Law_law_523 cH_Law_112 (hl_rollback (KC.at 0 rfl rfl) (by omega) (by omega)) ⟨by omega, by show 8 + (3 + 11) + 110 ≤ _; omega⟩ ⟨by omega, by omega⟩ (Nat.le_of_ble_eq_true rfl) (fun v_6 h_5 p_7 => ?_)
  obtain ⟨rfl, fr_1⟩ := p_7
  have KM1 := KM.fr fr_1 (fun a ha hb => hD a ha (sC a hb))
  have e_m : h_5 m = some (.inr (11, mfs m0 m1 m2 m3 m4 m5 m6 m7 m8 m9 m10 m11 m12 m13 m14 m15 m16 m17 m18 m19 m20 m21 m22 m23 m24 m25 m26 m27 m28 m29 m30 m31 m32 m33 m34)) := KM1.at 0 rfl rfl
  refine s_Law_law_526 ?_
  refine x_callV (As := []) (b := m) (rest := []) (F1 := 2) (L1 := 42) (mc := 0) (ms := 0) d_Law_law_529 cV_Law_114 (fm_rollback (by rfl) e_m (by rfl) (by rfl) (by omega) (by omega)) e_m ⟨by decide, rfl⟩ ⟨by omega, by show 8 + (2 + 11) + 42 ≤ _; omega⟩ ⟨by omega, by omega⟩ (Nat.le_of_ble_eq_true rfl) (fun v_14 h_13 p_15 => ?_)
  obtain ⟨rfl, ⟨fs_8, l_9, e_10, g_11⟩, fr_12⟩ := p_15
  refine s_Law_law_532 ?_
  refine x_callV (As := []) (b := m) (rest := []) (F1 := 1) (L1 := 20) (mc := 0) (ms := 0) d_Law_law_535 cV_Law_84 (f_thrown l_9 e_10 g_11 (by omega) (by omega)) e_10 ⟨by decide, rfl⟩ ⟨by omega, by show 8 + (1 + 11) + 20 ≤ _; omega⟩ ⟨by omega, by omega⟩ (Nat.le_of_ble_eq_true rfl) (fun v_17 h_16 p_18 => ?_)
  obtain ⟨rfl, rfl⟩ := p_18
  refine s_Law_law_538 (fun z_19 => ?_) (fun z => absurd z (by decide))
  refine s_Law_law_545 (fun z_20 => ?_) (fun z => absurd z (by decide))
  refine s_Law_law_562 ?_
  exact law_tail hX
set_option maxHeartbeats 2000000 in
theorem lc_ways_no1 {G : xw_G} {F L bc bs b : Nat} {xs : Nat → Int32} {x d tx w st s1 s2 s3 s4 sv v1 v2 v3 v4 qo t tl ts pa na po k1 k2 k3 so ao o1 o2 o3 o4 x0 l0 z0 x1 l1 z1 : Nat} {wf : Nat → Int32} {m m0 m1 m2 m3 m4 m5 m6 m7 m8 m9 m10 m11 m12 m13 m14 m15 m16 m17 m18 m19 m20 m21 m22 m23 m24 m25 m26 m27 m28 m29 m30 m31 m32 m33 m34 : Nat} {lf wg : Nat → Int32} {o od : Nat} {h : xw_A} {a c : Int32} (hX : va_X b 3 xs G.2.2.1 G.2.2.1.heap) (hA : FrA x d tx w st s1 s2 s3 s4 sv v1 v2 v3 v4 qo t tl ts pa na po k1 k2 k3 so ao o1 o2 o3 o4 x0 l0 z0 x1 l1 z1 wf m m0 m1 m2 m3 m4 m5 m6 m7 m8 m9 m10 m11 m12 m13 m14 m15 m16 m17 m18 m19 m20 m21 m22 m23 m24 m25 m26 m27 m28 m29 m30 m31 m32 m33 m34 lf wg o od h) (hx0 : (xs (0 + 1 : Int32).toNatClampNeg) = a) (hx1 : (xs (0 + 2 : Int32).toNatClampNeg) = c) (hn : a < 1 ∨ 9 < a) (hF : 8 ≤ F) (hL : 135 ≤ L) (hbc : 1 ≤ bc) (hbs : 6 ≤ bs) :
    xw G m_Law_law F L bc bs (fun v _ => v = some (.int 1)) (fun _ _ => False) 591 [some (.ref b), some (.ref x), some (.ref m), some (.ref o), some (.ref od), some (.int 0), none, none, none] [] h := by
  obtain ⟨KC, KM, eo, eod, hD, hoC, hoM, hw0, hw1, hlf, hg0, hg1⟩ := hA
  refine s_Law_law_591 hX (by unfold vp_in; decide) (by unfold vp_in; decide) ?_
  rw [hx0]
  rw [hx1]
  have sC : ∀ a ∈ [x], a ∈ CLs x d tx w st s1 s2 s3 s4 sv v1 v2 v3 v4 qo t tl ts pa na po k1 k2 k3 so ao o1 o2 o3 o4 x0 l0 z0 x1 l1 z1 := (List.forall_mem_cons.mpr ⟨List.mem_of_getElem? (i := 0) rfl, (fun _ h => nomatch h)⟩)
  refine x_callSH (As := [.ref x, .int a, .int c]) (rest := []) (F1 := 7) (L1 := 112) (mc := 1) (ms := 6) d_Law_law_604 cH_Law_123 (hl_ways_no (KC.at 0 rfl rfl) (hn.elim Or.inl (fun q => Or.inr (Or.inl q))) (by omega) (by omega)) ⟨by omega, by show 8 + (4 + 11) + 112 ≤ _; omega⟩ ⟨by omega, by omega⟩ (Nat.le_of_ble_eq_true rfl) (fun v_6 h_5 p_7 => ?_)
  obtain ⟨rfl, fr_1⟩ := p_7
  have KM1 := KM.fr fr_1 (fun a ha hb => hD a ha (sC a hb))
  have e_m : h_5 m = some (.inr (11, mfs m0 m1 m2 m3 m4 m5 m6 m7 m8 m9 m10 m11 m12 m13 m14 m15 m16 m17 m18 m19 m20 m21 m22 m23 m24 m25 m26 m27 m28 m29 m30 m31 m32 m33 m34)) := KM1.at 0 rfl rfl
  refine s_Law_law_607 hX (by unfold vp_in; decide) (by unfold vp_in; decide) ?_
  rw [hx0]
  rw [hx1]
  refine x_callV (As := [.int a, .int c]) (b := m) (rest := []) (F1 := 2) (L1 := 42) (mc := 0) (ms := 0) d_Law_law_622 cV_Law_126 (fm_ways_no1 (by rfl) e_m (by rfl) (by rfl) (by rfl) hn (by omega) (by omega)) e_m ⟨by decide, rfl⟩ ⟨by omega, by show 8 + (3 + 11) + 42 ≤ _; omega⟩ ⟨by omega, by omega⟩ (Nat.le_of_ble_eq_true rfl) (fun v_14 h_13 p_15 => ?_)
  obtain ⟨rfl, ⟨fs_8, l_9, e_10, g_11⟩, fr_12⟩ := p_15
  refine s_Law_law_625 ?_
  refine x_callV (As := []) (b := m) (rest := []) (F1 := 1) (L1 := 20) (mc := 0) (ms := 0) d_Law_law_626 cV_Law_84 (f_thrown l_9 e_10 g_11 (by omega) (by omega)) e_10 ⟨by decide, rfl⟩ ⟨by omega, by show 8 + (1 + 11) + 20 ≤ _; omega⟩ ⟨by omega, by omega⟩ (Nat.le_of_ble_eq_true rfl) (fun v_17 h_16 p_18 => ?_)
  obtain ⟨rfl, rfl⟩ := p_18
  refine s_Law_law_629 (fun z_19 => ?_) (fun z => absurd z (by decide))
  refine s_Law_law_636 ?_
  exact law_tail hX
set_option maxHeartbeats 2000000 in
theorem lc_ways_no2 {G : xw_G} {F L bc bs b : Nat} {xs : Nat → Int32} {x d tx w st s1 s2 s3 s4 sv v1 v2 v3 v4 qo t tl ts pa na po k1 k2 k3 so ao o1 o2 o3 o4 x0 l0 z0 x1 l1 z1 : Nat} {wf : Nat → Int32} {m m0 m1 m2 m3 m4 m5 m6 m7 m8 m9 m10 m11 m12 m13 m14 m15 m16 m17 m18 m19 m20 m21 m22 m23 m24 m25 m26 m27 m28 m29 m30 m31 m32 m33 m34 : Nat} {lf wg : Nat → Int32} {o od : Nat} {h : xw_A} {a c : Int32} (hX : va_X b 3 xs G.2.2.1 G.2.2.1.heap) (hA : FrA x d tx w st s1 s2 s3 s4 sv v1 v2 v3 v4 qo t tl ts pa na po k1 k2 k3 so ao o1 o2 o3 o4 x0 l0 z0 x1 l1 z1 wf m m0 m1 m2 m3 m4 m5 m6 m7 m8 m9 m10 m11 m12 m13 m14 m15 m16 m17 m18 m19 m20 m21 m22 m23 m24 m25 m26 m27 m28 m29 m30 m31 m32 m33 m34 lf wg o od h) (hx0 : (xs (0 + 1 : Int32).toNatClampNeg) = a) (hx1 : (xs (0 + 2 : Int32).toNatClampNeg) = c) (h1 : ¬ a < 1) (h2 : ¬ 9 < a) (hn : c < 0 ∨ 200 < c) (hF : 8 ≤ F) (hL : 135 ≤ L) (hbc : 1 ≤ bc) (hbs : 6 ≤ bs) :
    xw G m_Law_law F L bc bs (fun v _ => v = some (.int 1)) (fun _ _ => False) 591 [some (.ref b), some (.ref x), some (.ref m), some (.ref o), some (.ref od), some (.int 0), none, none, none] [] h := by
  obtain ⟨KC, KM, eo, eod, hD, hoC, hoM, hw0, hw1, hlf, hg0, hg1⟩ := hA
  refine s_Law_law_591 hX (by unfold vp_in; decide) (by unfold vp_in; decide) ?_
  rw [hx0]
  rw [hx1]
  have sC : ∀ a ∈ [x], a ∈ CLs x d tx w st s1 s2 s3 s4 sv v1 v2 v3 v4 qo t tl ts pa na po k1 k2 k3 so ao o1 o2 o3 o4 x0 l0 z0 x1 l1 z1 := (List.forall_mem_cons.mpr ⟨List.mem_of_getElem? (i := 0) rfl, (fun _ h => nomatch h)⟩)
  refine x_callSH (As := [.ref x, .int a, .int c]) (rest := []) (F1 := 7) (L1 := 112) (mc := 1) (ms := 6) d_Law_law_604 cH_Law_123 (hl_ways_no (KC.at 0 rfl rfl) (Or.inr (Or.inr hn)) (by omega) (by omega)) ⟨by omega, by show 8 + (4 + 11) + 112 ≤ _; omega⟩ ⟨by omega, by omega⟩ (Nat.le_of_ble_eq_true rfl) (fun v_6 h_5 p_7 => ?_)
  obtain ⟨rfl, fr_1⟩ := p_7
  have KM1 := KM.fr fr_1 (fun a ha hb => hD a ha (sC a hb))
  have e_m : h_5 m = some (.inr (11, mfs m0 m1 m2 m3 m4 m5 m6 m7 m8 m9 m10 m11 m12 m13 m14 m15 m16 m17 m18 m19 m20 m21 m22 m23 m24 m25 m26 m27 m28 m29 m30 m31 m32 m33 m34)) := KM1.at 0 rfl rfl
  refine s_Law_law_607 hX (by unfold vp_in; decide) (by unfold vp_in; decide) ?_
  rw [hx0]
  rw [hx1]
  refine x_callV (As := [.int a, .int c]) (b := m) (rest := []) (F1 := 2) (L1 := 42) (mc := 0) (ms := 0) d_Law_law_622 cV_Law_126 (fm_ways_no2 (by rfl) e_m (by rfl) (by rfl) (by rfl) h1 h2 hn (by omega) (by omega)) e_m ⟨by decide, rfl⟩ ⟨by omega, by show 8 + (3 + 11) + 42 ≤ _; omega⟩ ⟨by omega, by omega⟩ (Nat.le_of_ble_eq_true rfl) (fun v_14 h_13 p_15 => ?_)
  obtain ⟨rfl, ⟨fs_8, l_9, e_10, g_11⟩, fr_12⟩ := p_15
  refine s_Law_law_625 ?_
  refine x_callV (As := []) (b := m) (rest := []) (F1 := 1) (L1 := 20) (mc := 0) (ms := 0) d_Law_law_626 cV_Law_84 (f_thrown l_9 e_10 g_11 (by omega) (by omega)) e_10 ⟨by decide, rfl⟩ ⟨by omega, by show 8 + (1 + 11) + 20 ≤ _; omega⟩ ⟨by omega, by omega⟩ (Nat.le_of_ble_eq_true rfl) (fun v_17 h_16 p_18 => ?_)
  obtain ⟨rfl, rfl⟩ := p_18
  refine s_Law_law_629 (fun z_19 => ?_) (fun z => absurd z (by decide))
  refine s_Law_law_636 ?_
  exact law_tail hX
set_option maxHeartbeats 2000000 in
theorem lc_ways_yes {G : xw_G} {F L bc bs b : Nat} {xs : Nat → Int32} {x d tx w st s1 s2 s3 s4 sv v1 v2 v3 v4 qo t tl ts pa na po k1 k2 k3 so ao o1 o2 o3 o4 x0 l0 z0 x1 l1 z1 : Nat} {wf : Nat → Int32} {m m0 m1 m2 m3 m4 m5 m6 m7 m8 m9 m10 m11 m12 m13 m14 m15 m16 m17 m18 m19 m20 m21 m22 m23 m24 m25 m26 m27 m28 m29 m30 m31 m32 m33 m34 : Nat} {lf wg : Nat → Int32} {o od : Nat} {h : xw_A} {a c : Int32} (hX : va_X b 3 xs G.2.2.1 G.2.2.1.heap) (hA : FrA x d tx w st s1 s2 s3 s4 sv v1 v2 v3 v4 qo t tl ts pa na po k1 k2 k3 so ao o1 o2 o3 o4 x0 l0 z0 x1 l1 z1 wf m m0 m1 m2 m3 m4 m5 m6 m7 m8 m9 m10 m11 m12 m13 m14 m15 m16 m17 m18 m19 m20 m21 m22 m23 m24 m25 m26 m27 m28 m29 m30 m31 m32 m33 m34 lf wg o od h) (hx0 : (xs (0 + 1 : Int32).toNatClampNeg) = a) (hx1 : (xs (0 + 2 : Int32).toNatClampNeg) = c) (h1 : ¬ a < 1) (h2 : ¬ 9 < a) (h3 : ¬ c < 0) (h4 : ¬ 200 < c) (hF : 3 ≤ F) (hL : 65 ≤ L) (hbc : 0 ≤ bc) (hbs : 0 ≤ bs) :
    xw G m_Law_law F L bc bs (fun v _ => v = some (.int 1)) (fun _ _ => False) 591 [some (.ref b), some (.ref x), some (.ref m), some (.ref o), some (.ref od), some (.int 0), none, none, none] [] h := by
  obtain ⟨KC, KM, eo, eod, hD, hoC, hoM, hw0, hw1, hlf, hg0, hg1⟩ := hA
  refine s_Law_law_591 hX (by unfold vp_in; decide) (by unfold vp_in; decide) ?_
  rw [hx0]
  rw [hx1]
  have sC : ∀ a ∈ [x], a ∈ CLs x d tx w st s1 s2 s3 s4 sv v1 v2 v3 v4 qo t tl ts pa na po k1 k2 k3 so ao o1 o2 o3 o4 x0 l0 z0 x1 l1 z1 := (List.forall_mem_cons.mpr ⟨List.mem_of_getElem? (i := 0) rfl, (fun _ h => nomatch h)⟩)
  refine x_callSH (As := [.ref x, .int a, .int c]) (rest := []) (F1 := 2) (L1 := 42) (mc := 0) (ms := 0) d_Law_law_604 cH_Law_123 (hl_ways_yes (KC.at 0 rfl rfl) h1 h2 h3 h4 (by omega) (by omega)) ⟨by omega, by show 8 + (4 + 11) + 42 ≤ _; omega⟩ ⟨by omega, by omega⟩ (Nat.le_of_ble_eq_true rfl) (fun v_6 h_5 p_7 => ?_)
  obtain ⟨rfl, fr_1⟩ := p_7
  have KM1 := KM.fr fr_1 (fun a ha hb => hD a ha (sC a hb))
  have e_m : h_5 m = some (.inr (11, mfs m0 m1 m2 m3 m4 m5 m6 m7 m8 m9 m10 m11 m12 m13 m14 m15 m16 m17 m18 m19 m20 m21 m22 m23 m24 m25 m26 m27 m28 m29 m30 m31 m32 m33 m34)) := KM1.at 0 rfl rfl
  refine s_Law_law_607 hX (by unfold vp_in; decide) (by unfold vp_in; decide) ?_
  rw [hx0]
  rw [hx1]
  refine x_callV (As := [.int a, .int c]) (b := m) (rest := []) (F1 := 2) (L1 := 42) (mc := 0) (ms := 0) d_Law_law_622 cV_Law_126 (fm_ways_yes (by rfl) e_m (by rfl) (by rfl) (by rfl) h1 h2 h3 h4 (by omega) (by omega)) e_m ⟨by decide, rfl⟩ ⟨by omega, by show 8 + (3 + 11) + 42 ≤ _; omega⟩ ⟨by omega, by omega⟩ (Nat.le_of_ble_eq_true rfl) (fun v_14 h_13 p_15 => ?_)
  obtain ⟨rfl, ⟨fs_8, l_9, e_10, g_11⟩, fr_12⟩ := p_15
  refine s_Law_law_625 ?_
  refine x_callV (As := []) (b := m) (rest := []) (F1 := 1) (L1 := 20) (mc := 0) (ms := 0) d_Law_law_626 cV_Law_84 (f_thrown l_9 e_10 g_11 (by omega) (by omega)) e_10 ⟨by decide, rfl⟩ ⟨by omega, by show 8 + (1 + 11) + 20 ≤ _; omega⟩ ⟨by omega, by omega⟩ (Nat.le_of_ble_eq_true rfl) (fun v_17 h_16 p_18 => ?_)
  obtain ⟨rfl, rfl⟩ := p_18
  refine s_Law_law_629 (fun z_19 => ?_) (fun z => absurd z (by decide))
  refine s_Law_law_636 ?_
  exact law_tail hX
set_option maxHeartbeats 2000000 in
theorem lc_weight_no1 {G : xw_G} {F L bc bs b : Nat} {xs : Nat → Int32} {x d tx w st s1 s2 s3 s4 sv v1 v2 v3 v4 qo t tl ts pa na po k1 k2 k3 so ao o1 o2 o3 o4 x0 l0 z0 x1 l1 z1 : Nat} {wf : Nat → Int32} {m m0 m1 m2 m3 m4 m5 m6 m7 m8 m9 m10 m11 m12 m13 m14 m15 m16 m17 m18 m19 m20 m21 m22 m23 m24 m25 m26 m27 m28 m29 m30 m31 m32 m33 m34 : Nat} {lf wg : Nat → Int32} {o od : Nat} {h : xw_A} {a c : Int32} (hX : va_X b 3 xs G.2.2.1 G.2.2.1.heap) (hA : FrA x d tx w st s1 s2 s3 s4 sv v1 v2 v3 v4 qo t tl ts pa na po k1 k2 k3 so ao o1 o2 o3 o4 x0 l0 z0 x1 l1 z1 wf m m0 m1 m2 m3 m4 m5 m6 m7 m8 m9 m10 m11 m12 m13 m14 m15 m16 m17 m18 m19 m20 m21 m22 m23 m24 m25 m26 m27 m28 m29 m30 m31 m32 m33 m34 lf wg o od h) (hx0 : (xs (0 + 1 : Int32).toNatClampNeg) = a) (hx1 : (xs (0 + 2 : Int32).toNatClampNeg) = c) (hn : a < 0 ∨ 1 < a) (hF : 8 ≤ F) (hL : 137 ≤ L) (hbc : 1 ≤ bc) (hbs : 6 ≤ bs) :
    xw G m_Law_law F L bc bs (fun v _ => v = some (.int 1)) (fun _ _ => False) 639 [some (.ref b), some (.ref x), some (.ref m), some (.ref o), some (.ref od), some (.int 0), none, none, none] [] h := by
  obtain ⟨KC, KM, eo, eod, hD, hoC, hoM, hw0, hw1, hlf, hg0, hg1⟩ := hA
  refine s_Law_law_639 hX (by unfold vp_in; decide) (by unfold vp_in; decide) ?_
  rw [hx0]
  rw [hx1]
  have sC : ∀ a ∈ [x], a ∈ CLs x d tx w st s1 s2 s3 s4 sv v1 v2 v3 v4 qo t tl ts pa na po k1 k2 k3 so ao o1 o2 o3 o4 x0 l0 z0 x1 l1 z1 := (List.forall_mem_cons.mpr ⟨List.mem_of_getElem? (i := 0) rfl, (fun _ h => nomatch h)⟩)
  refine x_callSH (As := [.ref x, .int a, .int c, .ref o]) (rest := []) (F1 := 7) (L1 := 113) (mc := 1) (ms := 6) d_Law_law_653 cH_Law_127 (hl_weight_no1 (KC.at 0 rfl rfl) hn (by omega) (by omega)) ⟨by omega, by show 8 + (5 + 11) + 113 ≤ _; omega⟩ ⟨by omega, by omega⟩ (Nat.le_of_ble_eq_true rfl) (fun v_6 h_5 p_7 => ?_)
  obtain ⟨rfl, fr_1⟩ := p_7
  have KM1 := KM.fr fr_1 (fun a ha hb => hD a ha (sC a hb))
  have e_m : h_5 m = some (.inr (11, mfs m0 m1 m2 m3 m4 m5 m6 m7 m8 m9 m10 m11 m12 m13 m14 m15 m16 m17 m18 m19 m20 m21 m22 m23 m24 m25 m26 m27 m28 m29 m30 m31 m32 m33 m34)) := KM1.at 0 rfl rfl
  refine s_Law_law_656 hX (by unfold vp_in; decide) (by unfold vp_in; decide) ?_
  rw [hx0]
  rw [hx1]
  refine x_callV (As := [.int a, .int c]) (b := m) (rest := []) (F1 := 2) (L1 := 42) (mc := 0) (ms := 0) d_Law_law_671 cV_Law_130 (fm_weight_no1 (by rfl) e_m (by rfl) hn (by omega) (by omega)) e_m ⟨by decide, rfl⟩ ⟨by omega, by show 8 + (4 + 11) + 42 ≤ _; omega⟩ ⟨by omega, by omega⟩ (Nat.le_of_ble_eq_true rfl) (fun v_14 h_13 p_15 => ?_)
  obtain ⟨rfl, ⟨fs_8, l_9, e_10, g_11⟩, fr_12⟩ := p_15
  refine s_Law_law_674 ?_
  refine x_callV (As := []) (b := m) (rest := []) (F1 := 1) (L1 := 20) (mc := 0) (ms := 0) d_Law_law_677 cV_Law_84 (f_thrown l_9 e_10 g_11 (by omega) (by omega)) e_10 ⟨by decide, rfl⟩ ⟨by omega, by show 8 + (1 + 11) + 20 ≤ _; omega⟩ ⟨by omega, by omega⟩ (Nat.le_of_ble_eq_true rfl) (fun v_17 h_16 p_18 => ?_)
  obtain ⟨rfl, rfl⟩ := p_18
  refine s_Law_law_680 (fun z_19 => ?_) (fun z => absurd z (by decide))
  refine s_Law_law_687 (fun z_20 => ?_) (fun z => absurd z (by decide))
  refine s_Law_law_704 ?_
  exact law_tail hX
set_option maxHeartbeats 2000000 in
theorem lc_weight_no2_0 {G : xw_G} {F L bc bs b : Nat} {xs : Nat → Int32} {x d tx w st s1 s2 s3 s4 sv v1 v2 v3 v4 qo t tl ts pa na po k1 k2 k3 so ao o1 o2 o3 o4 x0 l0 z0 x1 l1 z1 : Nat} {wf : Nat → Int32} {m m0 m1 m2 m3 m4 m5 m6 m7 m8 m9 m10 m11 m12 m13 m14 m15 m16 m17 m18 m19 m20 m21 m22 m23 m24 m25 m26 m27 m28 m29 m30 m31 m32 m33 m34 : Nat} {lf wg : Nat → Int32} {o od : Nat} {h : xw_A} {c : Int32} (hX : va_X b 3 xs G.2.2.1 G.2.2.1.heap) (hA : FrA x d tx w st s1 s2 s3 s4 sv v1 v2 v3 v4 qo t tl ts pa na po k1 k2 k3 so ao o1 o2 o3 o4 x0 l0 z0 x1 l1 z1 wf m m0 m1 m2 m3 m4 m5 m6 m7 m8 m9 m10 m11 m12 m13 m14 m15 m16 m17 m18 m19 m20 m21 m22 m23 m24 m25 m26 m27 m28 m29 m30 m31 m32 m33 m34 lf wg o od h) (hx0 : (xs (0 + 1 : Int32).toNatClampNeg) = 0) (hx1 : (xs (0 + 2 : Int32).toNatClampNeg) = c) (hn : c < 0 ∨ 9 < c) (hF : 8 ≤ F) (hL : 137 ≤ L) (hbc : 1 ≤ bc) (hbs : 6 ≤ bs) :
    xw G m_Law_law F L bc bs (fun v _ => v = some (.int 1)) (fun _ _ => False) 639 [some (.ref b), some (.ref x), some (.ref m), some (.ref o), some (.ref od), some (.int 0), none, none, none] [] h := by
  obtain ⟨KC, KM, eo, eod, hD, hoC, hoM, hw0, hw1, hlf, hg0, hg1⟩ := hA
  refine s_Law_law_639 hX (by unfold vp_in; decide) (by unfold vp_in; decide) ?_
  rw [hx0]
  rw [hx1]
  have sC : ∀ a ∈ [x], a ∈ CLs x d tx w st s1 s2 s3 s4 sv v1 v2 v3 v4 qo t tl ts pa na po k1 k2 k3 so ao o1 o2 o3 o4 x0 l0 z0 x1 l1 z1 := (List.forall_mem_cons.mpr ⟨List.mem_of_getElem? (i := 0) rfl, (fun _ h => nomatch h)⟩)
  refine x_callSH (As := [.ref x, .int 0, .int c, .ref o]) (rest := []) (F1 := 7) (L1 := 113) (mc := 1) (ms := 6) d_Law_law_653 cH_Law_127 (hl_weight_no2_0 (KC.at 0 rfl rfl) hn (by omega) (by omega)) ⟨by omega, by show 8 + (5 + 11) + 113 ≤ _; omega⟩ ⟨by omega, by omega⟩ (Nat.le_of_ble_eq_true rfl) (fun v_6 h_5 p_7 => ?_)
  obtain ⟨rfl, fr_1⟩ := p_7
  have KM1 := KM.fr fr_1 (fun a ha hb => hD a ha (sC a hb))
  have e_m : h_5 m = some (.inr (11, mfs m0 m1 m2 m3 m4 m5 m6 m7 m8 m9 m10 m11 m12 m13 m14 m15 m16 m17 m18 m19 m20 m21 m22 m23 m24 m25 m26 m27 m28 m29 m30 m31 m32 m33 m34)) := KM1.at 0 rfl rfl
  refine s_Law_law_656 hX (by unfold vp_in; decide) (by unfold vp_in; decide) ?_
  rw [hx0]
  rw [hx1]
  refine x_callV (As := [.int 0, .int c]) (b := m) (rest := []) (F1 := 2) (L1 := 42) (mc := 0) (ms := 0) d_Law_law_671 cV_Law_130 (fm_weight_no2 (by rfl) e_m (by rfl) (by decide) (by decide) hn (by omega) (by omega)) e_m ⟨by decide, rfl⟩ ⟨by omega, by show 8 + (4 + 11) + 42 ≤ _; omega⟩ ⟨by omega, by omega⟩ (Nat.le_of_ble_eq_true rfl) (fun v_14 h_13 p_15 => ?_)
  obtain ⟨rfl, ⟨fs_8, l_9, e_10, g_11⟩, fr_12⟩ := p_15
  refine s_Law_law_674 ?_
  refine x_callV (As := []) (b := m) (rest := []) (F1 := 1) (L1 := 20) (mc := 0) (ms := 0) d_Law_law_677 cV_Law_84 (f_thrown l_9 e_10 g_11 (by omega) (by omega)) e_10 ⟨by decide, rfl⟩ ⟨by omega, by show 8 + (1 + 11) + 20 ≤ _; omega⟩ ⟨by omega, by omega⟩ (Nat.le_of_ble_eq_true rfl) (fun v_17 h_16 p_18 => ?_)
  obtain ⟨rfl, rfl⟩ := p_18
  refine s_Law_law_680 (fun z_19 => ?_) (fun z => absurd z (by decide))
  refine s_Law_law_687 (fun z_20 => ?_) (fun z => absurd z (by decide))
  refine s_Law_law_704 ?_
  exact law_tail hX
set_option maxHeartbeats 2000000 in
theorem lc_weight_0 {G : xw_G} {F L bc bs b : Nat} {xs : Nat → Int32} {x d tx w st s1 s2 s3 s4 sv v1 v2 v3 v4 qo t tl ts pa na po k1 k2 k3 so ao o1 o2 o3 o4 x0 l0 z0 x1 l1 z1 : Nat} {wf : Nat → Int32} {m m0 m1 m2 m3 m4 m5 m6 m7 m8 m9 m10 m11 m12 m13 m14 m15 m16 m17 m18 m19 m20 m21 m22 m23 m24 m25 m26 m27 m28 m29 m30 m31 m32 m33 m34 : Nat} {lf wg : Nat → Int32} {o od : Nat} {h : xw_A} {c : Int32} (hX : va_X b 3 xs G.2.2.1 G.2.2.1.heap) (hA : FrA x d tx w st s1 s2 s3 s4 sv v1 v2 v3 v4 qo t tl ts pa na po k1 k2 k3 so ao o1 o2 o3 o4 x0 l0 z0 x1 l1 z1 wf m m0 m1 m2 m3 m4 m5 m6 m7 m8 m9 m10 m11 m12 m13 m14 m15 m16 m17 m18 m19 m20 m21 m22 m23 m24 m25 m26 m27 m28 m29 m30 m31 m32 m33 m34 lf wg o od h) (hx0 : (xs (0 + 1 : Int32).toNatClampNeg) = 0) (hx1 : (xs (0 + 2 : Int32).toNatClampNeg) = c) (h3 : ¬ c < 0) (h4 : ¬ 9 < c) (hF : 4 ≤ F) (hL : 87 ≤ L) (hbc : 0 ≤ bc) (hbs : 0 ≤ bs) :
    xw G m_Law_law F L bc bs (fun v _ => v = some (.int 1)) (fun _ _ => False) 639 [some (.ref b), some (.ref x), some (.ref m), some (.ref o), some (.ref od), some (.int 0), none, none, none] [] h := by
  obtain ⟨KC, KM, eo, eod, hD, hoC, hoM, hw0, hw1, hlf, hg0, hg1⟩ := hA
  refine s_Law_law_639 hX (by unfold vp_in; decide) (by unfold vp_in; decide) ?_
  rw [hx0]
  rw [hx1]
  have sC : ∀ a ∈ [x, w], a ∈ CLs x d tx w st s1 s2 s3 s4 sv v1 v2 v3 v4 qo t tl ts pa na po k1 k2 k3 so ao o1 o2 o3 o4 x0 l0 z0 x1 l1 z1 := (List.forall_mem_cons.mpr ⟨List.mem_of_getElem? (i := 0) rfl, (List.forall_mem_cons.mpr ⟨List.mem_of_getElem? (i := 3) rfl, (fun _ h => nomatch h)⟩)⟩)
  refine x_callSH (As := [.ref x, .int 0, .int c, .ref o]) (rest := []) (F1 := 3) (L1 := 63) (mc := 0) (ms := 0) d_Law_law_653 cH_Law_127 (hl_weight_0 (KC.at 0 rfl rfl) (KC.at 3 rfl rfl) h3 h4 eo (fun z => hoC (sC o z)) (by omega) (by omega)) ⟨by omega, by show 8 + (5 + 11) + 63 ≤ _; omega⟩ ⟨by omega, by omega⟩ (Nat.le_of_ble_eq_true rfl) (fun v_6 h_5 p_7 => ?_)
  obtain ⟨rfl, fr_1, f_2, hf_3, e_4⟩ := p_7
  have KM1 := KM.fr fr_1 (fun a ha hb => (List.mem_cons.mp hb).elim (fun z => hoM (by rw [← z]; exact ha)) (fun z => hD a ha (sC a z)))
  have e_m : h_5 m = some (.inr (11, mfs m0 m1 m2 m3 m4 m5 m6 m7 m8 m9 m10 m11 m12 m13 m14 m15 m16 m17 m18 m19 m20 m21 m22 m23 m24 m25 m26 m27 m28 m29 m30 m31 m32 m33 m34)) := KM1.at 0 rfl rfl
  refine s_Law_law_656 hX (by unfold vp_in; decide) (by unfold vp_in; decide) ?_
  rw [hx0]
  rw [hx1]
  refine x_callV (As := [.int 0, .int c]) (b := m) (rest := []) (F1 := 2) (L1 := 42) (mc := 0) (ms := 0) d_Law_law_671 cV_Law_130 (fm_weight_0 (by rfl) e_m (by rfl) (by rfl) (KM1.at 7 rfl rfl) h3 h4 (by omega) (by omega)) e_m ⟨by decide, rfl⟩ ⟨by omega, by show 8 + (4 + 11) + 42 ≤ _; omega⟩ ⟨by omega, by omega⟩ (Nat.le_of_ble_eq_true rfl) (fun v_14 h_13 p_15 => ?_)
  obtain ⟨rfl, ⟨fs_8, l_9, e_10, g_11⟩, fr_12⟩ := p_15
  have sA : ∀ a ∈ [m, m6], a ∈ MLs m m0 m1 m2 m3 m4 m5 m6 m7 m8 m9 m10 m11 m12 m13 m14 m15 m16 m17 m18 m19 m20 m21 m22 m23 m24 m25 m26 m27 m28 m29 m30 m31 m32 m33 m34 := (List.forall_mem_cons.mpr ⟨List.mem_of_getElem? (i := 0) rfl, (List.forall_mem_cons.mpr ⟨List.mem_of_getElem? (i := 7) rfl, (fun _ h => nomatch h)⟩)⟩)
  have e_16 := fr_12 o _ (fun z => hoM (sA o z)) e_4
  refine s_Law_law_674 ?_
  refine x_callV (As := []) (b := m) (rest := []) (F1 := 1) (L1 := 20) (mc := 0) (ms := 0) d_Law_law_677 cV_Law_84 (f_thrown l_9 e_10 g_11 (by omega) (by omega)) e_10 ⟨by decide, rfl⟩ ⟨by omega, by show 8 + (1 + 11) + 20 ≤ _; omega⟩ ⟨by omega, by omega⟩ (Nat.le_of_ble_eq_true rfl) (fun v_18 h_17 p_19 => ?_)
  obtain ⟨rfl, rfl⟩ := p_19
  refine s_Law_law_680 (fun z_20 => ?_) (fun z => absurd z (by decide))
  refine s_Law_law_687 (fun z => absurd z (by decide)) (fun z_21 => ?_)
  refine s_Law_law_692 e_16 (by unfold vp_in; decide) (fun z_22 => ?_) (fun z => absurd (lgc (hf_3.trans (by rw [hw0, hg0]))) z)
  refine s_Law_law_704 ?_
  exact law_tail hX
set_option maxHeartbeats 2000000 in
theorem lc_weight_no2_1 {G : xw_G} {F L bc bs b : Nat} {xs : Nat → Int32} {x d tx w st s1 s2 s3 s4 sv v1 v2 v3 v4 qo t tl ts pa na po k1 k2 k3 so ao o1 o2 o3 o4 x0 l0 z0 x1 l1 z1 : Nat} {wf : Nat → Int32} {m m0 m1 m2 m3 m4 m5 m6 m7 m8 m9 m10 m11 m12 m13 m14 m15 m16 m17 m18 m19 m20 m21 m22 m23 m24 m25 m26 m27 m28 m29 m30 m31 m32 m33 m34 : Nat} {lf wg : Nat → Int32} {o od : Nat} {h : xw_A} {c : Int32} (hX : va_X b 3 xs G.2.2.1 G.2.2.1.heap) (hA : FrA x d tx w st s1 s2 s3 s4 sv v1 v2 v3 v4 qo t tl ts pa na po k1 k2 k3 so ao o1 o2 o3 o4 x0 l0 z0 x1 l1 z1 wf m m0 m1 m2 m3 m4 m5 m6 m7 m8 m9 m10 m11 m12 m13 m14 m15 m16 m17 m18 m19 m20 m21 m22 m23 m24 m25 m26 m27 m28 m29 m30 m31 m32 m33 m34 lf wg o od h) (hx0 : (xs (0 + 1 : Int32).toNatClampNeg) = 1) (hx1 : (xs (0 + 2 : Int32).toNatClampNeg) = c) (hn : c < 0 ∨ 9 < c) (hF : 8 ≤ F) (hL : 137 ≤ L) (hbc : 1 ≤ bc) (hbs : 6 ≤ bs) :
    xw G m_Law_law F L bc bs (fun v _ => v = some (.int 1)) (fun _ _ => False) 639 [some (.ref b), some (.ref x), some (.ref m), some (.ref o), some (.ref od), some (.int 0), none, none, none] [] h := by
  obtain ⟨KC, KM, eo, eod, hD, hoC, hoM, hw0, hw1, hlf, hg0, hg1⟩ := hA
  refine s_Law_law_639 hX (by unfold vp_in; decide) (by unfold vp_in; decide) ?_
  rw [hx0]
  rw [hx1]
  have sC : ∀ a ∈ [x], a ∈ CLs x d tx w st s1 s2 s3 s4 sv v1 v2 v3 v4 qo t tl ts pa na po k1 k2 k3 so ao o1 o2 o3 o4 x0 l0 z0 x1 l1 z1 := (List.forall_mem_cons.mpr ⟨List.mem_of_getElem? (i := 0) rfl, (fun _ h => nomatch h)⟩)
  refine x_callSH (As := [.ref x, .int 1, .int c, .ref o]) (rest := []) (F1 := 7) (L1 := 113) (mc := 1) (ms := 6) d_Law_law_653 cH_Law_127 (hl_weight_no2_1 (KC.at 0 rfl rfl) hn (by omega) (by omega)) ⟨by omega, by show 8 + (5 + 11) + 113 ≤ _; omega⟩ ⟨by omega, by omega⟩ (Nat.le_of_ble_eq_true rfl) (fun v_6 h_5 p_7 => ?_)
  obtain ⟨rfl, fr_1⟩ := p_7
  have KM1 := KM.fr fr_1 (fun a ha hb => hD a ha (sC a hb))
  have e_m : h_5 m = some (.inr (11, mfs m0 m1 m2 m3 m4 m5 m6 m7 m8 m9 m10 m11 m12 m13 m14 m15 m16 m17 m18 m19 m20 m21 m22 m23 m24 m25 m26 m27 m28 m29 m30 m31 m32 m33 m34)) := KM1.at 0 rfl rfl
  refine s_Law_law_656 hX (by unfold vp_in; decide) (by unfold vp_in; decide) ?_
  rw [hx0]
  rw [hx1]
  refine x_callV (As := [.int 1, .int c]) (b := m) (rest := []) (F1 := 2) (L1 := 42) (mc := 0) (ms := 0) d_Law_law_671 cV_Law_130 (fm_weight_no2 (by rfl) e_m (by rfl) (by decide) (by decide) hn (by omega) (by omega)) e_m ⟨by decide, rfl⟩ ⟨by omega, by show 8 + (4 + 11) + 42 ≤ _; omega⟩ ⟨by omega, by omega⟩ (Nat.le_of_ble_eq_true rfl) (fun v_14 h_13 p_15 => ?_)
  obtain ⟨rfl, ⟨fs_8, l_9, e_10, g_11⟩, fr_12⟩ := p_15
  refine s_Law_law_674 ?_
  refine x_callV (As := []) (b := m) (rest := []) (F1 := 1) (L1 := 20) (mc := 0) (ms := 0) d_Law_law_677 cV_Law_84 (f_thrown l_9 e_10 g_11 (by omega) (by omega)) e_10 ⟨by decide, rfl⟩ ⟨by omega, by show 8 + (1 + 11) + 20 ≤ _; omega⟩ ⟨by omega, by omega⟩ (Nat.le_of_ble_eq_true rfl) (fun v_17 h_16 p_18 => ?_)
  obtain ⟨rfl, rfl⟩ := p_18
  refine s_Law_law_680 (fun z_19 => ?_) (fun z => absurd z (by decide))
  refine s_Law_law_687 (fun z_20 => ?_) (fun z => absurd z (by decide))
  refine s_Law_law_704 ?_
  exact law_tail hX
set_option maxHeartbeats 2000000 in
theorem lc_weight_1 {G : xw_G} {F L bc bs b : Nat} {xs : Nat → Int32} {x d tx w st s1 s2 s3 s4 sv v1 v2 v3 v4 qo t tl ts pa na po k1 k2 k3 so ao o1 o2 o3 o4 x0 l0 z0 x1 l1 z1 : Nat} {wf : Nat → Int32} {m m0 m1 m2 m3 m4 m5 m6 m7 m8 m9 m10 m11 m12 m13 m14 m15 m16 m17 m18 m19 m20 m21 m22 m23 m24 m25 m26 m27 m28 m29 m30 m31 m32 m33 m34 : Nat} {lf wg : Nat → Int32} {o od : Nat} {h : xw_A} {c : Int32} (hX : va_X b 3 xs G.2.2.1 G.2.2.1.heap) (hA : FrA x d tx w st s1 s2 s3 s4 sv v1 v2 v3 v4 qo t tl ts pa na po k1 k2 k3 so ao o1 o2 o3 o4 x0 l0 z0 x1 l1 z1 wf m m0 m1 m2 m3 m4 m5 m6 m7 m8 m9 m10 m11 m12 m13 m14 m15 m16 m17 m18 m19 m20 m21 m22 m23 m24 m25 m26 m27 m28 m29 m30 m31 m32 m33 m34 lf wg o od h) (hx0 : (xs (0 + 1 : Int32).toNatClampNeg) = 1) (hx1 : (xs (0 + 2 : Int32).toNatClampNeg) = c) (h3 : ¬ c < 0) (h4 : ¬ 9 < c) (hF : 4 ≤ F) (hL : 87 ≤ L) (hbc : 0 ≤ bc) (hbs : 0 ≤ bs) :
    xw G m_Law_law F L bc bs (fun v _ => v = some (.int 1)) (fun _ _ => False) 639 [some (.ref b), some (.ref x), some (.ref m), some (.ref o), some (.ref od), some (.int 0), none, none, none] [] h := by
  obtain ⟨KC, KM, eo, eod, hD, hoC, hoM, hw0, hw1, hlf, hg0, hg1⟩ := hA
  refine s_Law_law_639 hX (by unfold vp_in; decide) (by unfold vp_in; decide) ?_
  rw [hx0]
  rw [hx1]
  have sC : ∀ a ∈ [x, w], a ∈ CLs x d tx w st s1 s2 s3 s4 sv v1 v2 v3 v4 qo t tl ts pa na po k1 k2 k3 so ao o1 o2 o3 o4 x0 l0 z0 x1 l1 z1 := (List.forall_mem_cons.mpr ⟨List.mem_of_getElem? (i := 0) rfl, (List.forall_mem_cons.mpr ⟨List.mem_of_getElem? (i := 3) rfl, (fun _ h => nomatch h)⟩)⟩)
  refine x_callSH (As := [.ref x, .int 1, .int c, .ref o]) (rest := []) (F1 := 3) (L1 := 63) (mc := 0) (ms := 0) d_Law_law_653 cH_Law_127 (hl_weight_1 (KC.at 0 rfl rfl) (KC.at 3 rfl rfl) h3 h4 eo (fun z => hoC (sC o z)) (by omega) (by omega)) ⟨by omega, by show 8 + (5 + 11) + 63 ≤ _; omega⟩ ⟨by omega, by omega⟩ (Nat.le_of_ble_eq_true rfl) (fun v_6 h_5 p_7 => ?_)
  obtain ⟨rfl, fr_1, f_2, hf_3, e_4⟩ := p_7
  have KM1 := KM.fr fr_1 (fun a ha hb => (List.mem_cons.mp hb).elim (fun z => hoM (by rw [← z]; exact ha)) (fun z => hD a ha (sC a z)))
  have e_m : h_5 m = some (.inr (11, mfs m0 m1 m2 m3 m4 m5 m6 m7 m8 m9 m10 m11 m12 m13 m14 m15 m16 m17 m18 m19 m20 m21 m22 m23 m24 m25 m26 m27 m28 m29 m30 m31 m32 m33 m34)) := KM1.at 0 rfl rfl
  refine s_Law_law_656 hX (by unfold vp_in; decide) (by unfold vp_in; decide) ?_
  rw [hx0]
  rw [hx1]
  refine x_callV (As := [.int 1, .int c]) (b := m) (rest := []) (F1 := 2) (L1 := 42) (mc := 0) (ms := 0) d_Law_law_671 cV_Law_130 (fm_weight_1 (by rfl) e_m (by rfl) (by rfl) (KM1.at 7 rfl rfl) h3 h4 (by omega) (by omega)) e_m ⟨by decide, rfl⟩ ⟨by omega, by show 8 + (4 + 11) + 42 ≤ _; omega⟩ ⟨by omega, by omega⟩ (Nat.le_of_ble_eq_true rfl) (fun v_14 h_13 p_15 => ?_)
  obtain ⟨rfl, ⟨fs_8, l_9, e_10, g_11⟩, fr_12⟩ := p_15
  have sA : ∀ a ∈ [m, m6], a ∈ MLs m m0 m1 m2 m3 m4 m5 m6 m7 m8 m9 m10 m11 m12 m13 m14 m15 m16 m17 m18 m19 m20 m21 m22 m23 m24 m25 m26 m27 m28 m29 m30 m31 m32 m33 m34 := (List.forall_mem_cons.mpr ⟨List.mem_of_getElem? (i := 0) rfl, (List.forall_mem_cons.mpr ⟨List.mem_of_getElem? (i := 7) rfl, (fun _ h => nomatch h)⟩)⟩)
  have e_16 := fr_12 o _ (fun z => hoM (sA o z)) e_4
  refine s_Law_law_674 ?_
  refine x_callV (As := []) (b := m) (rest := []) (F1 := 1) (L1 := 20) (mc := 0) (ms := 0) d_Law_law_677 cV_Law_84 (f_thrown l_9 e_10 g_11 (by omega) (by omega)) e_10 ⟨by decide, rfl⟩ ⟨by omega, by show 8 + (1 + 11) + 20 ≤ _; omega⟩ ⟨by omega, by omega⟩ (Nat.le_of_ble_eq_true rfl) (fun v_18 h_17 p_19 => ?_)
  obtain ⟨rfl, rfl⟩ := p_19
  refine s_Law_law_680 (fun z_20 => ?_) (fun z => absurd z (by decide))
  refine s_Law_law_687 (fun z => absurd z (by decide)) (fun z_21 => ?_)
  refine s_Law_law_692 e_16 (by unfold vp_in; decide) (fun z_22 => ?_) (fun z => absurd (lgc (hf_3.trans (by rw [hw1, hg1]))) z)
  refine s_Law_law_704 ?_
  exact law_tail hX
set_option maxHeartbeats 2000000 in
theorem lc_ask {G : xw_G} {F L bc bs b : Nat} {xs : Nat → Int32} {x d tx w st s1 s2 s3 s4 sv v1 v2 v3 v4 qo t tl ts pa na po k1 k2 k3 so ao o1 o2 o3 o4 x0 l0 z0 x1 l1 z1 : Nat} {wf : Nat → Int32} {m m0 m1 m2 m3 m4 m5 m6 m7 m8 m9 m10 m11 m12 m13 m14 m15 m16 m17 m18 m19 m20 m21 m22 m23 m24 m25 m26 m27 m28 m29 m30 m31 m32 m33 m34 : Nat} {lf wg : Nat → Int32} {o od : Nat} {h : xw_A}  (hX : va_X b 3 xs G.2.2.1 G.2.2.1.heap) (hA : FrA x d tx w st s1 s2 s3 s4 sv v1 v2 v3 v4 qo t tl ts pa na po k1 k2 k3 so ao o1 o2 o3 o4 x0 l0 z0 x1 l1 z1 wf m m0 m1 m2 m3 m4 m5 m6 m7 m8 m9 m10 m11 m12 m13 m14 m15 m16 m17 m18 m19 m20 m21 m22 m23 m24 m25 m26 m27 m28 m29 m30 m31 m32 m33 m34 lf wg o od h)   (hF : 18 ≤ F) (hL : 411 ≤ L) (hbc : 1 ≤ bc) (hbs : 6 ≤ bs) :
    xw G m_Law_law F L bc bs (fun v _ => v = some (.int 1)) (fun _ _ => False) 707 [some (.ref b), some (.ref x), some (.ref m), some (.ref o), some (.ref od), some (.int 0), none, none, none] [] h := by
  obtain ⟨KC, KM, eo, eod, hD, hoC, hoM, hw0, hw1, hlf, hg0, hg1⟩ := hA
  refine s_Law_law_707 ?_
  have sC : ∀ a ∈ [x, qo, po, k1, k2, k3, t], a ∈ CLs x d tx w st s1 s2 s3 s4 sv v1 v2 v3 v4 qo t tl ts pa na po k1 k2 k3 so ao o1 o2 o3 o4 x0 l0 z0 x1 l1 z1 := (List.forall_mem_cons.mpr ⟨List.mem_of_getElem? (i := 0) rfl, (List.forall_mem_cons.mpr ⟨List.mem_of_getElem? (i := 14) rfl, (List.forall_mem_cons.mpr ⟨List.mem_of_getElem? (i := 16) rfl, (List.forall_mem_cons.mpr ⟨List.mem_of_getElem? (i := 17) rfl, (List.forall_mem_cons.mpr ⟨List.mem_of_getElem? (i := 18) rfl, (List.forall_mem_cons.mpr ⟨List.mem_of_getElem? (i := 19) rfl, (List.forall_mem_cons.mpr ⟨List.mem_of_getElem? (i := 15) rfl, (fun _ h => nomatch h)⟩)⟩)⟩)⟩)⟩)⟩)⟩)
  refine x_callSH (As := [.ref x, .ref o]) (rest := []) (F1 := 17) (L1 := 389) (mc := 1) (ms := 6) d_Law_law_709 cH_Law_131 (hl_ask (KC.at 0 rfl rfl) (KC.at 14 rfl rfl) (KC.at 16 rfl rfl) (KC.at 17 rfl rfl) (KC.at 18 rfl rfl) (KC.at 19 rfl rfl) (KC.at 15 rfl rfl) (KC.ne 17 18 rfl rfl (by decide)) (KC.ne 17 19 rfl rfl (by decide)) (KC.ne 18 19 rfl rfl (by decide)) (by omega) (by omega)) ⟨by omega, by show 8 + (3 + 11) + 389 ≤ _; omega⟩ ⟨by omega, by omega⟩ (Nat.le_of_ble_eq_true rfl) (fun v_6 h_5 p_7 => ?_)
  obtain ⟨rfl, fr_1⟩ := p_7
  have KM1 := KM.fr fr_1 (fun a ha hb => hD a ha (sC a hb))
  have e_m : h_5 m = some (.inr (11, mfs m0 m1 m2 m3 m4 m5 m6 m7 m8 m9 m10 m11 m12 m13 m14 m15 m16 m17 m18 m19 m20 m21 m22 m23 m24 m25 m26 m27 m28 m29 m30 m31 m32 m33 m34)) := KM1.at 0 rfl rfl
  refine s_Law_law_712 ?_
  refine x_callV (As := []) (b := m) (rest := []) (F1 := 4) (L1 := 82) (mc := 0) (ms := 0) d_Law_law_715 cV_Law_133 (fm_ask (by rfl) e_m (by rfl) (by rfl) (by rfl) (by omega) (by omega)) e_m ⟨by decide, rfl⟩ ⟨by omega, by show 8 + (3 + 11) + 82 ≤ _; omega⟩ ⟨by omega, by omega⟩ (Nat.le_of_ble_eq_true rfl) (fun v_14 h_13 p_15 => ?_)
  obtain ⟨rfl, ⟨fs_8, l_9, e_10, g_11⟩, fr_12⟩ := p_15
  refine s_Law_law_718 ?_
  refine x_callV (As := []) (b := m) (rest := []) (F1 := 1) (L1 := 20) (mc := 0) (ms := 0) d_Law_law_721 cV_Law_84 (f_thrown l_9 e_10 g_11 (by omega) (by omega)) e_10 ⟨by decide, rfl⟩ ⟨by omega, by show 8 + (1 + 11) + 20 ≤ _; omega⟩ ⟨by omega, by omega⟩ (Nat.le_of_ble_eq_true rfl) (fun v_17 h_16 p_18 => ?_)
  obtain ⟨rfl, rfl⟩ := p_18
  refine s_Law_law_724 (fun z_19 => ?_) (fun z => absurd z (by decide))
  refine s_Law_law_731 (fun z_20 => ?_) (fun z => absurd z (by decide))
  refine s_Law_law_748 ?_
  exact law_tail hX
set_option maxHeartbeats 2000000 in
theorem lc_answer {G : xw_G} {F L bc bs b : Nat} {xs : Nat → Int32} {x d tx w st s1 s2 s3 s4 sv v1 v2 v3 v4 qo t tl ts pa na po k1 k2 k3 so ao o1 o2 o3 o4 x0 l0 z0 x1 l1 z1 : Nat} {wf : Nat → Int32} {m m0 m1 m2 m3 m4 m5 m6 m7 m8 m9 m10 m11 m12 m13 m14 m15 m16 m17 m18 m19 m20 m21 m22 m23 m24 m25 m26 m27 m28 m29 m30 m31 m32 m33 m34 : Nat} {lf wg : Nat → Int32} {o od : Nat} {h : xw_A} {k : Int32} (hX : va_X b 3 xs G.2.2.1 G.2.2.1.heap) (hA : FrA x d tx w st s1 s2 s3 s4 sv v1 v2 v3 v4 qo t tl ts pa na po k1 k2 k3 so ao o1 o2 o3 o4 x0 l0 z0 x1 l1 z1 wf m m0 m1 m2 m3 m4 m5 m6 m7 m8 m9 m10 m11 m12 m13 m14 m15 m16 m17 m18 m19 m20 m21 m22 m23 m24 m25 m26 m27 m28 m29 m30 m31 m32 m33 m34 lf wg o od h) (hx0 : (xs (0 + 1 : Int32).toNatClampNeg) = k)  (hF : 8 ≤ F) (hL : 136 ≤ L) (hbc : 1 ≤ bc) (hbs : 6 ≤ bs) :
    xw G m_Law_law F L bc bs (fun v _ => v = some (.int 1)) (fun _ _ => False) 764 [some (.ref b), some (.ref x), some (.ref m), some (.ref o), some (.ref od), some (.int 0), none, none, none] [] h := by
  obtain ⟨KC, KM, eo, eod, hD, hoC, hoM, hw0, hw1, hlf, hg0, hg1⟩ := hA
  refine s_Law_law_764 hX (by unfold vp_in; decide) (by unfold vp_in; decide) (fun z_1 => ?_) (fun z_2 => ?_)
  · skip
    refine s_Law_law_784 ?_
    refine s_Law_law_785 ?_
    rw [hx0]
    have sC : ∀ a ∈ [x], a ∈ CLs x d tx w st s1 s2 s3 s4 sv v1 v2 v3 v4 qo t tl ts pa na po k1 k2 k3 so ao o1 o2 o3 o4 x0 l0 z0 x1 l1 z1 := (List.forall_mem_cons.mpr ⟨List.mem_of_getElem? (i := 0) rfl, (fun _ h => nomatch h)⟩)
    refine x_callSH (As := [.ref x, .int k, .int 0, .ref o]) (rest := []) (F1 := 7) (L1 := 112) (mc := 1) (ms := 6) d_Law_law_786 cH_Law_138 (hl_answer (KC.at 0 rfl rfl) (KC.at 20 rfl rfl) (by omega) (by omega)) ⟨by omega, by show 8 + (5 + 11) + 112 ≤ _; omega⟩ ⟨by omega, by omega⟩ (Nat.le_of_ble_eq_true rfl) (fun v_8 h_7 p_9 => ?_)
    obtain ⟨rfl, fr_3⟩ := p_9
    have KM1 := KM.fr fr_3 (fun a ha hb => hD a ha (sC a hb))
    have e_m : h_7 m = some (.inr (11, mfs m0 m1 m2 m3 m4 m5 m6 m7 m8 m9 m10 m11 m12 m13 m14 m15 m16 m17 m18 m19 m20 m21 m22 m23 m24 m25 m26 m27 m28 m29 m30 m31 m32 m33 m34)) := KM1.at 0 rfl rfl
    refine s_Law_law_789 hX (by unfold vp_in; decide) (by unfold vp_in; decide) (fun z_10 => ?_) (fun z_11 => ?_)
    · skip
      refine s_Law_law_811 ?_
      rw [hx0]
      refine x_callV (As := [.int k, .int 0]) (b := m) (rest := []) (F1 := 2) (L1 := 42) (mc := 0) (ms := 0) d_Law_law_812 cV_Law_141 (fm_answer (by rfl) e_m (by rfl) (by rfl) (by omega) (by omega)) e_m ⟨by decide, rfl⟩ ⟨by omega, by show 8 + (3 + 11) + 42 ≤ _; omega⟩ ⟨by omega, by omega⟩ (Nat.le_of_ble_eq_true rfl) (fun v_18 h_17 p_19 => ?_)
      obtain ⟨rfl, ⟨fs_12, l_13, e_14, g_15⟩, fr_16⟩ := p_19
      refine s_Law_law_815 ?_
      refine x_callV (As := []) (b := m) (rest := []) (F1 := 1) (L1 := 20) (mc := 0) (ms := 0) d_Law_law_818 cV_Law_84 (f_thrown l_13 e_14 g_15 (by omega) (by omega)) e_14 ⟨by decide, rfl⟩ ⟨by omega, by show 8 + (1 + 11) + 20 ≤ _; omega⟩ ⟨by omega, by omega⟩ (Nat.le_of_ble_eq_true rfl) (fun v_21 h_20 p_22 => ?_)
      obtain ⟨rfl, rfl⟩ := p_22
      refine s_Law_law_821 (fun z_23 => ?_) (fun z => absurd z (by decide))
      refine s_Law_law_828 (fun z_24 => ?_) (fun z => absurd z (by decide))
      refine s_Law_law_845 ?_
      exact law_tail hX
    · skip
      refine s_Law_law_807 ?_
      rw [hx0]
      refine x_callV (As := [.int k, .int 1]) (b := m) (rest := []) (F1 := 2) (L1 := 42) (mc := 0) (ms := 0) d_Law_law_812 cV_Law_141 (fm_answer (by rfl) e_m (by rfl) (by rfl) (by omega) (by omega)) e_m ⟨by decide, rfl⟩ ⟨by omega, by show 8 + (3 + 11) + 42 ≤ _; omega⟩ ⟨by omega, by omega⟩ (Nat.le_of_ble_eq_true rfl) (fun v_31 h_30 p_32 => ?_)
      obtain ⟨rfl, ⟨fs_25, l_26, e_27, g_28⟩, fr_29⟩ := p_32
      refine s_Law_law_815 ?_
      refine x_callV (As := []) (b := m) (rest := []) (F1 := 1) (L1 := 20) (mc := 0) (ms := 0) d_Law_law_818 cV_Law_84 (f_thrown l_26 e_27 g_28 (by omega) (by omega)) e_27 ⟨by decide, rfl⟩ ⟨by omega, by show 8 + (1 + 11) + 20 ≤ _; omega⟩ ⟨by omega, by omega⟩ (Nat.le_of_ble_eq_true rfl) (fun v_34 h_33 p_35 => ?_)
      obtain ⟨rfl, rfl⟩ := p_35
      refine s_Law_law_821 (fun z_36 => ?_) (fun z => absurd z (by decide))
      refine s_Law_law_828 (fun z_37 => ?_) (fun z => absurd z (by decide))
      refine s_Law_law_845 ?_
      exact law_tail hX
  · skip
    refine s_Law_law_780 ?_
    refine s_Law_law_785 ?_
    rw [hx0]
    have sC : ∀ a ∈ [x], a ∈ CLs x d tx w st s1 s2 s3 s4 sv v1 v2 v3 v4 qo t tl ts pa na po k1 k2 k3 so ao o1 o2 o3 o4 x0 l0 z0 x1 l1 z1 := (List.forall_mem_cons.mpr ⟨List.mem_of_getElem? (i := 0) rfl, (fun _ h => nomatch h)⟩)
    refine x_callSH (As := [.ref x, .int k, .int 1, .ref o]) (rest := []) (F1 := 7) (L1 := 112) (mc := 1) (ms := 6) d_Law_law_786 cH_Law_138 (hl_answer (KC.at 0 rfl rfl) (KC.at 20 rfl rfl) (by omega) (by omega)) ⟨by omega, by show 8 + (5 + 11) + 112 ≤ _; omega⟩ ⟨by omega, by omega⟩ (Nat.le_of_ble_eq_true rfl) (fun v_43 h_42 p_44 => ?_)
    obtain ⟨rfl, fr_38⟩ := p_44
    have KM1 := KM.fr fr_38 (fun a ha hb => hD a ha (sC a hb))
    have e_m : h_42 m = some (.inr (11, mfs m0 m1 m2 m3 m4 m5 m6 m7 m8 m9 m10 m11 m12 m13 m14 m15 m16 m17 m18 m19 m20 m21 m22 m23 m24 m25 m26 m27 m28 m29 m30 m31 m32 m33 m34)) := KM1.at 0 rfl rfl
    refine s_Law_law_789 hX (by unfold vp_in; decide) (by unfold vp_in; decide) (fun z_45 => ?_) (fun z_46 => ?_)
    · skip
      refine s_Law_law_811 ?_
      rw [hx0]
      refine x_callV (As := [.int k, .int 0]) (b := m) (rest := []) (F1 := 2) (L1 := 42) (mc := 0) (ms := 0) d_Law_law_812 cV_Law_141 (fm_answer (by rfl) e_m (by rfl) (by rfl) (by omega) (by omega)) e_m ⟨by decide, rfl⟩ ⟨by omega, by show 8 + (3 + 11) + 42 ≤ _; omega⟩ ⟨by omega, by omega⟩ (Nat.le_of_ble_eq_true rfl) (fun v_53 h_52 p_54 => ?_)
      obtain ⟨rfl, ⟨fs_47, l_48, e_49, g_50⟩, fr_51⟩ := p_54
      refine s_Law_law_815 ?_
      refine x_callV (As := []) (b := m) (rest := []) (F1 := 1) (L1 := 20) (mc := 0) (ms := 0) d_Law_law_818 cV_Law_84 (f_thrown l_48 e_49 g_50 (by omega) (by omega)) e_49 ⟨by decide, rfl⟩ ⟨by omega, by show 8 + (1 + 11) + 20 ≤ _; omega⟩ ⟨by omega, by omega⟩ (Nat.le_of_ble_eq_true rfl) (fun v_56 h_55 p_57 => ?_)
      obtain ⟨rfl, rfl⟩ := p_57
      refine s_Law_law_821 (fun z_58 => ?_) (fun z => absurd z (by decide))
      refine s_Law_law_828 (fun z_59 => ?_) (fun z => absurd z (by decide))
      refine s_Law_law_845 ?_
      exact law_tail hX
    · skip
      refine s_Law_law_807 ?_
      rw [hx0]
      refine x_callV (As := [.int k, .int 1]) (b := m) (rest := []) (F1 := 2) (L1 := 42) (mc := 0) (ms := 0) d_Law_law_812 cV_Law_141 (fm_answer (by rfl) e_m (by rfl) (by rfl) (by omega) (by omega)) e_m ⟨by decide, rfl⟩ ⟨by omega, by show 8 + (3 + 11) + 42 ≤ _; omega⟩ ⟨by omega, by omega⟩ (Nat.le_of_ble_eq_true rfl) (fun v_66 h_65 p_67 => ?_)
      obtain ⟨rfl, ⟨fs_60, l_61, e_62, g_63⟩, fr_64⟩ := p_67
      refine s_Law_law_815 ?_
      refine x_callV (As := []) (b := m) (rest := []) (F1 := 1) (L1 := 20) (mc := 0) (ms := 0) d_Law_law_818 cV_Law_84 (f_thrown l_61 e_62 g_63 (by omega) (by omega)) e_62 ⟨by decide, rfl⟩ ⟨by omega, by show 8 + (1 + 11) + 20 ≤ _; omega⟩ ⟨by omega, by omega⟩ (Nat.le_of_ble_eq_true rfl) (fun v_69 h_68 p_70 => ?_)
      obtain ⟨rfl, rfl⟩ := p_70
      refine s_Law_law_821 (fun z_71 => ?_) (fun z => absurd z (by decide))
      refine s_Law_law_828 (fun z_72 => ?_) (fun z => absurd z (by decide))
      refine s_Law_law_845 ?_
      exact law_tail hX
set_option maxHeartbeats 2000000 in
theorem lc_score {G : xw_G} {F L bc bs b : Nat} {xs : Nat → Int32} {x d tx w st s1 s2 s3 s4 sv v1 v2 v3 v4 qo t tl ts pa na po k1 k2 k3 so ao o1 o2 o3 o4 x0 l0 z0 x1 l1 z1 : Nat} {wf : Nat → Int32} {m m0 m1 m2 m3 m4 m5 m6 m7 m8 m9 m10 m11 m12 m13 m14 m15 m16 m17 m18 m19 m20 m21 m22 m23 m24 m25 m26 m27 m28 m29 m30 m31 m32 m33 m34 : Nat} {lf wg : Nat → Int32} {o od : Nat} {h : xw_A} {k : Int32} (hX : va_X b 3 xs G.2.2.1 G.2.2.1.heap) (hA : FrA x d tx w st s1 s2 s3 s4 sv v1 v2 v3 v4 qo t tl ts pa na po k1 k2 k3 so ao o1 o2 o3 o4 x0 l0 z0 x1 l1 z1 wf m m0 m1 m2 m3 m4 m5 m6 m7 m8 m9 m10 m11 m12 m13 m14 m15 m16 m17 m18 m19 m20 m21 m22 m23 m24 m25 m26 m27 m28 m29 m30 m31 m32 m33 m34 lf wg o od h) (hx0 : (xs (0 + 1 : Int32).toNatClampNeg) = k)  (hF : 8 ≤ F) (hL : 136 ≤ L) (hbc : 1 ≤ bc) (hbs : 6 ≤ bs) :
    xw G m_Law_law F L bc bs (fun v _ => v = some (.int 1)) (fun _ _ => False) 848 [some (.ref b), some (.ref x), some (.ref m), some (.ref o), some (.ref od), some (.int 0), none, none, none] [] h := by
  obtain ⟨KC, KM, eo, eod, hD, hoC, hoM, hw0, hw1, hlf, hg0, hg1⟩ := hA
  refine s_Law_law_848 hX (by unfold vp_in; decide) (by unfold vp_in; decide) (fun z_1 => ?_) (fun z_2 => ?_)
  · skip
    refine s_Law_law_868 ?_
    refine s_Law_law_869 ?_
    rw [hx0]
    have sC : ∀ a ∈ [x], a ∈ CLs x d tx w st s1 s2 s3 s4 sv v1 v2 v3 v4 qo t tl ts pa na po k1 k2 k3 so ao o1 o2 o3 o4 x0 l0 z0 x1 l1 z1 := (List.forall_mem_cons.mpr ⟨List.mem_of_getElem? (i := 0) rfl, (fun _ h => nomatch h)⟩)
    refine x_callSH (As := [.ref x, .int k, .int 0, .ref od]) (rest := []) (F1 := 7) (L1 := 112) (mc := 1) (ms := 6) d_Law_law_871 cH_Law_142 (hl_score (KC.at 0 rfl rfl) (KC.at 20 rfl rfl) (by omega) (by omega)) ⟨by omega, by show 8 + (5 + 11) + 112 ≤ _; omega⟩ ⟨by omega, by omega⟩ (Nat.le_of_ble_eq_true rfl) (fun v_8 h_7 p_9 => ?_)
    obtain ⟨rfl, fr_3⟩ := p_9
    have KM1 := KM.fr fr_3 (fun a ha hb => hD a ha (sC a hb))
    have e_m : h_7 m = some (.inr (11, mfs m0 m1 m2 m3 m4 m5 m6 m7 m8 m9 m10 m11 m12 m13 m14 m15 m16 m17 m18 m19 m20 m21 m22 m23 m24 m25 m26 m27 m28 m29 m30 m31 m32 m33 m34)) := KM1.at 0 rfl rfl
    refine s_Law_law_874 hX (by unfold vp_in; decide) (by unfold vp_in; decide) (fun z_10 => ?_) (fun z_11 => ?_)
    · skip
      refine s_Law_law_896 ?_
      rw [hx0]
      refine x_callV (As := [.int k, .int 0]) (b := m) (rest := []) (F1 := 2) (L1 := 42) (mc := 0) (ms := 0) d_Law_law_897 cV_Law_145 (fm_score (by rfl) e_m (by rfl) (by rfl) (by omega) (by omega)) e_m ⟨by decide, rfl⟩ ⟨by omega, by show 8 + (3 + 11) + 42 ≤ _; omega⟩ ⟨by omega, by omega⟩ (Nat.le_of_ble_eq_true rfl) (fun v_18 h_17 p_19 => ?_)
      obtain ⟨rfl, ⟨fs_12, l_13, e_14, g_15⟩, fr_16⟩ := p_19
      refine s_Law_law_900 ?_
      refine x_callV (As := []) (b := m) (rest := []) (F1 := 1) (L1 := 20) (mc := 0) (ms := 0) d_Law_law_903 cV_Law_84 (f_thrown l_13 e_14 g_15 (by omega) (by omega)) e_14 ⟨by decide, rfl⟩ ⟨by omega, by show 8 + (1 + 11) + 20 ≤ _; omega⟩ ⟨by omega, by omega⟩ (Nat.le_of_ble_eq_true rfl) (fun v_21 h_20 p_22 => ?_)
      obtain ⟨rfl, rfl⟩ := p_22
      refine s_Law_law_906 (fun z_23 => ?_) (fun z => absurd z (by decide))
      refine s_Law_law_913 (fun z_24 => ?_) (fun z => absurd z (by decide))
      refine s_Law_law_950 ?_
      exact law_tail hX
    · skip
      refine s_Law_law_892 ?_
      rw [hx0]
      refine x_callV (As := [.int k, .int 1]) (b := m) (rest := []) (F1 := 2) (L1 := 42) (mc := 0) (ms := 0) d_Law_law_897 cV_Law_145 (fm_score (by rfl) e_m (by rfl) (by rfl) (by omega) (by omega)) e_m ⟨by decide, rfl⟩ ⟨by omega, by show 8 + (3 + 11) + 42 ≤ _; omega⟩ ⟨by omega, by omega⟩ (Nat.le_of_ble_eq_true rfl) (fun v_31 h_30 p_32 => ?_)
      obtain ⟨rfl, ⟨fs_25, l_26, e_27, g_28⟩, fr_29⟩ := p_32
      refine s_Law_law_900 ?_
      refine x_callV (As := []) (b := m) (rest := []) (F1 := 1) (L1 := 20) (mc := 0) (ms := 0) d_Law_law_903 cV_Law_84 (f_thrown l_26 e_27 g_28 (by omega) (by omega)) e_27 ⟨by decide, rfl⟩ ⟨by omega, by show 8 + (1 + 11) + 20 ≤ _; omega⟩ ⟨by omega, by omega⟩ (Nat.le_of_ble_eq_true rfl) (fun v_34 h_33 p_35 => ?_)
      obtain ⟨rfl, rfl⟩ := p_35
      refine s_Law_law_906 (fun z_36 => ?_) (fun z => absurd z (by decide))
      refine s_Law_law_913 (fun z_37 => ?_) (fun z => absurd z (by decide))
      refine s_Law_law_950 ?_
      exact law_tail hX
  · skip
    refine s_Law_law_864 ?_
    refine s_Law_law_869 ?_
    rw [hx0]
    have sC : ∀ a ∈ [x], a ∈ CLs x d tx w st s1 s2 s3 s4 sv v1 v2 v3 v4 qo t tl ts pa na po k1 k2 k3 so ao o1 o2 o3 o4 x0 l0 z0 x1 l1 z1 := (List.forall_mem_cons.mpr ⟨List.mem_of_getElem? (i := 0) rfl, (fun _ h => nomatch h)⟩)
    refine x_callSH (As := [.ref x, .int k, .int 1, .ref od]) (rest := []) (F1 := 7) (L1 := 112) (mc := 1) (ms := 6) d_Law_law_871 cH_Law_142 (hl_score (KC.at 0 rfl rfl) (KC.at 20 rfl rfl) (by omega) (by omega)) ⟨by omega, by show 8 + (5 + 11) + 112 ≤ _; omega⟩ ⟨by omega, by omega⟩ (Nat.le_of_ble_eq_true rfl) (fun v_43 h_42 p_44 => ?_)
    obtain ⟨rfl, fr_38⟩ := p_44
    have KM1 := KM.fr fr_38 (fun a ha hb => hD a ha (sC a hb))
    have e_m : h_42 m = some (.inr (11, mfs m0 m1 m2 m3 m4 m5 m6 m7 m8 m9 m10 m11 m12 m13 m14 m15 m16 m17 m18 m19 m20 m21 m22 m23 m24 m25 m26 m27 m28 m29 m30 m31 m32 m33 m34)) := KM1.at 0 rfl rfl
    refine s_Law_law_874 hX (by unfold vp_in; decide) (by unfold vp_in; decide) (fun z_45 => ?_) (fun z_46 => ?_)
    · skip
      refine s_Law_law_896 ?_
      rw [hx0]
      refine x_callV (As := [.int k, .int 0]) (b := m) (rest := []) (F1 := 2) (L1 := 42) (mc := 0) (ms := 0) d_Law_law_897 cV_Law_145 (fm_score (by rfl) e_m (by rfl) (by rfl) (by omega) (by omega)) e_m ⟨by decide, rfl⟩ ⟨by omega, by show 8 + (3 + 11) + 42 ≤ _; omega⟩ ⟨by omega, by omega⟩ (Nat.le_of_ble_eq_true rfl) (fun v_53 h_52 p_54 => ?_)
      obtain ⟨rfl, ⟨fs_47, l_48, e_49, g_50⟩, fr_51⟩ := p_54
      refine s_Law_law_900 ?_
      refine x_callV (As := []) (b := m) (rest := []) (F1 := 1) (L1 := 20) (mc := 0) (ms := 0) d_Law_law_903 cV_Law_84 (f_thrown l_48 e_49 g_50 (by omega) (by omega)) e_49 ⟨by decide, rfl⟩ ⟨by omega, by show 8 + (1 + 11) + 20 ≤ _; omega⟩ ⟨by omega, by omega⟩ (Nat.le_of_ble_eq_true rfl) (fun v_56 h_55 p_57 => ?_)
      obtain ⟨rfl, rfl⟩ := p_57
      refine s_Law_law_906 (fun z_58 => ?_) (fun z => absurd z (by decide))
      refine s_Law_law_913 (fun z_59 => ?_) (fun z => absurd z (by decide))
      refine s_Law_law_950 ?_
      exact law_tail hX
    · skip
      refine s_Law_law_892 ?_
      rw [hx0]
      refine x_callV (As := [.int k, .int 1]) (b := m) (rest := []) (F1 := 2) (L1 := 42) (mc := 0) (ms := 0) d_Law_law_897 cV_Law_145 (fm_score (by rfl) e_m (by rfl) (by rfl) (by omega) (by omega)) e_m ⟨by decide, rfl⟩ ⟨by omega, by show 8 + (3 + 11) + 42 ≤ _; omega⟩ ⟨by omega, by omega⟩ (Nat.le_of_ble_eq_true rfl) (fun v_66 h_65 p_67 => ?_)
      obtain ⟨rfl, ⟨fs_60, l_61, e_62, g_63⟩, fr_64⟩ := p_67
      refine s_Law_law_900 ?_
      refine x_callV (As := []) (b := m) (rest := []) (F1 := 1) (L1 := 20) (mc := 0) (ms := 0) d_Law_law_903 cV_Law_84 (f_thrown l_61 e_62 g_63 (by omega) (by omega)) e_62 ⟨by decide, rfl⟩ ⟨by omega, by show 8 + (1 + 11) + 20 ≤ _; omega⟩ ⟨by omega, by omega⟩ (Nat.le_of_ble_eq_true rfl) (fun v_69 h_68 p_70 => ?_)
      obtain ⟨rfl, rfl⟩ := p_70
      refine s_Law_law_906 (fun z_71 => ?_) (fun z => absurd z (by decide))
      refine s_Law_law_913 (fun z_72 => ?_) (fun z => absurd z (by decide))
      refine s_Law_law_950 ?_
      exact law_tail hX
set_option maxHeartbeats 2000000 in
theorem lc_look {G : xw_G} {F L bc bs b : Nat} {xs : Nat → Int32} {x d tx w st s1 s2 s3 s4 sv v1 v2 v3 v4 qo t tl ts pa na po k1 k2 k3 so ao o1 o2 o3 o4 x0 l0 z0 x1 l1 z1 : Nat} {wf : Nat → Int32} {m m0 m1 m2 m3 m4 m5 m6 m7 m8 m9 m10 m11 m12 m13 m14 m15 m16 m17 m18 m19 m20 m21 m22 m23 m24 m25 m26 m27 m28 m29 m30 m31 m32 m33 m34 : Nat} {lf wg : Nat → Int32} {o od : Nat} {h : xw_A} {r y : Int32} (hX : va_X b 3 xs G.2.2.1 G.2.2.1.heap) (hA : FrA x d tx w st s1 s2 s3 s4 sv v1 v2 v3 v4 qo t tl ts pa na po k1 k2 k3 so ao o1 o2 o3 o4 x0 l0 z0 x1 l1 z1 wf m m0 m1 m2 m3 m4 m5 m6 m7 m8 m9 m10 m11 m12 m13 m14 m15 m16 m17 m18 m19 m20 m21 m22 m23 m24 m25 m26 m27 m28 m29 m30 m31 m32 m33 m34 lf wg o od h) (hx0 : (xs (0 + 1 : Int32).toNatClampNeg) = r) (hx1 : (xs (0 + 2 : Int32).toNatClampNeg) = y)  (hF : 8 ≤ F) (hL : 137 ≤ L) (hbc : 1 ≤ bc) (hbs : 6 ≤ bs) :
    xw G m_Law_law F L bc bs (fun v _ => v = some (.int 1)) (fun _ _ => False) 953 [some (.ref b), some (.ref x), some (.ref m), some (.ref o), some (.ref od), some (.int 0), none, none, none] [] h := by
  obtain ⟨KC, KM, eo, eod, hD, hoC, hoM, hw0, hw1, hlf, hg0, hg1⟩ := hA
  refine s_Law_law_953 hX (by unfold vp_in; decide) (by unfold vp_in; decide) ?_
  rw [hx0]
  rw [hx1]
  have sC : ∀ a ∈ [x], a ∈ CLs x d tx w st s1 s2 s3 s4 sv v1 v2 v3 v4 qo t tl ts pa na po k1 k2 k3 so ao o1 o2 o3 o4 x0 l0 z0 x1 l1 z1 := (List.forall_mem_cons.mpr ⟨List.mem_of_getElem? (i := 0) rfl, (fun _ h => nomatch h)⟩)
  refine x_callSH (As := [.ref x, .int r, .int y, .ref o]) (rest := []) (F1 := 7) (L1 := 113) (mc := 1) (ms := 6) d_Law_law_967 cH_Law_146 (hl_look (KC.at 0 rfl rfl) (KC.at 4 rfl rfl) (KC.at 5 rfl rfl) (by omega) (by omega)) ⟨by omega, by show 8 + (5 + 11) + 113 ≤ _; omega⟩ ⟨by omega, by omega⟩ (Nat.le_of_ble_eq_true rfl) (fun v_6 h_5 p_7 => ?_)
  obtain ⟨rfl, fr_1⟩ := p_7
  have KM1 := KM.fr fr_1 (fun a ha hb => hD a ha (sC a hb))
  have e_m : h_5 m = some (.inr (11, mfs m0 m1 m2 m3 m4 m5 m6 m7 m8 m9 m10 m11 m12 m13 m14 m15 m16 m17 m18 m19 m20 m21 m22 m23 m24 m25 m26 m27 m28 m29 m30 m31 m32 m33 m34)) := KM1.at 0 rfl rfl
  refine s_Law_law_970 hX (by unfold vp_in; decide) (by unfold vp_in; decide) ?_
  rw [hx0]
  rw [hx1]
  refine x_callV (As := [.int r, .int y]) (b := m) (rest := []) (F1 := 3) (L1 := 63) (mc := 0) (ms := 0) d_Law_law_985 cV_Law_148 (fm_look (by rfl) e_m (by rfl) (by rfl) (KM1.at 10 rfl rfl) hlf (by omega) (by omega)) e_m ⟨by decide, rfl⟩ ⟨by omega, by show 8 + (3 + 11) + 63 ≤ _; omega⟩ ⟨by omega, by omega⟩ (Nat.le_of_ble_eq_true rfl) (fun v_14 h_13 p_15 => ?_)
  obtain ⟨rfl, ⟨fs_8, l_9, e_10, g_11⟩, fr_12⟩ := p_15
  refine s_Law_law_988 ?_
  refine x_callV (As := []) (b := m) (rest := []) (F1 := 1) (L1 := 20) (mc := 0) (ms := 0) d_Law_law_991 cV_Law_84 (f_thrown l_9 e_10 g_11 (by omega) (by omega)) e_10 ⟨by decide, rfl⟩ ⟨by omega, by show 8 + (1 + 11) + 20 ≤ _; omega⟩ ⟨by omega, by omega⟩ (Nat.le_of_ble_eq_true rfl) (fun v_17 h_16 p_18 => ?_)
  obtain ⟨rfl, rfl⟩ := p_18
  refine s_Law_law_994 (fun z_19 => ?_) (fun z => absurd z (by decide))
  refine s_Law_law_1001 (fun z_20 => ?_) (fun z => absurd z (by decide))
  refine s_Law_law_1018 ?_
  exact law_tail hX
set_option maxHeartbeats 2000000 in
theorem lc_segment {G : xw_G} {F L bc bs b : Nat} {xs : Nat → Int32} {x d tx w st s1 s2 s3 s4 sv v1 v2 v3 v4 qo t tl ts pa na po k1 k2 k3 so ao o1 o2 o3 o4 x0 l0 z0 x1 l1 z1 : Nat} {wf : Nat → Int32} {m m0 m1 m2 m3 m4 m5 m6 m7 m8 m9 m10 m11 m12 m13 m14 m15 m16 m17 m18 m19 m20 m21 m22 m23 m24 m25 m26 m27 m28 m29 m30 m31 m32 m33 m34 : Nat} {lf wg : Nat → Int32} {o od : Nat} {h : xw_A} {k y : Int32} (hX : va_X b 3 xs G.2.2.1 G.2.2.1.heap) (hA : FrA x d tx w st s1 s2 s3 s4 sv v1 v2 v3 v4 qo t tl ts pa na po k1 k2 k3 so ao o1 o2 o3 o4 x0 l0 z0 x1 l1 z1 wf m m0 m1 m2 m3 m4 m5 m6 m7 m8 m9 m10 m11 m12 m13 m14 m15 m16 m17 m18 m19 m20 m21 m22 m23 m24 m25 m26 m27 m28 m29 m30 m31 m32 m33 m34 lf wg o od h) (hx0 : (xs (0 + 1 : Int32).toNatClampNeg) = k) (hx1 : (xs (0 + 2 : Int32).toNatClampNeg) = y)  (hF : 8 ≤ F) (hL : 137 ≤ L) (hbc : 1 ≤ bc) (hbs : 6 ≤ bs) :
    xw G m_Law_law F L bc bs (fun v _ => v = some (.int 1)) (fun _ _ => False) 1021 [some (.ref b), some (.ref x), some (.ref m), some (.ref o), some (.ref od), some (.int 0), none, none, none] [] h := by
  obtain ⟨KC, KM, eo, eod, hD, hoC, hoM, hw0, hw1, hlf, hg0, hg1⟩ := hA
  refine s_Law_law_1021 hX (by unfold vp_in; decide) (by unfold vp_in; decide) ?_
  rw [hx0]
  rw [hx1]
  have sC : ∀ a ∈ [x], a ∈ CLs x d tx w st s1 s2 s3 s4 sv v1 v2 v3 v4 qo t tl ts pa na po k1 k2 k3 so ao o1 o2 o3 o4 x0 l0 z0 x1 l1 z1 := (List.forall_mem_cons.mpr ⟨List.mem_of_getElem? (i := 0) rfl, (fun _ h => nomatch h)⟩)
  refine x_callSH (As := [.ref x, .int k, .int y, .ref o]) (rest := []) (F1 := 7) (L1 := 113) (mc := 1) (ms := 6) d_Law_law_1035 cH_Law_149 (hl_segment (KC.at 0 rfl rfl) (KC.at 4 rfl rfl) (by omega) (by omega)) ⟨by omega, by show 8 + (5 + 11) + 113 ≤ _; omega⟩ ⟨by omega, by omega⟩ (Nat.le_of_ble_eq_true rfl) (fun v_6 h_5 p_7 => ?_)
  obtain ⟨rfl, fr_1⟩ := p_7
  have KM1 := KM.fr fr_1 (fun a ha hb => hD a ha (sC a hb))
  have e_m : h_5 m = some (.inr (11, mfs m0 m1 m2 m3 m4 m5 m6 m7 m8 m9 m10 m11 m12 m13 m14 m15 m16 m17 m18 m19 m20 m21 m22 m23 m24 m25 m26 m27 m28 m29 m30 m31 m32 m33 m34)) := KM1.at 0 rfl rfl
  refine s_Law_law_1038 hX (by unfold vp_in; decide) (by unfold vp_in; decide) ?_
  rw [hx0]
  rw [hx1]
  refine x_callV (As := [.int k, .int y]) (b := m) (rest := []) (F1 := 2) (L1 := 42) (mc := 0) (ms := 0) d_Law_law_1053 cV_Law_151 (fm_segment (by rfl) e_m (by rfl) (by rfl) (by omega) (by omega)) e_m ⟨by decide, rfl⟩ ⟨by omega, by show 8 + (5 + 11) + 42 ≤ _; omega⟩ ⟨by omega, by omega⟩ (Nat.le_of_ble_eq_true rfl) (fun v_14 h_13 p_15 => ?_)
  obtain ⟨rfl, ⟨fs_8, l_9, e_10, g_11⟩, fr_12⟩ := p_15
  refine s_Law_law_1056 ?_
  refine x_callV (As := []) (b := m) (rest := []) (F1 := 1) (L1 := 20) (mc := 0) (ms := 0) d_Law_law_1059 cV_Law_84 (f_thrown l_9 e_10 g_11 (by omega) (by omega)) e_10 ⟨by decide, rfl⟩ ⟨by omega, by show 8 + (1 + 11) + 20 ≤ _; omega⟩ ⟨by omega, by omega⟩ (Nat.le_of_ble_eq_true rfl) (fun v_17 h_16 p_18 => ?_)
  obtain ⟨rfl, rfl⟩ := p_18
  refine s_Law_law_1062 (fun z_19 => ?_) (fun z => absurd z (by decide))
  refine s_Law_law_1069 (fun z_20 => ?_) (fun z => absurd z (by decide))
  refine s_Law_law_1086 ?_
  exact law_tail hX
set_option maxHeartbeats 2000000 in
theorem lc_count_0 {G : xw_G} {F L bc bs b : Nat} {xs : Nat → Int32} {x d tx w st s1 s2 s3 s4 sv v1 v2 v3 v4 qo t tl ts pa na po k1 k2 k3 so ao o1 o2 o3 o4 x0 l0 z0 x1 l1 z1 : Nat} {wf : Nat → Int32} {m m0 m1 m2 m3 m4 m5 m6 m7 m8 m9 m10 m11 m12 m13 m14 m15 m16 m17 m18 m19 m20 m21 m22 m23 m24 m25 m26 m27 m28 m29 m30 m31 m32 m33 m34 : Nat} {lf wg : Nat → Int32} {o od : Nat} {h : xw_A}  (hX : va_X b 3 xs G.2.2.1 G.2.2.1.heap) (hA : FrA x d tx w st s1 s2 s3 s4 sv v1 v2 v3 v4 qo t tl ts pa na po k1 k2 k3 so ao o1 o2 o3 o4 x0 l0 z0 x1 l1 z1 wf m m0 m1 m2 m3 m4 m5 m6 m7 m8 m9 m10 m11 m12 m13 m14 m15 m16 m17 m18 m19 m20 m21 m22 m23 m24 m25 m26 m27 m28 m29 m30 m31 m32 m33 m34 lf wg o od h) (hx0 : (xs (0 + 1 : Int32).toNatClampNeg) = 0)  (hF : 4 ≤ F) (hL : 86 ≤ L) (hbc : 0 ≤ bc) (hbs : 0 ≤ bs) :
    xw G m_Law_law F L bc bs (fun v _ => v = some (.int 1)) (fun _ _ => False) 1089 [some (.ref b), some (.ref x), some (.ref m), some (.ref o), some (.ref od), some (.int 0), none, none, none] [] h := by
  obtain ⟨KC, KM, eo, eod, hD, hoC, hoM, hw0, hw1, hlf, hg0, hg1⟩ := hA
  refine s_Law_law_1089 hX (by unfold vp_in; decide) ?_
  rw [hx0]
  have sC : ∀ a ∈ [], a ∈ CLs x d tx w st s1 s2 s3 s4 sv v1 v2 v3 v4 qo t tl ts pa na po k1 k2 k3 so ao o1 o2 o3 o4 x0 l0 z0 x1 l1 z1 := (fun _ h => nomatch h)
  refine x_callSH (As := [.ref x, .int 0, .ref o]) (rest := []) (F1 := 3) (L1 := 63) (mc := 0) (ms := 0) d_Law_law_1097 cH_Law_152 (hl_count_0 (KC.at 0 rfl rfl) (KC.at 4 rfl rfl) (KC.at 5 rfl rfl) eo (fun z => hoC (sC o z)) (by omega) (by omega)) ⟨by omega, by show 8 + (4 + 11) + 63 ≤ _; omega⟩ ⟨by omega, by omega⟩ (Nat.le_of_ble_eq_true rfl) (fun v_6 h_5 p_7 => ?_)
  obtain ⟨rfl, fr_1, f_2, hf_3, e_4⟩ := p_7
  have KM1 := KM.fr fr_1 (fun a ha hb => (List.mem_cons.mp hb).elim (fun z => hoM (by rw [← z]; exact ha)) (fun z => hD a ha (sC a z)))
  have e_m : h_5 m = some (.inr (11, mfs m0 m1 m2 m3 m4 m5 m6 m7 m8 m9 m10 m11 m12 m13 m14 m15 m16 m17 m18 m19 m20 m21 m22 m23 m24 m25 m26 m27 m28 m29 m30 m31 m32 m33 m34)) := KM1.at 0 rfl rfl
  refine s_Law_law_1100 hX (by unfold vp_in; decide) ?_
  rw [hx0]
  refine x_callV (As := [.int 0]) (b := m) (rest := []) (F1 := 2) (L1 := 42) (mc := 0) (ms := 0) d_Law_law_1109 cV_Law_154 (fm_count_0 (by rfl) e_m (by rfl) (by rfl) (KM1.at 10 rfl rfl) hlf (by omega) (by omega)) e_m ⟨by decide, rfl⟩ ⟨by omega, by show 8 + (2 + 11) + 42 ≤ _; omega⟩ ⟨by omega, by omega⟩ (Nat.le_of_ble_eq_true rfl) (fun v_14 h_13 p_15 => ?_)
  obtain ⟨rfl, ⟨fs_8, l_9, e_10, g_11⟩, fr_12⟩ := p_15
  have sA : ∀ a ∈ [m], a ∈ MLs m m0 m1 m2 m3 m4 m5 m6 m7 m8 m9 m10 m11 m12 m13 m14 m15 m16 m17 m18 m19 m20 m21 m22 m23 m24 m25 m26 m27 m28 m29 m30 m31 m32 m33 m34 := (List.forall_mem_cons.mpr ⟨List.mem_of_getElem? (i := 0) rfl, (fun _ h => nomatch h)⟩)
  have e_16 := fr_12 o _ (fun z => hoM (sA o z)) e_4
  refine s_Law_law_1112 ?_
  refine x_callV (As := []) (b := m) (rest := []) (F1 := 1) (L1 := 20) (mc := 0) (ms := 0) d_Law_law_1115 cV_Law_84 (f_thrown l_9 e_10 g_11 (by omega) (by omega)) e_10 ⟨by decide, rfl⟩ ⟨by omega, by show 8 + (1 + 11) + 20 ≤ _; omega⟩ ⟨by omega, by omega⟩ (Nat.le_of_ble_eq_true rfl) (fun v_18 h_17 p_19 => ?_)
  obtain ⟨rfl, rfl⟩ := p_19
  refine s_Law_law_1118 (fun z_20 => ?_) (fun z => absurd z (by decide))
  refine s_Law_law_1125 (fun z => absurd z (by decide)) (fun z_21 => ?_)
  refine s_Law_law_1130 e_16 (by unfold vp_in; decide) (fun z_22 => ?_) (fun z => absurd (lgc hf_3) z)
  refine s_Law_law_1142 ?_
  exact law_tail hX
set_option maxHeartbeats 2000000 in
theorem lc_count_1 {G : xw_G} {F L bc bs b : Nat} {xs : Nat → Int32} {x d tx w st s1 s2 s3 s4 sv v1 v2 v3 v4 qo t tl ts pa na po k1 k2 k3 so ao o1 o2 o3 o4 x0 l0 z0 x1 l1 z1 : Nat} {wf : Nat → Int32} {m m0 m1 m2 m3 m4 m5 m6 m7 m8 m9 m10 m11 m12 m13 m14 m15 m16 m17 m18 m19 m20 m21 m22 m23 m24 m25 m26 m27 m28 m29 m30 m31 m32 m33 m34 : Nat} {lf wg : Nat → Int32} {o od : Nat} {h : xw_A}  (hX : va_X b 3 xs G.2.2.1 G.2.2.1.heap) (hA : FrA x d tx w st s1 s2 s3 s4 sv v1 v2 v3 v4 qo t tl ts pa na po k1 k2 k3 so ao o1 o2 o3 o4 x0 l0 z0 x1 l1 z1 wf m m0 m1 m2 m3 m4 m5 m6 m7 m8 m9 m10 m11 m12 m13 m14 m15 m16 m17 m18 m19 m20 m21 m22 m23 m24 m25 m26 m27 m28 m29 m30 m31 m32 m33 m34 lf wg o od h) (hx0 : (xs (0 + 1 : Int32).toNatClampNeg) = 1)  (hF : 3 ≤ F) (hL : 64 ≤ L) (hbc : 0 ≤ bc) (hbs : 0 ≤ bs) :
    xw G m_Law_law F L bc bs (fun v _ => v = some (.int 1)) (fun _ _ => False) 1089 [some (.ref b), some (.ref x), some (.ref m), some (.ref o), some (.ref od), some (.int 0), none, none, none] [] h := by
  obtain ⟨KC, KM, eo, eod, hD, hoC, hoM, hw0, hw1, hlf, hg0, hg1⟩ := hA
  refine s_Law_law_1089 hX (by unfold vp_in; decide) ?_
  rw [hx0]
  have sC : ∀ a ∈ [], a ∈ CLs x d tx w st s1 s2 s3 s4 sv v1 v2 v3 v4 qo t tl ts pa na po k1 k2 k3 so ao o1 o2 o3 o4 x0 l0 z0 x1 l1 z1 := (fun _ h => nomatch h)
  refine x_callSH (As := [.ref x, .int 1, .ref o]) (rest := []) (F1 := 2) (L1 := 41) (mc := 0) (ms := 0) d_Law_law_1097 cH_Law_152 (hl_count_1 (KC.at 0 rfl rfl) (KC.at 4 rfl rfl) eo (fun z => hoC (sC o z)) (by omega) (by omega)) ⟨by omega, by show 8 + (4 + 11) + 41 ≤ _; omega⟩ ⟨by omega, by omega⟩ (Nat.le_of_ble_eq_true rfl) (fun v_6 h_5 p_7 => ?_)
  obtain ⟨rfl, fr_1, f_2, hf_3, e_4⟩ := p_7
  have KM1 := KM.fr fr_1 (fun a ha hb => (List.mem_cons.mp hb).elim (fun z => hoM (by rw [← z]; exact ha)) (fun z => hD a ha (sC a z)))
  have e_m : h_5 m = some (.inr (11, mfs m0 m1 m2 m3 m4 m5 m6 m7 m8 m9 m10 m11 m12 m13 m14 m15 m16 m17 m18 m19 m20 m21 m22 m23 m24 m25 m26 m27 m28 m29 m30 m31 m32 m33 m34)) := KM1.at 0 rfl rfl
  refine s_Law_law_1100 hX (by unfold vp_in; decide) ?_
  rw [hx0]
  refine x_callV (As := [.int 1]) (b := m) (rest := []) (F1 := 2) (L1 := 42) (mc := 0) (ms := 0) d_Law_law_1109 cV_Law_154 (fm_count_1 (by rfl) e_m (by rfl) (by rfl) (by omega) (by omega)) e_m ⟨by decide, rfl⟩ ⟨by omega, by show 8 + (2 + 11) + 42 ≤ _; omega⟩ ⟨by omega, by omega⟩ (Nat.le_of_ble_eq_true rfl) (fun v_14 h_13 p_15 => ?_)
  obtain ⟨rfl, ⟨fs_8, l_9, e_10, g_11⟩, fr_12⟩ := p_15
  have sA : ∀ a ∈ [m], a ∈ MLs m m0 m1 m2 m3 m4 m5 m6 m7 m8 m9 m10 m11 m12 m13 m14 m15 m16 m17 m18 m19 m20 m21 m22 m23 m24 m25 m26 m27 m28 m29 m30 m31 m32 m33 m34 := (List.forall_mem_cons.mpr ⟨List.mem_of_getElem? (i := 0) rfl, (fun _ h => nomatch h)⟩)
  have e_16 := fr_12 o _ (fun z => hoM (sA o z)) e_4
  refine s_Law_law_1112 ?_
  refine x_callV (As := []) (b := m) (rest := []) (F1 := 1) (L1 := 20) (mc := 0) (ms := 0) d_Law_law_1115 cV_Law_84 (f_thrown l_9 e_10 g_11 (by omega) (by omega)) e_10 ⟨by decide, rfl⟩ ⟨by omega, by show 8 + (1 + 11) + 20 ≤ _; omega⟩ ⟨by omega, by omega⟩ (Nat.le_of_ble_eq_true rfl) (fun v_18 h_17 p_19 => ?_)
  obtain ⟨rfl, rfl⟩ := p_19
  refine s_Law_law_1118 (fun z_20 => ?_) (fun z => absurd z (by decide))
  refine s_Law_law_1125 (fun z => absurd z (by decide)) (fun z_21 => ?_)
  refine s_Law_law_1130 e_16 (by unfold vp_in; decide) (fun z_22 => ?_) (fun z => absurd (lgc hf_3) z)
  refine s_Law_law_1142 ?_
  exact law_tail hX
