/-! THE LAW'S CASES ON FRESH OBJECTS: by program (wip/tools/p1l.py) -/
set_option maxHeartbeats 2000000 in
theorem lc_count_2 {G : xw_G} {F L bc bs b : Nat} {xs : Nat → Int32} {x d tx w st s1 s2 s3 s4 sv v1 v2 v3 v4 qo t tl ts pa na po k1 k2 k3 so ao o1 o2 o3 o4 x0 l0 z0 x1 l1 z1 : Nat} {wf : Nat → Int32} {m m0 m1 m2 m3 m4 m5 m6 m7 m8 m9 m10 m11 m12 m13 m14 m15 m16 m17 m18 m19 m20 m21 m22 m23 m24 m25 m26 m27 m28 m29 m30 m31 m32 m33 m34 : Nat} {lf wg : Nat → Int32} {o od : Nat} {h : xw_A}  (hX : va_X b 3 xs G.2.2.1 G.2.2.1.heap) (hA : FrA x d tx w st s1 s2 s3 s4 sv v1 v2 v3 v4 qo t tl ts pa na po k1 k2 k3 so ao o1 o2 o3 o4 x0 l0 z0 x1 l1 z1 wf m m0 m1 m2 m3 m4 m5 m6 m7 m8 m9 m10 m11 m12 m13 m14 m15 m16 m17 m18 m19 m20 m21 m22 m23 m24 m25 m26 m27 m28 m29 m30 m31 m32 m33 m34 lf wg o od h) (hx0 : (xs (0 + 1 : Int32).toNatClampNeg) = 2)  (hF : 3 ≤ F) (hL : 64 ≤ L) (hbc : 0 ≤ bc) (hbs : 0 ≤ bs) :
    xw G m_Law_law F L bc bs (fun v _ => v = some (.int 1)) (fun _ _ => False) 1089 [some (.ref b), some (.ref x), some (.ref m), some (.ref o), some (.ref od), some (.int 0), none, none, none] [] h := by
  obtain ⟨KC, KM, eo, eod, hD, hoC, hoM, hw0, hw1, hlf, hg0, hg1⟩ := hA
  refine s_Law_law_1089 hX (by unfold vp_in; decide) ?_
  rw [hx0]
  have sC : ∀ a ∈ [], a ∈ CLs x d tx w st s1 s2 s3 s4 sv v1 v2 v3 v4 qo t tl ts pa na po k1 k2 k3 so ao o1 o2 o3 o4 x0 l0 z0 x1 l1 z1 := (fun _ h => nomatch h)
  refine x_callSH (As := [.ref x, .int 2, .ref o]) (rest := []) (F1 := 2) (L1 := 41) (mc := 0) (ms := 0) d_Law_law_1097 cH_Law_152 (hl_count_2 (KC.at 0 rfl rfl) (KC.at 4 rfl rfl) eo (fun z => hoC (sC o z)) (by omega) (by omega)) ⟨by omega, by show 8 + (4 + 11) + 41 ≤ _; omega⟩ ⟨by omega, by omega⟩ (Nat.le_of_ble_eq_true rfl) (fun v_6 h_5 p_7 => ?_)
  obtain ⟨rfl, fr_1, f_2, hf_3, e_4⟩ := p_7
  have KM1 := KM.fr fr_1 (fun a ha hb => (List.mem_cons.mp hb).elim (fun z => hoM (by rw [← z]; exact ha)) (fun z => hD a ha (sC a z)))
  have e_m : h_5 m = some (.inr (11, mfs m0 m1 m2 m3 m4 m5 m6 m7 m8 m9 m10 m11 m12 m13 m14 m15 m16 m17 m18 m19 m20 m21 m22 m23 m24 m25 m26 m27 m28 m29 m30 m31 m32 m33 m34)) := KM1.at 0 rfl rfl
  refine s_Law_law_1100 hX (by unfold vp_in; decide) ?_
  rw [hx0]
  refine x_callV (As := [.int 2]) (b := m) (rest := []) (F1 := 2) (L1 := 42) (mc := 0) (ms := 0) d_Law_law_1109 cV_Law_154 (fm_count_2 (by rfl) e_m (by rfl) (by rfl) (by rfl) (by omega) (by omega)) e_m ⟨by decide, rfl⟩ ⟨by omega, by show 8 + (2 + 11) + 42 ≤ _; omega⟩ ⟨by omega, by omega⟩ (Nat.le_of_ble_eq_true rfl) (fun v_14 h_13 p_15 => ?_)
  obtain ⟨rfl, ⟨fs_8, l_9, e_10, g_11⟩, fr_12⟩ := p_15
  have sA : ∀ a ∈ [m], a ∈ MLs m m0 m1 m2 m3 m4 m5 m6 m7 m8 m9 m10 m11 m12 m13 m14 m15 m16 m17 m18 m19 m20 m21 m22 m23 m24 m25 m26 m27 m28 m29 m30 m31 m32 m33 m34 := (List.forall_mem_cons.mpr ⟨List.mem_of_getElem? (i := 0) rfl, (fun _ h => nomatch h)⟩)
  have e_16 := fr_12 o _ (fun z => hoM (sA o z)) e_4
  refine s_Law_law_1112 ?_
  refine x_callV (As := []) (b := m) (rest := []) (F1 := 1) (L1 := 20) (mc := 0) (ms := 0) d_Law_law_1115 cV_Law_84 (f_thrown l_9 e_10 g_11 (by omega) (by omega)) e_10 ⟨by decide, rfl⟩ ⟨by omega, by show 8 + (1 + 11) + 20 ≤ _; omega⟩ ⟨by omega, by omega⟩ (Nat.le_of_ble_eq_true rfl) (fun v_18 h_17 p_19 => ?_)
  obtain ⟨rfl, rfl⟩ := p_19
  refine s_Law_law_1118 (fun z_20 => ?_) (fun z => absurd z (by decide))
  refine s_Law_law_1125 (fun z => absurd z (by decide)) (fun z_21 => ?_)
  refine s_Law_law_1130 e_16 (by unfold vp_in; decide) (fun z_22 => ?_) (fun z => absurd (lgc hf_3) z)
  refine s_Law_law_1142 ?_
  exact law_tail hX
set_option maxHeartbeats 2000000 in
theorem lc_count_3 {G : xw_G} {F L bc bs b : Nat} {xs : Nat → Int32} {x d tx w st s1 s2 s3 s4 sv v1 v2 v3 v4 qo t tl ts pa na po k1 k2 k3 so ao o1 o2 o3 o4 x0 l0 z0 x1 l1 z1 : Nat} {wf : Nat → Int32} {m m0 m1 m2 m3 m4 m5 m6 m7 m8 m9 m10 m11 m12 m13 m14 m15 m16 m17 m18 m19 m20 m21 m22 m23 m24 m25 m26 m27 m28 m29 m30 m31 m32 m33 m34 : Nat} {lf wg : Nat → Int32} {o od : Nat} {h : xw_A}  (hX : va_X b 3 xs G.2.2.1 G.2.2.1.heap) (hA : FrA x d tx w st s1 s2 s3 s4 sv v1 v2 v3 v4 qo t tl ts pa na po k1 k2 k3 so ao o1 o2 o3 o4 x0 l0 z0 x1 l1 z1 wf m m0 m1 m2 m3 m4 m5 m6 m7 m8 m9 m10 m11 m12 m13 m14 m15 m16 m17 m18 m19 m20 m21 m22 m23 m24 m25 m26 m27 m28 m29 m30 m31 m32 m33 m34 lf wg o od h) (hx0 : (xs (0 + 1 : Int32).toNatClampNeg) = 3)  (hF : 3 ≤ F) (hL : 64 ≤ L) (hbc : 0 ≤ bc) (hbs : 0 ≤ bs) :
    xw G m_Law_law F L bc bs (fun v _ => v = some (.int 1)) (fun _ _ => False) 1089 [some (.ref b), some (.ref x), some (.ref m), some (.ref o), some (.ref od), some (.int 0), none, none, none] [] h := by
  obtain ⟨KC, KM, eo, eod, hD, hoC, hoM, hw0, hw1, hlf, hg0, hg1⟩ := hA
  refine s_Law_law_1089 hX (by unfold vp_in; decide) ?_
  rw [hx0]
  have sC : ∀ a ∈ [], a ∈ CLs x d tx w st s1 s2 s3 s4 sv v1 v2 v3 v4 qo t tl ts pa na po k1 k2 k3 so ao o1 o2 o3 o4 x0 l0 z0 x1 l1 z1 := (fun _ h => nomatch h)
  refine x_callSH (As := [.ref x, .int 3, .ref o]) (rest := []) (F1 := 2) (L1 := 41) (mc := 0) (ms := 0) d_Law_law_1097 cH_Law_152 (hl_count_3 (KC.at 0 rfl rfl) (KC.at 4 rfl rfl) eo (fun z => hoC (sC o z)) (by omega) (by omega)) ⟨by omega, by show 8 + (4 + 11) + 41 ≤ _; omega⟩ ⟨by omega, by omega⟩ (Nat.le_of_ble_eq_true rfl) (fun v_6 h_5 p_7 => ?_)
  obtain ⟨rfl, fr_1, f_2, hf_3, e_4⟩ := p_7
  have KM1 := KM.fr fr_1 (fun a ha hb => (List.mem_cons.mp hb).elim (fun z => hoM (by rw [← z]; exact ha)) (fun z => hD a ha (sC a z)))
  have e_m : h_5 m = some (.inr (11, mfs m0 m1 m2 m3 m4 m5 m6 m7 m8 m9 m10 m11 m12 m13 m14 m15 m16 m17 m18 m19 m20 m21 m22 m23 m24 m25 m26 m27 m28 m29 m30 m31 m32 m33 m34)) := KM1.at 0 rfl rfl
  refine s_Law_law_1100 hX (by unfold vp_in; decide) ?_
  rw [hx0]
  refine x_callV (As := [.int 3]) (b := m) (rest := []) (F1 := 2) (L1 := 42) (mc := 0) (ms := 0) d_Law_law_1109 cV_Law_154 (fm_count_3 (by rfl) e_m (by rfl) (by rfl) (by omega) (by omega)) e_m ⟨by decide, rfl⟩ ⟨by omega, by show 8 + (2 + 11) + 42 ≤ _; omega⟩ ⟨by omega, by omega⟩ (Nat.le_of_ble_eq_true rfl) (fun v_14 h_13 p_15 => ?_)
  obtain ⟨rfl, ⟨fs_8, l_9, e_10, g_11⟩, fr_12⟩ := p_15
  have sA : ∀ a ∈ [m], a ∈ MLs m m0 m1 m2 m3 m4 m5 m6 m7 m8 m9 m10 m11 m12 m13 m14 m15 m16 m17 m18 m19 m20 m21 m22 m23 m24 m25 m26 m27 m28 m29 m30 m31 m32 m33 m34 := (List.forall_mem_cons.mpr ⟨List.mem_of_getElem? (i := 0) rfl, (fun _ h => nomatch h)⟩)
  have e_16 := fr_12 o _ (fun z => hoM (sA o z)) e_4
  refine s_Law_law_1112 ?_
  refine x_callV (As := []) (b := m) (rest := []) (F1 := 1) (L1 := 20) (mc := 0) (ms := 0) d_Law_law_1115 cV_Law_84 (f_thrown l_9 e_10 g_11 (by omega) (by omega)) e_10 ⟨by decide, rfl⟩ ⟨by omega, by show 8 + (1 + 11) + 20 ≤ _; omega⟩ ⟨by omega, by omega⟩ (Nat.le_of_ble_eq_true rfl) (fun v_18 h_17 p_19 => ?_)
  obtain ⟨rfl, rfl⟩ := p_19
  refine s_Law_law_1118 (fun z_20 => ?_) (fun z => absurd z (by decide))
  refine s_Law_law_1125 (fun z => absurd z (by decide)) (fun z_21 => ?_)
  refine s_Law_law_1130 e_16 (by unfold vp_in; decide) (fun z_22 => ?_) (fun z => absurd (lgc hf_3) z)
  refine s_Law_law_1142 ?_
  exact law_tail hX
set_option maxHeartbeats 2000000 in
theorem lc_count_4 {G : xw_G} {F L bc bs b : Nat} {xs : Nat → Int32} {x d tx w st s1 s2 s3 s4 sv v1 v2 v3 v4 qo t tl ts pa na po k1 k2 k3 so ao o1 o2 o3 o4 x0 l0 z0 x1 l1 z1 : Nat} {wf : Nat → Int32} {m m0 m1 m2 m3 m4 m5 m6 m7 m8 m9 m10 m11 m12 m13 m14 m15 m16 m17 m18 m19 m20 m21 m22 m23 m24 m25 m26 m27 m28 m29 m30 m31 m32 m33 m34 : Nat} {lf wg : Nat → Int32} {o od : Nat} {h : xw_A}  (hX : va_X b 3 xs G.2.2.1 G.2.2.1.heap) (hA : FrA x d tx w st s1 s2 s3 s4 sv v1 v2 v3 v4 qo t tl ts pa na po k1 k2 k3 so ao o1 o2 o3 o4 x0 l0 z0 x1 l1 z1 wf m m0 m1 m2 m3 m4 m5 m6 m7 m8 m9 m10 m11 m12 m13 m14 m15 m16 m17 m18 m19 m20 m21 m22 m23 m24 m25 m26 m27 m28 m29 m30 m31 m32 m33 m34 lf wg o od h) (hx0 : (xs (0 + 1 : Int32).toNatClampNeg) = 4)  (hF : 3 ≤ F) (hL : 64 ≤ L) (hbc : 0 ≤ bc) (hbs : 0 ≤ bs) :
    xw G m_Law_law F L bc bs (fun v _ => v = some (.int 1)) (fun _ _ => False) 1089 [some (.ref b), some (.ref x), some (.ref m), some (.ref o), some (.ref od), some (.int 0), none, none, none] [] h := by
  obtain ⟨KC, KM, eo, eod, hD, hoC, hoM, hw0, hw1, hlf, hg0, hg1⟩ := hA
  refine s_Law_law_1089 hX (by unfold vp_in; decide) ?_
  rw [hx0]
  have sC : ∀ a ∈ [], a ∈ CLs x d tx w st s1 s2 s3 s4 sv v1 v2 v3 v4 qo t tl ts pa na po k1 k2 k3 so ao o1 o2 o3 o4 x0 l0 z0 x1 l1 z1 := (fun _ h => nomatch h)
  refine x_callSH (As := [.ref x, .int 4, .ref o]) (rest := []) (F1 := 2) (L1 := 41) (mc := 0) (ms := 0) d_Law_law_1097 cH_Law_152 (hl_count_4 (KC.at 0 rfl rfl) (KC.at 4 rfl rfl) eo (fun z => hoC (sC o z)) (by omega) (by omega)) ⟨by omega, by show 8 + (4 + 11) + 41 ≤ _; omega⟩ ⟨by omega, by omega⟩ (Nat.le_of_ble_eq_true rfl) (fun v_6 h_5 p_7 => ?_)
  obtain ⟨rfl, fr_1, f_2, hf_3, e_4⟩ := p_7
  have KM1 := KM.fr fr_1 (fun a ha hb => (List.mem_cons.mp hb).elim (fun z => hoM (by rw [← z]; exact ha)) (fun z => hD a ha (sC a z)))
  have e_m : h_5 m = some (.inr (11, mfs m0 m1 m2 m3 m4 m5 m6 m7 m8 m9 m10 m11 m12 m13 m14 m15 m16 m17 m18 m19 m20 m21 m22 m23 m24 m25 m26 m27 m28 m29 m30 m31 m32 m33 m34)) := KM1.at 0 rfl rfl
  refine s_Law_law_1100 hX (by unfold vp_in; decide) ?_
  rw [hx0]
  refine x_callV (As := [.int 4]) (b := m) (rest := []) (F1 := 2) (L1 := 42) (mc := 0) (ms := 0) d_Law_law_1109 cV_Law_154 (fm_count_4 (by rfl) e_m (by rfl) (by rfl) (by omega) (by omega)) e_m ⟨by decide, rfl⟩ ⟨by omega, by show 8 + (2 + 11) + 42 ≤ _; omega⟩ ⟨by omega, by omega⟩ (Nat.le_of_ble_eq_true rfl) (fun v_14 h_13 p_15 => ?_)
  obtain ⟨rfl, ⟨fs_8, l_9, e_10, g_11⟩, fr_12⟩ := p_15
  have sA : ∀ a ∈ [m], a ∈ MLs m m0 m1 m2 m3 m4 m5 m6 m7 m8 m9 m10 m11 m12 m13 m14 m15 m16 m17 m18 m19 m20 m21 m22 m23 m24 m25 m26 m27 m28 m29 m30 m31 m32 m33 m34 := (List.forall_mem_cons.mpr ⟨List.mem_of_getElem? (i := 0) rfl, (fun _ h => nomatch h)⟩)
  have e_16 := fr_12 o _ (fun z => hoM (sA o z)) e_4
  refine s_Law_law_1112 ?_
  refine x_callV (As := []) (b := m) (rest := []) (F1 := 1) (L1 := 20) (mc := 0) (ms := 0) d_Law_law_1115 cV_Law_84 (f_thrown l_9 e_10 g_11 (by omega) (by omega)) e_10 ⟨by decide, rfl⟩ ⟨by omega, by show 8 + (1 + 11) + 20 ≤ _; omega⟩ ⟨by omega, by omega⟩ (Nat.le_of_ble_eq_true rfl) (fun v_18 h_17 p_19 => ?_)
  obtain ⟨rfl, rfl⟩ := p_19
  refine s_Law_law_1118 (fun z_20 => ?_) (fun z => absurd z (by decide))
  refine s_Law_law_1125 (fun z => absurd z (by decide)) (fun z_21 => ?_)
  refine s_Law_law_1130 e_16 (by unfold vp_in; decide) (fun z_22 => ?_) (fun z => absurd (lgc hf_3) z)
  refine s_Law_law_1142 ?_
  exact law_tail hX
set_option maxHeartbeats 2000000 in
theorem lc_count_5 {G : xw_G} {F L bc bs b : Nat} {xs : Nat → Int32} {x d tx w st s1 s2 s3 s4 sv v1 v2 v3 v4 qo t tl ts pa na po k1 k2 k3 so ao o1 o2 o3 o4 x0 l0 z0 x1 l1 z1 : Nat} {wf : Nat → Int32} {m m0 m1 m2 m3 m4 m5 m6 m7 m8 m9 m10 m11 m12 m13 m14 m15 m16 m17 m18 m19 m20 m21 m22 m23 m24 m25 m26 m27 m28 m29 m30 m31 m32 m33 m34 : Nat} {lf wg : Nat → Int32} {o od : Nat} {h : xw_A}  (hX : va_X b 3 xs G.2.2.1 G.2.2.1.heap) (hA : FrA x d tx w st s1 s2 s3 s4 sv v1 v2 v3 v4 qo t tl ts pa na po k1 k2 k3 so ao o1 o2 o3 o4 x0 l0 z0 x1 l1 z1 wf m m0 m1 m2 m3 m4 m5 m6 m7 m8 m9 m10 m11 m12 m13 m14 m15 m16 m17 m18 m19 m20 m21 m22 m23 m24 m25 m26 m27 m28 m29 m30 m31 m32 m33 m34 lf wg o od h) (hx0 : (xs (0 + 1 : Int32).toNatClampNeg) = 5)  (hF : 3 ≤ F) (hL : 64 ≤ L) (hbc : 0 ≤ bc) (hbs : 0 ≤ bs) :
    xw G m_Law_law F L bc bs (fun v _ => v = some (.int 1)) (fun _ _ => False) 1089 [some (.ref b), some (.ref x), some (.ref m), some (.ref o), some (.ref od), some (.int 0), none, none, none] [] h := by
  obtain ⟨KC, KM, eo, eod, hD, hoC, hoM, hw0, hw1, hlf, hg0, hg1⟩ := hA
  refine s_Law_law_1089 hX (by unfold vp_in; decide) ?_
  rw [hx0]
  have sC : ∀ a ∈ [], a ∈ CLs x d tx w st s1 s2 s3 s4 sv v1 v2 v3 v4 qo t tl ts pa na po k1 k2 k3 so ao o1 o2 o3 o4 x0 l0 z0 x1 l1 z1 := (fun _ h => nomatch h)
  refine x_callSH (As := [.ref x, .int 5, .ref o]) (rest := []) (F1 := 2) (L1 := 41) (mc := 0) (ms := 0) d_Law_law_1097 cH_Law_152 (hl_count_5 (KC.at 0 rfl rfl) (KC.at 20 rfl rfl) eo (fun z => hoC (sC o z)) (by omega) (by omega)) ⟨by omega, by show 8 + (4 + 11) + 41 ≤ _; omega⟩ ⟨by omega, by omega⟩ (Nat.le_of_ble_eq_true rfl) (fun v_6 h_5 p_7 => ?_)
  obtain ⟨rfl, fr_1, f_2, hf_3, e_4⟩ := p_7
  have KM1 := KM.fr fr_1 (fun a ha hb => (List.mem_cons.mp hb).elim (fun z => hoM (by rw [← z]; exact ha)) (fun z => hD a ha (sC a z)))
  have e_m : h_5 m = some (.inr (11, mfs m0 m1 m2 m3 m4 m5 m6 m7 m8 m9 m10 m11 m12 m13 m14 m15 m16 m17 m18 m19 m20 m21 m22 m23 m24 m25 m26 m27 m28 m29 m30 m31 m32 m33 m34)) := KM1.at 0 rfl rfl
  refine s_Law_law_1100 hX (by unfold vp_in; decide) ?_
  rw [hx0]
  refine x_callV (As := [.int 5]) (b := m) (rest := []) (F1 := 2) (L1 := 42) (mc := 0) (ms := 0) d_Law_law_1109 cV_Law_154 (fm_count_5 (by rfl) e_m (by rfl) (by rfl) (by omega) (by omega)) e_m ⟨by decide, rfl⟩ ⟨by omega, by show 8 + (2 + 11) + 42 ≤ _; omega⟩ ⟨by omega, by omega⟩ (Nat.le_of_ble_eq_true rfl) (fun v_14 h_13 p_15 => ?_)
  obtain ⟨rfl, ⟨fs_8, l_9, e_10, g_11⟩, fr_12⟩ := p_15
  have sA : ∀ a ∈ [m], a ∈ MLs m m0 m1 m2 m3 m4 m5 m6 m7 m8 m9 m10 m11 m12 m13 m14 m15 m16 m17 m18 m19 m20 m21 m22 m23 m24 m25 m26 m27 m28 m29 m30 m31 m32 m33 m34 := (List.forall_mem_cons.mpr ⟨List.mem_of_getElem? (i := 0) rfl, (fun _ h => nomatch h)⟩)
  have e_16 := fr_12 o _ (fun z => hoM (sA o z)) e_4
  refine s_Law_law_1112 ?_
  refine x_callV (As := []) (b := m) (rest := []) (F1 := 1) (L1 := 20) (mc := 0) (ms := 0) d_Law_law_1115 cV_Law_84 (f_thrown l_9 e_10 g_11 (by omega) (by omega)) e_10 ⟨by decide, rfl⟩ ⟨by omega, by show 8 + (1 + 11) + 20 ≤ _; omega⟩ ⟨by omega, by omega⟩ (Nat.le_of_ble_eq_true rfl) (fun v_18 h_17 p_19 => ?_)
  obtain ⟨rfl, rfl⟩ := p_19
  refine s_Law_law_1118 (fun z_20 => ?_) (fun z => absurd z (by decide))
  refine s_Law_law_1125 (fun z => absurd z (by decide)) (fun z_21 => ?_)
  refine s_Law_law_1130 e_16 (by unfold vp_in; decide) (fun z_22 => ?_) (fun z => absurd (lgc hf_3) z)
  refine s_Law_law_1142 ?_
  exact law_tail hX
set_option maxHeartbeats 2000000 in
theorem lc_count_6 {G : xw_G} {F L bc bs b : Nat} {xs : Nat → Int32} {x d tx w st s1 s2 s3 s4 sv v1 v2 v3 v4 qo t tl ts pa na po k1 k2 k3 so ao o1 o2 o3 o4 x0 l0 z0 x1 l1 z1 : Nat} {wf : Nat → Int32} {m m0 m1 m2 m3 m4 m5 m6 m7 m8 m9 m10 m11 m12 m13 m14 m15 m16 m17 m18 m19 m20 m21 m22 m23 m24 m25 m26 m27 m28 m29 m30 m31 m32 m33 m34 : Nat} {lf wg : Nat → Int32} {o od : Nat} {h : xw_A}  (hX : va_X b 3 xs G.2.2.1 G.2.2.1.heap) (hA : FrA x d tx w st s1 s2 s3 s4 sv v1 v2 v3 v4 qo t tl ts pa na po k1 k2 k3 so ao o1 o2 o3 o4 x0 l0 z0 x1 l1 z1 wf m m0 m1 m2 m3 m4 m5 m6 m7 m8 m9 m10 m11 m12 m13 m14 m15 m16 m17 m18 m19 m20 m21 m22 m23 m24 m25 m26 m27 m28 m29 m30 m31 m32 m33 m34 lf wg o od h) (hx0 : (xs (0 + 1 : Int32).toNatClampNeg) = 6)  (hF : 3 ≤ F) (hL : 64 ≤ L) (hbc : 0 ≤ bc) (hbs : 0 ≤ bs) :
    xw G m_Law_law F L bc bs (fun v _ => v = some (.int 1)) (fun _ _ => False) 1089 [some (.ref b), some (.ref x), some (.ref m), some (.ref o), some (.ref od), some (.int 0), none, none, none] [] h := by
  obtain ⟨KC, KM, eo, eod, hD, hoC, hoM, hw0, hw1, hlf, hg0, hg1⟩ := hA
  refine s_Law_law_1089 hX (by unfold vp_in; decide) ?_
  rw [hx0]
  have sC : ∀ a ∈ [], a ∈ CLs x d tx w st s1 s2 s3 s4 sv v1 v2 v3 v4 qo t tl ts pa na po k1 k2 k3 so ao o1 o2 o3 o4 x0 l0 z0 x1 l1 z1 := (fun _ h => nomatch h)
  refine x_callSH (As := [.ref x, .int 6, .ref o]) (rest := []) (F1 := 2) (L1 := 41) (mc := 0) (ms := 0) d_Law_law_1097 cH_Law_152 (hl_count_6 (KC.at 0 rfl rfl) eo (fun z => hoC (sC o z)) (by omega) (by omega)) ⟨by omega, by show 8 + (4 + 11) + 41 ≤ _; omega⟩ ⟨by omega, by omega⟩ (Nat.le_of_ble_eq_true rfl) (fun v_6 h_5 p_7 => ?_)
  obtain ⟨rfl, fr_1, f_2, hf_3, e_4⟩ := p_7
  have KM1 := KM.fr fr_1 (fun a ha hb => (List.mem_cons.mp hb).elim (fun z => hoM (by rw [← z]; exact ha)) (fun z => hD a ha (sC a z)))
  have e_m : h_5 m = some (.inr (11, mfs m0 m1 m2 m3 m4 m5 m6 m7 m8 m9 m10 m11 m12 m13 m14 m15 m16 m17 m18 m19 m20 m21 m22 m23 m24 m25 m26 m27 m28 m29 m30 m31 m32 m33 m34)) := KM1.at 0 rfl rfl
  refine s_Law_law_1100 hX (by unfold vp_in; decide) ?_
  rw [hx0]
  refine x_callV (As := [.int 6]) (b := m) (rest := []) (F1 := 2) (L1 := 42) (mc := 0) (ms := 0) d_Law_law_1109 cV_Law_154 (fm_count_6 (by rfl) e_m (by rfl) (by rfl) (by omega) (by omega)) e_m ⟨by decide, rfl⟩ ⟨by omega, by show 8 + (2 + 11) + 42 ≤ _; omega⟩ ⟨by omega, by omega⟩ (Nat.le_of_ble_eq_true rfl) (fun v_14 h_13 p_15 => ?_)
  obtain ⟨rfl, ⟨fs_8, l_9, e_10, g_11⟩, fr_12⟩ := p_15
  have sA : ∀ a ∈ [m], a ∈ MLs m m0 m1 m2 m3 m4 m5 m6 m7 m8 m9 m10 m11 m12 m13 m14 m15 m16 m17 m18 m19 m20 m21 m22 m23 m24 m25 m26 m27 m28 m29 m30 m31 m32 m33 m34 := (List.forall_mem_cons.mpr ⟨List.mem_of_getElem? (i := 0) rfl, (fun _ h => nomatch h)⟩)
  have e_16 := fr_12 o _ (fun z => hoM (sA o z)) e_4
  refine s_Law_law_1112 ?_
  refine x_callV (As := []) (b := m) (rest := []) (F1 := 1) (L1 := 20) (mc := 0) (ms := 0) d_Law_law_1115 cV_Law_84 (f_thrown l_9 e_10 g_11 (by omega) (by omega)) e_10 ⟨by decide, rfl⟩ ⟨by omega, by show 8 + (1 + 11) + 20 ≤ _; omega⟩ ⟨by omega, by omega⟩ (Nat.le_of_ble_eq_true rfl) (fun v_18 h_17 p_19 => ?_)
  obtain ⟨rfl, rfl⟩ := p_19
  refine s_Law_law_1118 (fun z_20 => ?_) (fun z => absurd z (by decide))
  refine s_Law_law_1125 (fun z => absurd z (by decide)) (fun z_21 => ?_)
  refine s_Law_law_1130 e_16 (by unfold vp_in; decide) (fun z_22 => ?_) (fun z => absurd (lgc hf_3) z)
  refine s_Law_law_1142 ?_
  exact law_tail hX
set_option maxHeartbeats 2000000 in
theorem lc_count_7 {G : xw_G} {F L bc bs b : Nat} {xs : Nat → Int32} {x d tx w st s1 s2 s3 s4 sv v1 v2 v3 v4 qo t tl ts pa na po k1 k2 k3 so ao o1 o2 o3 o4 x0 l0 z0 x1 l1 z1 : Nat} {wf : Nat → Int32} {m m0 m1 m2 m3 m4 m5 m6 m7 m8 m9 m10 m11 m12 m13 m14 m15 m16 m17 m18 m19 m20 m21 m22 m23 m24 m25 m26 m27 m28 m29 m30 m31 m32 m33 m34 : Nat} {lf wg : Nat → Int32} {o od : Nat} {h : xw_A}  (hX : va_X b 3 xs G.2.2.1 G.2.2.1.heap) (hA : FrA x d tx w st s1 s2 s3 s4 sv v1 v2 v3 v4 qo t tl ts pa na po k1 k2 k3 so ao o1 o2 o3 o4 x0 l0 z0 x1 l1 z1 wf m m0 m1 m2 m3 m4 m5 m6 m7 m8 m9 m10 m11 m12 m13 m14 m15 m16 m17 m18 m19 m20 m21 m22 m23 m24 m25 m26 m27 m28 m29 m30 m31 m32 m33 m34 lf wg o od h) (hx0 : (xs (0 + 1 : Int32).toNatClampNeg) = 7)  (hF : 3 ≤ F) (hL : 64 ≤ L) (hbc : 0 ≤ bc) (hbs : 0 ≤ bs) :
    xw G m_Law_law F L bc bs (fun v _ => v = some (.int 1)) (fun _ _ => False) 1089 [some (.ref b), some (.ref x), some (.ref m), some (.ref o), some (.ref od), some (.int 0), none, none, none] [] h := by
  obtain ⟨KC, KM, eo, eod, hD, hoC, hoM, hw0, hw1, hlf, hg0, hg1⟩ := hA
  refine s_Law_law_1089 hX (by unfold vp_in; decide) ?_
  rw [hx0]
  have sC : ∀ a ∈ [], a ∈ CLs x d tx w st s1 s2 s3 s4 sv v1 v2 v3 v4 qo t tl ts pa na po k1 k2 k3 so ao o1 o2 o3 o4 x0 l0 z0 x1 l1 z1 := (fun _ h => nomatch h)
  refine x_callSH (As := [.ref x, .int 7, .ref o]) (rest := []) (F1 := 2) (L1 := 41) (mc := 0) (ms := 0) d_Law_law_1097 cH_Law_152 (hl_count_7 (KC.at 0 rfl rfl) eo (fun z => hoC (sC o z)) (by omega) (by omega)) ⟨by omega, by show 8 + (4 + 11) + 41 ≤ _; omega⟩ ⟨by omega, by omega⟩ (Nat.le_of_ble_eq_true rfl) (fun v_6 h_5 p_7 => ?_)
  obtain ⟨rfl, fr_1, f_2, hf_3, e_4⟩ := p_7
  have KM1 := KM.fr fr_1 (fun a ha hb => (List.mem_cons.mp hb).elim (fun z => hoM (by rw [← z]; exact ha)) (fun z => hD a ha (sC a z)))
  have e_m : h_5 m = some (.inr (11, mfs m0 m1 m2 m3 m4 m5 m6 m7 m8 m9 m10 m11 m12 m13 m14 m15 m16 m17 m18 m19 m20 m21 m22 m23 m24 m25 m26 m27 m28 m29 m30 m31 m32 m33 m34)) := KM1.at 0 rfl rfl
  refine s_Law_law_1100 hX (by unfold vp_in; decide) ?_
  rw [hx0]
  refine x_callV (As := [.int 7]) (b := m) (rest := []) (F1 := 2) (L1 := 42) (mc := 0) (ms := 0) d_Law_law_1109 cV_Law_154 (fm_count_7 (by rfl) e_m (by rfl) (by rfl) (by omega) (by omega)) e_m ⟨by decide, rfl⟩ ⟨by omega, by show 8 + (2 + 11) + 42 ≤ _; omega⟩ ⟨by omega, by omega⟩ (Nat.le_of_ble_eq_true rfl) (fun v_14 h_13 p_15 => ?_)
  obtain ⟨rfl, ⟨fs_8, l_9, e_10, g_11⟩, fr_12⟩ := p_15
  have sA : ∀ a ∈ [m], a ∈ MLs m m0 m1 m2 m3 m4 m5 m6 m7 m8 m9 m10 m11 m12 m13 m14 m15 m16 m17 m18 m19 m20 m21 m22 m23 m24 m25 m26 m27 m28 m29 m30 m31 m32 m33 m34 := (List.forall_mem_cons.mpr ⟨List.mem_of_getElem? (i := 0) rfl, (fun _ h => nomatch h)⟩)
  have e_16 := fr_12 o _ (fun z => hoM (sA o z)) e_4
  refine s_Law_law_1112 ?_
  refine x_callV (As := []) (b := m) (rest := []) (F1 := 1) (L1 := 20) (mc := 0) (ms := 0) d_Law_law_1115 cV_Law_84 (f_thrown l_9 e_10 g_11 (by omega) (by omega)) e_10 ⟨by decide, rfl⟩ ⟨by omega, by show 8 + (1 + 11) + 20 ≤ _; omega⟩ ⟨by omega, by omega⟩ (Nat.le_of_ble_eq_true rfl) (fun v_18 h_17 p_19 => ?_)
  obtain ⟨rfl, rfl⟩ := p_19
  refine s_Law_law_1118 (fun z_20 => ?_) (fun z => absurd z (by decide))
  refine s_Law_law_1125 (fun z => absurd z (by decide)) (fun z_21 => ?_)
  refine s_Law_law_1130 e_16 (by unfold vp_in; decide) (fun z_22 => ?_) (fun z => absurd (lgc hf_3) z)
  refine s_Law_law_1142 ?_
  exact law_tail hX
set_option maxHeartbeats 2000000 in
theorem lc_count_8 {G : xw_G} {F L bc bs b : Nat} {xs : Nat → Int32} {x d tx w st s1 s2 s3 s4 sv v1 v2 v3 v4 qo t tl ts pa na po k1 k2 k3 so ao o1 o2 o3 o4 x0 l0 z0 x1 l1 z1 : Nat} {wf : Nat → Int32} {m m0 m1 m2 m3 m4 m5 m6 m7 m8 m9 m10 m11 m12 m13 m14 m15 m16 m17 m18 m19 m20 m21 m22 m23 m24 m25 m26 m27 m28 m29 m30 m31 m32 m33 m34 : Nat} {lf wg : Nat → Int32} {o od : Nat} {h : xw_A}  (hX : va_X b 3 xs G.2.2.1 G.2.2.1.heap) (hA : FrA x d tx w st s1 s2 s3 s4 sv v1 v2 v3 v4 qo t tl ts pa na po k1 k2 k3 so ao o1 o2 o3 o4 x0 l0 z0 x1 l1 z1 wf m m0 m1 m2 m3 m4 m5 m6 m7 m8 m9 m10 m11 m12 m13 m14 m15 m16 m17 m18 m19 m20 m21 m22 m23 m24 m25 m26 m27 m28 m29 m30 m31 m32 m33 m34 lf wg o od h) (hx0 : (xs (0 + 1 : Int32).toNatClampNeg) = 8)  (hF : 3 ≤ F) (hL : 64 ≤ L) (hbc : 0 ≤ bc) (hbs : 0 ≤ bs) :
    xw G m_Law_law F L bc bs (fun v _ => v = some (.int 1)) (fun _ _ => False) 1089 [some (.ref b), some (.ref x), some (.ref m), some (.ref o), some (.ref od), some (.int 0), none, none, none] [] h := by
  obtain ⟨KC, KM, eo, eod, hD, hoC, hoM, hw0, hw1, hlf, hg0, hg1⟩ := hA
  refine s_Law_law_1089 hX (by unfold vp_in; decide) ?_
  rw [hx0]
  have sC : ∀ a ∈ [], a ∈ CLs x d tx w st s1 s2 s3 s4 sv v1 v2 v3 v4 qo t tl ts pa na po k1 k2 k3 so ao o1 o2 o3 o4 x0 l0 z0 x1 l1 z1 := (fun _ h => nomatch h)
  refine x_callSH (As := [.ref x, .int 8, .ref o]) (rest := []) (F1 := 2) (L1 := 41) (mc := 0) (ms := 0) d_Law_law_1097 cH_Law_152 (hl_count_8 (KC.at 0 rfl rfl) eo (fun z => hoC (sC o z)) (by omega) (by omega)) ⟨by omega, by show 8 + (4 + 11) + 41 ≤ _; omega⟩ ⟨by omega, by omega⟩ (Nat.le_of_ble_eq_true rfl) (fun v_6 h_5 p_7 => ?_)
  obtain ⟨rfl, fr_1, f_2, hf_3, e_4⟩ := p_7
  have KM1 := KM.fr fr_1 (fun a ha hb => (List.mem_cons.mp hb).elim (fun z => hoM (by rw [← z]; exact ha)) (fun z => hD a ha (sC a z)))
  have e_m : h_5 m = some (.inr (11, mfs m0 m1 m2 m3 m4 m5 m6 m7 m8 m9 m10 m11 m12 m13 m14 m15 m16 m17 m18 m19 m20 m21 m22 m23 m24 m25 m26 m27 m28 m29 m30 m31 m32 m33 m34)) := KM1.at 0 rfl rfl
  refine s_Law_law_1100 hX (by unfold vp_in; decide) ?_
  rw [hx0]
  refine x_callV (As := [.int 8]) (b := m) (rest := []) (F1 := 2) (L1 := 42) (mc := 0) (ms := 0) d_Law_law_1109 cV_Law_154 (fm_count_8 (by rfl) e_m (by rfl) (by rfl) (by omega) (by omega)) e_m ⟨by decide, rfl⟩ ⟨by omega, by show 8 + (2 + 11) + 42 ≤ _; omega⟩ ⟨by omega, by omega⟩ (Nat.le_of_ble_eq_true rfl) (fun v_14 h_13 p_15 => ?_)
  obtain ⟨rfl, ⟨fs_8, l_9, e_10, g_11⟩, fr_12⟩ := p_15
  have sA : ∀ a ∈ [m], a ∈ MLs m m0 m1 m2 m3 m4 m5 m6 m7 m8 m9 m10 m11 m12 m13 m14 m15 m16 m17 m18 m19 m20 m21 m22 m23 m24 m25 m26 m27 m28 m29 m30 m31 m32 m33 m34 := (List.forall_mem_cons.mpr ⟨List.mem_of_getElem? (i := 0) rfl, (fun _ h => nomatch h)⟩)
  have e_16 := fr_12 o _ (fun z => hoM (sA o z)) e_4
  refine s_Law_law_1112 ?_
  refine x_callV (As := []) (b := m) (rest := []) (F1 := 1) (L1 := 20) (mc := 0) (ms := 0) d_Law_law_1115 cV_Law_84 (f_thrown l_9 e_10 g_11 (by omega) (by omega)) e_10 ⟨by decide, rfl⟩ ⟨by omega, by show 8 + (1 + 11) + 20 ≤ _; omega⟩ ⟨by omega, by omega⟩ (Nat.le_of_ble_eq_true rfl) (fun v_18 h_17 p_19 => ?_)
  obtain ⟨rfl, rfl⟩ := p_19
  refine s_Law_law_1118 (fun z_20 => ?_) (fun z => absurd z (by decide))
  refine s_Law_law_1125 (fun z => absurd z (by decide)) (fun z_21 => ?_)
  refine s_Law_law_1130 e_16 (by unfold vp_in; decide) (fun z_22 => ?_) (fun z => absurd (lgc hf_3) z)
  refine s_Law_law_1142 ?_
  exact law_tail hX
set_option maxHeartbeats 2000000 in
theorem lc_count_no {G : xw_G} {F L bc bs b : Nat} {xs : Nat → Int32} {x d tx w st s1 s2 s3 s4 sv v1 v2 v3 v4 qo t tl ts pa na po k1 k2 k3 so ao o1 o2 o3 o4 x0 l0 z0 x1 l1 z1 : Nat} {wf : Nat → Int32} {m m0 m1 m2 m3 m4 m5 m6 m7 m8 m9 m10 m11 m12 m13 m14 m15 m16 m17 m18 m19 m20 m21 m22 m23 m24 m25 m26 m27 m28 m29 m30 m31 m32 m33 m34 : Nat} {lf wg : Nat → Int32} {o od : Nat} {h : xw_A} {a : Int32} (hX : va_X b 3 xs G.2.2.1 G.2.2.1.heap) (hA : FrA x d tx w st s1 s2 s3 s4 sv v1 v2 v3 v4 qo t tl ts pa na po k1 k2 k3 so ao o1 o2 o3 o4 x0 l0 z0 x1 l1 z1 wf m m0 m1 m2 m3 m4 m5 m6 m7 m8 m9 m10 m11 m12 m13 m14 m15 m16 m17 m18 m19 m20 m21 m22 m23 m24 m25 m26 m27 m28 m29 m30 m31 m32 m33 m34 lf wg o od h) (hx0 : (xs (0 + 1 : Int32).toNatClampNeg) = a) (hn : a < 0 ∨ 8 < a) (hF : 8 ≤ F) (hL : 134 ≤ L) (hbc : 1 ≤ bc) (hbs : 6 ≤ bs) :
    xw G m_Law_law F L bc bs (fun v _ => v = some (.int 1)) (fun _ _ => False) 1089 [some (.ref b), some (.ref x), some (.ref m), some (.ref o), some (.ref od), some (.int 0), none, none, none] [] h := by
  obtain ⟨KC, KM, eo, eod, hD, hoC, hoM, hw0, hw1, hlf, hg0, hg1⟩ := hA
  refine s_Law_law_1089 hX (by unfold vp_in; decide) ?_
  rw [hx0]
  have sC : ∀ a ∈ [x], a ∈ CLs x d tx w st s1 s2 s3 s4 sv v1 v2 v3 v4 qo t tl ts pa na po k1 k2 k3 so ao o1 o2 o3 o4 x0 l0 z0 x1 l1 z1 := (List.forall_mem_cons.mpr ⟨List.mem_of_getElem? (i := 0) rfl, (fun _ h => nomatch h)⟩)
  refine x_callSH (As := [.ref x, .int a, .ref o]) (rest := []) (F1 := 7) (L1 := 111) (mc := 1) (ms := 6) d_Law_law_1097 cH_Law_152 (hl_count_no (KC.at 0 rfl rfl) hn (by omega) (by omega)) ⟨by omega, by show 8 + (4 + 11) + 111 ≤ _; omega⟩ ⟨by omega, by omega⟩ (Nat.le_of_ble_eq_true rfl) (fun v_6 h_5 p_7 => ?_)
  obtain ⟨rfl, fr_1⟩ := p_7
  have KM1 := KM.fr fr_1 (fun a ha hb => hD a ha (sC a hb))
  have e_m : h_5 m = some (.inr (11, mfs m0 m1 m2 m3 m4 m5 m6 m7 m8 m9 m10 m11 m12 m13 m14 m15 m16 m17 m18 m19 m20 m21 m22 m23 m24 m25 m26 m27 m28 m29 m30 m31 m32 m33 m34)) := KM1.at 0 rfl rfl
  refine s_Law_law_1100 hX (by unfold vp_in; decide) ?_
  rw [hx0]
  refine x_callV (As := [.int a]) (b := m) (rest := []) (F1 := 2) (L1 := 42) (mc := 0) (ms := 0) d_Law_law_1109 cV_Law_154 (fm_count_no (by rfl) e_m (by rfl) hn (by omega) (by omega)) e_m ⟨by decide, rfl⟩ ⟨by omega, by show 8 + (2 + 11) + 42 ≤ _; omega⟩ ⟨by omega, by omega⟩ (Nat.le_of_ble_eq_true rfl) (fun v_14 h_13 p_15 => ?_)
  obtain ⟨rfl, ⟨fs_8, l_9, e_10, g_11⟩, fr_12⟩ := p_15
  refine s_Law_law_1112 ?_
  refine x_callV (As := []) (b := m) (rest := []) (F1 := 1) (L1 := 20) (mc := 0) (ms := 0) d_Law_law_1115 cV_Law_84 (f_thrown l_9 e_10 g_11 (by omega) (by omega)) e_10 ⟨by decide, rfl⟩ ⟨by omega, by show 8 + (1 + 11) + 20 ≤ _; omega⟩ ⟨by omega, by omega⟩ (Nat.le_of_ble_eq_true rfl) (fun v_17 h_16 p_18 => ?_)
  obtain ⟨rfl, rfl⟩ := p_18
  refine s_Law_law_1118 (fun z_19 => ?_) (fun z => absurd z (by decide))
  refine s_Law_law_1125 (fun z_20 => ?_) (fun z => absurd z (by decide))
  refine s_Law_law_1142 ?_
  exact law_tail hX
set_option maxHeartbeats 2000000 in
theorem lc_drop {G : xw_G} {F L bc bs b : Nat} {xs : Nat → Int32} {x d tx w st s1 s2 s3 s4 sv v1 v2 v3 v4 qo t tl ts pa na po k1 k2 k3 so ao o1 o2 o3 o4 x0 l0 z0 x1 l1 z1 : Nat} {wf : Nat → Int32} {m m0 m1 m2 m3 m4 m5 m6 m7 m8 m9 m10 m11 m12 m13 m14 m15 m16 m17 m18 m19 m20 m21 m22 m23 m24 m25 m26 m27 m28 m29 m30 m31 m32 m33 m34 : Nat} {lf wg : Nat → Int32} {o od : Nat} {h : xw_A}  (hX : va_X b 3 xs G.2.2.1 G.2.2.1.heap) (hA : FrA x d tx w st s1 s2 s3 s4 sv v1 v2 v3 v4 qo t tl ts pa na po k1 k2 k3 so ao o1 o2 o3 o4 x0 l0 z0 x1 l1 z1 wf m m0 m1 m2 m3 m4 m5 m6 m7 m8 m9 m10 m11 m12 m13 m14 m15 m16 m17 m18 m19 m20 m21 m22 m23 m24 m25 m26 m27 m28 m29 m30 m31 m32 m33 m34 lf wg o od h)   (hF : 2 ≤ F) (hL : 41 ≤ L) (hbc : 0 ≤ bc) (hbs : 0 ≤ bs) :
    xw G m_Law_law F L bc bs (fun v _ => v = some (.int 1)) (fun _ _ => False) 228 [some (.ref b), some (.ref x), some (.ref m), some (.ref o), some (.ref od), some (.int 0), none, none, none] [] h := by
  obtain ⟨KC, KM, eo, eod, hD, hoC, hoM, hw0, hw1, hlf, hg0, hg1⟩ := hA
  refine s_Law_law_228 ?_
  have sC : ∀ a ∈ [x], a ∈ CLs x d tx w st s1 s2 s3 s4 sv v1 v2 v3 v4 qo t tl ts pa na po k1 k2 k3 so ao o1 o2 o3 o4 x0 l0 z0 x1 l1 z1 := (List.forall_mem_cons.mpr ⟨List.mem_of_getElem? (i := 0) rfl, (fun _ h => nomatch h)⟩)
  refine x_callV (As := []) (b := x) (rest := []) (F1 := 1) (L1 := 20) (mc := 0) (ms := 0) d_Law_law_229 cV_Law_87 (fc_drop (KC.at 0 rfl rfl) (by omega) (by omega)) (KC.at 0 rfl rfl) ⟨by decide, rfl⟩ ⟨by omega, by show 8 + (2 + 11) + 20 ≤ _; omega⟩ ⟨by omega, by omega⟩ (Nat.le_of_ble_eq_true rfl) (fun v_6 h_5 p_7 => ?_)
  obtain ⟨rfl, fr_1⟩ := p_7
  have KM1 := KM.fr fr_1 (fun a ha hb => hD a ha (sC a hb))
  have e_m : h_5 m = some (.inr (11, mfs m0 m1 m2 m3 m4 m5 m6 m7 m8 m9 m10 m11 m12 m13 m14 m15 m16 m17 m18 m19 m20 m21 m22 m23 m24 m25 m26 m27 m28 m29 m30 m31 m32 m33 m34)) := KM1.at 0 rfl rfl
  refine s_Law_law_232 ?_
  refine x_callV (As := []) (b := m) (rest := [.int 0]) (F1 := 1) (L1 := 20) (mc := 0) (ms := 0) d_Law_law_233 cV_Law_90 (fm_drop (by rfl) e_m (by rfl) (by rfl) (by omega) (by omega)) e_m ⟨by decide, rfl⟩ ⟨by omega, by show 8 + (2 + 11) + 20 ≤ _; omega⟩ ⟨by omega, by omega⟩ (Nat.le_of_ble_eq_true rfl) (fun v_14 h_13 p_15 => ?_)
  obtain ⟨rfl, ⟨fs_8, l_9, e_10, g_11⟩, fr_12⟩ := p_15
  refine s_Law_law_236 (fun z_16 => ?_) (fun z => absurd z (by decide))
  exact law_tail hX
set_option maxHeartbeats 2000000 in
theorem lc_flush {G : xw_G} {F L bc bs b : Nat} {xs : Nat → Int32} {x d tx w st s1 s2 s3 s4 sv v1 v2 v3 v4 qo t tl ts pa na po k1 k2 k3 so ao o1 o2 o3 o4 x0 l0 z0 x1 l1 z1 : Nat} {wf : Nat → Int32} {m m0 m1 m2 m3 m4 m5 m6 m7 m8 m9 m10 m11 m12 m13 m14 m15 m16 m17 m18 m19 m20 m21 m22 m23 m24 m25 m26 m27 m28 m29 m30 m31 m32 m33 m34 : Nat} {lf wg : Nat → Int32} {o od : Nat} {h : xw_A}  (hX : va_X b 3 xs G.2.2.1 G.2.2.1.heap) (hA : FrA x d tx w st s1 s2 s3 s4 sv v1 v2 v3 v4 qo t tl ts pa na po k1 k2 k3 so ao o1 o2 o3 o4 x0 l0 z0 x1 l1 z1 wf m m0 m1 m2 m3 m4 m5 m6 m7 m8 m9 m10 m11 m12 m13 m14 m15 m16 m17 m18 m19 m20 m21 m22 m23 m24 m25 m26 m27 m28 m29 m30 m31 m32 m33 m34 lf wg o od h)   (hF : 4 ≤ F) (hL : 90 ≤ L) (hbc : 0 ≤ bc) (hbs : 0 ≤ bs) :
    xw G m_Law_law F L bc bs (fun v _ => v = some (.int 1)) (fun _ _ => False) 565 [some (.ref b), some (.ref x), some (.ref m), some (.ref o), some (.ref od), some (.int 0), none, none, none] [] h := by
  obtain ⟨KC, KM, eo, eod, hD, hoC, hoM, hw0, hw1, hlf, hg0, hg1⟩ := hA
  refine s_Law_law_565 ?_
  have sC : ∀ a ∈ [st], a ∈ CLs x d tx w st s1 s2 s3 s4 sv v1 v2 v3 v4 qo t tl ts pa na po k1 k2 k3 so ao o1 o2 o3 o4 x0 l0 z0 x1 l1 z1 := (List.forall_mem_cons.mpr ⟨List.mem_of_getElem? (i := 4) rfl, (fun _ h => nomatch h)⟩)
  refine x_callV (As := []) (b := x) (rest := []) (F1 := 3) (L1 := 65) (mc := 0) (ms := 0) d_Law_law_566 cV_Law_115 (fc_flush (KC.at 0 rfl rfl) (KC.at 4 rfl rfl) (by omega) (by omega)) (KC.at 0 rfl rfl) ⟨by decide, rfl⟩ ⟨by omega, by show 8 + (1 + 11) + 65 ≤ _; omega⟩ ⟨by omega, by omega⟩ (Nat.le_of_ble_eq_true rfl) (fun v_6 h_5 p_7 => ?_)
  obtain ⟨rfl, fr_1⟩ := p_7
  have KM1 := KM.fr fr_1 (fun a ha hb => hD a ha (sC a hb))
  have e_m : h_5 m = some (.inr (11, mfs m0 m1 m2 m3 m4 m5 m6 m7 m8 m9 m10 m11 m12 m13 m14 m15 m16 m17 m18 m19 m20 m21 m22 m23 m24 m25 m26 m27 m28 m29 m30 m31 m32 m33 m34)) := KM1.at 0 rfl rfl
  refine s_Law_law_569 ?_
  refine x_callV (As := []) (b := m) (rest := [.int 0]) (F1 := 3) (L1 := 70) (mc := 0) (ms := 0) d_Law_law_570 cV_Law_118 (fm_flush (by rfl) e_m (by rfl) (by rfl) (by rfl) (by rfl) (by rfl) (by omega) (by omega)) e_m ⟨by decide, rfl⟩ ⟨by omega, by show 8 + (1 + 11) + 70 ≤ _; omega⟩ ⟨by omega, by omega⟩ (Nat.le_of_ble_eq_true rfl) (fun v_14 h_13 p_15 => ?_)
  obtain ⟨rfl, ⟨fs_8, l_9, e_10, g_11⟩, fr_12⟩ := p_15
  refine s_Law_law_573 (fun z_16 => ?_) (fun z => absurd z (by decide))
  exact law_tail hX
set_option maxHeartbeats 2000000 in
theorem lc_optimize {G : xw_G} {F L bc bs b : Nat} {xs : Nat → Int32} {x d tx w st s1 s2 s3 s4 sv v1 v2 v3 v4 qo t tl ts pa na po k1 k2 k3 so ao o1 o2 o3 o4 x0 l0 z0 x1 l1 z1 : Nat} {wf : Nat → Int32} {m m0 m1 m2 m3 m4 m5 m6 m7 m8 m9 m10 m11 m12 m13 m14 m15 m16 m17 m18 m19 m20 m21 m22 m23 m24 m25 m26 m27 m28 m29 m30 m31 m32 m33 m34 : Nat} {lf wg : Nat → Int32} {o od : Nat} {h : xw_A}  (hX : va_X b 3 xs G.2.2.1 G.2.2.1.heap) (hA : FrA x d tx w st s1 s2 s3 s4 sv v1 v2 v3 v4 qo t tl ts pa na po k1 k2 k3 so ao o1 o2 o3 o4 x0 l0 z0 x1 l1 z1 wf m m0 m1 m2 m3 m4 m5 m6 m7 m8 m9 m10 m11 m12 m13 m14 m15 m16 m17 m18 m19 m20 m21 m22 m23 m24 m25 m26 m27 m28 m29 m30 m31 m32 m33 m34 lf wg o od h)   (hF : 5 ≤ F) (hL : 110 ≤ L) (hbc : 0 ≤ bc) (hbs : 0 ≤ bs) :
    xw G m_Law_law F L bc bs (fun v _ => v = some (.int 1)) (fun _ _ => False) 578 [some (.ref b), some (.ref x), some (.ref m), some (.ref o), some (.ref od), some (.int 0), none, none, none] [] h := by
  obtain ⟨KC, KM, eo, eod, hD, hoC, hoM, hw0, hw1, hlf, hg0, hg1⟩ := hA
  refine s_Law_law_578 ?_
  have sC : ∀ a ∈ [st], a ∈ CLs x d tx w st s1 s2 s3 s4 sv v1 v2 v3 v4 qo t tl ts pa na po k1 k2 k3 so ao o1 o2 o3 o4 x0 l0 z0 x1 l1 z1 := (List.forall_mem_cons.mpr ⟨List.mem_of_getElem? (i := 4) rfl, (fun _ h => nomatch h)⟩)
  refine x_callV (As := []) (b := x) (rest := []) (F1 := 4) (L1 := 90) (mc := 0) (ms := 0) d_Law_law_579 cV_Law_119 (fc_optimize (KC.at 0 rfl rfl) (KC.at 4 rfl rfl) (by omega) (by omega)) (KC.at 0 rfl rfl) ⟨by decide, rfl⟩ ⟨by omega, by show 8 + (1 + 11) + 90 ≤ _; omega⟩ ⟨by omega, by omega⟩ (Nat.le_of_ble_eq_true rfl) (fun v_6 h_5 p_7 => ?_)
  obtain ⟨rfl, fr_1⟩ := p_7
  have KM1 := KM.fr fr_1 (fun a ha hb => hD a ha (sC a hb))
  have e_m : h_5 m = some (.inr (11, mfs m0 m1 m2 m3 m4 m5 m6 m7 m8 m9 m10 m11 m12 m13 m14 m15 m16 m17 m18 m19 m20 m21 m22 m23 m24 m25 m26 m27 m28 m29 m30 m31 m32 m33 m34)) := KM1.at 0 rfl rfl
  refine s_Law_law_582 ?_
  refine x_callV (As := []) (b := m) (rest := [.int 0]) (F1 := 1) (L1 := 20) (mc := 0) (ms := 0) d_Law_law_583 cV_Law_122 (fm_optimize (by rfl) e_m (by rfl) (by rfl) (by omega) (by omega)) e_m ⟨by decide, rfl⟩ ⟨by omega, by show 8 + (4 + 11) + 20 ≤ _; omega⟩ ⟨by omega, by omega⟩ (Nat.le_of_ble_eq_true rfl) (fun v_14 h_13 p_15 => ?_)
  obtain ⟨rfl, ⟨fs_8, l_9, e_10, g_11⟩, fr_12⟩ := p_15
  refine s_Law_law_586 (fun z_16 => ?_) (fun z => absurd z (by decide))
  exact law_tail hX
set_option maxHeartbeats 2000000 in
theorem lc_wrong {G : xw_G} {F L bc bs b : Nat} {xs : Nat → Int32} {x d tx w st s1 s2 s3 s4 sv v1 v2 v3 v4 qo t tl ts pa na po k1 k2 k3 so ao o1 o2 o3 o4 x0 l0 z0 x1 l1 z1 : Nat} {wf : Nat → Int32} {m m0 m1 m2 m3 m4 m5 m6 m7 m8 m9 m10 m11 m12 m13 m14 m15 m16 m17 m18 m19 m20 m21 m22 m23 m24 m25 m26 m27 m28 m29 m30 m31 m32 m33 m34 : Nat} {lf wg : Nat → Int32} {o od : Nat} {h : xw_A}  (hX : va_X b 3 xs G.2.2.1 G.2.2.1.heap) (hA : FrA x d tx w st s1 s2 s3 s4 sv v1 v2 v3 v4 qo t tl ts pa na po k1 k2 k3 so ao o1 o2 o3 o4 x0 l0 z0 x1 l1 z1 wf m m0 m1 m2 m3 m4 m5 m6 m7 m8 m9 m10 m11 m12 m13 m14 m15 m16 m17 m18 m19 m20 m21 m22 m23 m24 m25 m26 m27 m28 m29 m30 m31 m32 m33 m34 lf wg o od h)   (hF : 3 ≤ F) (hL : 61 ≤ L) (hbc : 0 ≤ bc) (hbs : 0 ≤ bs) :
    xw G m_Law_law F L bc bs (fun v _ => v = some (.int 1)) (fun _ _ => False) 751 [some (.ref b), some (.ref x), some (.ref m), some (.ref o), some (.ref od), some (.int 0), none, none, none] [] h := by
  obtain ⟨KC, KM, eo, eod, hD, hoC, hoM, hw0, hw1, hlf, hg0, hg1⟩ := hA
  refine s_Law_law_751 ?_
  have sC : ∀ a ∈ [], a ∈ CLs x d tx w st s1 s2 s3 s4 sv v1 v2 v3 v4 qo t tl ts pa na po k1 k2 k3 so ao o1 o2 o3 o4 x0 l0 z0 x1 l1 z1 := (fun _ h => nomatch h)
  refine x_callV (As := []) (b := x) (rest := []) (F1 := 1) (L1 := 20) (mc := 0) (ms := 0) d_Law_law_752 cV_Law_134 (fc_wrong (KC.at 0 rfl rfl) (by omega) (by omega)) (KC.at 0 rfl rfl) ⟨by decide, rfl⟩ ⟨by omega, by show 8 + (1 + 11) + 20 ≤ _; omega⟩ ⟨by omega, by omega⟩ (Nat.le_of_ble_eq_true rfl) (fun v_6 h_5 p_7 => ?_)
  obtain ⟨rfl, fr_1⟩ := p_7
  have KM1 := KM.fr fr_1 (fun a ha hb => hD a ha (sC a hb))
  have e_m : h_5 m = some (.inr (11, mfs m0 m1 m2 m3 m4 m5 m6 m7 m8 m9 m10 m11 m12 m13 m14 m15 m16 m17 m18 m19 m20 m21 m22 m23 m24 m25 m26 m27 m28 m29 m30 m31 m32 m33 m34)) := KM1.at 0 rfl rfl
  refine s_Law_law_755 ?_
  refine x_callV (As := []) (b := m) (rest := [.int (-1)]) (F1 := 2) (L1 := 41) (mc := 0) (ms := 0) d_Law_law_756 cV_Law_137 (fm_wrong (by rfl) e_m (by rfl) (by rfl) (by omega) (by omega)) e_m ⟨by decide, rfl⟩ ⟨by omega, by show 8 + (1 + 11) + 41 ≤ _; omega⟩ ⟨by omega, by omega⟩ (Nat.le_of_ble_eq_true rfl) (fun v_14 h_13 p_15 => ?_)
  obtain ⟨rfl, ⟨fs_8, l_9, e_10, g_11⟩, fr_12⟩ := p_15
  refine s_Law_law_759 (fun z_16 => ?_) (fun z => absurd z (by decide))
  exact law_tail hX
