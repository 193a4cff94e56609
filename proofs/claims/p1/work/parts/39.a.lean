/-! THE LAW'S CASES ON FRESH OBJECTS: by program (wip/tools/p1l.py) -/
abbrev CLs (x d tx w st s1 s2 s3 s4 sv v1 v2 v3 v4 qo t tl ts pa na po k1 k2 k3 so ao o1 o2 o3 o4 x0 l0 z0 x1 l1 z1 : Nat) : List Nat := [x, d, tx, w, st, s1, s2, s3, s4, sv, v1, v2, v3, v4, qo, t, po, k1, k2, k3, ao, x0, x1]
abbrev CCs (x d tx w st s1 s2 s3 s4 sv v1 v2 v3 v4 qo t tl ts pa na po k1 k2 k3 so ao o1 o2 o3 o4 x0 l0 z0 x1 l1 z1 : Nat) (wf : Nat → Int32) : List xw_C := [.inr (0, [.ref d, .ref tx, .ref w, .ref st, .ref sv, .ref qo, .ref so, .ref ao, .int 0, .int 3, .int 20, .int 0, .int (-1), .int 0]), .inl (1, 96, .inl (fun _ => 0)), .inl (9 + 6, 2, .inr (.inr (.inr (.inr (fun k => [x0, x1][k]?))))), .inl (0, 2, .inl wf), .inr (8, [.ref s1, .ref s2, .ref s3, .ref s4, .int 0, .int 0, .int 0, .int 0, .int 0, .int 0]), .inl (10 + 6, 25, .inr (.inr (.inr (.inr (fun _ => none))))), .inl (10 + 6, 201, .inr (.inr (.inr (.inr (fun _ => none))))), .inl (6 + 6, 512, .inr (.inr (.inr (.inr (fun _ => none))))), .inl (10 + 6, 24, .inr (.inr (.inr (.inr (fun _ => none))))), .inr (8, [.ref v1, .ref v2, .ref v3, .ref v4, .int 0, .int 0, .int 0, .int 0, .int 0, .int 0]), .inl (10 + 6, 25, .inr (.inr (.inr (.inr (fun _ => none))))), .inl (10 + 6, 201, .inr (.inr (.inr (.inr (fun _ => none))))), .inl (6 + 6, 512, .inr (.inr (.inr (.inr (fun _ => none))))), .inl (10 + 6, 24, .inr (.inr (.inr (.inr (fun _ => none))))), .inr (5, [.ref t, .ref pa, .ref na, .int 0, .int 0, .int 0, .ref po, .null, .int 0]), .inr (9, [.ref tl, .ref ts, .int 0]), .inr (3, [.ref k1, .ref k2, .ref k3, .null, .int 0]), .inl (0, 97, .inl (fun _ => 0)), .inl (0, 97, .inl (fun _ => 0)), .inl (0, 97, .inl (fun _ => 0)), .inr (1, [.ref o1, .ref o2, .int 0, .ref o3, .ref o4]), .inr (9, [.ref l0, .ref z0, .int 0]), .inr (9, [.ref l1, .ref z1, .int 0])]
abbrev MLs (m m0 m1 m2 m3 m4 m5 m6 m7 m8 m9 m10 m11 m12 m13 m14 m15 m16 m17 m18 m19 m20 m21 m22 m23 m24 m25 m26 m27 m28 m29 m30 m31 m32 m33 m34 : Nat) : List Nat := [m, m0, m1, m2, m3, m4, m5, m6, m7, m8, m9, m10, m11, m12, m13, m14, m15, m16, m17, m18, m19, m20, m21, m22, m23, m24, m25, m26, m27, m28, m29, m30, m31, m32, m33, m34]
abbrev MCs (m0 m1 m2 m3 m4 m5 m6 m7 m8 m9 m10 m11 m12 m13 m14 m15 m16 m17 m18 m19 m20 m21 m22 m23 m24 m25 m26 m27 m28 m29 m30 m31 m32 m33 m34 : Nat) (lf wg : Nat → Int32) : List xw_C := .inr (11, mfs m0 m1 m2 m3 m4 m5 m6 m7 m8 m9 m10 m11 m12 m13 m14 m15 m16 m17 m18 m19 m20 m21 m22 m23 m24 m25 m26 m27 m28 m29 m30 m31 m32 m33 m34) :: mcs lf wg
/-- class and reference are new; the places for answers are apart -/
def FrA (x d tx w st s1 s2 s3 s4 sv v1 v2 v3 v4 qo t tl ts pa na po k1 k2 k3 so ao o1 o2 o3 o4 x0 l0 z0 x1 l1 z1 : Nat) (wf : Nat → Int32) (m m0 m1 m2 m3 m4 m5 m6 m7 m8 m9 m10 m11 m12 m13 m14 m15 m16 m17 m18 m19 m20 m21 m22 m23 m24 m25 m26 m27 m28 m29 m30 m31 m32 m33 m34 : Nat) (lf wg : Nat → Int32) (o od : Nat) (h : xw_A) : Prop :=
  SL (CLs x d tx w st s1 s2 s3 s4 sv v1 v2 v3 v4 qo t tl ts pa na po k1 k2 k3 so ao o1 o2 o3 o4 x0 l0 z0 x1 l1 z1) (CCs x d tx w st s1 s2 s3 s4 sv v1 v2 v3 v4 qo t tl ts pa na po k1 k2 k3 so ao o1 o2 o3 o4 x0 l0 z0 x1 l1 z1 wf) h ∧ SL (MLs m m0 m1 m2 m3 m4 m5 m6 m7 m8 m9 m10 m11 m12 m13 m14 m15 m16 m17 m18 m19 m20 m21 m22 m23 m24 m25 m26 m27 m28 m29 m30 m31 m32 m33 m34) (MCs m0 m1 m2 m3 m4 m5 m6 m7 m8 m9 m10 m11 m12 m13 m14 m15 m16 m17 m18 m19 m20 m21 m22 m23 m24 m25 m26 m27 m28 m29 m30 m31 m32 m33 m34 lf wg) h ∧ h o = some (lz 1) ∧ h od = some (dz 1) ∧ (∀ a ∈ MLs m m0 m1 m2 m3 m4 m5 m6 m7 m8 m9 m10 m11 m12 m13 m14 m15 m16 m17 m18 m19 m20 m21 m22 m23 m24 m25 m26 m27 m28 m29 m30 m31 m32 m33 m34, a ∉ CLs x d tx w st s1 s2 s3 s4 sv v1 v2 v3 v4 qo t tl ts pa na po k1 k2 k3 so ao o1 o2 o3 o4 x0 l0 z0 x1 l1 z1) ∧ o ∉ CLs x d tx w st s1 s2 s3 s4 sv v1 v2 v3 v4 qo t tl ts pa na po k1 k2 k3 so ao o1 o2 o3 o4 x0 l0 z0 x1 l1 z1 ∧ o ∉ MLs m m0 m1 m2 m3 m4 m5 m6 m7 m8 m9 m10 m11 m12 m13 m14 m15 m16 m17 m18 m19 m20 m21 m22 m23 m24 m25 m26 m27 m28 m29 m30 m31 m32 m33 m34 ∧ wf 0 = 1 ∧ wf 1 = 1 ∧ (∀ j, j < 24 → lf j = -1) ∧ wg 0 = 1 ∧ wg 1 = 1
theorem lgc {a b : Int64} (h : a = b) : lg_cmp a b = 0 := by
  subst h
  simp [lg_cmp]
theorem law_tail {G : xw_G} {F L bc bs b x m o od : Nat} {xs : Nat → Int32} {h : xw_A} (hX : va_X b 3 xs G.2.2.1 G.2.2.1.heap) : xw G m_Law_law F L bc bs (fun v _ => v = some (.int 1)) (fun _ _ => False) 1145 [some (.ref b), some (.ref x), some (.ref m), some (.ref o), some (.ref od), some (.int 0), none, none, none] [] h := by
  refine s_Law_law_1145 ?_
  refine s_Law_law_28 hX (fun _ => ?_) (fun z => absurd z (by decide))
  exact s_Law_law_1151 rfl
set_option maxHeartbeats 2000000 in
theorem lc_letters_no {G : xw_G} {F L bc bs b : Nat} {xs : Nat → Int32} {x d tx w st s1 s2 s3 s4 sv v1 v2 v3 v4 qo t tl ts pa na po k1 k2 k3 so ao o1 o2 o3 o4 x0 l0 z0 x1 l1 z1 : Nat} {wf : Nat → Int32} {m m0 m1 m2 m3 m4 m5 m6 m7 m8 m9 m10 m11 m12 m13 m14 m15 m16 m17 m18 m19 m20 m21 m22 m23 m24 m25 m26 m27 m28 m29 m30 m31 m32 m33 m34 : Nat} {lf wg : Nat → Int32} {o od : Nat} {h : xw_A} {w9 : Int64} (hX : va_X b 3 xs G.2.2.1 G.2.2.1.heap) (hA : FrA x d tx w st s1 s2 s3 s4 sv v1 v2 v3 v4 qo t tl ts pa na po k1 k2 k3 so ao o1 o2 o3 o4 x0 l0 z0 x1 l1 z1 wf m m0 m1 m2 m3 m4 m5 m6 m7 m8 m9 m10 m11 m12 m13 m14 m15 m16 m17 m18 m19 m20 m21 m22 m23 m24 m25 m26 m27 m28 m29 m30 m31 m32 m33 m34 lf wg o od h) (hx0 : ((((xs (0 + 1 : Int32).toNatClampNeg).toInt64) <<< ((32 : Int32).toInt64 &&& 63)) ||| (((xs (0 + 2 : Int32).toNatClampNeg).toInt64) &&& 4294967295)) = w9) (hN : (ltr (oct w9) 8 0).getD 0 = 0) (hM : ltr (oct w9) 8 0 = none ∨ ltr (oct w9) 8 0 = some 0) (hF : 8 ≤ F) (hL : 138 ≤ L) (hbc : 1 ≤ bc) (hbs : 6 ≤ bs) :
    xw G m_Law_law F L bc bs (fun v _ => v = some (.int 1)) (fun _ _ => False) 140 [some (.ref b), some (.ref x), some (.ref m), some (.ref o), some (.ref od), some (.int 0), none, none, none] [] h := by
  obtain ⟨KC, KM, eo, eod, hD, hoC, hoM, hw0, hw1, hlf, hg0, hg1⟩ := hA
  refine s_Law_law_140 hX (by unfold vp_in; decide) (by unfold vp_in; decide) ?_
  rw [hx0]
  have sC : ∀ a ∈ [x], a ∈ CLs x d tx w st s1 s2 s3 s4 sv v1 v2 v3 v4 qo t tl ts pa na po k1 k2 k3 so ao o1 o2 o3 o4 x0 l0 z0 x1 l1 z1 := (List.forall_mem_cons.mpr ⟨List.mem_of_getElem? (i := 0) rfl, (fun _ h => nomatch h)⟩)
  refine x_callSH (As := [.ref x, .long w9, .ref o]) (rest := []) (F1 := 7) (L1 := 114) (mc := 1) (ms := 6) d_Law_law_164 cH_Law_78 (hl_letters_no (KC.at 0 rfl rfl) hN (by omega) (by omega)) ⟨by omega, by show 8 + (5 + 11) + 114 ≤ _; omega⟩ ⟨by omega, by omega⟩ (Nat.le_of_ble_eq_true rfl) (fun v_6 h_5 p_7 => ?_)
  obtain ⟨rfl, fr_1⟩ := p_7
  have KM1 := KM.fr fr_1 (fun a ha hb => hD a ha (sC a hb))
  have e_m : h_5 m = some (.inr (11, mfs m0 m1 m2 m3 m4 m5 m6 m7 m8 m9 m10 m11 m12 m13 m14 m15 m16 m17 m18 m19 m20 m21 m22 m23 m24 m25 m26 m27 m28 m29 m30 m31 m32 m33 m34)) := KM1.at 0 rfl rfl
  refine s_Law_law_167 hX (by unfold vp_in; decide) (by unfold vp_in; decide) ?_
  rw [hx0]
  refine x_callV (As := [.long w9]) (b := m) (rest := []) (F1 := 2) (L1 := 60) (mc := 0) (ms := 0) d_Law_law_192 cV_Law_83 (fm_letters_no (by rfl) e_m (by rfl) (by rfl) hM (by omega) (by omega)) e_m ⟨by decide, rfl⟩ ⟨by omega, by show 8 + (6 + 11) + 60 ≤ _; omega⟩ ⟨by omega, by omega⟩ (Nat.le_of_ble_eq_true rfl) (fun v_14 h_13 p_15 => ?_)
  obtain ⟨rfl, ⟨fs_8, l_9, e_10, g_11⟩, fr_12⟩ := p_15
  refine s_Law_law_195 ?_
  refine x_callV (As := []) (b := m) (rest := []) (F1 := 1) (L1 := 20) (mc := 0) (ms := 0) d_Law_law_198 cV_Law_84 (f_thrown l_9 e_10 g_11 (by omega) (by omega)) e_10 ⟨by decide, rfl⟩ ⟨by omega, by show 8 + (1 + 11) + 20 ≤ _; omega⟩ ⟨by omega, by omega⟩ (Nat.le_of_ble_eq_true rfl) (fun v_17 h_16 p_18 => ?_)
  obtain ⟨rfl, rfl⟩ := p_18
  refine s_Law_law_201 (fun z_19 => ?_) (fun z => absurd z (by decide))
  refine s_Law_law_208 (fun z_20 => ?_) (fun z => absurd z (by decide))
  refine s_Law_law_225 ?_
  exact law_tail hX
set_option maxHeartbeats 2000000 in
theorem lc_letters_yes {G : xw_G} {F L bc bs b : Nat} {xs : Nat → Int32} {x d tx w st s1 s2 s3 s4 sv v1 v2 v3 v4 qo t tl ts pa na po k1 k2 k3 so ao o1 o2 o3 o4 x0 l0 z0 x1 l1 z1 : Nat} {wf : Nat → Int32} {m m0 m1 m2 m3 m4 m5 m6 m7 m8 m9 m10 m11 m12 m13 m14 m15 m16 m17 m18 m19 m20 m21 m22 m23 m24 m25 m26 m27 m28 m29 m30 m31 m32 m33 m34 : Nat} {lf wg : Nat → Int32} {o od : Nat} {h : xw_A} {w9 : Int64} {n : Nat} (hX : va_X b 3 xs G.2.2.1 G.2.2.1.heap) (hA : FrA x d tx w st s1 s2 s3 s4 sv v1 v2 v3 v4 qo t tl ts pa na po k1 k2 k3 so ao o1 o2 o3 o4 x0 l0 z0 x1 l1 z1 wf m m0 m1 m2 m3 m4 m5 m6 m7 m8 m9 m10 m11 m12 m13 m14 m15 m16 m17 m18 m19 m20 m21 m22 m23 m24 m25 m26 m27 m28 m29 m30 m31 m32 m33 m34 lf wg o od h) (hx0 : ((((xs (0 + 1 : Int32).toNatClampNeg).toInt64) <<< ((32 : Int32).toInt64 &&& 63)) ||| (((xs (0 + 2 : Int32).toNatClampNeg).toInt64) &&& 4294967295)) = w9) (hN : (ltr (oct w9) 8 0).getD 0 = n + 1) (hM : ltr (oct w9) 8 0 = some (n + 1)) (hn : n < 8) (hF : 5 ≤ F) (hL : 131 ≤ L) (hbc : 0 ≤ bc) (hbs : 0 ≤ bs) :
    xw G m_Law_law F L bc bs (fun v _ => v = some (.int 1)) (fun _ _ => False) 140 [some (.ref b), some (.ref x), some (.ref m), some (.ref o), some (.ref od), some (.int 0), none, none, none] [] h := by
  obtain ⟨KC, KM, eo, eod, hD, hoC, hoM, hw0, hw1, hlf, hg0, hg1⟩ := hA
  refine s_Law_law_140 hX (by unfold vp_in; decide) (by unfold vp_in; decide) ?_
  rw [hx0]
  have sC : ∀ a ∈ [x, d], a ∈ CLs x d tx w st s1 s2 s3 s4 sv v1 v2 v3 v4 qo t tl ts pa na po k1 k2 k3 so ao o1 o2 o3 o4 x0 l0 z0 x1 l1 z1 := (List.forall_mem_cons.mpr ⟨List.mem_of_getElem? (i := 0) rfl, (List.forall_mem_cons.mpr ⟨List.mem_of_getElem? (i := 1) rfl, (fun _ h => nomatch h)⟩)⟩)
  refine x_callSH (As := [.ref x, .long w9, .ref o]) (rest := []) (F1 := 4) (L1 := 107) (mc := 0) (ms := 0) d_Law_law_164 cH_Law_78 (hl_letters_yes (KC.at 0 rfl rfl) (KC.at 1 rfl rfl) hN hn eo (fun z => hoC (sC o z)) (by omega) (by omega)) ⟨by omega, by show 8 + (5 + 11) + 107 ≤ _; omega⟩ ⟨by omega, by omega⟩ (Nat.le_of_ble_eq_true rfl) (fun v_6 h_5 p_7 => ?_)
  obtain ⟨rfl, fr_1, f_2, hf_3, e_4⟩ := p_7
  have KM1 := KM.fr fr_1 (fun a ha hb => (List.mem_cons.mp hb).elim (fun z => hoM (by rw [← z]; exact ha)) (fun z => hD a ha (sC a z)))
  have e_m : h_5 m = some (.inr (11, mfs m0 m1 m2 m3 m4 m5 m6 m7 m8 m9 m10 m11 m12 m13 m14 m15 m16 m17 m18 m19 m20 m21 m22 m23 m24 m25 m26 m27 m28 m29 m30 m31 m32 m33 m34)) := KM1.at 0 rfl rfl
  refine s_Law_law_167 hX (by unfold vp_in; decide) (by unfold vp_in; decide) ?_
  rw [hx0]
  refine x_callV (As := [.long w9]) (b := m) (rest := []) (F1 := 2) (L1 := 60) (mc := 0) (ms := 0) d_Law_law_192 cV_Law_83 (fm_letters_yes (by rfl) e_m (by rfl) (by rfl) (by rfl) (KM1.at 1 rfl rfl) hM hn (by omega) (by omega)) e_m ⟨by decide, rfl⟩ ⟨by omega, by show 8 + (6 + 11) + 60 ≤ _; omega⟩ ⟨by omega, by omega⟩ (Nat.le_of_ble_eq_true rfl) (fun v_14 h_13 p_15 => ?_)
  obtain ⟨rfl, ⟨fs_8, l_9, e_10, g_11⟩, fr_12⟩ := p_15
  have sA : ∀ a ∈ [m, m0], a ∈ MLs m m0 m1 m2 m3 m4 m5 m6 m7 m8 m9 m10 m11 m12 m13 m14 m15 m16 m17 m18 m19 m20 m21 m22 m23 m24 m25 m26 m27 m28 m29 m30 m31 m32 m33 m34 := (List.forall_mem_cons.mpr ⟨List.mem_of_getElem? (i := 0) rfl, (List.forall_mem_cons.mpr ⟨List.mem_of_getElem? (i := 1) rfl, (fun _ h => nomatch h)⟩)⟩)
  have e_16 := fr_12 o _ (fun z => hoM (sA o z)) e_4
  refine s_Law_law_195 ?_
  refine x_callV (As := []) (b := m) (rest := []) (F1 := 1) (L1 := 20) (mc := 0) (ms := 0) d_Law_law_198 cV_Law_84 (f_thrown l_9 e_10 g_11 (by omega) (by omega)) e_10 ⟨by decide, rfl⟩ ⟨by omega, by show 8 + (1 + 11) + 20 ≤ _; omega⟩ ⟨by omega, by omega⟩ (Nat.le_of_ble_eq_true rfl) (fun v_18 h_17 p_19 => ?_)
  obtain ⟨rfl, rfl⟩ := p_19
  refine s_Law_law_201 (fun z_20 => ?_) (fun z => absurd z (by decide))
  refine s_Law_law_208 (fun z => absurd z (by decide)) (fun z_21 => ?_)
  refine s_Law_law_213 e_16 (by unfold vp_in; decide) (fun z_22 => ?_) (fun z => absurd (lgc hf_3) z)
  refine s_Law_law_225 ?_
  exact law_tail hX
set_option maxHeartbeats 2000000 in
theorem lc_set_no {G : xw_G} {F L bc bs b : Nat} {xs : Nat → Int32} {x d tx w st s1 s2 s3 s4 sv v1 v2 v3 v4 qo t tl ts pa na po k1 k2 k3 so ao o1 o2 o3 o4 x0 l0 z0 x1 l1 z1 : Nat} {wf : Nat → Int32} {m m0 m1 m2 m3 m4 m5 m6 m7 m8 m9 m10 m11 m12 m13 m14 m15 m16 m17 m18 m19 m20 m21 m22 m23 m24 m25 m26 m27 m28 m29 m30 m31 m32 m33 m34 : Nat} {lf wg : Nat → Int32} {o od : Nat} {h : xw_A} {c : Int32} (hX : va_X b 3 xs G.2.2.1 G.2.2.1.heap) (hA : FrA x d tx w st s1 s2 s3 s4 sv v1 v2 v3 v4 qo t tl ts pa na po k1 k2 k3 so ao o1 o2 o3 o4 x0 l0 z0 x1 l1 z1 wf m m0 m1 m2 m3 m4 m5 m6 m7 m8 m9 m10 m11 m12 m13 m14 m15 m16 m17 m18 m19 m20 m21 m22 m23 m24 m25 m26 m27 m28 m29 m30 m31 m32 m33 m34 lf wg o od h) (hx0 : (xs (0 + 1 : Int32).toNatClampNeg) = c) (hn : c < 0 ∨ 1 < c) (hF : 8 ≤ F) (hL : 135 ≤ L) (hbc : 1 ≤ bc) (hbs : 6 ≤ bs) :
    xw G m_Law_law F L bc bs (fun v _ => v = some (.int 1)) (fun _ _ => False) 241 [some (.ref b), some (.ref x), some (.ref m), some (.ref o), some (.ref od), some (.int 0), none, none, none] [] h := by
  obtain ⟨KC, KM, eo, eod, hD, hoC, hoM, hw0, hw1, hlf, hg0, hg1⟩ := hA
  refine s_Law_law_241 hX (by unfold vp_in; decide) ?_
  rw [hx0]
  have sC : ∀ a ∈ [x], a ∈ CLs x d tx w st s1 s2 s3 s4 sv v1 v2 v3 v4 qo t tl ts pa na po k1 k2 k3 so ao o1 o2 o3 o4 x0 l0 z0 x1 l1 z1 := (List.forall_mem_cons.mpr ⟨List.mem_of_getElem? (i := 0) rfl, (fun _ h => nomatch h)⟩)
  refine x_callSH (As := [.ref x, .int c, .ref o]) (rest := []) (F1 := 7) (L1 := 112) (mc := 1) (ms := 6) d_Law_law_249 cH_Law_91 (hl_set_no (KC.at 0 rfl rfl) hn (by omega) (by omega)) ⟨by omega, by show 8 + (4 + 11) + 112 ≤ _; omega⟩ ⟨by omega, by omega⟩ (Nat.le_of_ble_eq_true rfl) (fun v_6 h_5 p_7 => ?_)
  obtain ⟨rfl, fr_1⟩ := p_7
  have KM1 := KM.fr fr_1 (fun a ha hb => hD a ha (sC a hb))
  have e_m : h_5 m = some (.inr (11, mfs m0 m1 m2 m3 m4 m5 m6 m7 m8 m9 m10 m11 m12 m13 m14 m15 m16 m17 m18 m19 m20 m21 m22 m23 m24 m25 m26 m27 m28 m29 m30 m31 m32 m33 m34)) := KM1.at 0 rfl rfl
  refine s_Law_law_252 hX (by unfold vp_in; decide) ?_
  rw [hx0]
  refine x_callV (As := [.int c]) (b := m) (rest := []) (F1 := 2) (L1 := 42) (mc := 0) (ms := 0) d_Law_law_261 cV_Law_94 (fm_set_no (by rfl) e_m (by rfl) (by rfl) hn (by omega) (by omega)) e_m ⟨by decide, rfl⟩ ⟨by omega, by show 8 + (4 + 11) + 42 ≤ _; omega⟩ ⟨by omega, by omega⟩ (Nat.le_of_ble_eq_true rfl) (fun v_14 h_13 p_15 => ?_)
  obtain ⟨rfl, ⟨fs_8, l_9, e_10, g_11⟩, fr_12⟩ := p_15
  refine s_Law_law_264 ?_
  refine x_callV (As := []) (b := m) (rest := []) (F1 := 1) (L1 := 20) (mc := 0) (ms := 0) d_Law_law_267 cV_Law_84 (f_thrown l_9 e_10 g_11 (by omega) (by omega)) e_10 ⟨by decide, rfl⟩ ⟨by omega, by show 8 + (1 + 11) + 20 ≤ _; omega⟩ ⟨by omega, by omega⟩ (Nat.le_of_ble_eq_true rfl) (fun v_17 h_16 p_18 => ?_)
  obtain ⟨rfl, rfl⟩ := p_18
  refine s_Law_law_270 (fun z_19 => ?_) (fun z => absurd z (by decide))
  refine s_Law_law_277 (fun z_20 => ?_) (fun z => absurd z (by decide))
  refine s_Law_law_294 ?_
  exact law_tail hX
set_option maxHeartbeats 2000000 in
theorem lc_set_0 {G : xw_G} {F L bc bs b : Nat} {xs : Nat → Int32} {x d tx w st s1 s2 s3 s4 sv v1 v2 v3 v4 qo t tl ts pa na po k1 k2 k3 so ao o1 o2 o3 o4 x0 l0 z0 x1 l1 z1 : Nat} {wf : Nat → Int32} {m m0 m1 m2 m3 m4 m5 m6 m7 m8 m9 m10 m11 m12 m13 m14 m15 m16 m17 m18 m19 m20 m21 m22 m23 m24 m25 m26 m27 m28 m29 m30 m31 m32 m33 m34 : Nat} {lf wg : Nat → Int32} {o od : Nat} {h : xw_A}  (hX : va_X b 3 xs G.2.2.1 G.2.2.1.heap) (hA : FrA x d tx w st s1 s2 s3 s4 sv v1 v2 v3 v4 qo t tl ts pa na po k1 k2 k3 so ao o1 o2 o3 o4 x0 l0 z0 x1 l1 z1 wf m m0 m1 m2 m3 m4 m5 m6 m7 m8 m9 m10 m11 m12 m13 m14 m15 m16 m17 m18 m19 m20 m21 m22 m23 m24 m25 m26 m27 m28 m29 m30 m31 m32 m33 m34 lf wg o od h) (hx0 : (xs (0 + 1 : Int32).toNatClampNeg) = 0)  (hF : 4 ≤ F) (hL : 91 ≤ L) (hbc : 3 ≤ bc) (hbs : 4 ≤ bs) :
    xw G m_Law_law F L bc bs (fun v _ => v = some (.int 1)) (fun _ _ => False) 241 [some (.ref b), some (.ref x), some (.ref m), some (.ref o), some (.ref od), some (.int 0), none, none, none] [] h := by
  obtain ⟨KC, KM, eo, eod, hD, hoC, hoM, hw0, hw1, hlf, hg0, hg1⟩ := hA
  refine s_Law_law_241 hX (by unfold vp_in; decide) ?_
  rw [hx0]
  have sC : ∀ a ∈ [x, tx], a ∈ CLs x d tx w st s1 s2 s3 s4 sv v1 v2 v3 v4 qo t tl ts pa na po k1 k2 k3 so ao o1 o2 o3 o4 x0 l0 z0 x1 l1 z1 := (List.forall_mem_cons.mpr ⟨List.mem_of_getElem? (i := 0) rfl, (List.forall_mem_cons.mpr ⟨List.mem_of_getElem? (i := 2) rfl, (fun _ h => nomatch h)⟩)⟩)
  refine x_callSH (As := [.ref x, .int 0, .ref o]) (rest := []) (F1 := 3) (L1 := 68) (mc := 3) (ms := 4) d_Law_law_249 cH_Law_91 (hl_set_0 (KC.at 0 rfl rfl) (KC.at 2 rfl rfl) eo (fun z => hoC (sC o z)) (by omega) (by omega)) ⟨by omega, by show 8 + (4 + 11) + 68 ≤ _; omega⟩ ⟨by omega, by omega⟩ (Nat.le_of_ble_eq_true rfl) (fun v_6 h_5 p_7 => ?_)
  obtain ⟨rfl, fr_1, f_2, hf_3, e_4⟩ := p_7
  have KM1 := KM.fr fr_1 (fun a ha hb => (List.mem_cons.mp hb).elim (fun z => hoM (by rw [← z]; exact ha)) (fun z => hD a ha (sC a z)))
  have e_m : h_5 m = some (.inr (11, mfs m0 m1 m2 m3 m4 m5 m6 m7 m8 m9 m10 m11 m12 m13 m14 m15 m16 m17 m18 m19 m20 m21 m22 m23 m24 m25 m26 m27 m28 m29 m30 m31 m32 m33 m34)) := KM1.at 0 rfl rfl
  refine s_Law_law_252 hX (by unfold vp_in; decide) ?_
  rw [hx0]
  refine x_callV (As := [.int 0]) (b := m) (rest := []) (F1 := 2) (L1 := 42) (mc := 0) (ms := 0) d_Law_law_261 cV_Law_94 (fm_set_0 (by rfl) e_m (by rfl) (by rfl) (by rfl) (KM1.at 4 rfl rfl) (by omega) (by omega)) e_m ⟨by decide, rfl⟩ ⟨by omega, by show 8 + (4 + 11) + 42 ≤ _; omega⟩ ⟨by omega, by omega⟩ (Nat.le_of_ble_eq_true rfl) (fun v_14 h_13 p_15 => ?_)
  obtain ⟨rfl, ⟨fs_8, l_9, e_10, g_11⟩, fr_12⟩ := p_15
  have sA : ∀ a ∈ [m, m3], a ∈ MLs m m0 m1 m2 m3 m4 m5 m6 m7 m8 m9 m10 m11 m12 m13 m14 m15 m16 m17 m18 m19 m20 m21 m22 m23 m24 m25 m26 m27 m28 m29 m30 m31 m32 m33 m34 := (List.forall_mem_cons.mpr ⟨List.mem_of_getElem? (i := 0) rfl, (List.forall_mem_cons.mpr ⟨List.mem_of_getElem? (i := 4) rfl, (fun _ h => nomatch h)⟩)⟩)
  have e_16 := fr_12 o _ (fun z => hoM (sA o z)) e_4
  refine s_Law_law_264 ?_
  refine x_callV (As := []) (b := m) (rest := []) (F1 := 1) (L1 := 20) (mc := 0) (ms := 0) d_Law_law_267 cV_Law_84 (f_thrown l_9 e_10 g_11 (by omega) (by omega)) e_10 ⟨by decide, rfl⟩ ⟨by omega, by show 8 + (1 + 11) + 20 ≤ _; omega⟩ ⟨by omega, by omega⟩ (Nat.le_of_ble_eq_true rfl) (fun v_18 h_17 p_19 => ?_)
  obtain ⟨rfl, rfl⟩ := p_19
  refine s_Law_law_270 (fun z_20 => ?_) (fun z => absurd z (by decide))
  refine s_Law_law_277 (fun z => absurd z (by decide)) (fun z_21 => ?_)
  refine s_Law_law_282 e_16 (by unfold vp_in; decide) (fun z_22 => ?_) (fun z => absurd (lgc hf_3) z)
  refine s_Law_law_294 ?_
  exact law_tail hX
set_option maxHeartbeats 2000000 in
theorem lc_set_1 {G : xw_G} {F L bc bs b : Nat} {xs : Nat → Int32} {x d tx w st s1 s2 s3 s4 sv v1 v2 v3 v4 qo t tl ts pa na po k1 k2 k3 so ao o1 o2 o3 o4 x0 l0 z0 x1 l1 z1 : Nat} {wf : Nat → Int32} {m m0 m1 m2 m3 m4 m5 m6 m7 m8 m9 m10 m11 m12 m13 m14 m15 m16 m17 m18 m19 m20 m21 m22 m23 m24 m25 m26 m27 m28 m29 m30 m31 m32 m33 m34 : Nat} {lf wg : Nat → Int32} {o od : Nat} {h : xw_A}  (hX : va_X b 3 xs G.2.2.1 G.2.2.1.heap) (hA : FrA x d tx w st s1 s2 s3 s4 sv v1 v2 v3 v4 qo t tl ts pa na po k1 k2 k3 so ao o1 o2 o3 o4 x0 l0 z0 x1 l1 z1 wf m m0 m1 m2 m3 m4 m5 m6 m7 m8 m9 m10 m11 m12 m13 m14 m15 m16 m17 m18 m19 m20 m21 m22 m23 m24 m25 m26 m27 m28 m29 m30 m31 m32 m33 m34 lf wg o od h) (hx0 : (xs (0 + 1 : Int32).toNatClampNeg) = 1)  (hF : 4 ≤ F) (hL : 91 ≤ L) (hbc : 3 ≤ bc) (hbs : 4 ≤ bs) :
    xw G m_Law_law F L bc bs (fun v _ => v = some (.int 1)) (fun _ _ => False) 241 [some (.ref b), some (.ref x), some (.ref m), some (.ref o), some (.ref od), some (.int 0), none, none, none] [] h := by
  obtain ⟨KC, KM, eo, eod, hD, hoC, hoM, hw0, hw1, hlf, hg0, hg1⟩ := hA
  refine s_Law_law_241 hX (by unfold vp_in; decide) ?_
  rw [hx0]
  have sC : ∀ a ∈ [x, tx], a ∈ CLs x d tx w st s1 s2 s3 s4 sv v1 v2 v3 v4 qo t tl ts pa na po k1 k2 k3 so ao o1 o2 o3 o4 x0 l0 z0 x1 l1 z1 := (List.forall_mem_cons.mpr ⟨List.mem_of_getElem? (i := 0) rfl, (List.forall_mem_cons.mpr ⟨List.mem_of_getElem? (i := 2) rfl, (fun _ h => nomatch h)⟩)⟩)
  refine x_callSH (As := [.ref x, .int 1, .ref o]) (rest := []) (F1 := 3) (L1 := 68) (mc := 3) (ms := 4) d_Law_law_249 cH_Law_91 (hl_set_1 (KC.at 0 rfl rfl) (KC.at 2 rfl rfl) eo (fun z => hoC (sC o z)) (by omega) (by omega)) ⟨by omega, by show 8 + (4 + 11) + 68 ≤ _; omega⟩ ⟨by omega, by omega⟩ (Nat.le_of_ble_eq_true rfl) (fun v_6 h_5 p_7 => ?_)
  obtain ⟨rfl, fr_1, f_2, hf_3, e_4⟩ := p_7
  have KM1 := KM.fr fr_1 (fun a ha hb => (List.mem_cons.mp hb).elim (fun z => hoM (by rw [← z]; exact ha)) (fun z => hD a ha (sC a z)))
  have e_m : h_5 m = some (.inr (11, mfs m0 m1 m2 m3 m4 m5 m6 m7 m8 m9 m10 m11 m12 m13 m14 m15 m16 m17 m18 m19 m20 m21 m22 m23 m24 m25 m26 m27 m28 m29 m30 m31 m32 m33 m34)) := KM1.at 0 rfl rfl
  refine s_Law_law_252 hX (by unfold vp_in; decide) ?_
  rw [hx0]
  refine x_callV (As := [.int 1]) (b := m) (rest := []) (F1 := 2) (L1 := 42) (mc := 0) (ms := 0) d_Law_law_261 cV_Law_94 (fm_set_1 (by rfl) e_m (by rfl) (by rfl) (by rfl) (KM1.at 4 rfl rfl) (by omega) (by omega)) e_m ⟨by decide, rfl⟩ ⟨by omega, by show 8 + (4 + 11) + 42 ≤ _; omega⟩ ⟨by omega, by omega⟩ (Nat.le_of_ble_eq_true rfl) (fun v_14 h_13 p_15 => ?_)
  obtain ⟨rfl, ⟨fs_8, l_9, e_10, g_11⟩, fr_12⟩ := p_15
  have sA : ∀ a ∈ [m, m3], a ∈ MLs m m0 m1 m2 m3 m4 m5 m6 m7 m8 m9 m10 m11 m12 m13 m14 m15 m16 m17 m18 m19 m20 m21 m22 m23 m24 m25 m26 m27 m28 m29 m30 m31 m32 m33 m34 := (List.forall_mem_cons.mpr ⟨List.mem_of_getElem? (i := 0) rfl, (List.forall_mem_cons.mpr ⟨List.mem_of_getElem? (i := 4) rfl, (fun _ h => nomatch h)⟩)⟩)
  have e_16 := fr_12 o _ (fun z => hoM (sA o z)) e_4
  refine s_Law_law_264 ?_
  refine x_callV (As := []) (b := m) (rest := []) (F1 := 1) (L1 := 20) (mc := 0) (ms := 0) d_Law_law_267 cV_Law_84 (f_thrown l_9 e_10 g_11 (by omega) (by omega)) e_10 ⟨by decide, rfl⟩ ⟨by omega, by show 8 + (1 + 11) + 20 ≤ _; omega⟩ ⟨by omega, by omega⟩ (Nat.le_of_ble_eq_true rfl) (fun v_18 h_17 p_19 => ?_)
  obtain ⟨rfl, rfl⟩ := p_19
  refine s_Law_law_270 (fun z_20 => ?_) (fun z => absurd z (by decide))
  refine s_Law_law_277 (fun z => absurd z (by decide)) (fun z_21 => ?_)
  refine s_Law_law_282 e_16 (by unfold vp_in; decide) (fun z_22 => ?_) (fun z => absurd (lgc hf_3) z)
  refine s_Law_law_294 ?_
  exact law_tail hX
set_option maxHeartbeats 2000000 in
theorem lc_insert {G : xw_G} {F L bc bs b : Nat} {xs : Nat → Int32} {x d tx w st s1 s2 s3 s4 sv v1 v2 v3 v4 qo t tl ts pa na po k1 k2 k3 so ao o1 o2 o3 o4 x0 l0 z0 x1 l1 z1 : Nat} {wf : Nat → Int32} {m m0 m1 m2 m3 m4 m5 m6 m7 m8 m9 m10 m11 m12 m13 m14 m15 m16 m17 m18 m19 m20 m21 m22 m23 m24 m25 m26 m27 m28 m29 m30 m31 m32 m33 m34 : Nat} {lf wg : Nat → Int32} {o od : Nat} {h : xw_A}  (hX : va_X b 3 xs G.2.2.1 G.2.2.1.heap) (hA : FrA x d tx w st s1 s2 s3 s4 sv v1 v2 v3 v4 qo t tl ts pa na po k1 k2 k3 so ao o1 o2 o3 o4 x0 l0 z0 x1 l1 z1 wf m m0 m1 m2 m3 m4 m5 m6 m7 m8 m9 m10 m11 m12 m13 m14 m15 m16 m17 m18 m19 m20 m21 m22 m23 m24 m25 m26 m27 m28 m29 m30 m31 m32 m33 m34 lf wg o od h)   (hF : 6 ≤ F) (hL : 135 ≤ L) (hbc : 1 ≤ bc) (hbs : 5 ≤ bs) :
    xw G m_Law_law F L bc bs (fun v _ => v = some (.int 1)) (fun _ _ => False) 297 [some (.ref b), some (.ref x), some (.ref m), some (.ref o), some (.ref od), some (.int 0), none, none, none] [] h := by
  obtain ⟨KC, KM, eo, eod, hD, hoC, hoM, hw0, hw1, hlf, hg0, hg1⟩ := hA
  refine s_Law_law_297 ?_
  have sC : ∀ a ∈ [st, s1], a ∈ CLs x d tx w st s1 s2 s3 s4 sv v1 v2 v3 v4 qo t tl ts pa na po k1 k2 k3 so ao o1 o2 o3 o4 x0 l0 z0 x1 l1 z1 := (List.forall_mem_cons.mpr ⟨List.mem_of_getElem? (i := 4) rfl, (List.forall_mem_cons.mpr ⟨List.mem_of_getElem? (i := 5) rfl, (fun _ h => nomatch h)⟩)⟩)
  refine x_callSH (As := [.ref x, .ref o]) (rest := []) (F1 := 5) (L1 := 113) (mc := 1) (ms := 5) d_Law_law_299 cH_Law_95 (hl_insert (KC.at 0 rfl rfl) (KC.at 2 rfl rfl) (KC.at 4 rfl rfl) (KC.at 5 rfl rfl) (KC.at 21 rfl rfl) (KC.at 22 rfl rfl) (KC.ne 21 22 rfl rfl (by decide)) rfl rfl eo (fun z => hoC (sC o z)) (by omega) (by omega)) ⟨by omega, by show 8 + (3 + 11) + 113 ≤ _; omega⟩ ⟨by omega, by omega⟩ (Nat.le_of_ble_eq_true rfl) (fun v_6 h_5 p_7 => ?_)
  obtain ⟨rfl, fr_1, f_2, hf_3, e_4⟩ := p_7
  have KM1 := KM.fr fr_1 (fun a ha hb => (List.mem_cons.mp hb).elim (fun z => hoM (by rw [← z]; exact ha)) (fun z => hD a ha (sC a z)))
  have e_m : h_5 m = some (.inr (11, mfs m0 m1 m2 m3 m4 m5 m6 m7 m8 m9 m10 m11 m12 m13 m14 m15 m16 m17 m18 m19 m20 m21 m22 m23 m24 m25 m26 m27 m28 m29 m30 m31 m32 m33 m34)) := KM1.at 0 rfl rfl
  refine s_Law_law_302 ?_
  refine x_callV (As := []) (b := m) (rest := []) (F1 := 4) (L1 := 94) (mc := 0) (ms := 0) d_Law_law_305 cV_Law_98 (fm_insert (by rfl) e_m (by rfl) (by rfl) (by rfl) (by rfl) (by rfl) (KM1.at 6 rfl rfl) (by rfl) (KM1.at 4 rfl rfl) (by rfl) (KM1.at 3 rfl rfl) (by rfl) (KM1.at 5 rfl rfl) (by rfl) (KM1.at 8 rfl rfl) (by rfl) (KM1.at 9 rfl rfl) (by rfl) (KM1.at 10 rfl rfl) (KM1.ne 8 9 rfl rfl (by decide)) hlf (by omega) (by omega)) e_m ⟨by decide, rfl⟩ ⟨by omega, by show 8 + (2 + 11) + 94 ≤ _; omega⟩ ⟨by omega, by omega⟩ (Nat.le_of_ble_eq_true rfl) (fun v_14 h_13 p_15 => ?_)
  obtain ⟨rfl, ⟨fs_8, l_9, e_10, g_11⟩, fr_12⟩ := p_15
  have sA : ∀ a ∈ [m, m5, m4, m7, m8, m9], a ∈ MLs m m0 m1 m2 m3 m4 m5 m6 m7 m8 m9 m10 m11 m12 m13 m14 m15 m16 m17 m18 m19 m20 m21 m22 m23 m24 m25 m26 m27 m28 m29 m30 m31 m32 m33 m34 := (List.forall_mem_cons.mpr ⟨List.mem_of_getElem? (i := 0) rfl, (List.forall_mem_cons.mpr ⟨List.mem_of_getElem? (i := 6) rfl, (List.forall_mem_cons.mpr ⟨List.mem_of_getElem? (i := 5) rfl, (List.forall_mem_cons.mpr ⟨List.mem_of_getElem? (i := 8) rfl, (List.forall_mem_cons.mpr ⟨List.mem_of_getElem? (i := 9) rfl, (List.forall_mem_cons.mpr ⟨List.mem_of_getElem? (i := 10) rfl, (fun _ h => nomatch h)⟩)⟩)⟩)⟩)⟩)⟩)
  have e_16 := fr_12 o _ (fun z => hoM (sA o z)) e_4
  refine s_Law_law_308 ?_
  refine x_callV (As := []) (b := m) (rest := []) (F1 := 1) (L1 := 20) (mc := 0) (ms := 0) d_Law_law_311 cV_Law_84 (f_thrown l_9 e_10 g_11 (by omega) (by omega)) e_10 ⟨by decide, rfl⟩ ⟨by omega, by show 8 + (1 + 11) + 20 ≤ _; omega⟩ ⟨by omega, by omega⟩ (Nat.le_of_ble_eq_true rfl) (fun v_18 h_17 p_19 => ?_)
  obtain ⟨rfl, rfl⟩ := p_19
  refine s_Law_law_314 (fun z_20 => ?_) (fun z => absurd z (by decide))
  refine s_Law_law_321 (fun z => absurd z (by decide)) (fun z_21 => ?_)
  refine s_Law_law_326 e_16 (by unfold vp_in; decide) (fun z_22 => ?_) (fun z => absurd (lgc hf_3) z)
  refine s_Law_law_338 ?_
  exact law_tail hX
set_option maxHeartbeats 2000000 in
theorem lc_replace {G : xw_G} {F L bc bs b : Nat} {xs : Nat → Int32} {x d tx w st s1 s2 s3 s4 sv v1 v2 v3 v4 qo t tl ts pa na po k1 k2 k3 so ao o1 o2 o3 o4 x0 l0 z0 x1 l1 z1 : Nat} {wf : Nat → Int32} {m m0 m1 m2 m3 m4 m5 m6 m7 m8 m9 m10 m11 m12 m13 m14 m15 m16 m17 m18 m19 m20 m21 m22 m23 m24 m25 m26 m27 m28 m29 m30 m31 m32 m33 m34 : Nat} {lf wg : Nat → Int32} {o od : Nat} {h : xw_A} {r : Int32} (hX : va_X b 3 xs G.2.2.1 G.2.2.1.heap) (hA : FrA x d tx w st s1 s2 s3 s4 sv v1 v2 v3 v4 qo t tl ts pa na po k1 k2 k3 so ao o1 o2 o3 o4 x0 l0 z0 x1 l1 z1 wf m m0 m1 m2 m3 m4 m5 m6 m7 m8 m9 m10 m11 m12 m13 m14 m15 m16 m17 m18 m19 m20 m21 m22 m23 m24 m25 m26 m27 m28 m29 m30 m31 m32 m33 m34 lf wg o od h) (hx0 : (xs (0 + 1 : Int32).toNatClampNeg) = r)  (hF : 8 ≤ F) (hL : 134 ≤ L) (hbc : 1 ≤ bc) (hbs : 6 ≤ bs) :
    xw G m_Law_law F L bc bs (fun v _ => v = some (.int 1)) (fun _ _ => False) 341 [some (.ref b), some (.ref x), some (.ref m), some (.ref o), some (.ref od), some (.int 0), none, none, none] [] h := by
  obtain ⟨KC, KM, eo, eod, hD, hoC, hoM, hw0, hw1, hlf, hg0, hg1⟩ := hA
  refine s_Law_law_341 hX (by unfold vp_in; decide) ?_
  rw [hx0]
  have sC : ∀ a ∈ [x], a ∈ CLs x d tx w st s1 s2 s3 s4 sv v1 v2 v3 v4 qo t tl ts pa na po k1 k2 k3 so ao o1 o2 o3 o4 x0 l0 z0 x1 l1 z1 := (List.forall_mem_cons.mpr ⟨List.mem_of_getElem? (i := 0) rfl, (fun _ h => nomatch h)⟩)
  refine x_callSH (As := [.ref x, .int r, .ref o]) (rest := []) (F1 := 7) (L1 := 111) (mc := 1) (ms := 6) d_Law_law_349 cH_Law_99 (hl_replace (KC.at 0 rfl rfl) (KC.at 4 rfl rfl) (KC.at 5 rfl rfl) (by omega) (by omega)) ⟨by omega, by show 8 + (4 + 11) + 111 ≤ _; omega⟩ ⟨by omega, by omega⟩ (Nat.le_of_ble_eq_true rfl) (fun v_6 h_5 p_7 => ?_)
  obtain ⟨rfl, fr_1⟩ := p_7
  have KM1 := KM.fr fr_1 (fun a ha hb => hD a ha (sC a hb))
  have e_m : h_5 m = some (.inr (11, mfs m0 m1 m2 m3 m4 m5 m6 m7 m8 m9 m10 m11 m12 m13 m14 m15 m16 m17 m18 m19 m20 m21 m22 m23 m24 m25 m26 m27 m28 m29 m30 m31 m32 m33 m34)) := KM1.at 0 rfl rfl
  refine s_Law_law_352 hX (by unfold vp_in; decide) ?_
  rw [hx0]
  refine x_callV (As := [.int r]) (b := m) (rest := []) (F1 := 3) (L1 := 63) (mc := 0) (ms := 0) d_Law_law_361 cV_Law_101 (fm_replace (by rfl) e_m (by rfl) (by rfl) (KM1.at 10 rfl rfl) hlf (by omega) (by omega)) e_m ⟨by decide, rfl⟩ ⟨by omega, by show 8 + (2 + 11) + 63 ≤ _; omega⟩ ⟨by omega, by omega⟩ (Nat.le_of_ble_eq_true rfl) (fun v_14 h_13 p_15 => ?_)
  obtain ⟨rfl, ⟨fs_8, l_9, e_10, g_11⟩, fr_12⟩ := p_15
  refine s_Law_law_364 ?_
  refine x_callV (As := []) (b := m) (rest := []) (F1 := 1) (L1 := 20) (mc := 0) (ms := 0) d_Law_law_367 cV_Law_84 (f_thrown l_9 e_10 g_11 (by omega) (by omega)) e_10 ⟨by decide, rfl⟩ ⟨by omega, by show 8 + (1 + 11) + 20 ≤ _; omega⟩ ⟨by omega, by omega⟩ (Nat.le_of_ble_eq_true rfl) (fun v_17 h_16 p_18 => ?_)
  obtain ⟨rfl, rfl⟩ := p_18
  refine s_Law_law_370 (fun z_19 => ?_) (fun z => absurd z (by decide))
  refine s_Law_law_377 (fun z_20 => ?_) (fun z => absurd z (by decide))
  refine s_Law_law_394 ?_
  exact law_tail hX
set_option maxHeartbeats 2000000 in
theorem lc_delete {G : xw_G} {F L bc bs b : Nat} {xs : Nat → Int32} {x d tx w st s1 s2 s3 s4 sv v1 v2 v3 v4 qo t tl ts pa na po k1 k2 k3 so ao o1 o2 o3 o4 x0 l0 z0 x1 l1 z1 : Nat} {wf : Nat → Int32} {m m0 m1 m2 m3 m4 m5 m6 m7 m8 m9 m10 m11 m12 m13 m14 m15 m16 m17 m18 m19 m20 m21 m22 m23 m24 m25 m26 m27 m28 m29 m30 m31 m32 m33 m34 : Nat} {lf wg : Nat → Int32} {o od : Nat} {h : xw_A} {r : Int32} (hX : va_X b 3 xs G.2.2.1 G.2.2.1.heap) (hA : FrA x d tx w st s1 s2 s3 s4 sv v1 v2 v3 v4 qo t tl ts pa na po k1 k2 k3 so ao o1 o2 o3 o4 x0 l0 z0 x1 l1 z1 wf m m0 m1 m2 m3 m4 m5 m6 m7 m8 m9 m10 m11 m12 m13 m14 m15 m16 m17 m18 m19 m20 m21 m22 m23 m24 m25 m26 m27 m28 m29 m30 m31 m32 m33 m34 lf wg o od h) (hx0 : (xs (0 + 1 : Int32).toNatClampNeg) = r)  (hF : 8 ≤ F) (hL : 135 ≤ L) (hbc : 1 ≤ bc) (hbs : 6 ≤ bs) :
    xw G m_Law_law F L bc bs (fun v _ => v = some (.int 1)) (fun _ _ => False) 397 [some (.ref b), some (.ref x), some (.ref m), some (.ref o), some (.ref od), some (.int 0), none, none, none] [] h := by
  obtain ⟨KC, KM, eo, eod, hD, hoC, hoM, hw0, hw1, hlf, hg0, hg1⟩ := hA
  refine s_Law_law_397 hX (by unfold vp_in; decide) ?_
  rw [hx0]
  have sC : ∀ a ∈ [x], a ∈ CLs x d tx w st s1 s2 s3 s4 sv v1 v2 v3 v4 qo t tl ts pa na po k1 k2 k3 so ao o1 o2 o3 o4 x0 l0 z0 x1 l1 z1 := (List.forall_mem_cons.mpr ⟨List.mem_of_getElem? (i := 0) rfl, (fun _ h => nomatch h)⟩)
  refine x_callSH (As := [.ref x, .int r, .ref o]) (rest := []) (F1 := 7) (L1 := 112) (mc := 1) (ms := 6) d_Law_law_405 cH_Law_102 (hl_delete (KC.at 0 rfl rfl) (KC.at 4 rfl rfl) (KC.at 5 rfl rfl) (by omega) (by omega)) ⟨by omega, by show 8 + (4 + 11) + 112 ≤ _; omega⟩ ⟨by omega, by omega⟩ (Nat.le_of_ble_eq_true rfl) (fun v_6 h_5 p_7 => ?_)
  obtain ⟨rfl, fr_1⟩ := p_7
  have KM1 := KM.fr fr_1 (fun a ha hb => hD a ha (sC a hb))
  have e_m : h_5 m = some (.inr (11, mfs m0 m1 m2 m3 m4 m5 m6 m7 m8 m9 m10 m11 m12 m13 m14 m15 m16 m17 m18 m19 m20 m21 m22 m23 m24 m25 m26 m27 m28 m29 m30 m31 m32 m33 m34)) := KM1.at 0 rfl rfl
  refine s_Law_law_408 hX (by unfold vp_in; decide) ?_
  rw [hx0]
  refine x_callV (As := [.int r]) (b := m) (rest := []) (F1 := 3) (L1 := 63) (mc := 0) (ms := 0) d_Law_law_417 cV_Law_104 (fm_delete (by rfl) e_m (by rfl) (by rfl) (KM1.at 10 rfl rfl) hlf (by omega) (by omega)) e_m ⟨by decide, rfl⟩ ⟨by omega, by show 8 + (3 + 11) + 63 ≤ _; omega⟩ ⟨by omega, by omega⟩ (Nat.le_of_ble_eq_true rfl) (fun v_14 h_13 p_15 => ?_)
  obtain ⟨rfl, ⟨fs_8, l_9, e_10, g_11⟩, fr_12⟩ := p_15
  refine s_Law_law_420 ?_
  refine x_callV (As := []) (b := m) (rest := []) (F1 := 1) (L1 := 20) (mc := 0) (ms := 0) d_Law_law_423 cV_Law_84 (f_thrown l_9 e_10 g_11 (by omega) (by omega)) e_10 ⟨by decide, rfl⟩ ⟨by omega, by show 8 + (1 + 11) + 20 ≤ _; omega⟩ ⟨by omega, by omega⟩ (Nat.le_of_ble_eq_true rfl) (fun v_17 h_16 p_18 => ?_)
  obtain ⟨rfl, rfl⟩ := p_18
  refine s_Law_law_426 (fun z_19 => ?_) (fun z => absurd z (by decide))
  refine s_Law_law_433 (fun z_20 => ?_) (fun z => absurd z (by decide))
  refine s_Law_law_450 ?_
  exact law_tail hX
set_option maxHeartbeats 2000000 in
theorem lc_begin {G : xw_G} {F L bc bs b : Nat} {xs : Nat → Int32} {x d tx w st s1 s2 s3 s4 sv v1 v2 v3 v4 qo t tl ts pa na po k1 k2 k3 so ao o1 o2 o3 o4 x0 l0 z0 x1 l1 z1 : Nat} {wf : Nat → Int32} {m m0 m1 m2 m3 m4 m5 m6 m7 m8 m9 m10 m11 m12 m13 m14 m15 m16 m17 m18 m19 m20 m21 m22 m23 m24 m25 m26 m27 m28 m29 m30 m31 m32 m33 m34 : Nat} {lf wg : Nat → Int32} {o od : Nat} {h : xw_A}  (hX : va_X b 3 xs G.2.2.1 G.2.2.1.heap) (hA : FrA x d tx w st s1 s2 s3 s4 sv v1 v2 v3 v4 qo t tl ts pa na po k1 k2 k3 so ao o1 o2 o3 o4 x0 l0 z0 x1 l1 z1 wf m m0 m1 m2 m3 m4 m5 m6 m7 m8 m9 m10 m11 m12 m13 m14 m15 m16 m17 m18 m19 m20 m21 m22 m23 m24 m25 m26 m27 m28 m29 m30 m31 m32 m33 m34 lf wg o od h)   (hF : 4 ≤ F) (hL : 83 ≤ L) (hbc : 0 ≤ bc) (hbs : 0 ≤ bs) :
    xw G m_Law_law F L bc bs (fun v _ => v = some (.int 1)) (fun _ _ => False) 453 [some (.ref b), some (.ref x), some (.ref m), some (.ref o), some (.ref od), some (.int 0), none, none, none] [] h := by
  obtain ⟨KC, KM, eo, eod, hD, hoC, hoM, hw0, hw1, hlf, hg0, hg1⟩ := hA
  refine s_Law_law_453 ?_
  have sC : ∀ a ∈ [x, sv, v1], a ∈ CLs x d tx w st s1 s2 s3 s4 sv v1 v2 v3 v4 qo t tl ts pa na po k1 k2 k3 so ao o1 o2 o3 o4 x0 l0 z0 x1 l1 z1 := (List.forall_mem_cons.mpr ⟨List.mem_of_getElem? (i := 0) rfl, (List.forall_mem_cons.mpr ⟨List.mem_of_getElem? (i := 9) rfl, (List.forall_mem_cons.mpr ⟨List.mem_of_getElem? (i := 10) rfl, (fun _ h => nomatch h)⟩)⟩)⟩)
  refine x_callSH (As := [.ref x]) (rest := []) (F1 := 3) (L1 := 62) (mc := 0) (ms := 0) d_Law_law_454 cH_Law_105 (hl_begin (KC.at 0 rfl rfl) (KC.at 9 rfl rfl) (KC.at 10 rfl rfl) (KC.at 4 rfl rfl) (KC.at 5 rfl rfl) (KC.ne 9 4 rfl rfl (by decide)) (KC.ne 10 5 rfl rfl (by decide)) (by omega) (by omega)) ⟨by omega, by show 8 + (2 + 11) + 62 ≤ _; omega⟩ ⟨by omega, by omega⟩ (Nat.le_of_ble_eq_true rfl) (fun v_6 h_5 p_7 => ?_)
  obtain ⟨rfl, fr_1⟩ := p_7
  have KM1 := KM.fr fr_1 (fun a ha hb => hD a ha (sC a hb))
  have e_m : h_5 m = some (.inr (11, mfs m0 m1 m2 m3 m4 m5 m6 m7 m8 m9 m10 m11 m12 m13 m14 m15 m16 m17 m18 m19 m20 m21 m22 m23 m24 m25 m26 m27 m28 m29 m30 m31 m32 m33 m34)) := KM1.at 0 rfl rfl
  refine s_Law_law_457 ?_
  refine x_callV (As := []) (b := m) (rest := []) (F1 := 2) (L1 := 42) (mc := 0) (ms := 0) d_Law_law_460 cV_Law_108 (fm_begin (by rfl) e_m (by rfl) (by rfl) (by rfl) (by rfl) (by rfl) (KM1.at 5 rfl rfl) (by rfl) (KM1.at 13 rfl rfl) (by rfl) (KM1.at 6 rfl rfl) (by rfl) (KM1.at 14 rfl rfl) (by rfl) (KM1.at 10 rfl rfl) (by rfl) (KM1.at 16 rfl rfl) (by rfl) (KM1.at 9 rfl rfl) (by rfl) (KM1.at 15 rfl rfl) (by rfl) (KM1.at 11 rfl rfl) (by rfl) (KM1.at 17 rfl rfl) (KM1.ne 5 13 rfl rfl (by decide)) (KM1.ne 6 14 rfl rfl (by decide)) (KM1.ne 10 16 rfl rfl (by decide)) (KM1.ne 9 15 rfl rfl (by decide)) (KM1.ne 9 11 rfl rfl (by decide)) (KM1.ne 9 17 rfl rfl (by decide)) (KM1.ne 15 11 rfl rfl (by decide)) (KM1.ne 15 17 rfl rfl (by decide)) (KM1.ne 11 17 rfl rfl (by decide)) (by omega) (by omega)) e_m ⟨by decide, rfl⟩ ⟨by omega, by show 8 + (2 + 11) + 42 ≤ _; omega⟩ ⟨by omega, by omega⟩ (Nat.le_of_ble_eq_true rfl) (fun v_14 h_13 p_15 => ?_)
  obtain ⟨rfl, ⟨fs_8, l_9, e_10, g_11⟩, fr_12⟩ := p_15
  refine s_Law_law_463 ?_
  refine x_callV (As := []) (b := m) (rest := []) (F1 := 1) (L1 := 20) (mc := 0) (ms := 0) d_Law_law_464 cV_Law_84 (f_thrown l_9 e_10 g_11 (by omega) (by omega)) e_10 ⟨by decide, rfl⟩ ⟨by omega, by show 8 + (1 + 11) + 20 ≤ _; omega⟩ ⟨by omega, by omega⟩ (Nat.le_of_ble_eq_true rfl) (fun v_17 h_16 p_18 => ?_)
  obtain ⟨rfl, rfl⟩ := p_18
  refine s_Law_law_467 (fun z_19 => ?_) (fun z => absurd z (by decide))
  refine s_Law_law_474 ?_
  exact law_tail hX
set_option maxHeartbeats 2000000 in
theorem lc_commit {G : xw_G} {F L bc bs b : Nat} {xs : Nat → Int32} {x d tx w st s1 s2 s3 s4 sv v1 v2 v3 v4 qo t tl ts pa na po k1 k2 k3 so ao o1 o2 o3 o4 x0 l0 z0 x1 l1 z1 : Nat} {wf : Nat → Int32} {m m0 m1 m2 m3 m4 m5 m6 m7 m8 m9 m10 m11 m12 m13 m14 m15 m16 m17 m18 m19 m20 m21 m22 m23 m24 m25 m26 m27 m28 m29 m30 m31 m32 m33 m34 : Nat} {lf wg : Nat → Int32} {o od : Nat} {h : xw_A}  (hX : va_X b 3 xs G.2.2.1 G.2.2.1.heap) (hA : FrA x d tx w st s1 s2 s3 s4 sv v1 v2 v3 v4 qo t tl ts pa na po k1 k2 k3 so ao o1 o2 o3 o4 x0 l0 z0 x1 l1 z1 wf m m0 m1 m2 m3 m4 m5 m6 m7 m8 m9 m10 m11 m12 m13 m14 m15 m16 m17 m18 m19 m20 m21 m22 m23 m24 m25 m26 m27 m28 m29 m30 m31 m32 m33 m34 lf wg o od h)   (hF : 8 ≤ F) (hL : 132 ≤ L) (hbc : 1 ≤ bc) (hbs : 6 ≤ bs) :
    xw G m_Law_law F L bc bs (fun v _ => v = some (.int 1)) (fun _ _ => False) 477 [some (.ref b), some (.ref x), some (.ref m), some (.ref o), some (.ref od), some (.int 0), none, none, none] [] h := by
  obtain ⟨KC, KM, eo, eod, hD, hoC, hoM, hw0, hw1, hlf, hg0, hg1⟩ := hA
  refine s_Law_law_477 ?_
  have sC : ∀ a ∈ [x], a ∈ CLs x d tx w st s1 s2 s3 s4 sv v1 v2 v3 v4 qo t tl ts pa na po k1 k2 k3 so ao o1 o2 o3 o4 x0 l0 z0 x1 l1 z1 := (List.forall_mem_cons.mpr ⟨List.mem_of_getElem? (i := 0) rfl, (fun _ h => nomatch h)⟩)
  refine x_callSH (As := [.ref x, .ref o]) (rest := []) (F1 := 7) (L1 := 110) (mc := 1) (ms := 6) d_Law_law_479 cH_Law_109 (hl_commit (KC.at 0 rfl rfl) (by omega) (by omega)) ⟨by omega, by show 8 + (3 + 11) + 110 ≤ _; omega⟩ ⟨by omega, by omega⟩ (Nat.le_of_ble_eq_true rfl) (fun v_6 h_5 p_7 => ?_)
  obtain ⟨rfl, fr_1⟩ := p_7
  have KM1 := KM.fr fr_1 (fun a ha hb => hD a ha (sC a hb))
  have e_m : h_5 m = some (.inr (11, mfs m0 m1 m2 m3 m4 m5 m6 m7 m8 m9 m10 m11 m12 m13 m14 m15 m16 m17 m18 m19 m20 m21 m22 m23 m24 m25 m26 m27 m28 m29 m30 m31 m32 m33 m34)) := KM1.at 0 rfl rfl
  refine s_Law_law_482 ?_
  refine x_callV (As := []) (b := m) (rest := []) (F1 := 2) (L1 := 42) (mc := 0) (ms := 0) d_Law_law_485 cV_Law_111 (fm_commit (by rfl) e_m (by rfl) (by rfl) (by omega) (by omega)) e_m ⟨by decide, rfl⟩ ⟨by omega, by show 8 + (1 + 11) + 42 ≤ _; omega⟩ ⟨by omega, by omega⟩ (Nat.le_of_ble_eq_true rfl) (fun v_14 h_13 p_15 => ?_)
  obtain ⟨rfl, ⟨fs_8, l_9, e_10, g_11⟩, fr_12⟩ := p_15
  refine s_Law_law_488 ?_
  refine x_callV (As := []) (b := m) (rest := []) (F1 := 1) (L1 := 20) (mc := 0) (ms := 0) d_Law_law_491 cV_Law_84 (f_thrown l_9 e_10 g_11 (by omega) (by omega)) e_10 ⟨by decide, rfl⟩ ⟨by omega, by show 8 + (1 + 11) + 20 ≤ _; omega⟩ ⟨by omega, by omega⟩ (Nat.le_of_ble_eq_true rfl) (fun v_17 h_16 p_18 => ?_)
  obtain ⟨rfl, rfl⟩ := p_18
  refine s_Law_law_494 (fun z_19 => ?_) (fun z => absurd z (by decide))
  refine s_Law_law_501 (fun z_20 => ?_) (fun z => absurd z (by decide))
  refine s_Law_law_518 ?_
  exact law_tail hX
