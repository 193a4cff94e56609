/-! THE LAW FOR ONE CALL: by program (wip/tools/p1l.py) -/
theorem lcons {l : List Nat} {n : Nat} (h : l.length = n + 1) : ∃ a t, l = a :: t ∧ t.length = n := by
  cases l with
  | nil => simp at h
  | cons a t => exact ⟨a, t, rfl, by simpa using h⟩
theorem SL.look {as as' : List Nat} {p : List Nat} (ha : p.map (fun i => as[i]?) = as'.map some) {k a : Nat} (h : as'[k]? = some a) : ∃ i, p[k]? = some i ∧ as[i]? = some a := by
  have h1 : (as'.map some)[k]? = some (some a) := by simp [h]
  rw [← ha] at h1
  simp only [List.getElem?_map, Option.map_eq_some_iff] at h1
  exact h1
theorem SL.lookC {cs cs' : List xw_C} {p : List Nat} (ha : p.map (fun i => cs[i]?) = cs'.map some) {k : Nat} {e : xw_C} (h : cs'[k]? = some e) : ∃ i, p[k]? = some i ∧ cs[i]? = some e := by
  have h1 : (cs'.map some)[k]? = some (some e) := by simp [h]
  rw [← ha] at h1
  simp only [List.getElem?_map, Option.map_eq_some_iff] at h1
  exact h1
theorem SL.sub {as as' : List Nat} {cs cs' : List xw_C} {h : xw_A} (K : SL as cs h) (p : List Nat) (ha : p.map (fun i => as[i]?) = as'.map some) (hc : p.map (fun i => cs[i]?) = cs'.map some) (hn : ∀ i, i < p.length → ∀ j, j < p.length → p[i]? = p[j]? → i = j) : SL as' cs' h := by
  refine ⟨?_, fun i j a hi hj => ?_, fun i a e hi he => ?_⟩
  · have h1 := congrArg List.length ha
    have h2 := congrArg List.length hc
    simp only [List.length_map] at h1 h2
    omega
  · obtain ⟨x, x1, x2⟩ := SL.look ha hi
    obtain ⟨y, y1, y2⟩ := SL.look ha hj
    have e1 := K.2.1 x y a x2 y2
    subst e1
    exact hn i (List.getElem?_eq_some_iff.mp x1).1 j (List.getElem?_eq_some_iff.mp y1).1 (x1.trans y1.symm)
  · obtain ⟨x, x1, x2⟩ := SL.look ha hi
    obtain ⟨y, y1, y2⟩ := SL.lookC hc he
    have e1 : x = y := Option.some.inj (x1.symm.trans y1)
    subst e1
    exact K.2.2 x a e x2 y2
theorem SL.apart {as as1 as2 : List Nat} {cs : List xw_C} {h : xw_A} (K : SL as cs h) (p q : List Nat) (h1 : p.map (fun i => as[i]?) = as1.map some) (h2 : q.map (fun i => as[i]?) = as2.map some) (hpq : ∀ i ∈ p, i ∉ q) : ∀ a ∈ as1, a ∉ as2 := by
  intro a ha hb
  obtain ⟨k, hk⟩ := List.mem_iff_getElem?.mp ha
  obtain ⟨l, hl⟩ := List.mem_iff_getElem?.mp hb
  obtain ⟨x, x1, x2⟩ := SL.look h1 hk
  obtain ⟨y, y1, y2⟩ := SL.look h2 hl
  have e1 := K.2.1 x y a x2 y2
  subst e1
  exact hpq x (List.mem_of_getElem? x1) (List.mem_of_getElem? y1)
set_option maxHeartbeats 8000000 in
set_option maxRecDepth 8000 in
theorem fresh_open {x m o od : Nat} {h : xw_A} (hf : Fresh x m o od h) : ∃ (d tx w st s1 s2 s3 s4 sv v1 v2 v3 v4 qo t tl ts pa na po k1 k2 k3 so ao o1 o2 o3 o4 x0 l0 z0 x1 l1 z1 : Nat) (wf : Nat → Int32) (m0 m1 m2 m3 m4 m5 m6 m7 m8 m9 m10 m11 m12 m13 m14 m15 m16 m17 m18 m19 m20 m21 m22 m23 m24 m25 m26 m27 m28 m29 m30 m31 m32 m33 m34 : Nat) (lf wg : Nat → Int32), FrA x d tx w st s1 s2 s3 s4 sv v1 v2 v3 v4 qo t tl ts pa na po k1 k2 k3 so ao o1 o2 o3 o4 x0 l0 z0 x1 l1 z1 wf m m0 m1 m2 m3 m4 m5 m6 m7 m8 m9 m10 m11 m12 m13 m14 m15 m16 m17 m18 m19 m20 m21 m22 m23 m24 m25 m26 m27 m28 m29 m30 m31 m32 m33 m34 lf wg o od h := by
  obtain ⟨d, tx, w, st, s1, s2, s3, s4, sv, v1, v2, v3, v4, qo, t, tl, ts, pa, na, po, k1, k2, k3, ps, ns, so, sp, ao, o1, o2, o3, o4, x0, l0, z0, x1, l1, z1, wf, m0, m1, m2, m3, m4, m5, m6, m7, m8, m9, m10, m11, m12, m13, m14, m15, m16, m17, m18, m19, m20, m21, m22, m23, m24, m25, m26, m27, m28, m29, m30, m31, m32, m33, m34, lf, wg, hps, hns, hw0, hw1, hlf, hg0, hg1, K⟩ := hf
  obtain ⟨p0, ps0, rfl, hp0⟩ := lcons hps
  obtain ⟨p1, ps1, rfl, hp1⟩ := lcons hp0
  obtain ⟨p2, ps2, rfl, hp2⟩ := lcons hp1
  obtain ⟨p3, ps3, rfl, hp3⟩ := lcons hp2
  obtain ⟨p4, ps4, rfl, hp4⟩ := lcons hp3
  obtain ⟨p5, ps5, rfl, hp5⟩ := lcons hp4
  obtain ⟨p6, ps6, rfl, hp6⟩ := lcons hp5
  obtain ⟨p7, ps7, rfl, hp7⟩ := lcons hp6
  obtain ⟨p8, ps8, rfl, hp8⟩ := lcons hp7
  obtain ⟨p9, ps9, rfl, hp9⟩ := lcons hp8
  obtain ⟨p10, ps10, rfl, hp10⟩ := lcons hp9
  obtain ⟨p11, ps11, rfl, hp11⟩ := lcons hp10
  obtain rfl := List.eq_nil_of_length_eq_zero hp11
  obtain ⟨u0, us0, rfl, hu0⟩ := lcons hns
  obtain ⟨u1, us1, rfl, hu1⟩ := lcons hu0
  obtain ⟨u2, us2, rfl, hu2⟩ := lcons hu1
  obtain ⟨u3, us3, rfl, hu3⟩ := lcons hu2
  obtain ⟨u4, us4, rfl, hu4⟩ := lcons hu3
  obtain ⟨u5, us5, rfl, hu5⟩ := lcons hu4
  obtain ⟨u6, us6, rfl, hu6⟩ := lcons hu5
  obtain ⟨u7, us7, rfl, hu7⟩ := lcons hu6
  obtain ⟨u8, us8, rfl, hu8⟩ := lcons hu7
  obtain ⟨u9, us9, rfl, hu9⟩ := lcons hu8
  obtain ⟨u10, us10, rfl, hu10⟩ := lcons hu9
  obtain ⟨u11, us11, rfl, hu11⟩ := lcons hu10
  obtain ⟨u12, us12, rfl, hu12⟩ := lcons hu11
  obtain ⟨u13, us13, rfl, hu13⟩ := lcons hu12
  obtain ⟨u14, us14, rfl, hu14⟩ := lcons hu13
  obtain ⟨u15, us15, rfl, hu15⟩ := lcons hu14
  obtain ⟨u16, us16, rfl, hu16⟩ := lcons hu15
  obtain ⟨u17, us17, rfl, hu17⟩ := lcons hu16
  obtain ⟨u18, us18, rfl, hu18⟩ := lcons hu17
  obtain ⟨u19, us19, rfl, hu19⟩ := lcons hu18
  obtain ⟨u20, us20, rfl, hu20⟩ := lcons hu19
  obtain ⟨u21, us21, rfl, hu21⟩ := lcons hu20
  obtain ⟨u22, us22, rfl, hu22⟩ := lcons hu21
  obtain ⟨u23, us23, rfl, hu23⟩ := lcons hu22
  obtain rfl := List.eq_nil_of_length_eq_zero hu23
  refine ⟨d, tx, w, st, s1, s2, s3, s4, sv, v1, v2, v3, v4, qo, t, tl, ts, pa, na, po, k1, k2, k3, so, ao, o1, o2, o3, o4, x0, l0, z0, x1, l1, z1, wf, m0, m1, m2, m3, m4, m5, m6, m7, m8, m9, m10, m11, m12, m13, m14, m15, m16, m17, m18, m19, m20, m21, m22, m23, m24, m25, m26, m27, m28, m29, m30, m31, m32, m33, m34, lf, wg, ?_⟩
  exact ⟨K.sub [0, 1, 2, 3, 4, 5, 6, 7, 8, 9, 10, 11, 12, 13, 14, 15, 20, 21, 22, 23, 62, 67, 70] rfl rfl (by decide), K.sub [73, 74, 75, 76, 77, 78, 79, 80, 81, 82, 83, 84, 85, 86, 87, 88, 89, 90, 91, 92, 93, 94, 95, 96, 97, 98, 99, 100, 101, 102, 103, 104, 105, 106, 107, 108] rfl rfl (by decide), K.at 109 rfl rfl, K.at 110 rfl rfl, K.apart [73, 74, 75, 76, 77, 78, 79, 80, 81, 82, 83, 84, 85, 86, 87, 88, 89, 90, 91, 92, 93, 94, 95, 96, 97, 98, 99, 100, 101, 102, 103, 104, 105, 106, 107, 108] [0, 1, 2, 3, 4, 5, 6, 7, 8, 9, 10, 11, 12, 13, 14, 15, 20, 21, 22, 23, 62, 67, 70] rfl rfl (by decide),
    K.apart [109] [0, 1, 2, 3, 4, 5, 6, 7, 8, 9, 10, 11, 12, 13, 14, 15, 20, 21, 22, 23, 62, 67, 70] (as1 := [o]) rfl rfl (by decide) o (by simp), K.apart [109] [73, 74, 75, 76, 77, 78, 79, 80, 81, 82, 83, 84, 85, 86, 87, 88, 89, 90, 91, 92, 93, 94, 95, 96, 97, 98, 99, 100, 101, 102, 103, 104, 105, 106, 107, 108] (as1 := [o]) rfl rfl (by decide) o (by simp), hw0, hw1, hlf, hg0, hg1⟩
set_option maxHeartbeats 8000000 in
theorem law_turn {G : xw_G} {F L bc bs b x m o od : Nat} {xs : Nat → Int32} {h : xw_A} (hX : va_X b 3 xs G.2.2.1 G.2.2.1.heap) (hf : Fresh x m o od h) (hF : 40 ≤ F) (hL : 800 ≤ L) (hbc : 10 ≤ bc) (hbs : 100 ≤ bs) :
    xw G m_Law_law F L bc bs (fun v _ => v = some (.int 1)) (fun _ _ => False) 28 [some (.ref b), some (.ref x), some (.ref m), some (.ref o), some (.ref od), some (.int 0), none, none, none] [] h := by
  obtain ⟨d, tx, w, st, s1, s2, s3, s4, sv, v1, v2, v3, v4, qo, t, tl, ts, pa, na, po, k1, k2, k3, so, ao, o1, o2, o3, o4, x0, l0, z0, x1, l1, z1, wf, m0, m1, m2, m3, m4, m5, m6, m7, m8, m9, m10, m11, m12, m13, m14, m15, m16, m17, m18, m19, m20, m21, m22, m23, m24, m25, m26, m27, m28, m29, m30, m31, m32, m33, m34, lf, wg, hA⟩ := fresh_open hf
  refine s_Law_law_28 hX (fun z => absurd z (by decide)) (fun _ => ?_)
  refine s_Law_law_37 hX (by unfold vp_in; decide) ?_
  obtain ⟨j, hj, ej⟩ := pk_andE (xs (0 : Int32).toNatClampNeg) (m := 31) 5 (by decide)
  rw [ej]
  have hj' : j < 32 := hj
  clear ej hj
  obtain rfl | rfl | rfl | rfl | rfl | rfl | rfl | rfl | rfl | rfl | rfl | rfl | rfl | rfl | rfl | rfl | rfl | rfl | rfl | rfl | hj2 : j = 0 ∨ j = 1 ∨ j = 2 ∨ j = 3 ∨ j = 4 ∨ j = 5 ∨ j = 6 ∨ j = 7 ∨ j = 8 ∨ j = 9 ∨ j = 10 ∨ j = 11 ∨ j = 12 ∨ j = 13 ∨ j = 14 ∨ j = 15 ∨ j = 16 ∨ j = 17 ∨ j = 18 ∨ j = 19 ∨ 20 ≤ j := by omega
  · refine x_tableAt (tgt := 140) d_Law_law_44 (by decide) (by decide) (show _ = some 96 by decide) (by decide) ⟨1145, by decide⟩ ?_
    cases hq : ltr (oct (((((xs (0 + 1 : Int32).toNatClampNeg).toInt64) <<< ((32 : Int32).toInt64 &&& 63)) ||| (((xs (0 + 2 : Int32).toNatClampNeg).toInt64) &&& 4294967295)))) 8 0 with
    | none =>
      exact lc_letters_no hX hA rfl (by rw [hq]; rfl) (Or.inl hq) (by omega) (by omega) (by omega) (by omega)
    | some n =>
      cases n with
      | zero =>
        exact lc_letters_no hX hA rfl (by rw [hq]; rfl) (Or.inr hq) (by omega) (by omega) (by omega) (by omega)
      | succ n =>
        have hn : n < 8 := by have := ltr_le 8 0 (n + 1) hq; omega
        exact lc_letters_yes hX hA rfl (by rw [hq]; rfl) hq hn (by omega) (by omega) (by omega) (by omega)
  · refine x_tableAt (tgt := 228) d_Law_law_44 (by decide) (by decide) (show _ = some 184 by decide) (by decide) ⟨1145, by decide⟩ ?_
    exact lc_drop hX hA   (by omega) (by omega) (by omega) (by omega)
  · refine x_tableAt (tgt := 241) d_Law_law_44 (by decide) (by decide) (show _ = some 197 by decide) (by decide) ⟨1145, by decide⟩ ?_
    by_cases hn : xs (0 + 1 : Int32).toNatClampNeg < 0 ∨ 1 < xs (0 + 1 : Int32).toNatClampNeg
    · exact lc_set_no hX hA rfl hn (by omega) (by omega) (by omega) (by omega)
    · rw [not_or] at hn
      obtain ⟨j, j1, j2, hj⟩ := ix_of (a := 0) (b := 1) (by decide) (by decide) hn.1 hn.2
      obtain rfl | rfl : j = 0 ∨ j = 1 := by omega
      · exact lc_set_0 hX hA hj  (by omega) (by omega) (by omega) (by omega)
      · exact lc_set_1 hX hA hj  (by omega) (by omega) (by omega) (by omega)
  · refine x_tableAt (tgt := 297) d_Law_law_44 (by decide) (by decide) (show _ = some 253 by decide) (by decide) ⟨1145, by decide⟩ ?_
    exact lc_insert hX hA   (by omega) (by omega) (by omega) (by omega)
  · refine x_tableAt (tgt := 341) d_Law_law_44 (by decide) (by decide) (show _ = some 297 by decide) (by decide) ⟨1145, by decide⟩ ?_
    exact lc_replace hX hA rfl  (by omega) (by omega) (by omega) (by omega)
  · refine x_tableAt (tgt := 397) d_Law_law_44 (by decide) (by decide) (show _ = some 353 by decide) (by decide) ⟨1145, by decide⟩ ?_
    exact lc_delete hX hA rfl  (by omega) (by omega) (by omega) (by omega)
  · refine x_tableAt (tgt := 453) d_Law_law_44 (by decide) (by decide) (show _ = some 409 by decide) (by decide) ⟨1145, by decide⟩ ?_
    exact lc_begin hX hA   (by omega) (by omega) (by omega) (by omega)
  · refine x_tableAt (tgt := 477) d_Law_law_44 (by decide) (by decide) (show _ = some 433 by decide) (by decide) ⟨1145, by decide⟩ ?_
    exact lc_commit hX hA   (by omega) (by omega) (by omega) (by omega)
  · refine x_tableAt (tgt := 521) d_Law_law_44 (by decide) (by decide) (show _ = some 477 by decide) (by decide) ⟨1145, by decide⟩ ?_
    exact lc_rollback hX hA   (by omega) (by omega) (by omega) (by omega)
  · refine x_tableAt (tgt := 565) d_Law_law_44 (by decide) (by decide) (show _ = some 521 by decide) (by decide) ⟨1145, by decide⟩ ?_
    exact lc_flush hX hA   (by omega) (by omega) (by omega) (by omega)
  · refine x_tableAt (tgt := 578) d_Law_law_44 (by decide) (by decide) (show _ = some 534 by decide) (by decide) ⟨1145, by decide⟩ ?_
    exact lc_optimize hX hA   (by omega) (by omega) (by omega) (by omega)
  · refine x_tableAt (tgt := 591) d_Law_law_44 (by decide) (by decide) (show _ = some 547 by decide) (by decide) ⟨1145, by decide⟩ ?_
    by_cases hn : xs (0 + 1 : Int32).toNatClampNeg < 1 ∨ 9 < xs (0 + 1 : Int32).toNatClampNeg
    · exact lc_ways_no1 hX hA rfl rfl hn (by omega) (by omega) (by omega) (by omega)
    · by_cases hn2 : xs (0 + 2 : Int32).toNatClampNeg < 0 ∨ 200 < xs (0 + 2 : Int32).toNatClampNeg
      · exact lc_ways_no2 hX hA rfl rfl (fun q => hn (Or.inl q)) (fun q => hn (Or.inr q)) hn2 (by omega) (by omega) (by omega) (by omega)
      · exact lc_ways_yes hX hA rfl rfl (fun q => hn (Or.inl q)) (fun q => hn (Or.inr q)) (fun q => hn2 (Or.inl q)) (fun q => hn2 (Or.inr q)) (by omega) (by omega) (by omega) (by omega)
  · refine x_tableAt (tgt := 639) d_Law_law_44 (by decide) (by decide) (show _ = some 595 by decide) (by decide) ⟨1145, by decide⟩ ?_
    by_cases hn : xs (0 + 1 : Int32).toNatClampNeg < 0 ∨ 1 < xs (0 + 1 : Int32).toNatClampNeg
    · exact lc_weight_no1 hX hA rfl rfl hn (by omega) (by omega) (by omega) (by omega)
    · rw [not_or] at hn
      obtain ⟨j, j1, j2, hj⟩ := ix_of (a := 0) (b := 1) (by decide) (by decide) hn.1 hn.2
      obtain rfl | rfl : j = 0 ∨ j = 1 := by omega
      · by_cases hn2 : xs (0 + 2 : Int32).toNatClampNeg < 0 ∨ 9 < xs (0 + 2 : Int32).toNatClampNeg
        · exact lc_weight_no2_0 hX hA hj rfl hn2 (by omega) (by omega) (by omega) (by omega)
        · exact lc_weight_0 hX hA hj rfl (fun q => hn2 (Or.inl q)) (fun q => hn2 (Or.inr q)) (by omega) (by omega) (by omega) (by omega)
      · by_cases hn2 : xs (0 + 2 : Int32).toNatClampNeg < 0 ∨ 9 < xs (0 + 2 : Int32).toNatClampNeg
        · exact lc_weight_no2_1 hX hA hj rfl hn2 (by omega) (by omega) (by omega) (by omega)
        · exact lc_weight_1 hX hA hj rfl (fun q => hn2 (Or.inl q)) (fun q => hn2 (Or.inr q)) (by omega) (by omega) (by omega) (by omega)
  · refine x_tableAt (tgt := 707) d_Law_law_44 (by decide) (by decide) (show _ = some 663 by decide) (by decide) ⟨1145, by decide⟩ ?_
    exact lc_ask hX hA   (by omega) (by omega) (by omega) (by omega)
  · refine x_tableAt (tgt := 751) d_Law_law_44 (by decide) (by decide) (show _ = some 707 by decide) (by decide) ⟨1145, by decide⟩ ?_
    exact lc_wrong hX hA   (by omega) (by omega) (by omega) (by omega)
  · refine x_tableAt (tgt := 764) d_Law_law_44 (by decide) (by decide) (show _ = some 720 by decide) (by decide) ⟨1145, by decide⟩ ?_
    exact lc_answer hX hA rfl  (by omega) (by omega) (by omega) (by omega)
  · refine x_tableAt (tgt := 848) d_Law_law_44 (by decide) (by decide) (show _ = some 804 by decide) (by decide) ⟨1145, by decide⟩ ?_
    exact lc_score hX hA rfl  (by omega) (by omega) (by omega) (by omega)
  · refine x_tableAt (tgt := 953) d_Law_law_44 (by decide) (by decide) (show _ = some 909 by decide) (by decide) ⟨1145, by decide⟩ ?_
    exact lc_look hX hA rfl rfl  (by omega) (by omega) (by omega) (by omega)
  · refine x_tableAt (tgt := 1021) d_Law_law_44 (by decide) (by decide) (show _ = some 977 by decide) (by decide) ⟨1145, by decide⟩ ?_
    exact lc_segment hX hA rfl rfl  (by omega) (by omega) (by omega) (by omega)
  · refine x_tableAt (tgt := 1089) d_Law_law_44 (by decide) (by decide) (show _ = some 1045 by decide) (by decide) ⟨1145, by decide⟩ ?_
    by_cases hn : xs (0 + 1 : Int32).toNatClampNeg < 0 ∨ 8 < xs (0 + 1 : Int32).toNatClampNeg
    · exact lc_count_no hX hA rfl hn (by omega) (by omega) (by omega) (by omega)
    · rw [not_or] at hn
      obtain ⟨j, j1, j2, hj⟩ := ix_of (a := 0) (b := 8) (by decide) (by decide) hn.1 hn.2
      obtain rfl | rfl | rfl | rfl | rfl | rfl | rfl | rfl | rfl : j = 0 ∨ j = 1 ∨ j = 2 ∨ j = 3 ∨ j = 4 ∨ j = 5 ∨ j = 6 ∨ j = 7 ∨ j = 8 := by omega
      · exact lc_count_0 hX hA hj  (by omega) (by omega) (by omega) (by omega)
      · exact lc_count_1 hX hA hj  (by omega) (by omega) (by omega) (by omega)
      · exact lc_count_2 hX hA hj  (by omega) (by omega) (by omega) (by omega)
      · exact lc_count_3 hX hA hj  (by omega) (by omega) (by omega) (by omega)
      · exact lc_count_4 hX hA hj  (by omega) (by omega) (by omega) (by omega)
      · exact lc_count_5 hX hA hj  (by omega) (by omega) (by omega) (by omega)
      · exact lc_count_6 hX hA hj  (by omega) (by omega) (by omega) (by omega)
      · exact lc_count_7 hX hA hj  (by omega) (by omega) (by omega) (by omega)
      · exact lc_count_8 hX hA hj  (by omega) (by omega) (by omega) (by omega)
  · refine x_tableOut (dt := 1145) d_Law_law_44 (Or.inr (by rw [nI_toInt (by omega)]; omega)) (by decide) ?_
    exact law_tail hX
theorem law_all : xw_Law := by
  intro G b N xs hN hX
  refine law_begin (by first | decide | decide +kernel) (by first | decide | decide +kernel) (by first | decide | decide +kernel) (by first | decide | decide +kernel) (fun x m o od h hf => ?_)
  by_cases h3 : N = 3
  · subst h3
    exact law_turn hX hf (by first | decide | decide +kernel) (by first | decide | decide +kernel) (by first | decide | decide +kernel) (by first | decide | decide +kernel)
  · obtain rfl | rfl | rfl : N = 0 ∨ N = 1 ∨ N = 2 := by omega
    all_goals exact s_Law_law_28 hX (fun _ => s_Law_law_1151 rfl) (fun z => absurd z (by decide))
theorem i_vc : Claimed_1_1 ∧ Claimed_1_2 := i_vc_open law_all
