/-! the class between two calls, the law's helpers, its loop: by program (wip/tools/gen8.py) -/
abbrev iC8 : List Nat := 0 :: 1 :: 2 :: 3 :: 4 :: 5 :: 6 :: 7 :: 8 :: 9 :: 10 :: 11 :: 12 :: 13 :: 14 :: 15 :: 16 :: 17 :: 18 :: 19 :: 20 :: 21 :: 22 :: 23 :: 60 :: 61 :: 62 :: 63 :: 64 :: 65 :: 66 :: 24 :: 25 :: 26 :: 27 :: 28 :: 29 :: 30 :: 31 :: 32 :: 33 :: 34 :: 35 :: 36 :: 37 :: 38 :: 39 :: 40 :: 41 :: 42 :: 43 :: 44 :: 45 :: 46 :: 47 :: 48 :: 49 :: 50 :: 51 :: 52 :: 53 :: 54 :: 55 :: 56 :: 57 :: 58 :: 59 :: []
abbrev iM8 : List Nat := 73 :: 74 :: 75 :: 76 :: 77 :: 78 :: 79 :: 80 :: 81 :: 82 :: 83 :: 84 :: 85 :: 86 :: 87 :: 88 :: 89 :: 90 :: 91 :: 92 :: 93 :: 94 :: 95 :: 96 :: 97 :: 98 :: 99 :: 100 :: 101 :: 102 :: 103 :: 104 :: 105 :: 106 :: 107 :: 108 :: []
abbrev iA8 : List Nat := 0 :: 1 :: 2 :: 3 :: 4 :: 5 :: 6 :: 7 :: 8 :: 9 :: 10 :: 11 :: 12 :: 13 :: 14 :: 15 :: 16 :: 17 :: 18 :: 19 :: 20 :: 21 :: 22 :: 23 :: 60 :: 61 :: 62 :: 63 :: 64 :: 65 :: 66 :: 24 :: 25 :: 26 :: 27 :: 28 :: 29 :: 30 :: 31 :: 32 :: 33 :: 34 :: 35 :: 36 :: 37 :: 38 :: 39 :: 40 :: 41 :: 42 :: 43 :: 44 :: 45 :: 46 :: 47 :: 48 :: 49 :: 50 :: 51 :: 52 :: 53 :: 54 :: 55 :: 56 :: 57 :: 58 :: 59 :: 73 :: 74 :: 75 :: 76 :: 77 :: 78 :: 79 :: 80 :: 81 :: 82 :: 83 :: 84 :: 85 :: 86 :: 87 :: 88 :: 89 :: 90 :: 91 :: 92 :: 93 :: 94 :: 95 :: 96 :: 97 :: 98 :: 99 :: 100 :: 101 :: 102 :: 103 :: 104 :: 105 :: 106 :: 107 :: 108 :: 109 :: 110 :: []
abbrev tl8 (x d tx w st s1 s2 s3 s4 sv v1 v2 v3 v4 qo t tl ts pa na po k1 k2 k3 p0 p1 p2 p3 p4 p5 p6 p7 p8 p9 p10 p11 u0 u1 u2 u3 u4 u5 u6 u7 u8 u9 u10 u11 u12 u13 u14 u15 u16 u17 u18 u19 u20 u21 u22 u23 so sp ao o1 o2 o3 o4 x0 l0 z0 x1 l1 z1 m m0 m1 m2 m3 m4 m5 m6 m7 m8 m9 m10 m11 m12 m13 m14 m15 m16 m17 m18 m19 m20 m21 m22 m23 m24 m25 m26 m27 m28 m29 m30 m31 m32 m33 m34 o od : Nat) : List Nat := x :: d :: tx :: w :: st :: s1 :: s2 :: s3 :: s4 :: sv :: v1 :: v2 :: v3 :: v4 :: qo :: t :: tl :: ts :: pa :: na :: po :: k1 :: k2 :: k3 :: p0 :: p1 :: p2 :: p3 :: p4 :: p5 :: p6 :: p7 :: p8 :: p9 :: p10 :: p11 :: u0 :: u1 :: u2 :: u3 :: u4 :: u5 :: u6 :: u7 :: u8 :: u9 :: u10 :: u11 :: u12 :: u13 :: u14 :: u15 :: u16 :: u17 :: u18 :: u19 :: u20 :: u21 :: u22 :: u23 :: so :: sp :: ao :: o1 :: o2 :: o3 :: o4 :: x0 :: l0 :: z0 :: x1 :: l1 :: z1 :: m :: m0 :: m1 :: m2 :: m3 :: m4 :: m5 :: m6 :: m7 :: m8 :: m9 :: m10 :: m11 :: m12 :: m13 :: m14 :: m15 :: m16 :: m17 :: m18 :: m19 :: m20 :: m21 :: m22 :: m23 :: m24 :: m25 :: m26 :: m27 :: m28 :: m29 :: m30 :: m31 :: m32 :: m33 :: m34 :: o :: od :: []
theorem km {l k is : List Nat} (h : k.map some = is.map (fun x => l[x]?)) : ∀ i : Nat, k[i]? = (is[i]?).bind (fun x => l[x]?) := fun i => by
  have e := congrArg (fun z => z[i]?) h
  simp only [List.getElem?_map] at e
  cases h1 : k[i]? with
  | none =>
    rw [h1] at e
    cases h2 : is[i]? with
    | none => rfl
    | some x => rw [h2] at e; simp at e
  | some a =>
    rw [h1] at e
    cases h2 : is[i]? with
    | none => rw [h2] at e; simp at e
    | some x =>
      rw [h2] at e
      simp only [Option.map_some, Option.some.injEq] at e
      exact e
theorem SL.nd {as : List Nat} {cs : List xw_C} {h : xw_A} (K : SL as cs h) : NDl as := K.2.1
theorem SL.exx {as : List Nat} {cs : List xw_C} {h : xw_A} (K : SL as cs h) {q i : Nat} (hq : as[i]? = some q) : ∃ e, h q = some e := by
  have hi : i < as.length := (List.getElem?_eq_some_iff.mp hq).1
  have hl : i < cs.length := by rw [← K.1]; exact hi
  have hc : cs[i]? = some cs[i] := List.getElem?_eq_getElem hl
  exact ⟨_, K.2.2 i q _ hq hc⟩
theorem of_mem {l k : List Nat} (is : List Nat) (hk : ∀ i : Nat, k[i]? = (is[i]?).bind (fun x => l[x]?)) {a : Nat} (ha : a ∈ k) : ∃ j, j ∈ is ∧ l[j]? = some a := by
  obtain ⟨i, hi⟩ := List.mem_iff_getElem?.mp ha
  rw [hk] at hi
  cases q1 : is[i]? with
  | none => rw [q1] at hi; cases hi
  | some x => rw [q1, Option.bind_some] at hi; exact ⟨x, List.mem_of_getElem? q1, hi⟩
theorem of_not {l k : List Nat} (is : List Nat) (h : NDl l) (hk : ∀ i : Nat, k[i]? = (is[i]?).bind (fun x => l[x]?)) {j a : Nat} (hj : l[j]? = some a) (hn : j ∉ is) : a ∉ k := fun ha => by
  obtain ⟨i, h1, h2⟩ := of_mem is hk ha
  exact hn ((h j i a hj h2) ▸ h1)
theorem of_dis {l k1 k2 : List Nat} (i1 i2 : List Nat) (h : NDl l) (hk1 : ∀ i : Nat, k1[i]? = (i1[i]?).bind (fun x => l[x]?)) (hk2 : ∀ i : Nat, k2[i]? = (i2[i]?).bind (fun x => l[x]?)) (hd : ∀ i ∈ i1, i ∉ i2) : ∀ a ∈ k1, a ∉ k2 := fun a ha => by
  obtain ⟨j, h1, h2⟩ := of_mem i1 hk1 ha
  exact of_not i2 h hk2 h2 (hd j h1)
theorem lcons8 {l : List Nat} {n : Nat} (h : l.length = n + 1) : ∃ a t, l = a :: t ∧ t.length = n := by
  cases l with
  | nil => simp at h
  | cons a t => exact ⟨a, t, rfl, by simpa using h⟩
theorem l12 {l : List Nat} (h : l.length = 12) : ∃ q0 q1 q2 q3 q4 q5 q6 q7 q8 q9 q10 q11 : Nat, l = [q0, q1, q2, q3, q4, q5, q6, q7, q8, q9, q10, q11] := by
  obtain ⟨q0, t0, rfl, h0⟩ := lcons8 h
  obtain ⟨q1, t1, rfl, h1⟩ := lcons8 h0
  obtain ⟨q2, t2, rfl, h2⟩ := lcons8 h1
  obtain ⟨q3, t3, rfl, h3⟩ := lcons8 h2
  obtain ⟨q4, t4, rfl, h4⟩ := lcons8 h3
  obtain ⟨q5, t5, rfl, h5⟩ := lcons8 h4
  obtain ⟨q6, t6, rfl, h6⟩ := lcons8 h5
  obtain ⟨q7, t7, rfl, h7⟩ := lcons8 h6
  obtain ⟨q8, t8, rfl, h8⟩ := lcons8 h7
  obtain ⟨q9, t9, rfl, h9⟩ := lcons8 h8
  obtain ⟨q10, t10, rfl, h10⟩ := lcons8 h9
  obtain ⟨q11, t11, rfl, h11⟩ := lcons8 h10
  obtain rfl := List.eq_nil_of_length_eq_zero h11
  exact ⟨q0, q1, q2, q3, q4, q5, q6, q7, q8, q9, q10, q11, rfl⟩
theorem l24 {l : List Nat} (h : l.length = 24) : ∃ q0 q1 q2 q3 q4 q5 q6 q7 q8 q9 q10 q11 q12 q13 q14 q15 q16 q17 q18 q19 q20 q21 q22 q23 : Nat, l = [q0, q1, q2, q3, q4, q5, q6, q7, q8, q9, q10, q11, q12, q13, q14, q15, q16, q17, q18, q19, q20, q21, q22, q23] := by
  obtain ⟨q0, t0, rfl, h0⟩ := lcons8 h
  obtain ⟨q1, t1, rfl, h1⟩ := lcons8 h0
  obtain ⟨q2, t2, rfl, h2⟩ := lcons8 h1
  obtain ⟨q3, t3, rfl, h3⟩ := lcons8 h2
  obtain ⟨q4, t4, rfl, h4⟩ := lcons8 h3
  obtain ⟨q5, t5, rfl, h5⟩ := lcons8 h4
  obtain ⟨q6, t6, rfl, h6⟩ := lcons8 h5
  obtain ⟨q7, t7, rfl, h7⟩ := lcons8 h6
  obtain ⟨q8, t8, rfl, h8⟩ := lcons8 h7
  obtain ⟨q9, t9, rfl, h9⟩ := lcons8 h8
  obtain ⟨q10, t10, rfl, h10⟩ := lcons8 h9
  obtain ⟨q11, t11, rfl, h11⟩ := lcons8 h10
  obtain ⟨q12, t12, rfl, h12⟩ := lcons8 h11
  obtain ⟨q13, t13, rfl, h13⟩ := lcons8 h12
  obtain ⟨q14, t14, rfl, h14⟩ := lcons8 h13
  obtain ⟨q15, t15, rfl, h15⟩ := lcons8 h14
  obtain ⟨q16, t16, rfl, h16⟩ := lcons8 h15
  obtain ⟨q17, t17, rfl, h17⟩ := lcons8 h16
  obtain ⟨q18, t18, rfl, h18⟩ := lcons8 h17
  obtain ⟨q19, t19, rfl, h19⟩ := lcons8 h18
  obtain ⟨q20, t20, rfl, h20⟩ := lcons8 h19
  obtain ⟨q21, t21, rfl, h21⟩ := lcons8 h20
  obtain ⟨q22, t22, rfl, h22⟩ := lcons8 h21
  obtain ⟨q23, t23, rfl, h23⟩ := lcons8 h22
  obtain rfl := List.eq_nil_of_length_eq_zero h23
  exact ⟨q0, q1, q2, q3, q4, q5, q6, q7, q8, q9, q10, q11, q12, q13, q14, q15, q16, q17, q18, q19, q20, q21, q22, q23, rfl⟩
set_option maxHeartbeats 8000000 in
set_option maxRecDepth 8000 in
theorem fresh8 {x m o od : Nat} {h : xw_A} {P9 : Prop} (hf : Fresh x m o od h) (kf : ∀ (A : List Nat) (d tx w st s1 s2 s3 s4 sv v1 v2 v3 v4 qo tk tl tz ph nd po k1 k2 k3 so sp ao o1 o2 o3 o4 : Nat) (ps ns : List Nat) (draft_ asked_ prepared_ preparedSize_ texts_ sizes_ weights_ entries_ lies_ live_ row_ level_ oldTexts_ oldSizes_ oldLies_ oldLive_ oldRow_ firstToken_ starred_ tokenAt_ tokenSize_ groupKind_ groupPhrase_ groupSize_ groupMask_ groupFar_ out_ top_ masks_ begins_ lasts_ truth_ answers_ order_ scores_ : Nat) (gD zv zu zd zp zq zt zz yt yz : Nat → Int32) (gP gQ : Nat), (LwS A x d tx w st s1 s2 s3 s4 sv v1 v2 v3 v4 qo tk tl tz ph nd po k1 k2 k3 so sp ao o1 o2 o3 o4 ps ns m draft_ asked_ prepared_ preparedSize_ texts_ sizes_ weights_ entries_ lies_ live_ row_ level_ oldTexts_ oldSizes_ oldLies_ oldLive_ oldRow_ firstToken_ starred_ tokenAt_ tokenSize_ groupKind_ groupPhrase_ groupSize_ groupMask_ groupFar_ out_ top_ masks_ begins_ lasts_ truth_ answers_ order_ scores_ o od ∧ LwI A x d tx w st s1 s2 s3 s4 sv v1 v2 v3 v4 qo tk tl tz ph nd po k1 k2 k3 so sp ao o1 o2 o3 o4 ps ns m draft_ asked_ prepared_ preparedSize_ texts_ sizes_ weights_ entries_ lies_ live_ row_ level_ oldTexts_ oldSizes_ oldLies_ oldLive_ oldRow_ firstToken_ starred_ tokenAt_ tokenSize_ groupKind_ groupPhrase_ groupSize_ groupMask_ groupFar_ out_ top_ masks_ begins_ lasts_ truth_ answers_ order_ scores_ o od 0 0 0 1 1 1 1 0 (fun _ => none) (fun _ => none) gD gP gQ ((fun _ => none), [], [], 0, 0) ((fun _ => none), [], [], 0, 0) (3, 20) 0 zv zu zd zp zq zt zz yt yz h) ∧ ((RD 0 gD zd ∧ Rl 0 (fun _ => none) (fun _ => none) 0 zv zu) ∧ RE A h gP gQ (fun _ => none) (fun _ => none) 0 zp zq zt zz yt yz ∧ RX A m lies_ row_ level_ oldLies_ oldRow_ entries_ 0 gD gP gQ (fun _ => none) (fun _ => none) ((fun _ => none), [], [], 0, 0) ((fun _ => none), [], [], 0, 0) (3, 20) 0 zv zu zp zq h) → P9) : P9 := by
  obtain ⟨d, tx, w, st, s1, s2, s3, s4, sv, v1, v2, v3, v4, qo, t, tl, ts, pa, na, po, k1, k2, k3, ps, ns, so, sp, ao, o1, o2, o3, o4, x0, l0, z0, x1, l1, z1, wf, m0, m1, m2, m3, m4, m5, m6, m7, m8, m9, m10, m11, m12, m13, m14, m15, m16, m17, m18, m19, m20, m21, m22, m23, m24, m25, m26, m27, m28, m29, m30, m31, m32, m33, m34, lf, wg, hps, hns, hw0, hw1, hlf, hg0, hg1, K⟩ := hf
  obtain ⟨p0, p1, p2, p3, p4, p5, p6, p7, p8, p9, p10, p11, rfl⟩ := l12 hps
  obtain ⟨u0, u1, u2, u3, u4, u5, u6, u7, u8, u9, u10, u11, u12, u13, u14, u15, u16, u17, u18, u19, u20, u21, u22, u23, rfl⟩ := l24 hns
  have KN : NDl (tl8 x d tx w st s1 s2 s3 s4 sv v1 v2 v3 v4 qo t tl ts pa na po k1 k2 k3 p0 p1 p2 p3 p4 p5 p6 p7 p8 p9 p10 p11 u0 u1 u2 u3 u4 u5 u6 u7 u8 u9 u10 u11 u12 u13 u14 u15 u16 u17 u18 u19 u20 u21 u22 u23 so sp ao o1 o2 o3 o4 x0 l0 z0 x1 l1 z1 m m0 m1 m2 m3 m4 m5 m6 m7 m8 m9 m10 m11 m12 m13 m14 m15 m16 m17 m18 m19 m20 m21 m22 m23 m24 m25 m26 m27 m28 m29 m30 m31 m32 m33 m34 o od) := K.nd
  have hkC : ∀ i : Nat, (CLs x d tx w st s1 s2 s3 s4 sv v1 v2 v3 v4 qo t tl ts pa na po k1 k2 k3 so sp ao o1 o2 o3 o4 [p0, p1, p2, p3, p4, p5, p6, p7, p8, p9, p10, p11] [u0, u1, u2, u3, u4, u5, u6, u7, u8, u9, u10, u11, u12, u13, u14, u15, u16, u17, u18, u19, u20, u21, u22, u23])[i]? = (iC8[i]?).bind (fun z => (tl8 x d tx w st s1 s2 s3 s4 sv v1 v2 v3 v4 qo t tl ts pa na po k1 k2 k3 p0 p1 p2 p3 p4 p5 p6 p7 p8 p9 p10 p11 u0 u1 u2 u3 u4 u5 u6 u7 u8 u9 u10 u11 u12 u13 u14 u15 u16 u17 u18 u19 u20 u21 u22 u23 so sp ao o1 o2 o3 o4 x0 l0 z0 x1 l1 z1 m m0 m1 m2 m3 m4 m5 m6 m7 m8 m9 m10 m11 m12 m13 m14 m15 m16 m17 m18 m19 m20 m21 m22 m23 m24 m25 m26 m27 m28 m29 m30 m31 m32 m33 m34 o od)[z]?) := (km rfl)
  have hkM : ∀ i : Nat, ([m, m0, m1, m2, m3, m4, m5, m6, m7, m8, m9, m10, m11, m12, m13, m14, m15, m16, m17, m18, m19, m20, m21, m22, m23, m24, m25, m26, m27, m28, m29, m30, m31, m32, m33, m34] : List Nat)[i]? = (iM8[i]?).bind (fun z => (tl8 x d tx w st s1 s2 s3 s4 sv v1 v2 v3 v4 qo t tl ts pa na po k1 k2 k3 p0 p1 p2 p3 p4 p5 p6 p7 p8 p9 p10 p11 u0 u1 u2 u3 u4 u5 u6 u7 u8 u9 u10 u11 u12 u13 u14 u15 u16 u17 u18 u19 u20 u21 u22 u23 so sp ao o1 o2 o3 o4 x0 l0 z0 x1 l1 z1 m m0 m1 m2 m3 m4 m5 m6 m7 m8 m9 m10 m11 m12 m13 m14 m15 m16 m17 m18 m19 m20 m21 m22 m23 m24 m25 m26 m27 m28 m29 m30 m31 m32 m33 m34 o od)[z]?) := (km rfl)
  have hkA : ∀ i : Nat, ((CLs x d tx w st s1 s2 s3 s4 sv v1 v2 v3 v4 qo t tl ts pa na po k1 k2 k3 so sp ao o1 o2 o3 o4 [p0, p1, p2, p3, p4, p5, p6, p7, p8, p9, p10, p11] [u0, u1, u2, u3, u4, u5, u6, u7, u8, u9, u10, u11, u12, u13, u14, u15, u16, u17, u18, u19, u20, u21, u22, u23]) ++ ([m, m0, m1, m2, m3, m4, m5, m6, m7, m8, m9, m10, m11, m12, m13, m14, m15, m16, m17, m18, m19, m20, m21, m22, m23, m24, m25, m26, m27, m28, m29, m30, m31, m32, m33, m34] ++ [o, od]))[i]? = (iA8[i]?).bind (fun z => (tl8 x d tx w st s1 s2 s3 s4 sv v1 v2 v3 v4 qo t tl ts pa na po k1 k2 k3 p0 p1 p2 p3 p4 p5 p6 p7 p8 p9 p10 p11 u0 u1 u2 u3 u4 u5 u6 u7 u8 u9 u10 u11 u12 u13 u14 u15 u16 u17 u18 u19 u20 u21 u22 u23 so sp ao o1 o2 o3 o4 x0 l0 z0 x1 l1 z1 m m0 m1 m2 m3 m4 m5 m6 m7 m8 m9 m10 m11 m12 m13 m14 m15 m16 m17 m18 m19 m20 m21 m22 m23 m24 m25 m26 m27 m28 m29 m30 m31 m32 m33 m34 o od)[z]?) := (km rfl)
  have hAO : AOK ((CLs x d tx w st s1 s2 s3 s4 sv v1 v2 v3 v4 qo t tl ts pa na po k1 k2 k3 so sp ao o1 o2 o3 o4 [p0, p1, p2, p3, p4, p5, p6, p7, p8, p9, p10, p11] [u0, u1, u2, u3, u4, u5, u6, u7, u8, u9, u10, u11, u12, u13, u14, u15, u16, u17, u18, u19, u20, u21, u22, u23]) ++ ([m, m0, m1, m2, m3, m4, m5, m6, m7, m8, m9, m10, m11, m12, m13, m14, m15, m16, m17, m18, m19, m20, m21, m22, m23, m24, m25, m26, m27, m28, m29, m30, m31, m32, m33, m34] ++ [o, od])) h := fun q hq => by
    obtain ⟨j, -, h2⟩ := of_mem iA8 (k := ((CLs x d tx w st s1 s2 s3 s4 sv v1 v2 v3 v4 qo t tl ts pa na po k1 k2 k3 so sp ao o1 o2 o3 o4 [p0, p1, p2, p3, p4, p5, p6, p7, p8, p9, p10, p11] [u0, u1, u2, u3, u4, u5, u6, u7, u8, u9, u10, u11, u12, u13, u14, u15, u16, u17, u18, u19, u20, u21, u22, u23]) ++ ([m, m0, m1, m2, m3, m4, m5, m6, m7, m8, m9, m10, m11, m12, m13, m14, m15, m16, m17, m18, m19, m20, m21, m22, m23, m24, m25, m26, m27, m28, m29, m30, m31, m32, m33, m34] ++ [o, od]))) hkA hq
    exact K.exx (i := j) h2
  have tk0 : TokOK ((CLs x d tx w st s1 s2 s3 s4 sv v1 v2 v3 v4 qo t tl ts pa na po k1 k2 k3 so sp ao o1 o2 o3 o4 [p0, p1, p2, p3, p4, p5, p6, p7, p8, p9, p10, p11] [u0, u1, u2, u3, u4, u5, u6, u7, u8, u9, u10, u11, u12, u13, u14, u15, u16, u17, u18, u19, u20, u21, u22, u23]) ++ ([m, m0, m1, m2, m3, m4, m5, m6, m7, m8, m9, m10, m11, m12, m13, m14, m15, m16, m17, m18, m19, m20, m21, m22, m23, m24, m25, m26, m27, m28, m29, m30, m31, m32, m33, m34] ++ [o, od])) h x0 := ⟨of_not iA8 KN hkA (j := 67) rfl (by decide +kernel), l0, z0, 0, 1, 0, _, _, of_not iA8 KN hkA (j := 68) rfl (by decide +kernel), of_not iA8 KN hkA (j := 69) rfl (by decide +kernel), (K.at 67 rfl rfl), (K.at 68 rfl rfl), (K.at 69 rfl rfl), by omega, by omega, by omega, ⟨fun _ => 0, fun _ _ => ⟨rfl, Nat.le_refl _⟩, fun _ _ => Nat.le_refl _⟩⟩
  have tk1 : TokOK ((CLs x d tx w st s1 s2 s3 s4 sv v1 v2 v3 v4 qo t tl ts pa na po k1 k2 k3 so sp ao o1 o2 o3 o4 [p0, p1, p2, p3, p4, p5, p6, p7, p8, p9, p10, p11] [u0, u1, u2, u3, u4, u5, u6, u7, u8, u9, u10, u11, u12, u13, u14, u15, u16, u17, u18, u19, u20, u21, u22, u23]) ++ ([m, m0, m1, m2, m3, m4, m5, m6, m7, m8, m9, m10, m11, m12, m13, m14, m15, m16, m17, m18, m19, m20, m21, m22, m23, m24, m25, m26, m27, m28, m29, m30, m31, m32, m33, m34] ++ [o, od])) h x1 := ⟨of_not iA8 KN hkA (j := 70) rfl (by decide +kernel), l1, z1, 0, 1, 0, _, _, of_not iA8 KN hkA (j := 71) rfl (by decide +kernel), of_not iA8 KN hkA (j := 72) rfl (by decide +kernel), (K.at 70 rfl rfl), (K.at 71 rfl rfl), (K.at 72 rfl rfl), by omega, by omega, by omega, ⟨fun _ => 0, fun _ _ => ⟨rfl, Nat.le_refl _⟩, fun _ _ => Nat.le_refl _⟩⟩
  have dk0 : DiA ((CLs x d tx w st s1 s2 s3 s4 sv v1 v2 v3 v4 qo t tl ts pa na po k1 k2 k3 so sp ao o1 o2 o3 o4 [p0, p1, p2, p3, p4, p5, p6, p7, p8, p9, p10, p11] [u0, u1, u2, u3, u4, u5, u6, u7, u8, u9, u10, u11, u12, u13, u14, u15, u16, u17, u18, u19, u20, u21, u22, u23]) ++ ([m, m0, m1, m2, m3, m4, m5, m6, m7, m8, m9, m10, m11, m12, m13, m14, m15, m16, m17, m18, m19, m20, m21, m22, m23, m24, m25, m26, m27, m28, m29, m30, m31, m32, m33, m34] ++ [o, od])) h x0 (pkd (fun _ => 0) (fun _ => 0) 0) := ⟨of_not iA8 KN hkA (j := 67) rfl (by decide +kernel), l0, z0, 0, 1, 0, _, _, of_not iA8 KN hkA (j := 68) rfl (by decide +kernel), of_not iA8 KN hkA (j := 69) rfl (by decide +kernel), ⟨(K.at 67 rfl rfl), (K.at 68 rfl rfl), (K.at 69 rfl rfl), by omega, by omega, by omega, ⟨fun _ => 0, fun _ _ => ⟨rfl, Nat.le_refl _⟩, fun _ _ => Nat.le_refl _⟩⟩, (by show tkD _ ((0 : Int32).toNatClampNeg) (tokN _ ((0 : Int32).toNatClampNeg)) = _; rw [show (0 : Int32).toNatClampNeg = 0 from by decide]; rfl)⟩
  have dk1 : DiA ((CLs x d tx w st s1 s2 s3 s4 sv v1 v2 v3 v4 qo t tl ts pa na po k1 k2 k3 so sp ao o1 o2 o3 o4 [p0, p1, p2, p3, p4, p5, p6, p7, p8, p9, p10, p11] [u0, u1, u2, u3, u4, u5, u6, u7, u8, u9, u10, u11, u12, u13, u14, u15, u16, u17, u18, u19, u20, u21, u22, u23]) ++ ([m, m0, m1, m2, m3, m4, m5, m6, m7, m8, m9, m10, m11, m12, m13, m14, m15, m16, m17, m18, m19, m20, m21, m22, m23, m24, m25, m26, m27, m28, m29, m30, m31, m32, m33, m34] ++ [o, od])) h x1 (pkd (fun _ => 0) (fun _ => 0) 1) := ⟨of_not iA8 KN hkA (j := 70) rfl (by decide +kernel), l1, z1, 0, 1, 0, _, _, of_not iA8 KN hkA (j := 71) rfl (by decide +kernel), of_not iA8 KN hkA (j := 72) rfl (by decide +kernel), ⟨(K.at 70 rfl rfl), (K.at 71 rfl rfl), (K.at 72 rfl rfl), by omega, by omega, by omega, ⟨fun _ => 0, fun _ _ => ⟨rfl, Nat.le_refl _⟩, fun _ _ => Nat.le_refl _⟩⟩, (by show tkD _ ((0 : Int32).toNatClampNeg) (tokN _ ((0 : Int32).toNatClampNeg)) = _; rw [show (0 : Int32).toNatClampNeg = 0 from by decide]; rfl)⟩
  have KF : PhrC (fun i => [p0, p1, p2, p3, p4, p5, p6, p7, p8, p9, p10, p11][i]?) 0 0 h := fun i hi => by
      rcases (show i = 0 ∨ i = 1 ∨ i = 2 ∨ i = 3 ∨ i = 4 ∨ i = 5 ∨ i = 6 ∨ i = 7 ∨ i = 8 ∨ i = 9 ∨ i = 10 ∨ i = 11 by omega) with rfl | rfl | rfl | rfl | rfl | rfl | rfl | rfl | rfl | rfl | rfl | rfl
      · exact ⟨p0, _, _, _, rfl, (K.at 24 rfl rfl), fun z => absurd z (Nat.not_lt_zero _)⟩
      · exact ⟨p1, _, _, _, rfl, (K.at 25 rfl rfl), fun z => absurd z (Nat.not_lt_zero _)⟩
      · exact ⟨p2, _, _, _, rfl, (K.at 26 rfl rfl), fun z => absurd z (Nat.not_lt_zero _)⟩
      · exact ⟨p3, _, _, _, rfl, (K.at 27 rfl rfl), fun z => absurd z (Nat.not_lt_zero _)⟩
      · exact ⟨p4, _, _, _, rfl, (K.at 28 rfl rfl), fun z => absurd z (Nat.not_lt_zero _)⟩
      · exact ⟨p5, _, _, _, rfl, (K.at 29 rfl rfl), fun z => absurd z (Nat.not_lt_zero _)⟩
      · exact ⟨p6, _, _, _, rfl, (K.at 30 rfl rfl), fun z => absurd z (Nat.not_lt_zero _)⟩
      · exact ⟨p7, _, _, _, rfl, (K.at 31 rfl rfl), fun z => absurd z (Nat.not_lt_zero _)⟩
      · exact ⟨p8, _, _, _, rfl, (K.at 32 rfl rfl), fun z => absurd z (Nat.not_lt_zero _)⟩
      · exact ⟨p9, _, _, _, rfl, (K.at 33 rfl rfl), fun z => absurd z (Nat.not_lt_zero _)⟩
      · exact ⟨p10, _, _, _, rfl, (K.at 34 rfl rfl), fun z => absurd z (Nat.not_lt_zero _)⟩
      · exact ⟨p11, _, _, _, rfl, (K.at 35 rfl rfl), fun z => absurd z (Nat.not_lt_zero _)⟩
  have KNo : NodC (fun i => [u0, u1, u2, u3, u4, u5, u6, u7, u8, u9, u10, u11, u12, u13, u14, u15, u16, u17, u18, u19, u20, u21, u22, u23][i]?) 0 0 h := fun i hi => by
      rcases (show i = 0 ∨ i = 1 ∨ i = 2 ∨ i = 3 ∨ i = 4 ∨ i = 5 ∨ i = 6 ∨ i = 7 ∨ i = 8 ∨ i = 9 ∨ i = 10 ∨ i = 11 ∨ i = 12 ∨ i = 13 ∨ i = 14 ∨ i = 15 ∨ i = 16 ∨ i = 17 ∨ i = 18 ∨ i = 19 ∨ i = 20 ∨ i = 21 ∨ i = 22 ∨ i = 23 by omega) with rfl | rfl | rfl | rfl | rfl | rfl | rfl | rfl | rfl | rfl | rfl | rfl | rfl | rfl | rfl | rfl | rfl | rfl | rfl | rfl | rfl | rfl | rfl | rfl
      · exact ⟨u0, none, none, _, _, _, _, _, _, _, rfl, (K.at 36 rfl rfl), fun z => absurd z (Nat.not_lt_zero _)⟩
      · exact ⟨u1, none, none, _, _, _, _, _, _, _, rfl, (K.at 37 rfl rfl), fun z => absurd z (Nat.not_lt_zero _)⟩
      · exact ⟨u2, none, none, _, _, _, _, _, _, _, rfl, (K.at 38 rfl rfl), fun z => absurd z (Nat.not_lt_zero _)⟩
      · exact ⟨u3, none, none, _, _, _, _, _, _, _, rfl, (K.at 39 rfl rfl), fun z => absurd z (Nat.not_lt_zero _)⟩
      · exact ⟨u4, none, none, _, _, _, _, _, _, _, rfl, (K.at 40 rfl rfl), fun z => absurd z (Nat.not_lt_zero _)⟩
      · exact ⟨u5, none, none, _, _, _, _, _, _, _, rfl, (K.at 41 rfl rfl), fun z => absurd z (Nat.not_lt_zero _)⟩
      · exact ⟨u6, none, none, _, _, _, _, _, _, _, rfl, (K.at 42 rfl rfl), fun z => absurd z (Nat.not_lt_zero _)⟩
      · exact ⟨u7, none, none, _, _, _, _, _, _, _, rfl, (K.at 43 rfl rfl), fun z => absurd z (Nat.not_lt_zero _)⟩
      · exact ⟨u8, none, none, _, _, _, _, _, _, _, rfl, (K.at 44 rfl rfl), fun z => absurd z (Nat.not_lt_zero _)⟩
      · exact ⟨u9, none, none, _, _, _, _, _, _, _, rfl, (K.at 45 rfl rfl), fun z => absurd z (Nat.not_lt_zero _)⟩
      · exact ⟨u10, none, none, _, _, _, _, _, _, _, rfl, (K.at 46 rfl rfl), fun z => absurd z (Nat.not_lt_zero _)⟩
      · exact ⟨u11, none, none, _, _, _, _, _, _, _, rfl, (K.at 47 rfl rfl), fun z => absurd z (Nat.not_lt_zero _)⟩
      · exact ⟨u12, none, none, _, _, _, _, _, _, _, rfl, (K.at 48 rfl rfl), fun z => absurd z (Nat.not_lt_zero _)⟩
      · exact ⟨u13, none, none, _, _, _, _, _, _, _, rfl, (K.at 49 rfl rfl), fun z => absurd z (Nat.not_lt_zero _)⟩
      · exact ⟨u14, none, none, _, _, _, _, _, _, _, rfl, (K.at 50 rfl rfl), fun z => absurd z (Nat.not_lt_zero _)⟩
      · exact ⟨u15, none, none, _, _, _, _, _, _, _, rfl, (K.at 51 rfl rfl), fun z => absurd z (Nat.not_lt_zero _)⟩
      · exact ⟨u16, none, none, _, _, _, _, _, _, _, rfl, (K.at 52 rfl rfl), fun z => absurd z (Nat.not_lt_zero _)⟩
      · exact ⟨u17, none, none, _, _, _, _, _, _, _, rfl, (K.at 53 rfl rfl), fun z => absurd z (Nat.not_lt_zero _)⟩
      · exact ⟨u18, none, none, _, _, _, _, _, _, _, rfl, (K.at 54 rfl rfl), fun z => absurd z (Nat.not_lt_zero _)⟩
      · exact ⟨u19, none, none, _, _, _, _, _, _, _, rfl, (K.at 55 rfl rfl), fun z => absurd z (Nat.not_lt_zero _)⟩
      · exact ⟨u20, none, none, _, _, _, _, _, _, _, rfl, (K.at 56 rfl rfl), fun z => absurd z (Nat.not_lt_zero _)⟩
      · exact ⟨u21, none, none, _, _, _, _, _, _, _, rfl, (K.at 57 rfl rfl), fun z => absurd z (Nat.not_lt_zero _)⟩
      · exact ⟨u22, none, none, _, _, _, _, _, _, _, rfl, (K.at 58 rfl rfl), fun z => absurd z (Nat.not_lt_zero _)⟩
      · exact ⟨u23, none, none, _, _, _, _, _, _, _, rfl, (K.at 59 rfl rfl), fun z => absurd z (Nat.not_lt_zero _)⟩
  have R0 : RI m m0 m1 m2 m3 m4 m5 m6 m7 m8 m9 m10 m11 m12 m13 m14 m15 m16 m17 m18 m19 m20 m21 m22 m23 m24 m25 m26 m27 m28 m29 m30 m31 m32 m33 m34 0 h := ⟨_, rfl, (K.at 73 rfl rfl), ⟨_, rfl⟩, ⟨0, _, rfl, rfl, (K.at 74 rfl rfl), by omega⟩, ⟨_, _, rfl, (K.at 76 rfl rfl), rfl, (K.at 77 rfl rfl), fun c _ => ⟨0, rfl, by omega⟩⟩, ⟨_, _, rfl, (K.at 78 rfl rfl), rfl, (K.at 79 rfl rfl), fun i _ => ⟨0, rfl, by omega⟩⟩, ⟨_, _, rfl, (K.at 86 rfl rfl), rfl, (K.at 87 rfl rfl), fun i _ => ⟨0, rfl, by omega⟩⟩, ⟨0, 0, 0, 0, 0, 0, _, _, _, _, _, _, _, _, rfl, rfl, rfl, rfl, rfl, rfl, rfl, (K.at 81 rfl rfl), rfl, (K.at 82 rfl rfl), rfl, (K.at 83 rfl rfl), rfl, (K.at 84 rfl rfl), rfl, (K.at 85 rfl rfl), rfl, (K.at 88 rfl rfl), rfl, (K.at 89 rfl rfl), rfl, (K.at 90 rfl rfl), Nat.le_refl _, Nat.le_refl _, by omega, Nat.le_refl _, Nat.le_refl _, fun _ q => absurd q (Nat.not_lt_zero _), fun _ q => absurd q (Nat.not_lt_zero _), fun r hr => Or.inl (by rw [hlf r hr]; decide), fun _ q => absurd q (Nat.not_lt_zero _), fun _ q => absurd q (Nat.not_lt_zero _), fun q => absurd q (by decide +kernel), by decide⟩, ⟨3, 20, rfl, rfl, by omega⟩, ⟨_, rfl, (K.at 80 rfl rfl), fun c hc => ⟨1, by rcases (show c = 0 ∨ c = 1 by omega) with rfl | rfl; (exact hg0); (exact hg1), by omega⟩⟩, ⟨0, _, _, rfl, rfl, (K.at 103 rfl rfl), rfl, (K.at 104 rfl rfl)⟩, ⟨-1, 0, 0, _, _, _, rfl, rfl, rfl, rfl, (K.at 106 rfl rfl), rfl, (K.at 107 rfl rfl), rfl, (K.at 108 rfl rfl), by omega, fun _ q => absurd q (Nat.not_lt_zero _)⟩, ⟨0, _, _, _, _, _, _, _, _, _, _, _, _, _, _, _, _, _, _, _, _, _, _, _, _, _, _, rfl, rfl, rfl, rfl, rfl, rfl, rfl, rfl, rfl, rfl, rfl, rfl, rfl, rfl, (K.at 75 rfl rfl), rfl, (K.at 91 rfl rfl), rfl, (K.at 92 rfl rfl), rfl, (K.at 93 rfl rfl), rfl, (K.at 94 rfl rfl), rfl, (K.at 95 rfl rfl), rfl, (K.at 96 rfl rfl), rfl, (K.at 97 rfl rfl), rfl, (K.at 98 rfl rfl), rfl, (K.at 99 rfl rfl), rfl, (K.at 100 rfl rfl), rfl, (K.at 101 rfl rfl), rfl, (K.at 102 rfl rfl), rfl, (K.at 105 rfl rfl), by omega⟩⟩
  refine kf ((CLs x d tx w st s1 s2 s3 s4 sv v1 v2 v3 v4 qo t tl ts pa na po k1 k2 k3 so sp ao o1 o2 o3 o4 [p0, p1, p2, p3, p4, p5, p6, p7, p8, p9, p10, p11] [u0, u1, u2, u3, u4, u5, u6, u7, u8, u9, u10, u11, u12, u13, u14, u15, u16, u17, u18, u19, u20, u21, u22, u23]) ++ ([m, m0, m1, m2, m3, m4, m5, m6, m7, m8, m9, m10, m11, m12, m13, m14, m15, m16, m17, m18, m19, m20, m21, m22, m23, m24, m25, m26, m27, m28, m29, m30, m31, m32, m33, m34] ++ [o, od])) d tx w st s1 s2 s3 s4 sv v1 v2 v3 v4 qo t tl ts pa na po k1 k2 k3 so sp ao o1 o2 o3 o4 [p0, p1, p2, p3, p4, p5, p6, p7, p8, p9, p10, p11] [u0, u1, u2, u3, u4, u5, u6, u7, u8, u9, u10, u11, u12, u13, u14, u15, u16, u17, u18, u19, u20, u21, u22, u23] m0 m1 m2 m3 m4 m5 m6 m7 m8 m9 m10 m11 m12 m13 m14 m15 m16 m17 m18 m19 m20 m21 m22 m23 m24 m25 m26 m27 m28 m29 m30 m31 m32 m33 m34 (fun _ => 0) lf (fun _ => 0) (fun _ => 0) (fun _ => 0) (fun _ => 0) (fun _ => 0) (fun _ => 0) (fun _ => 0) (fun _ => 0) x0 x1 ⟨⟨⟨⟨NDl.of iC8 KN hkC (by decide +kernel), rfl, rfl, fun a ha => List.mem_append_left _ ha⟩, NDl.of iM8 KN hkM (by decide +kernel), fun a ha => List.mem_append_right _ (List.mem_append_left _ ha), List.mem_append_right _ (List.mem_append_right _ (by simp)), List.mem_append_right _ (List.mem_append_right _ (by simp)), of_dis iM8 iC8 KN hkM hkC (by decide +kernel), of_not iC8 KN hkC (j := 109) rfl (by decide +kernel), of_not iM8 KN hkM (j := 109) rfl (by decide +kernel), of_not iC8 KN hkC (j := 110) rfl (by decide +kernel), of_not iM8 KN hkM (j := 110) rfl (by decide +kernel), K.ne 110 109 rfl rfl (by decide +kernel)⟩, ?_, R0, ⟨⟨_, (K.at 73 rfl rfl), rfl⟩, ⟨_, (K.at 80 rfl rfl), hg0, hg1⟩, ⟨⟨_, (K.at 73 rfl rfl), rfl⟩, (K.at 83 rfl rfl), (K.at 89 rfl rfl)⟩, (K.at 74 rfl rfl), (K.at 76 rfl rfl), (K.at 77 rfl rfl), (K.at 78 rfl rfl), (K.at 79 rfl rfl), (K.at 86 rfl rfl), (K.at 87 rfl rfl)⟩, ⟨_, (K.at 109 rfl rfl)⟩, ⟨_, (K.at 110 rfl rfl)⟩⟩, ⟨(fun j hj => absurd hj (Nat.not_lt_zero _)), rfl, Nat.zero_le _, (fun j hj => ⟨fun _ => by rw [hlf j hj]; decide, fun _ => rfl⟩), (fun q => absurd q (by decide +kernel))⟩, ⟨⟨⟨tk0.1, _, _, (K.at 67 rfl rfl)⟩, tk1.1, _, _, (K.at 70 rfl rfl)⟩, (fun j hj a q => nomatch q), (fun q => absurd q (by decide +kernel)), (fun i _ => ⟨0, rfl, by omega⟩), (fun q => absurd q (by decide +kernel)), (fun c _ => ⟨0, rfl, by omega⟩)⟩, RC.zero, ⟨dk0, dk1⟩, _, (K.at 81 rfl rfl), (fun j hj a q => nomatch q), (fun q => absurd q (by decide +kernel)), ⟨by decide, by decide, ⟨_, (K.at 73 rfl rfl), rfl⟩, ⟨_, (K.at 73 rfl rfl), rfl⟩⟩, ⟨by decide, ⟨_, (K.at 73 rfl rfl), rfl⟩⟩, (_, _, _, 0, 0), (fun _ => (0, 0, 0)), _, _, 0, 0, ⟨(K.at 82 rfl rfl), (K.at 84 rfl rfl), (K.at 85 rfl rfl), ⟨_, (K.at 73 rfl rfl), rfl⟩, ⟨_, (K.at 73 rfl rfl), rfl⟩, by decide, by decide⟩, ⟨(K.at 88 rfl rfl), (K.at 90 rfl rfl), ⟨_, (K.at 73 rfl rfl), rfl⟩, ⟨_, (K.at 73 rfl rfl), rfl⟩, by decide, by decide⟩, rfl, RG.zero (fun r hr => by rw [hlf r hr]; decide), Nat.zero_le _, (fun q => absurd q (by decide +kernel))⟩
  exact ⟨⟨_, _, (K.at 0 rfl rfl), by omega, by decide, by decide⟩, (K.at 1 rfl rfl), ⟨_, (K.at 2 rfl rfl), rfl, rfl, tk0, tk1⟩, ⟨wf, (K.at 3 rfl rfl), ⟨hw0, by omega⟩, ⟨hw1, by omega⟩⟩, ⟨_, _, _, 0, 0, 0, [], ⟨(K.at 4 rfl rfl), (K.at 5 rfl rfl), (K.at 6 rfl rfl), (K.at 7 rfl rfl), (K.at 8 rfl rfl), by omega, by omega, by omega, (fun _ _ q => nomatch q), fun _ q => absurd q (Nat.not_lt_zero _), fun _ q => absurd q (Nat.not_lt_zero _), fun _ q => absurd q (Nat.not_lt_zero _), hAO⟩, (fun i _ _ => Or.inl ⟨rfl, rfl⟩), ⟨rfl, PdV.nil⟩, ⟨rfl, (fun i s q => nomatch q)⟩, rfl, PdV.nil⟩, ⟨_, _, _, 0, 0, 0, [], ⟨(K.at 9 rfl rfl), (K.at 10 rfl rfl), (K.at 11 rfl rfl), (K.at 12 rfl rfl), (K.at 13 rfl rfl), by omega, by omega, by omega, (fun _ _ q => nomatch q), fun _ q => absurd q (Nat.not_lt_zero _), fun _ q => absurd q (Nat.not_lt_zero _), fun _ q => absurd q (Nat.not_lt_zero _), hAO⟩, (fun i _ _ => Or.inl ⟨rfl, rfl⟩), ⟨rfl, PdV.nil⟩, ⟨rfl, (fun i s q => nomatch q)⟩, rfl, PdV.nil⟩,
    ⟨_, _, _, _, _, none, none, 0, _, _, _, _, _, (K.at 14 rfl rfl), ⟨(K.at 15 rfl rfl), (K.at 16 rfl rfl), (K.at 17 rfl rfl), by omega, by omega, by omega, ⟨fun _ => 0, fun _ _ => ⟨rfl, Nat.zero_le _⟩, fun _ _ => Nat.le_refl _⟩⟩, (K.at 18 rfl rfl), (K.at 19 rfl rfl), KF, KNo, (K.at 20 rfl rfl), (K.at 21 rfl rfl), (K.at 22 rfl rfl), (K.at 23 rfl rfl)⟩,
    ⟨none, _, (K.at 60 rfl rfl), (K.at 61 rfl rfl)⟩, ⟨0, _, _, _, _, (K.at 62 rfl rfl), (K.at 63 rfl rfl), (K.at 64 rfl rfl), (K.at 65 rfl rfl), (K.at 66 rfl rfl), by omega, fun _ q => absurd q (Nat.not_lt_zero _)⟩⟩
