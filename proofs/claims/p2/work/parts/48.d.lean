/-! the class between two calls, the law's helpers, its loop: by program (wip/tools/gen8.py) -/
theorem let_D {m dl dl2 : Nat} {w : Int64} {h2 : xw_A} {P1 Q1 : Prop} {P2 P3 Q2 Q3 : Nat → Prop} (rl : ((ltr (oct w) 8 0).getD 0 = 0 ∧ dl2 = dl ∧ P1) ∨ ∃ n, ltr (oct w) 8 0 = some (n + 1) ∧ ((96 < dl + (n + 1) ∧ dl2 = dl ∧ P2 n) ∨ (dl + (n + 1) ≤ 96 ∧ dl2 = dl + (n + 1) ∧ P3 n)))
    (md : ((ltr (oct w) 8 0).getD 0 = 0 ∧ Rf m 10 (.int (nI dl)) h2 ∧ Q1) ∨ ∃ n, ltr (oct w) 8 0 = some (n + 1) ∧ ((96 < dl + (n + 1) ∧ Rf m 10 (.int (nI dl)) h2 ∧ Q2 n) ∨ (dl + (n + 1) ≤ 96 ∧ Rf m 10 (.int (nI (dl + (n + 1)))) h2 ∧ Q3 n))) : Rf m 10 (.int (nI dl2)) h2 := by
  rcases rl with ⟨r1, r2, -⟩ | ⟨n, r1, r2⟩
  · rcases md with ⟨-, q, -⟩ | ⟨k, q1, -⟩
    · rw [r2]; exact q
    · rw [q1] at r1; exact absurd r1 (by simp)
  · rcases md with ⟨q1, -⟩ | ⟨k, q1, q2⟩
    · rw [r1] at q1; exact absurd q1 (by simp)
    · have e : n + 1 = k + 1 := Option.some.inj (r1.symm.trans q1)
      have e2 : k = n := by omega
      subst e2
      rcases r2 with ⟨a1, a2, -⟩ | ⟨a1, a2, -⟩
      · rcases q2 with ⟨b1, b2, -⟩ | ⟨b1, b2, -⟩
        · rw [a2]; exact b2
        · omega
      · rcases q2 with ⟨b1, b2, -⟩ | ⟨b1, b2, -⟩
        · omega
        · rw [a2]; exact b2
theorem let_E {m dl dl2 o : Nat} {w : Int64} {k y : Int32} {h1 h2 : xw_A} (rl : ((ltr (oct w) 8 0).getD 0 = 0 ∧ dl2 = dl ∧ some (Value.int k) = some (.int 1)) ∨ ∃ n, ltr (oct w) 8 0 = some (n + 1) ∧ ((96 < dl + (n + 1) ∧ dl2 = dl ∧ some (Value.int k) = some (.int 2)) ∨ (dl + (n + 1) ≤ 96 ∧ dl2 = dl + (n + 1) ∧ some (Value.int k) = some (.int 0) ∧ ∃ f : Nat → Int64, h1 o = some (.inl (2, 1, .inr (.inl f))) ∧ f 0 = (nI (dl + (n + 1))).toInt64)))
    (md : ((ltr (oct w) 8 0).getD 0 = 0 ∧ Rf m 10 (.int (nI dl)) h2 ∧ Rf m 0 (.int 1) h2) ∨ ∃ n, ltr (oct w) 8 0 = some (n + 1) ∧ ((96 < dl + (n + 1) ∧ Rf m 10 (.int (nI dl)) h2 ∧ Rf m 0 (.int 2) h2) ∨ (dl + (n + 1) ≤ 96 ∧ Rf m 10 (.int (nI (dl + (n + 1)))) h2 ∧ Rf m 0 (.int 0) h2 ∧ some (Value.int y) = some (.int (nI (dl + (n + 1))))))) :
    (k = 1 ∧ Rf m 0 (.int 1) h2) ∨ (k = 2 ∧ Rf m 0 (.int 2) h2) ∨ (k = 0 ∧ Rf m 0 (.int 0) h2 ∧ ∃ f : Nat → Int64, h1 o = some (.inl (2, 1, .inr (.inl f))) ∧ f 0 = y.toInt64) := by
  rcases rl with ⟨r1, -, r2⟩ | ⟨n, r1, r2⟩
  · rcases md with ⟨-, -, q⟩ | ⟨k, q1, -⟩
    · exact Or.inl ⟨Value.int.inj (Option.some.inj r2), q⟩
    · rw [q1] at r1; exact absurd r1 (by simp)
  · rcases md with ⟨q1, -⟩ | ⟨k, q1, q2⟩
    · rw [r1] at q1; exact absurd q1 (by simp)
    · have e : n + 1 = k + 1 := Option.some.inj (r1.symm.trans q1)
      have e2 : k = n := by omega
      subst e2
      rcases r2 with ⟨a1, -, a2⟩ | ⟨a1, -, a2, f, a3, a4⟩
      · rcases q2 with ⟨b1, -, b2⟩ | ⟨b1, -, b2, b3⟩
        · exact Or.inr (Or.inl ⟨Value.int.inj (Option.some.inj a2), b2⟩)
        · omega
      · rcases q2 with ⟨b1, -, b2⟩ | ⟨b1, -, b2, b3⟩
        · omega
        · exact Or.inr (Or.inr ⟨Value.int.inj (Option.some.inj a2), b2, f, a3, by rw [a4, Value.int.inj (Option.some.inj b3)]⟩)
theorem lgc8 {a b : Int64} (h : a = b) : lg_cmp a b = 0 := by
  subst h
  simp [lg_cmp]
theorem set_D {m dl dl2 : Nat} {c : Int32} {h2 : xw_A} {Q1 Q2 Q3 : Prop} (rl : ((c < 0 ∨ 1 < c) ∧ dl2 = dl) ∨ ((¬ c < 0 ∧ ¬ 1 < c) ∧ 48 < dl ∧ dl2 = dl) ∨ ((¬ c < 0 ∧ ¬ 1 < c) ∧ dl ≤ 48 ∧ dl2 = 0))
    (md : ((c < 0 ∨ 1 < c) ∧ Rf m 10 (.int (nI dl)) h2 ∧ Q1) ∨ ((¬ c < 0 ∧ ¬ 1 < c) ∧ 48 < dl ∧ Rf m 10 (.int (nI dl)) h2 ∧ Q2) ∨ ((¬ c < 0 ∧ ¬ 1 < c) ∧ dl ≤ 48 ∧ Rf m 10 (.int (nI 0)) h2 ∧ Q3)) : Rf m 10 (.int (nI dl2)) h2 := by
  rcases rl with ⟨r1, r2⟩ | ⟨r1, r2, r3⟩ | ⟨r1, r2, r3⟩
  · rcases md with ⟨-, q, -⟩ | ⟨q1, -⟩ | ⟨q1, -⟩
    · rw [r2]; exact q
    · exact absurd r1 (fun z => z.elim q1.1 q1.2)
    · exact absurd r1 (fun z => z.elim q1.1 q1.2)
  · rcases md with ⟨q1, -⟩ | ⟨-, q1, q, -⟩ | ⟨-, q1, -⟩
    · exact absurd q1 (fun z => z.elim r1.1 r1.2)
    · rw [r3]; exact q
    · omega
  · rcases md with ⟨q1, -⟩ | ⟨-, q1, -⟩ | ⟨-, q1, q, -⟩
    · exact absurd q1 (fun z => z.elim r1.1 r1.2)
    · omega
    · rw [r3]; exact q
set_option maxHeartbeats 4000000 in
theorem lk_letters {G : xw_G} {F L bc bs b N i T dl : Nat} {xs : Nat → Int32} {pr : Option Value → xw_A → Prop} {px : String → xw_A → Prop} {A : List Nat} {x d tx w st s1 s2 s3 s4 sv v1 v2 v3 v4 qo tk tl tz ph nd po k1 k2 k3 so sp ao o1 o2 o3 o4 : Nat} {ps ns : List Nat} {m draft_ asked_ prepared_ preparedSize_ texts_ sizes_ weights_ entries_ lies_ live_ row_ level_ oldTexts_ oldSizes_ oldLies_ oldLive_ oldRow_ firstToken_ starred_ tokenAt_ tokenSize_ groupKind_ groupPhrase_ groupSize_ groupMask_ groupFar_ out_ top_ masks_ begins_ lasts_ truth_ answers_ order_ scores_ o od : Nat} {h : xw_A} (hX : va_X b N xs G.2.2.1 G.2.2.1.heap) (hN : N ≤ 1536) (hi : i + 3 ≤ N) (hT : T < 512) (Z : LwS A x d tx w st s1 s2 s3 s4 sv v1 v2 v3 v4 qo tk tl tz ph nd po k1 k2 k3 so sp ao o1 o2 o3 o4 ps ns m draft_ asked_ prepared_ preparedSize_ texts_ sizes_ weights_ entries_ lies_ live_ row_ level_ oldTexts_ oldSizes_ oldLies_ oldLive_ oldRow_ firstToken_ starred_ tokenAt_ tokenSize_ groupKind_ groupPhrase_ groupSize_ groupMask_ groupFar_ out_ top_ masks_ begins_ lasts_ truth_ answers_ order_ scores_ o od) (K : LwI A x d tx w st s1 s2 s3 s4 sv v1 v2 v3 v4 qo tk tl tz ph nd po k1 k2 k3 so sp ao o1 o2 o3 o4 ps ns m draft_ asked_ prepared_ preparedSize_ texts_ sizes_ weights_ entries_ lies_ live_ row_ level_ oldTexts_ oldSizes_ oldLies_ oldLive_ oldRow_ firstToken_ starred_ tokenAt_ tokenSize_ groupKind_ groupPhrase_ groupSize_ groupMask_ groupFar_ out_ top_ masks_ begins_ lasts_ truth_ answers_ order_ scores_ o od T dl dl h) (hF : 8 ≤ F) (hL : 138 ≤ L) (hbc : 13 ≤ bc) (hbs : 167 ≤ bs)
    (kk : ∀ (bc' bs' dl' : Nat) (h' : xw_A), bc ≤ bc' + 13 → bs ≤ bs' + 167 → LwI A x d tx w st s1 s2 s3 s4 sv v1 v2 v3 v4 qo tk tl tz ph nd po k1 k2 k3 so sp ao o1 o2 o3 o4 ps ns m draft_ asked_ prepared_ preparedSize_ texts_ sizes_ weights_ entries_ lies_ live_ row_ level_ oldTexts_ oldSizes_ oldLies_ oldLive_ oldRow_ firstToken_ starred_ tokenAt_ tokenSize_ groupKind_ groupPhrase_ groupSize_ groupMask_ groupFar_ out_ top_ masks_ begins_ lasts_ truth_ answers_ order_ scores_ o od (T + 1) dl' dl' h' → xw G m_Law_law F L bc' bs' pr px 739 [some (.ref b), some (.ref x), some (.ref m), some (.ref o), some (.ref od), some (.int (nI i)), none, none, none] [] h') :
    xw G m_Law_law F L bc bs pr px 140 [some (.ref b), some (.ref x), some (.ref m), some (.ref o), some (.ref od), some (.int (nI i)), none, none, none] [] h := by
  obtain ⟨S, NM, hMA, hoA, hodA, hD, no, noM, nod, nodM, noo⟩ := id Z
  obtain ⟨-, -, -, ⟨fo, eo⟩, fd, ed⟩ := id K
  have hdl9 : dl ≤ 96 := by obtain ⟨⟨_, _, _, _, _, _, q⟩, -⟩ := id K.1; exact q
  refine s_Law_law_140 hX (by first | exact vp_in_nI (by omega) (by omega) | (rw [nI_1]; exact vp_in_nI (by omega) (by omega)) | (rw [nI_2]; exact vp_in_nI (by omega) (by omega))) (by first | exact vp_in_nI (by omega) (by omega) | (rw [nI_1]; exact vp_in_nI (by omega) (by omega)) | (rw [nI_2]; exact vp_in_nI (by omega) (by omega))) ?_
  refine x_callSH (As := [.ref x, .long ((((xs ((nI i) + 1).toNatClampNeg).toInt64) <<< ((32 : Int32).toInt64 &&& 63)) ||| (((xs ((nI i) + 2).toNatClampNeg).toInt64) &&& 4294967295)), .ref o]) (rest := []) (F1 := 7) (L1 := 114) (mc := 13) (ms := 167) d_Law_law_164 cH_Law_78 (hk_letters S K.1 eo no hoA (by omega) (by omega)) ⟨by omega, by show 8 + (5 + 11) + 114 ≤ _; omega⟩ ⟨by omega, by omega⟩ (Nat.le_of_ble_eq_true rfl) (fun v_5 h_4 p_6 => ?_)
  obtain ⟨dl2, ⟨⟨k_2, rfl⟩, hp_3⟩, rl⟩ := p_6
  have K_1 := LwI.cls Z K hp_3
  obtain ⟨fs_7, l_8, e_9, -⟩ := id K_1.2.1
  refine s_Law_law_167 hX (by first | exact vp_in_nI (by omega) (by omega) | (rw [nI_1]; exact vp_in_nI (by omega) (by omega)) | (rw [nI_2]; exact vp_in_nI (by omega) (by omega))) (by first | exact vp_in_nI (by omega) (by omega) | (rw [nI_1]; exact vp_in_nI (by omega) (by omega)) | (rw [nI_2]; exact vp_in_nI (by omega) (by omega))) ?_
  refine x_callV (As := [.long ((((xs ((nI i) + 1).toNatClampNeg).toInt64) <<< ((32 : Int32).toInt64 &&& 63)) ||| (((xs ((nI i) + 2).toNatClampNeg).toInt64) &&& 4294967295))]) (b := m) (rest := []) (F1 := 2) (L1 := 60) (mc := 0) (ms := 0) d_Law_law_192 cV_Law_83 (r_letters K_1.2.1 NM hT (by omega) (by omega)) e_9 ⟨by decide, rfl⟩ ⟨by omega, by show 8 + (6 + 11) + 60 ≤ _; omega⟩ ⟨by omega, by omega⟩ (Nat.le_of_ble_eq_true rfl) (fun v_14 h_13 p_15 => ?_)
  obtain ⟨⟨y8, rfl⟩, R_11, fr_12, -, ff, md⟩ := p_15
  have D := let_D rl (md dl hdl9 K_1.2.2.1)
  have LE := let_E rl (md dl hdl9 K_1.2.2.1)
  have K_10 := LwI.mod Z K_1 R_11 fr_12 D
  obtain ⟨fs8, l8, e8, -⟩ := id K_10.2.1
  rcases LE with ⟨rfl, E0⟩ | ⟨rfl, E0⟩ | ⟨rfl, E0, f8, ef8, hf8⟩
  · skip
    have g8 := E0.at e8
    refine s_Law_law_195 ?_
    refine x_callV (As := []) (b := m) (rest := []) (F1 := 1) (L1 := 20) (mc := 0) (ms := 0) d_Law_law_198 cV_Law_84 (r_thrown l8 e8 g8 (by omega) (by omega)) e8 ⟨by decide, rfl⟩ ⟨by omega, by show 8 + (1 + 11) + 20 ≤ _; omega⟩ ⟨by omega, by omega⟩ (Nat.le_of_ble_eq_true rfl) (fun v_17 h_16 p_18 => ?_)
    obtain ⟨rfl, rfl⟩ := p_18
    refine s_Law_law_201 (fun z_19 => ?_) (fun z => absurd rfl z)
    refine s_Law_law_208 (fun z_20 => ?_) (fun z => absurd z (by decide))
    refine s_Law_law_225 ?_
    exact kk _ _ _ _ (by omega) (by omega) K_10
  · skip
    have g8 := E0.at e8
    refine s_Law_law_195 ?_
    refine x_callV (As := []) (b := m) (rest := []) (F1 := 1) (L1 := 20) (mc := 0) (ms := 0) d_Law_law_198 cV_Law_84 (r_thrown l8 e8 g8 (by omega) (by omega)) e8 ⟨by decide, rfl⟩ ⟨by omega, by show 8 + (1 + 11) + 20 ≤ _; omega⟩ ⟨by omega, by omega⟩ (Nat.le_of_ble_eq_true rfl) (fun v_22 h_21 p_23 => ?_)
    obtain ⟨rfl, rfl⟩ := p_23
    refine s_Law_law_201 (fun z_24 => ?_) (fun z => absurd rfl z)
    refine s_Law_law_208 (fun z_25 => ?_) (fun z => absurd z (by decide))
    refine s_Law_law_225 ?_
    exact kk _ _ _ _ (by omega) (by omega) K_10
  · skip
    have g8 := E0.at e8
    have eo8 := fr_12 o _ noM ef8
    refine s_Law_law_195 ?_
    refine x_callV (As := []) (b := m) (rest := []) (F1 := 1) (L1 := 20) (mc := 0) (ms := 0) d_Law_law_198 cV_Law_84 (r_thrown l8 e8 g8 (by omega) (by omega)) e8 ⟨by decide, rfl⟩ ⟨by omega, by show 8 + (1 + 11) + 20 ≤ _; omega⟩ ⟨by omega, by omega⟩ (Nat.le_of_ble_eq_true rfl) (fun v_27 h_26 p_28 => ?_)
    obtain ⟨rfl, rfl⟩ := p_28
    refine s_Law_law_201 (fun z_29 => ?_) (fun z => absurd rfl z)
    refine s_Law_law_208 (fun z => absurd rfl z) (fun z_30 => ?_)
    refine s_Law_law_213 eo8 (by first | exact vp_in_nI (by omega) (by omega) | (rw [nI_1]; exact vp_in_nI (by omega) (by omega)) | (rw [nI_2]; exact vp_in_nI (by omega) (by omega)) | (unfold vp_in; decide)) (fun z_31 => ?_) (fun z => absurd (lgc8 hf8) z)
    refine s_Law_law_225 ?_
    exact kk _ _ _ _ (by omega) (by omega) K_10
set_option maxHeartbeats 4000000 in
theorem lk_drop {G : xw_G} {F L bc bs b N i T dl : Nat} {xs : Nat → Int32} {pr : Option Value → xw_A → Prop} {px : String → xw_A → Prop} {A : List Nat} {x d tx w st s1 s2 s3 s4 sv v1 v2 v3 v4 qo tk tl tz ph nd po k1 k2 k3 so sp ao o1 o2 o3 o4 : Nat} {ps ns : List Nat} {m draft_ asked_ prepared_ preparedSize_ texts_ sizes_ weights_ entries_ lies_ live_ row_ level_ oldTexts_ oldSizes_ oldLies_ oldLive_ oldRow_ firstToken_ starred_ tokenAt_ tokenSize_ groupKind_ groupPhrase_ groupSize_ groupMask_ groupFar_ out_ top_ masks_ begins_ lasts_ truth_ answers_ order_ scores_ o od : Nat} {h : xw_A} (hX : va_X b N xs G.2.2.1 G.2.2.1.heap) (hN : N ≤ 1536) (hi : i + 3 ≤ N) (hT : T < 512) (Z : LwS A x d tx w st s1 s2 s3 s4 sv v1 v2 v3 v4 qo tk tl tz ph nd po k1 k2 k3 so sp ao o1 o2 o3 o4 ps ns m draft_ asked_ prepared_ preparedSize_ texts_ sizes_ weights_ entries_ lies_ live_ row_ level_ oldTexts_ oldSizes_ oldLies_ oldLive_ oldRow_ firstToken_ starred_ tokenAt_ tokenSize_ groupKind_ groupPhrase_ groupSize_ groupMask_ groupFar_ out_ top_ masks_ begins_ lasts_ truth_ answers_ order_ scores_ o od) (K : LwI A x d tx w st s1 s2 s3 s4 sv v1 v2 v3 v4 qo tk tl tz ph nd po k1 k2 k3 so sp ao o1 o2 o3 o4 ps ns m draft_ asked_ prepared_ preparedSize_ texts_ sizes_ weights_ entries_ lies_ live_ row_ level_ oldTexts_ oldSizes_ oldLies_ oldLive_ oldRow_ firstToken_ starred_ tokenAt_ tokenSize_ groupKind_ groupPhrase_ groupSize_ groupMask_ groupFar_ out_ top_ masks_ begins_ lasts_ truth_ answers_ order_ scores_ o od T dl dl h) (hF : 2 ≤ F) (hL : 41 ≤ L) (hbc : 13 ≤ bc) (hbs : 167 ≤ bs)
    (kk : ∀ (bc' bs' dl' : Nat) (h' : xw_A), bc ≤ bc' + 13 → bs ≤ bs' + 167 → LwI A x d tx w st s1 s2 s3 s4 sv v1 v2 v3 v4 qo tk tl tz ph nd po k1 k2 k3 so sp ao o1 o2 o3 o4 ps ns m draft_ asked_ prepared_ preparedSize_ texts_ sizes_ weights_ entries_ lies_ live_ row_ level_ oldTexts_ oldSizes_ oldLies_ oldLive_ oldRow_ firstToken_ starred_ tokenAt_ tokenSize_ groupKind_ groupPhrase_ groupSize_ groupMask_ groupFar_ out_ top_ masks_ begins_ lasts_ truth_ answers_ order_ scores_ o od (T + 1) dl' dl' h' → xw G m_Law_law F L bc' bs' pr px 739 [some (.ref b), some (.ref x), some (.ref m), some (.ref o), some (.ref od), some (.int (nI i)), none, none, none] [] h') :
    xw G m_Law_law F L bc bs pr px 228 [some (.ref b), some (.ref x), some (.ref m), some (.ref o), some (.ref od), some (.int (nI i)), none, none, none] [] h := by
  obtain ⟨S, NM, hMA, hoA, hodA, hD, no, noM, nod, nodM, noo⟩ := id Z
  obtain ⟨-, -, -, ⟨fo, eo⟩, fd, ed⟩ := id K
  have hdl9 : dl ≤ 96 := by obtain ⟨⟨_, _, _, _, _, _, q⟩, -⟩ := id K.1; exact q
  refine s_Law_law_228 ?_
  obtain ⟨K1, K2, K3, K4, K5, K6, K7, K8, K9⟩ := id K.1
  obtain ⟨mo, li, op, wp, gp, e_x, hdl⟩ := id K1
  obtain ⟨fr_, fp_, fs_, fl_, pc, sc, lc, pe, vm, sm, KS⟩ := id K5
  have SA : StA A st s1 s2 s3 s4 := ⟨S.mem 4 rfl, S.mem 5 rfl, S.mem 6 rfl, S.mem 7 rfl, S.mem 8 rfl⟩
  refine x_callV (As := []) (b := x) (rest := []) (F1 := 1) (L1 := 20) (mc := 0) (ms := 0) d_Law_law_229 cV_Law_87 (g_drop e_x hdl (by omega) (by omega)) e_x ⟨by decide, rfl⟩ ⟨by omega, by show 8 + (2 + 11) + 20 ≤ _; omega⟩ ⟨by omega, by omega⟩ (Nat.le_of_ble_eq_true rfl) (fun v_2 h_1 p_3 => ?_)
  obtain ⟨rfl, hx9⟩ := p_3
  have fr9 : FrO (pick (CLs x d tx w st s1 s2 s3 s4 sv v1 v2 v3 v4 qo tk tl tz ph nd po k1 k2 k3 so sp ao o1 o2 o3 o4 ps ns) [0]) h h_1 := by rw [hx9]; exact FrO.rf.up (List.mem_singleton.mpr rfl) (fun q hq => xw_up_n _ _ hq)
  have ex1 : h_1 x = some (.inr (0, [.ref d, .ref tx, .ref w, .ref st, .ref sv, .ref qo, .ref so, .ref ao, .int (0), .int mo, .int li, .int op, .int wp, .int gp])) := by rw [hx9]; exact xw_up_s _ _ _
  have K' : CI A x d tx w st s1 s2 s3 s4 sv v1 v2 v3 v4 qo tk tl tz ph nd po k1 k2 k3 so sp ao o1 o2 o3 o4 ps ns 0 h_1 := K.1.up S [0] (by decide) fr9 (exC ex1 exN) (Or.inl ⟨_, _, _, _, _, ex1, by omega⟩) (Or.inr (by decide)) (Or.inr (by decide)) (Or.inr (by decide)) (Or.inr (by decide)) (Or.inr (by decide)) (Or.inr (by decide)) (Or.inr (by decide)) (Or.inr (by decide))
  have KL := LwI.clsZ Z K ⟨K', fr9.mono CS.inC⟩
  obtain ⟨fs_4, l_5, e_6, -⟩ := id KL.2.1
  refine s_Law_law_232 ?_
  refine x_callV (As := []) (b := m) (rest := []) (F1 := 1) (L1 := 20) (mc := 0) (ms := 0) d_Law_law_234 cV_Law_90 (r_drop KL.2.1 NM hT (by omega) (by omega)) e_6 ⟨by decide, rfl⟩ ⟨by omega, by show 8 + (2 + 11) + 20 ≤ _; omega⟩ ⟨by omega, by omega⟩ (Nat.le_of_ble_eq_true rfl) (fun v_11 h_10 p_12 => ?_)
  obtain ⟨-, R_8, fr_9, -, ff, md⟩ := p_12
  obtain ⟨rfl, D⟩ := md dl hdl9 KL.2.2.1
  have K_7 := LwI.mod Z KL R_8 fr_9 D
  refine s_Law_law_237 ?_
  exact kk _ _ _ _ (by omega) (by omega) K_7
set_option maxHeartbeats 4000000 in
theorem lk_set {G : xw_G} {F L bc bs b N i T dl : Nat} {xs : Nat → Int32} {pr : Option Value → xw_A → Prop} {px : String → xw_A → Prop} {A : List Nat} {x d tx w st s1 s2 s3 s4 sv v1 v2 v3 v4 qo tk tl tz ph nd po k1 k2 k3 so sp ao o1 o2 o3 o4 : Nat} {ps ns : List Nat} {m draft_ asked_ prepared_ preparedSize_ texts_ sizes_ weights_ entries_ lies_ live_ row_ level_ oldTexts_ oldSizes_ oldLies_ oldLive_ oldRow_ firstToken_ starred_ tokenAt_ tokenSize_ groupKind_ groupPhrase_ groupSize_ groupMask_ groupFar_ out_ top_ masks_ begins_ lasts_ truth_ answers_ order_ scores_ o od : Nat} {h : xw_A} (hX : va_X b N xs G.2.2.1 G.2.2.1.heap) (hN : N ≤ 1536) (hi : i + 3 ≤ N) (hT : T < 512) (Z : LwS A x d tx w st s1 s2 s3 s4 sv v1 v2 v3 v4 qo tk tl tz ph nd po k1 k2 k3 so sp ao o1 o2 o3 o4 ps ns m draft_ asked_ prepared_ preparedSize_ texts_ sizes_ weights_ entries_ lies_ live_ row_ level_ oldTexts_ oldSizes_ oldLies_ oldLive_ oldRow_ firstToken_ starred_ tokenAt_ tokenSize_ groupKind_ groupPhrase_ groupSize_ groupMask_ groupFar_ out_ top_ masks_ begins_ lasts_ truth_ answers_ order_ scores_ o od) (K : LwI A x d tx w st s1 s2 s3 s4 sv v1 v2 v3 v4 qo tk tl tz ph nd po k1 k2 k3 so sp ao o1 o2 o3 o4 ps ns m draft_ asked_ prepared_ preparedSize_ texts_ sizes_ weights_ entries_ lies_ live_ row_ level_ oldTexts_ oldSizes_ oldLies_ oldLive_ oldRow_ firstToken_ starred_ tokenAt_ tokenSize_ groupKind_ groupPhrase_ groupSize_ groupMask_ groupFar_ out_ top_ masks_ begins_ lasts_ truth_ answers_ order_ scores_ o od T dl dl h) (hF : 8 ≤ F) (hL : 165 ≤ L) (hbc : 13 ≤ bc) (hbs : 167 ≤ bs)
    (kk : ∀ (bc' bs' dl' : Nat) (h' : xw_A), bc ≤ bc' + 13 → bs ≤ bs' + 167 → LwI A x d tx w st s1 s2 s3 s4 sv v1 v2 v3 v4 qo tk tl tz ph nd po k1 k2 k3 so sp ao o1 o2 o3 o4 ps ns m draft_ asked_ prepared_ preparedSize_ texts_ sizes_ weights_ entries_ lies_ live_ row_ level_ oldTexts_ oldSizes_ oldLies_ oldLive_ oldRow_ firstToken_ starred_ tokenAt_ tokenSize_ groupKind_ groupPhrase_ groupSize_ groupMask_ groupFar_ out_ top_ masks_ begins_ lasts_ truth_ answers_ order_ scores_ o od (T + 1) dl' dl' h' → xw G m_Law_law F L bc' bs' pr px 739 [some (.ref b), some (.ref x), some (.ref m), some (.ref o), some (.ref od), some (.int (nI i)), none, none, none] [] h') :
    xw G m_Law_law F L bc bs pr px 241 [some (.ref b), some (.ref x), some (.ref m), some (.ref o), some (.ref od), some (.int (nI i)), none, none, none] [] h := by
  obtain ⟨S, NM, hMA, hoA, hodA, hD, no, noM, nod, nodM, noo⟩ := id Z
  obtain ⟨-, -, -, ⟨fo, eo⟩, fd, ed⟩ := id K
  have hdl9 : dl ≤ 96 := by obtain ⟨⟨_, _, _, _, _, _, q⟩, -⟩ := id K.1; exact q
  refine s_Law_law_241 hX (by first | exact vp_in_nI (by omega) (by omega) | (rw [nI_1]; exact vp_in_nI (by omega) (by omega)) | (rw [nI_2]; exact vp_in_nI (by omega) (by omega))) ?_
  refine x_callSH (As := [.ref x, .int (xs ((nI i) + 1).toNatClampNeg), .ref o]) (rest := []) (F1 := 7) (L1 := 142) (mc := 13) (ms := 167) d_Law_law_249 cH_Law_91 (hk_set S K.1 eo no hoA (by omega) (by omega)) ⟨by omega, by show 8 + (4 + 11) + 142 ≤ _; omega⟩ ⟨by omega, by omega⟩ (Nat.le_of_ble_eq_true rfl) (fun v_5 h_4 p_6 => ?_)
  obtain ⟨dl2, ⟨⟨k_2, rfl⟩, hp_3⟩, rl⟩ := p_6
  have K_1 := LwI.cls Z K hp_3
  obtain ⟨fs_7, l_8, e_9, -⟩ := id K_1.2.1
  refine s_Law_law_252 hX (by first | exact vp_in_nI (by omega) (by omega) | (rw [nI_1]; exact vp_in_nI (by omega) (by omega)) | (rw [nI_2]; exact vp_in_nI (by omega) (by omega))) ?_
  refine x_callV (As := [.int (xs ((nI i) + 1).toNatClampNeg)]) (b := m) (rest := []) (F1 := 3) (L1 := 62) (mc := 0) (ms := 0) d_Law_law_261 cV_Law_94 (r_set K_1.2.1 NM hT (by omega) (by omega)) e_9 ⟨by decide, rfl⟩ ⟨by omega, by show 8 + (4 + 11) + 62 ≤ _; omega⟩ ⟨by omega, by omega⟩ (Nat.le_of_ble_eq_true rfl) (fun v_14 h_13 p_15 => ?_)
  obtain ⟨⟨y8, rfl⟩, R_11, fr_12, -, ff, md⟩ := p_15
  have D := set_D rl (md dl hdl9 K_1.2.2.1)
  have K_10 := LwI.mod Z K_1 R_11 fr_12 D
  refine x_le (xw_le_s (xw_le_s (xw_le_s (xw_le_s (xw_le_s (xw_le_s (xw_le_n (xw_le_n (xw_le_n xw_le_e))))))))) ?_
  refine s_Law_law_264 ?_
  exact kk _ _ _ _ (by omega) (by omega) K_10
set_option maxHeartbeats 4000000 in
theorem lk_insert {G : xw_G} {F L bc bs b N i T dl : Nat} {xs : Nat → Int32} {pr : Option Value → xw_A → Prop} {px : String → xw_A → Prop} {A : List Nat} {x d tx w st s1 s2 s3 s4 sv v1 v2 v3 v4 qo tk tl tz ph nd po k1 k2 k3 so sp ao o1 o2 o3 o4 : Nat} {ps ns : List Nat} {m draft_ asked_ prepared_ preparedSize_ texts_ sizes_ weights_ entries_ lies_ live_ row_ level_ oldTexts_ oldSizes_ oldLies_ oldLive_ oldRow_ firstToken_ starred_ tokenAt_ tokenSize_ groupKind_ groupPhrase_ groupSize_ groupMask_ groupFar_ out_ top_ masks_ begins_ lasts_ truth_ answers_ order_ scores_ o od : Nat} {h : xw_A} (hX : va_X b N xs G.2.2.1 G.2.2.1.heap) (hN : N ≤ 1536) (hi : i + 3 ≤ N) (hT : T < 512) (Z : LwS A x d tx w st s1 s2 s3 s4 sv v1 v2 v3 v4 qo tk tl tz ph nd po k1 k2 k3 so sp ao o1 o2 o3 o4 ps ns m draft_ asked_ prepared_ preparedSize_ texts_ sizes_ weights_ entries_ lies_ live_ row_ level_ oldTexts_ oldSizes_ oldLies_ oldLive_ oldRow_ firstToken_ starred_ tokenAt_ tokenSize_ groupKind_ groupPhrase_ groupSize_ groupMask_ groupFar_ out_ top_ masks_ begins_ lasts_ truth_ answers_ order_ scores_ o od) (K : LwI A x d tx w st s1 s2 s3 s4 sv v1 v2 v3 v4 qo tk tl tz ph nd po k1 k2 k3 so sp ao o1 o2 o3 o4 ps ns m draft_ asked_ prepared_ preparedSize_ texts_ sizes_ weights_ entries_ lies_ live_ row_ level_ oldTexts_ oldSizes_ oldLies_ oldLive_ oldRow_ firstToken_ starred_ tokenAt_ tokenSize_ groupKind_ groupPhrase_ groupSize_ groupMask_ groupFar_ out_ top_ masks_ begins_ lasts_ truth_ answers_ order_ scores_ o od T dl dl h) (hF : 9 ≤ F) (hL : 213 ≤ L) (hbc : 13 ≤ bc) (hbs : 167 ≤ bs)
    (kk : ∀ (bc' bs' dl' : Nat) (h' : xw_A), bc ≤ bc' + 13 → bs ≤ bs' + 167 → LwI A x d tx w st s1 s2 s3 s4 sv v1 v2 v3 v4 qo tk tl tz ph nd po k1 k2 k3 so sp ao o1 o2 o3 o4 ps ns m draft_ asked_ prepared_ preparedSize_ texts_ sizes_ weights_ entries_ lies_ live_ row_ level_ oldTexts_ oldSizes_ oldLies_ oldLive_ oldRow_ firstToken_ starred_ tokenAt_ tokenSize_ groupKind_ groupPhrase_ groupSize_ groupMask_ groupFar_ out_ top_ masks_ begins_ lasts_ truth_ answers_ order_ scores_ o od (T + 1) dl' dl' h' → xw G m_Law_law F L bc' bs' pr px 739 [some (.ref b), some (.ref x), some (.ref m), some (.ref o), some (.ref od), some (.int (nI i)), none, none, none] [] h') :
    xw G m_Law_law F L bc bs pr px 269 [some (.ref b), some (.ref x), some (.ref m), some (.ref o), some (.ref od), some (.int (nI i)), none, none, none] [] h := by
  obtain ⟨S, NM, hMA, hoA, hodA, hD, no, noM, nod, nodM, noo⟩ := id Z
  obtain ⟨-, -, -, ⟨fo, eo⟩, fd, ed⟩ := id K
  have hdl9 : dl ≤ 96 := by obtain ⟨⟨_, _, _, _, _, _, q⟩, -⟩ := id K.1; exact q
  refine s_Law_law_269 ?_
  refine x_callSH (As := [.ref x, .ref o]) (rest := []) (F1 := 8) (L1 := 191) (mc := 13) (ms := 167) d_Law_law_271 cH_Law_95 (hk_insert S K.1 eo no hoA (by omega) (by omega)) ⟨by omega, by show 8 + (3 + 11) + 191 ≤ _; omega⟩ ⟨by omega, by omega⟩ (Nat.le_of_ble_eq_true rfl) (fun v_5 h_4 p_6 => ?_)
  obtain ⟨⟨k_2, rfl⟩, hp_3⟩ := p_6
  have K_1 := LwI.cls Z K hp_3
  obtain ⟨fs_7, l_8, e_9, -⟩ := id K_1.2.1
  refine s_Law_law_274 ?_
  refine x_callV (As := []) (b := m) (rest := []) (F1 := 6) (L1 := 136) (mc := 0) (ms := 0) d_Law_law_277 cV_Law_98 (r_insert K_1.2.1 NM hT (by omega) (by omega)) e_9 ⟨by decide, rfl⟩ ⟨by omega, by show 8 + (2 + 11) + 136 ≤ _; omega⟩ ⟨by omega, by omega⟩ (Nat.le_of_ble_eq_true rfl) (fun v_14 h_13 p_15 => ?_)
  obtain ⟨⟨y8, rfl⟩, R_11, fr_12, -, ff⟩ := p_15
  have D := K_1.2.2.1.ff ff (by decide)
  have K_10 := LwI.mod Z K_1 R_11 fr_12 D
  refine x_le (xw_le_s (xw_le_s (xw_le_s (xw_le_s (xw_le_s (xw_le_s (xw_le_n (xw_le_n (xw_le_n xw_le_e))))))))) ?_
  refine s_Law_law_280 ?_
  exact kk _ _ _ _ (by omega) (by omega) K_10
set_option maxHeartbeats 4000000 in
theorem lk_replace {G : xw_G} {F L bc bs b N i T dl : Nat} {xs : Nat → Int32} {pr : Option Value → xw_A → Prop} {px : String → xw_A → Prop} {A : List Nat} {x d tx w st s1 s2 s3 s4 sv v1 v2 v3 v4 qo tk tl tz ph nd po k1 k2 k3 so sp ao o1 o2 o3 o4 : Nat} {ps ns : List Nat} {m draft_ asked_ prepared_ preparedSize_ texts_ sizes_ weights_ entries_ lies_ live_ row_ level_ oldTexts_ oldSizes_ oldLies_ oldLive_ oldRow_ firstToken_ starred_ tokenAt_ tokenSize_ groupKind_ groupPhrase_ groupSize_ groupMask_ groupFar_ out_ top_ masks_ begins_ lasts_ truth_ answers_ order_ scores_ o od : Nat} {h : xw_A} (hX : va_X b N xs G.2.2.1 G.2.2.1.heap) (hN : N ≤ 1536) (hi : i + 3 ≤ N) (hT : T < 512) (Z : LwS A x d tx w st s1 s2 s3 s4 sv v1 v2 v3 v4 qo tk tl tz ph nd po k1 k2 k3 so sp ao o1 o2 o3 o4 ps ns m draft_ asked_ prepared_ preparedSize_ texts_ sizes_ weights_ entries_ lies_ live_ row_ level_ oldTexts_ oldSizes_ oldLies_ oldLive_ oldRow_ firstToken_ starred_ tokenAt_ tokenSize_ groupKind_ groupPhrase_ groupSize_ groupMask_ groupFar_ out_ top_ masks_ begins_ lasts_ truth_ answers_ order_ scores_ o od) (K : LwI A x d tx w st s1 s2 s3 s4 sv v1 v2 v3 v4 qo tk tl tz ph nd po k1 k2 k3 so sp ao o1 o2 o3 o4 ps ns m draft_ asked_ prepared_ preparedSize_ texts_ sizes_ weights_ entries_ lies_ live_ row_ level_ oldTexts_ oldSizes_ oldLies_ oldLive_ oldRow_ firstToken_ starred_ tokenAt_ tokenSize_ groupKind_ groupPhrase_ groupSize_ groupMask_ groupFar_ out_ top_ masks_ begins_ lasts_ truth_ answers_ order_ scores_ o od T dl dl h) (hF : 9 ≤ F) (hL : 214 ≤ L) (hbc : 13 ≤ bc) (hbs : 167 ≤ bs)
    (kk : ∀ (bc' bs' dl' : Nat) (h' : xw_A), bc ≤ bc' + 13 → bs ≤ bs' + 167 → LwI A x d tx w st s1 s2 s3 s4 sv v1 v2 v3 v4 qo tk tl tz ph nd po k1 k2 k3 so sp ao o1 o2 o3 o4 ps ns m draft_ asked_ prepared_ preparedSize_ texts_ sizes_ weights_ entries_ lies_ live_ row_ level_ oldTexts_ oldSizes_ oldLies_ oldLive_ oldRow_ firstToken_ starred_ tokenAt_ tokenSize_ groupKind_ groupPhrase_ groupSize_ groupMask_ groupFar_ out_ top_ masks_ begins_ lasts_ truth_ answers_ order_ scores_ o od (T + 1) dl' dl' h' → xw G m_Law_law F L bc' bs' pr px 739 [some (.ref b), some (.ref x), some (.ref m), some (.ref o), some (.ref od), some (.int (nI i)), none, none, none] [] h') :
    xw G m_Law_law F L bc bs pr px 285 [some (.ref b), some (.ref x), some (.ref m), some (.ref o), some (.ref od), some (.int (nI i)), none, none, none] [] h := by
  obtain ⟨S, NM, hMA, hoA, hodA, hD, no, noM, nod, nodM, noo⟩ := id Z
  obtain ⟨-, -, -, ⟨fo, eo⟩, fd, ed⟩ := id K
  have hdl9 : dl ≤ 96 := by obtain ⟨⟨_, _, _, _, _, _, q⟩, -⟩ := id K.1; exact q
  refine s_Law_law_285 hX (by first | exact vp_in_nI (by omega) (by omega) | (rw [nI_1]; exact vp_in_nI (by omega) (by omega)) | (rw [nI_2]; exact vp_in_nI (by omega) (by omega))) ?_
  refine x_callSH (As := [.ref x, .int (xs ((nI i) + 1).toNatClampNeg), .ref o]) (rest := []) (F1 := 8) (L1 := 191) (mc := 13) (ms := 167) d_Law_law_293 cH_Law_99 (hk_replace S K.1 eo no hoA (by omega) (by omega)) ⟨by omega, by show 8 + (4 + 11) + 191 ≤ _; omega⟩ ⟨by omega, by omega⟩ (Nat.le_of_ble_eq_true rfl) (fun v_5 h_4 p_6 => ?_)
  obtain ⟨⟨k_2, rfl⟩, hp_3⟩ := p_6
  have K_1 := LwI.cls Z K hp_3
  obtain ⟨fs_7, l_8, e_9, -⟩ := id K_1.2.1
  refine s_Law_law_296 hX (by first | exact vp_in_nI (by omega) (by omega) | (rw [nI_1]; exact vp_in_nI (by omega) (by omega)) | (rw [nI_2]; exact vp_in_nI (by omega) (by omega))) ?_
  refine x_callV (As := [.int (xs ((nI i) + 1).toNatClampNeg)]) (b := m) (rest := []) (F1 := 6) (L1 := 136) (mc := 0) (ms := 0) d_Law_law_305 cV_Law_101 (r_replace K_1.2.1 NM hT (by omega) (by omega)) e_9 ⟨by decide, rfl⟩ ⟨by omega, by show 8 + (2 + 11) + 136 ≤ _; omega⟩ ⟨by omega, by omega⟩ (Nat.le_of_ble_eq_true rfl) (fun v_14 h_13 p_15 => ?_)
  obtain ⟨⟨y8, rfl⟩, R_11, fr_12, -, ff⟩ := p_15
  have D := K_1.2.2.1.ff ff (by decide)
  have K_10 := LwI.mod Z K_1 R_11 fr_12 D
  refine x_le (xw_le_s (xw_le_s (xw_le_s (xw_le_s (xw_le_s (xw_le_s (xw_le_n (xw_le_n (xw_le_n xw_le_e))))))))) ?_
  refine s_Law_law_308 ?_
  exact kk _ _ _ _ (by omega) (by omega) K_10
set_option maxHeartbeats 4000000 in
theorem lk_delete {G : xw_G} {F L bc bs b N i T dl : Nat} {xs : Nat → Int32} {pr : Option Value → xw_A → Prop} {px : String → xw_A → Prop} {A : List Nat} {x d tx w st s1 s2 s3 s4 sv v1 v2 v3 v4 qo tk tl tz ph nd po k1 k2 k3 so sp ao o1 o2 o3 o4 : Nat} {ps ns : List Nat} {m draft_ asked_ prepared_ preparedSize_ texts_ sizes_ weights_ entries_ lies_ live_ row_ level_ oldTexts_ oldSizes_ oldLies_ oldLive_ oldRow_ firstToken_ starred_ tokenAt_ tokenSize_ groupKind_ groupPhrase_ groupSize_ groupMask_ groupFar_ out_ top_ masks_ begins_ lasts_ truth_ answers_ order_ scores_ o od : Nat} {h : xw_A} (hX : va_X b N xs G.2.2.1 G.2.2.1.heap) (hN : N ≤ 1536) (hi : i + 3 ≤ N) (hT : T < 512) (Z : LwS A x d tx w st s1 s2 s3 s4 sv v1 v2 v3 v4 qo tk tl tz ph nd po k1 k2 k3 so sp ao o1 o2 o3 o4 ps ns m draft_ asked_ prepared_ preparedSize_ texts_ sizes_ weights_ entries_ lies_ live_ row_ level_ oldTexts_ oldSizes_ oldLies_ oldLive_ oldRow_ firstToken_ starred_ tokenAt_ tokenSize_ groupKind_ groupPhrase_ groupSize_ groupMask_ groupFar_ out_ top_ masks_ begins_ lasts_ truth_ answers_ order_ scores_ o od) (K : LwI A x d tx w st s1 s2 s3 s4 sv v1 v2 v3 v4 qo tk tl tz ph nd po k1 k2 k3 so sp ao o1 o2 o3 o4 ps ns m draft_ asked_ prepared_ preparedSize_ texts_ sizes_ weights_ entries_ lies_ live_ row_ level_ oldTexts_ oldSizes_ oldLies_ oldLive_ oldRow_ firstToken_ starred_ tokenAt_ tokenSize_ groupKind_ groupPhrase_ groupSize_ groupMask_ groupFar_ out_ top_ masks_ begins_ lasts_ truth_ answers_ order_ scores_ o od T dl dl h) (hF : 8 ≤ F) (hL : 135 ≤ L) (hbc : 13 ≤ bc) (hbs : 167 ≤ bs)
    (kk : ∀ (bc' bs' dl' : Nat) (h' : xw_A), bc ≤ bc' + 13 → bs ≤ bs' + 167 → LwI A x d tx w st s1 s2 s3 s4 sv v1 v2 v3 v4 qo tk tl tz ph nd po k1 k2 k3 so sp ao o1 o2 o3 o4 ps ns m draft_ asked_ prepared_ preparedSize_ texts_ sizes_ weights_ entries_ lies_ live_ row_ level_ oldTexts_ oldSizes_ oldLies_ oldLive_ oldRow_ firstToken_ starred_ tokenAt_ tokenSize_ groupKind_ groupPhrase_ groupSize_ groupMask_ groupFar_ out_ top_ masks_ begins_ lasts_ truth_ answers_ order_ scores_ o od (T + 1) dl' dl' h' → xw G m_Law_law F L bc' bs' pr px 739 [some (.ref b), some (.ref x), some (.ref m), some (.ref o), some (.ref od), some (.int (nI i)), none, none, none] [] h') :
    xw G m_Law_law F L bc bs pr px 313 [some (.ref b), some (.ref x), some (.ref m), some (.ref o), some (.ref od), some (.int (nI i)), none, none, none] [] h := by
  obtain ⟨S, NM, hMA, hoA, hodA, hD, no, noM, nod, nodM, noo⟩ := id Z
  obtain ⟨-, -, -, ⟨fo, eo⟩, fd, ed⟩ := id K
  have hdl9 : dl ≤ 96 := by obtain ⟨⟨_, _, _, _, _, _, q⟩, -⟩ := id K.1; exact q
  refine s_Law_law_313 hX (by first | exact vp_in_nI (by omega) (by omega) | (rw [nI_1]; exact vp_in_nI (by omega) (by omega)) | (rw [nI_2]; exact vp_in_nI (by omega) (by omega))) ?_
  refine x_callSH (As := [.ref x, .int (xs ((nI i) + 1).toNatClampNeg), .ref o]) (rest := []) (F1 := 7) (L1 := 112) (mc := 13) (ms := 167) d_Law_law_321 cH_Law_102 (hk_delete S K.1 eo no hoA (by omega) (by omega)) ⟨by omega, by show 8 + (4 + 11) + 112 ≤ _; omega⟩ ⟨by omega, by omega⟩ (Nat.le_of_ble_eq_true rfl) (fun v_5 h_4 p_6 => ?_)
  obtain ⟨⟨k_2, rfl⟩, hp_3⟩ := p_6
  have K_1 := LwI.cls Z K hp_3
  obtain ⟨fs_7, l_8, e_9, -⟩ := id K_1.2.1
  refine s_Law_law_324 hX (by first | exact vp_in_nI (by omega) (by omega) | (rw [nI_1]; exact vp_in_nI (by omega) (by omega)) | (rw [nI_2]; exact vp_in_nI (by omega) (by omega))) ?_
  refine x_callV (As := [.int (xs ((nI i) + 1).toNatClampNeg)]) (b := m) (rest := []) (F1 := 5) (L1 := 109) (mc := 0) (ms := 0) d_Law_law_333 cV_Law_104 (r_delete K_1.2.1 NM hT (by omega) (by omega)) e_9 ⟨by decide, rfl⟩ ⟨by omega, by show 8 + (3 + 11) + 109 ≤ _; omega⟩ ⟨by omega, by omega⟩ (Nat.le_of_ble_eq_true rfl) (fun v_14 h_13 p_15 => ?_)
  obtain ⟨⟨y8, rfl⟩, R_11, fr_12, -, ff⟩ := p_15
  have D := K_1.2.2.1.ff ff (by decide)
  have K_10 := LwI.mod Z K_1 R_11 fr_12 D
  refine x_le (xw_le_s (xw_le_s (xw_le_s (xw_le_s (xw_le_s (xw_le_s (xw_le_n (xw_le_n (xw_le_n xw_le_e))))))))) ?_
  refine s_Law_law_336 ?_
  exact kk _ _ _ _ (by omega) (by omega) K_10
set_option maxHeartbeats 4000000 in
theorem lk_begin {G : xw_G} {F L bc bs b N i T dl : Nat} {xs : Nat → Int32} {pr : Option Value → xw_A → Prop} {px : String → xw_A → Prop} {A : List Nat} {x d tx w st s1 s2 s3 s4 sv v1 v2 v3 v4 qo tk tl tz ph nd po k1 k2 k3 so sp ao o1 o2 o3 o4 : Nat} {ps ns : List Nat} {m draft_ asked_ prepared_ preparedSize_ texts_ sizes_ weights_ entries_ lies_ live_ row_ level_ oldTexts_ oldSizes_ oldLies_ oldLive_ oldRow_ firstToken_ starred_ tokenAt_ tokenSize_ groupKind_ groupPhrase_ groupSize_ groupMask_ groupFar_ out_ top_ masks_ begins_ lasts_ truth_ answers_ order_ scores_ o od : Nat} {h : xw_A} (hX : va_X b N xs G.2.2.1 G.2.2.1.heap) (hN : N ≤ 1536) (hi : i + 3 ≤ N) (hT : T < 512) (Z : LwS A x d tx w st s1 s2 s3 s4 sv v1 v2 v3 v4 qo tk tl tz ph nd po k1 k2 k3 so sp ao o1 o2 o3 o4 ps ns m draft_ asked_ prepared_ preparedSize_ texts_ sizes_ weights_ entries_ lies_ live_ row_ level_ oldTexts_ oldSizes_ oldLies_ oldLive_ oldRow_ firstToken_ starred_ tokenAt_ tokenSize_ groupKind_ groupPhrase_ groupSize_ groupMask_ groupFar_ out_ top_ masks_ begins_ lasts_ truth_ answers_ order_ scores_ o od) (K : LwI A x d tx w st s1 s2 s3 s4 sv v1 v2 v3 v4 qo tk tl tz ph nd po k1 k2 k3 so sp ao o1 o2 o3 o4 ps ns m draft_ asked_ prepared_ preparedSize_ texts_ sizes_ weights_ entries_ lies_ live_ row_ level_ oldTexts_ oldSizes_ oldLies_ oldLive_ oldRow_ firstToken_ starred_ tokenAt_ tokenSize_ groupKind_ groupPhrase_ groupSize_ groupMask_ groupFar_ out_ top_ masks_ begins_ lasts_ truth_ answers_ order_ scores_ o od T dl dl h) (hF : 8 ≤ F) (hL : 131 ≤ L) (hbc : 13 ≤ bc) (hbs : 167 ≤ bs)
    (kk : ∀ (bc' bs' dl' : Nat) (h' : xw_A), bc ≤ bc' + 13 → bs ≤ bs' + 167 → LwI A x d tx w st s1 s2 s3 s4 sv v1 v2 v3 v4 qo tk tl tz ph nd po k1 k2 k3 so sp ao o1 o2 o3 o4 ps ns m draft_ asked_ prepared_ preparedSize_ texts_ sizes_ weights_ entries_ lies_ live_ row_ level_ oldTexts_ oldSizes_ oldLies_ oldLive_ oldRow_ firstToken_ starred_ tokenAt_ tokenSize_ groupKind_ groupPhrase_ groupSize_ groupMask_ groupFar_ out_ top_ masks_ begins_ lasts_ truth_ answers_ order_ scores_ o od (T + 1) dl' dl' h' → xw G m_Law_law F L bc' bs' pr px 739 [some (.ref b), some (.ref x), some (.ref m), some (.ref o), some (.ref od), some (.int (nI i)), none, none, none] [] h') :
    xw G m_Law_law F L bc bs pr px 341 [some (.ref b), some (.ref x), some (.ref m), some (.ref o), some (.ref od), some (.int (nI i)), none, none, none] [] h := by
  obtain ⟨S, NM, hMA, hoA, hodA, hD, no, noM, nod, nodM, noo⟩ := id Z
  obtain ⟨-, -, -, ⟨fo, eo⟩, fd, ed⟩ := id K
  have hdl9 : dl ≤ 96 := by obtain ⟨⟨_, _, _, _, _, _, q⟩, -⟩ := id K.1; exact q
  refine s_Law_law_341 ?_
  refine x_callSH (As := [.ref x]) (rest := []) (F1 := 7) (L1 := 110) (mc := 13) (ms := 167) d_Law_law_342 cH_Law_105 (hk_begin S K.1 (by omega) (by omega)) ⟨by omega, by show 8 + (2 + 11) + 110 ≤ _; omega⟩ ⟨by omega, by omega⟩ (Nat.le_of_ble_eq_true rfl) (fun v_5 h_4 p_6 => ?_)
  obtain ⟨⟨k_2, rfl⟩, hp_3⟩ := p_6
  have K_1 := LwI.clsZ Z K hp_3
  obtain ⟨fs_7, l_8, e_9, -⟩ := id K_1.2.1
  refine s_Law_law_345 ?_
  refine x_callV (As := []) (b := m) (rest := []) (F1 := 2) (L1 := 42) (mc := 0) (ms := 0) d_Law_law_348 cV_Law_108 (r_begin K_1.2.1 NM hT (by omega) (by omega)) e_9 ⟨by decide, rfl⟩ ⟨by omega, by show 8 + (2 + 11) + 42 ≤ _; omega⟩ ⟨by omega, by omega⟩ (Nat.le_of_ble_eq_true rfl) (fun v_14 h_13 p_15 => ?_)
  obtain ⟨rfl, R_11, fr_12, -, ff⟩ := p_15
  have D := K_1.2.2.1.ff ff (by decide)
  have K_10 := LwI.mod Z K_1 R_11 fr_12 D
  refine x_le (xw_le_s (xw_le_s (xw_le_s (xw_le_s (xw_le_s (xw_le_s (xw_le_n (xw_le_n (xw_le_n xw_le_e))))))))) ?_
  refine s_Law_law_351 ?_
  exact kk _ _ _ _ (by omega) (by omega) K_10
set_option maxHeartbeats 4000000 in
theorem lk_commit {G : xw_G} {F L bc bs b N i T dl : Nat} {xs : Nat → Int32} {pr : Option Value → xw_A → Prop} {px : String → xw_A → Prop} {A : List Nat} {x d tx w st s1 s2 s3 s4 sv v1 v2 v3 v4 qo tk tl tz ph nd po k1 k2 k3 so sp ao o1 o2 o3 o4 : Nat} {ps ns : List Nat} {m draft_ asked_ prepared_ preparedSize_ texts_ sizes_ weights_ entries_ lies_ live_ row_ level_ oldTexts_ oldSizes_ oldLies_ oldLive_ oldRow_ firstToken_ starred_ tokenAt_ tokenSize_ groupKind_ groupPhrase_ groupSize_ groupMask_ groupFar_ out_ top_ masks_ begins_ lasts_ truth_ answers_ order_ scores_ o od : Nat} {h : xw_A} (hX : va_X b N xs G.2.2.1 G.2.2.1.heap) (hN : N ≤ 1536) (hi : i + 3 ≤ N) (hT : T < 512) (Z : LwS A x d tx w st s1 s2 s3 s4 sv v1 v2 v3 v4 qo tk tl tz ph nd po k1 k2 k3 so sp ao o1 o2 o3 o4 ps ns m draft_ asked_ prepared_ preparedSize_ texts_ sizes_ weights_ entries_ lies_ live_ row_ level_ oldTexts_ oldSizes_ oldLies_ oldLive_ oldRow_ firstToken_ starred_ tokenAt_ tokenSize_ groupKind_ groupPhrase_ groupSize_ groupMask_ groupFar_ out_ top_ masks_ begins_ lasts_ truth_ answers_ order_ scores_ o od) (K : LwI A x d tx w st s1 s2 s3 s4 sv v1 v2 v3 v4 qo tk tl tz ph nd po k1 k2 k3 so sp ao o1 o2 o3 o4 ps ns m draft_ asked_ prepared_ preparedSize_ texts_ sizes_ weights_ entries_ lies_ live_ row_ level_ oldTexts_ oldSizes_ oldLies_ oldLive_ oldRow_ firstToken_ starred_ tokenAt_ tokenSize_ groupKind_ groupPhrase_ groupSize_ groupMask_ groupFar_ out_ top_ masks_ begins_ lasts_ truth_ answers_ order_ scores_ o od T dl dl h) (hF : 8 ≤ F) (hL : 190 ≤ L) (hbc : 13 ≤ bc) (hbs : 167 ≤ bs)
    (kk : ∀ (bc' bs' dl' : Nat) (h' : xw_A), bc ≤ bc' + 13 → bs ≤ bs' + 167 → LwI A x d tx w st s1 s2 s3 s4 sv v1 v2 v3 v4 qo tk tl tz ph nd po k1 k2 k3 so sp ao o1 o2 o3 o4 ps ns m draft_ asked_ prepared_ preparedSize_ texts_ sizes_ weights_ entries_ lies_ live_ row_ level_ oldTexts_ oldSizes_ oldLies_ oldLive_ oldRow_ firstToken_ starred_ tokenAt_ tokenSize_ groupKind_ groupPhrase_ groupSize_ groupMask_ groupFar_ out_ top_ masks_ begins_ lasts_ truth_ answers_ order_ scores_ o od (T + 1) dl' dl' h' → xw G m_Law_law F L bc' bs' pr px 739 [some (.ref b), some (.ref x), some (.ref m), some (.ref o), some (.ref od), some (.int (nI i)), none, none, none] [] h') :
    xw G m_Law_law F L bc bs pr px 354 [some (.ref b), some (.ref x), some (.ref m), some (.ref o), some (.ref od), some (.int (nI i)), none, none, none] [] h := by
  obtain ⟨S, NM, hMA, hoA, hodA, hD, no, noM, nod, nodM, noo⟩ := id Z
  obtain ⟨-, -, -, ⟨fo, eo⟩, fd, ed⟩ := id K
  have hdl9 : dl ≤ 96 := by obtain ⟨⟨_, _, _, _, _, _, q⟩, -⟩ := id K.1; exact q
  refine s_Law_law_354 ?_
  refine x_callSH (As := [.ref x, .ref o]) (rest := []) (F1 := 7) (L1 := 168) (mc := 13) (ms := 167) d_Law_law_356 cH_Law_109 (hk_commit S K.1 eo no hoA (by omega) (by omega)) ⟨by omega, by show 8 + (3 + 11) + 168 ≤ _; omega⟩ ⟨by omega, by omega⟩ (Nat.le_of_ble_eq_true rfl) (fun v_5 h_4 p_6 => ?_)
  obtain ⟨⟨k_2, rfl⟩, hp_3⟩ := p_6
  have K_1 := LwI.cls Z K hp_3
  obtain ⟨fs_7, l_8, e_9, -⟩ := id K_1.2.1
  refine s_Law_law_359 ?_
  refine x_callV (As := []) (b := m) (rest := []) (F1 := 4) (L1 := 92) (mc := 0) (ms := 0) d_Law_law_362 cV_Law_111 (r_commit K_1.2.1 NM hT (by omega) (by omega)) e_9 ⟨by decide, rfl⟩ ⟨by omega, by show 8 + (1 + 11) + 92 ≤ _; omega⟩ ⟨by omega, by omega⟩ (Nat.le_of_ble_eq_true rfl) (fun v_14 h_13 p_15 => ?_)
  obtain ⟨⟨y8, rfl⟩, R_11, fr_12, -, ff⟩ := p_15
  have D := K_1.2.2.1.ff ff (by decide)
  have K_10 := LwI.mod Z K_1 R_11 fr_12 D
  refine x_le (xw_le_s (xw_le_s (xw_le_s (xw_le_s (xw_le_s (xw_le_s (xw_le_n (xw_le_n (xw_le_n xw_le_e))))))))) ?_
  refine s_Law_law_365 ?_
  exact kk _ _ _ _ (by omega) (by omega) K_10
set_option maxHeartbeats 4000000 in
theorem lk_rollback {G : xw_G} {F L bc bs b N i T dl : Nat} {xs : Nat → Int32} {pr : Option Value → xw_A → Prop} {px : String → xw_A → Prop} {A : List Nat} {x d tx w st s1 s2 s3 s4 sv v1 v2 v3 v4 qo tk tl tz ph nd po k1 k2 k3 so sp ao o1 o2 o3 o4 : Nat} {ps ns : List Nat} {m draft_ asked_ prepared_ preparedSize_ texts_ sizes_ weights_ entries_ lies_ live_ row_ level_ oldTexts_ oldSizes_ oldLies_ oldLive_ oldRow_ firstToken_ starred_ tokenAt_ tokenSize_ groupKind_ groupPhrase_ groupSize_ groupMask_ groupFar_ out_ top_ masks_ begins_ lasts_ truth_ answers_ order_ scores_ o od : Nat} {h : xw_A} (hX : va_X b N xs G.2.2.1 G.2.2.1.heap) (hN : N ≤ 1536) (hi : i + 3 ≤ N) (hT : T < 512) (Z : LwS A x d tx w st s1 s2 s3 s4 sv v1 v2 v3 v4 qo tk tl tz ph nd po k1 k2 k3 so sp ao o1 o2 o3 o4 ps ns m draft_ asked_ prepared_ preparedSize_ texts_ sizes_ weights_ entries_ lies_ live_ row_ level_ oldTexts_ oldSizes_ oldLies_ oldLive_ oldRow_ firstToken_ starred_ tokenAt_ tokenSize_ groupKind_ groupPhrase_ groupSize_ groupMask_ groupFar_ out_ top_ masks_ begins_ lasts_ truth_ answers_ order_ scores_ o od) (K : LwI A x d tx w st s1 s2 s3 s4 sv v1 v2 v3 v4 qo tk tl tz ph nd po k1 k2 k3 so sp ao o1 o2 o3 o4 ps ns m draft_ asked_ prepared_ preparedSize_ texts_ sizes_ weights_ entries_ lies_ live_ row_ level_ oldTexts_ oldSizes_ oldLies_ oldLive_ oldRow_ firstToken_ starred_ tokenAt_ tokenSize_ groupKind_ groupPhrase_ groupSize_ groupMask_ groupFar_ out_ top_ masks_ begins_ lasts_ truth_ answers_ order_ scores_ o od T dl dl h) (hF : 8 ≤ F) (hL : 132 ≤ L) (hbc : 13 ≤ bc) (hbs : 167 ≤ bs)
    (kk : ∀ (bc' bs' dl' : Nat) (h' : xw_A), bc ≤ bc' + 13 → bs ≤ bs' + 167 → LwI A x d tx w st s1 s2 s3 s4 sv v1 v2 v3 v4 qo tk tl tz ph nd po k1 k2 k3 so sp ao o1 o2 o3 o4 ps ns m draft_ asked_ prepared_ preparedSize_ texts_ sizes_ weights_ entries_ lies_ live_ row_ level_ oldTexts_ oldSizes_ oldLies_ oldLive_ oldRow_ firstToken_ starred_ tokenAt_ tokenSize_ groupKind_ groupPhrase_ groupSize_ groupMask_ groupFar_ out_ top_ masks_ begins_ lasts_ truth_ answers_ order_ scores_ o od (T + 1) dl' dl' h' → xw G m_Law_law F L bc' bs' pr px 739 [some (.ref b), some (.ref x), some (.ref m), some (.ref o), some (.ref od), some (.int (nI i)), none, none, none] [] h') :
    xw G m_Law_law F L bc bs pr px 370 [some (.ref b), some (.ref x), some (.ref m), some (.ref o), some (.ref od), some (.int (nI i)), none, none, none] [] h := by
  obtain ⟨S, NM, hMA, hoA, hodA, hD, no, noM, nod, nodM, noo⟩ := id Z
  obtain ⟨-, -, -, ⟨fo, eo⟩, fd, ed⟩ := id K
  have hdl9 : dl ≤ 96 := by obtain ⟨⟨_, _, _, _, _, _, q⟩, -⟩ := id K.1; exact q
  refine s_Law_law_370 ?_
  refine x_callSH (As := [.ref x, .ref o]) (rest := []) (F1 := 7) (L1 := 110) (mc := 13) (ms := 167) d_Law_law_372 cH_Law_112 (hk_rollback S K.1 eo no hoA (by omega) (by omega)) ⟨by omega, by show 8 + (3 + 11) + 110 ≤ _; omega⟩ ⟨by omega, by omega⟩ (Nat.le_of_ble_eq_true rfl) (fun v_5 h_4 p_6 => ?_)
  obtain ⟨⟨k_2, rfl⟩, hp_3⟩ := p_6
  have K_1 := LwI.cls Z K hp_3
  obtain ⟨fs_7, l_8, e_9, -⟩ := id K_1.2.1
  refine s_Law_law_375 ?_
  refine x_callV (As := []) (b := m) (rest := []) (F1 := 2) (L1 := 42) (mc := 0) (ms := 0) d_Law_law_378 cV_Law_114 (r_rollback K_1.2.1 NM hT (by omega) (by omega)) e_9 ⟨by decide, rfl⟩ ⟨by omega, by show 8 + (2 + 11) + 42 ≤ _; omega⟩ ⟨by omega, by omega⟩ (Nat.le_of_ble_eq_true rfl) (fun v_14 h_13 p_15 => ?_)
  obtain ⟨⟨y8, rfl⟩, R_11, fr_12, -, ff⟩ := p_15
  have D := K_1.2.2.1.ff ff (by decide)
  have K_10 := LwI.mod Z K_1 R_11 fr_12 D
  refine x_le (xw_le_s (xw_le_s (xw_le_s (xw_le_s (xw_le_s (xw_le_s (xw_le_n (xw_le_n (xw_le_n xw_le_e))))))))) ?_
  refine s_Law_law_381 ?_
  exact kk _ _ _ _ (by omega) (by omega) K_10
set_option maxHeartbeats 4000000 in
theorem lk_flush {G : xw_G} {F L bc bs b N i T dl : Nat} {xs : Nat → Int32} {pr : Option Value → xw_A → Prop} {px : String → xw_A → Prop} {A : List Nat} {x d tx w st s1 s2 s3 s4 sv v1 v2 v3 v4 qo tk tl tz ph nd po k1 k2 k3 so sp ao o1 o2 o3 o4 : Nat} {ps ns : List Nat} {m draft_ asked_ prepared_ preparedSize_ texts_ sizes_ weights_ entries_ lies_ live_ row_ level_ oldTexts_ oldSizes_ oldLies_ oldLive_ oldRow_ firstToken_ starred_ tokenAt_ tokenSize_ groupKind_ groupPhrase_ groupSize_ groupMask_ groupFar_ out_ top_ masks_ begins_ lasts_ truth_ answers_ order_ scores_ o od : Nat} {h : xw_A} (hX : va_X b N xs G.2.2.1 G.2.2.1.heap) (hN : N ≤ 1536) (hi : i + 3 ≤ N) (hT : T < 512) (Z : LwS A x d tx w st s1 s2 s3 s4 sv v1 v2 v3 v4 qo tk tl tz ph nd po k1 k2 k3 so sp ao o1 o2 o3 o4 ps ns m draft_ asked_ prepared_ preparedSize_ texts_ sizes_ weights_ entries_ lies_ live_ row_ level_ oldTexts_ oldSizes_ oldLies_ oldLive_ oldRow_ firstToken_ starred_ tokenAt_ tokenSize_ groupKind_ groupPhrase_ groupSize_ groupMask_ groupFar_ out_ top_ masks_ begins_ lasts_ truth_ answers_ order_ scores_ o od) (K : LwI A x d tx w st s1 s2 s3 s4 sv v1 v2 v3 v4 qo tk tl tz ph nd po k1 k2 k3 so sp ao o1 o2 o3 o4 ps ns m draft_ asked_ prepared_ preparedSize_ texts_ sizes_ weights_ entries_ lies_ live_ row_ level_ oldTexts_ oldSizes_ oldLies_ oldLive_ oldRow_ firstToken_ starred_ tokenAt_ tokenSize_ groupKind_ groupPhrase_ groupSize_ groupMask_ groupFar_ out_ top_ masks_ begins_ lasts_ truth_ answers_ order_ scores_ o od T dl dl h) (hF : 6 ≤ F) (hL : 168 ≤ L) (hbc : 13 ≤ bc) (hbs : 167 ≤ bs)
    (kk : ∀ (bc' bs' dl' : Nat) (h' : xw_A), bc ≤ bc' + 13 → bs ≤ bs' + 167 → LwI A x d tx w st s1 s2 s3 s4 sv v1 v2 v3 v4 qo tk tl tz ph nd po k1 k2 k3 so sp ao o1 o2 o3 o4 ps ns m draft_ asked_ prepared_ preparedSize_ texts_ sizes_ weights_ entries_ lies_ live_ row_ level_ oldTexts_ oldSizes_ oldLies_ oldLive_ oldRow_ firstToken_ starred_ tokenAt_ tokenSize_ groupKind_ groupPhrase_ groupSize_ groupMask_ groupFar_ out_ top_ masks_ begins_ lasts_ truth_ answers_ order_ scores_ o od (T + 1) dl' dl' h' → xw G m_Law_law F L bc' bs' pr px 739 [some (.ref b), some (.ref x), some (.ref m), some (.ref o), some (.ref od), some (.int (nI i)), none, none, none] [] h') :
    xw G m_Law_law F L bc bs pr px 386 [some (.ref b), some (.ref x), some (.ref m), some (.ref o), some (.ref od), some (.int (nI i)), none, none, none] [] h := by
  obtain ⟨S, NM, hMA, hoA, hodA, hD, no, noM, nod, nodM, noo⟩ := id Z
  obtain ⟨-, -, -, ⟨fo, eo⟩, fd, ed⟩ := id K
  have hdl9 : dl ≤ 96 := by obtain ⟨⟨_, _, _, _, _, _, q⟩, -⟩ := id K.1; exact q
  refine s_Law_law_386 ?_
  obtain ⟨K1, K2, K3, K4, K5, K6, K7, K8, K9⟩ := id K.1
  obtain ⟨mo, li, op, wp, gp, e_x, hdl⟩ := id K1
  obtain ⟨fr_, fp_, fs_, fl_, pc, sc, lc, pe, vm, sm, KS⟩ := id K5
  have SA : StA A st s1 s2 s3 s4 := ⟨S.mem 4 rfl, S.mem 5 rfl, S.mem 6 rfl, S.mem 7 rfl, S.mem 8 rfl⟩
  refine x_callV (As := []) (b := x) (rest := []) (F1 := 5) (L1 := 148) (mc := 12) (ms := 162) d_Law_law_387 cV_Law_115 (g_flushS e_x KS SA (by omega) (by omega)) e_x ⟨by decide, rfl⟩ ⟨by omega, by show 8 + (1 + 11) + 148 ≤ _; omega⟩ ⟨by omega, by omega⟩ (Nat.le_of_ble_eq_true rfl) (fun v_2 h_1 p_3 => ?_)
  obtain ⟨⟨y9, rfl⟩, ex1, KE, fr⟩ := p_3
  have fr9 : FrO (pick (CLs x d tx w st s1 s2 s3 s4 sv v1 v2 v3 v4 qo tk tl tz ph nd po k1 k2 k3 so sp ao o1 o2 o3 o4 ps ns) [4, 7, 8]) h h_1 := fr
  have K' : CI A x d tx w st s1 s2 s3 s4 sv v1 v2 v3 v4 qo tk tl tz ph nd po k1 k2 k3 so sp ao o1 o2 o3 o4 ps ns dl h_1 := K.1.up S [4, 7, 8] (by decide) fr9 (fun q hq => KE.aok q (S.pkA q hq)) (Or.inr ⟨rfl, by decide⟩) (Or.inr (by decide)) (Or.inr (by decide)) (Or.inr (by decide)) (Or.inl KE) (Or.inr (by decide)) (Or.inr (by decide)) (Or.inr (by decide)) (Or.inr (by decide))
  have KL := LwI.clsZ Z K ⟨K', fr9.mono CS.inC⟩
  obtain ⟨fs_4, l_5, e_6, -⟩ := id KL.2.1
  refine s_Law_law_390 ?_
  refine x_callV (As := []) (b := m) (rest := []) (F1 := 4) (L1 := 92) (mc := 0) (ms := 0) d_Law_law_392 cV_Law_118 (r_flush KL.2.1 NM hT (by omega) (by omega)) e_6 ⟨by decide, rfl⟩ ⟨by omega, by show 8 + (1 + 11) + 92 ≤ _; omega⟩ ⟨by omega, by omega⟩ (Nat.le_of_ble_eq_true rfl) (fun v_11 h_10 p_12 => ?_)
  obtain ⟨⟨y8, rfl⟩, R_8, fr_9, -, ff⟩ := p_12
  have D := KL.2.2.1.ff ff (by decide)
  have K_7 := LwI.mod Z KL R_8 fr_9 D
  refine s_Law_law_395 ?_
  exact kk _ _ _ _ (by omega) (by omega) K_7
set_option maxHeartbeats 4000000 in
theorem lk_optimize {G : xw_G} {F L bc bs b N i T dl : Nat} {xs : Nat → Int32} {pr : Option Value → xw_A → Prop} {px : String → xw_A → Prop} {A : List Nat} {x d tx w st s1 s2 s3 s4 sv v1 v2 v3 v4 qo tk tl tz ph nd po k1 k2 k3 so sp ao o1 o2 o3 o4 : Nat} {ps ns : List Nat} {m draft_ asked_ prepared_ preparedSize_ texts_ sizes_ weights_ entries_ lies_ live_ row_ level_ oldTexts_ oldSizes_ oldLies_ oldLive_ oldRow_ firstToken_ starred_ tokenAt_ tokenSize_ groupKind_ groupPhrase_ groupSize_ groupMask_ groupFar_ out_ top_ masks_ begins_ lasts_ truth_ answers_ order_ scores_ o od : Nat} {h : xw_A} (hX : va_X b N xs G.2.2.1 G.2.2.1.heap) (hN : N ≤ 1536) (hi : i + 3 ≤ N) (hT : T < 512) (Z : LwS A x d tx w st s1 s2 s3 s4 sv v1 v2 v3 v4 qo tk tl tz ph nd po k1 k2 k3 so sp ao o1 o2 o3 o4 ps ns m draft_ asked_ prepared_ preparedSize_ texts_ sizes_ weights_ entries_ lies_ live_ row_ level_ oldTexts_ oldSizes_ oldLies_ oldLive_ oldRow_ firstToken_ starred_ tokenAt_ tokenSize_ groupKind_ groupPhrase_ groupSize_ groupMask_ groupFar_ out_ top_ masks_ begins_ lasts_ truth_ answers_ order_ scores_ o od) (K : LwI A x d tx w st s1 s2 s3 s4 sv v1 v2 v3 v4 qo tk tl tz ph nd po k1 k2 k3 so sp ao o1 o2 o3 o4 ps ns m draft_ asked_ prepared_ preparedSize_ texts_ sizes_ weights_ entries_ lies_ live_ row_ level_ oldTexts_ oldSizes_ oldLies_ oldLive_ oldRow_ firstToken_ starred_ tokenAt_ tokenSize_ groupKind_ groupPhrase_ groupSize_ groupMask_ groupFar_ out_ top_ masks_ begins_ lasts_ truth_ answers_ order_ scores_ o od T dl dl h) (hF : 6 ≤ F) (hL : 169 ≤ L) (hbc : 13 ≤ bc) (hbs : 167 ≤ bs)
    (kk : ∀ (bc' bs' dl' : Nat) (h' : xw_A), bc ≤ bc' + 13 → bs ≤ bs' + 167 → LwI A x d tx w st s1 s2 s3 s4 sv v1 v2 v3 v4 qo tk tl tz ph nd po k1 k2 k3 so sp ao o1 o2 o3 o4 ps ns m draft_ asked_ prepared_ preparedSize_ texts_ sizes_ weights_ entries_ lies_ live_ row_ level_ oldTexts_ oldSizes_ oldLies_ oldLive_ oldRow_ firstToken_ starred_ tokenAt_ tokenSize_ groupKind_ groupPhrase_ groupSize_ groupMask_ groupFar_ out_ top_ masks_ begins_ lasts_ truth_ answers_ order_ scores_ o od (T + 1) dl' dl' h' → xw G m_Law_law F L bc' bs' pr px 739 [some (.ref b), some (.ref x), some (.ref m), some (.ref o), some (.ref od), some (.int (nI i)), none, none, none] [] h') :
    xw G m_Law_law F L bc bs pr px 399 [some (.ref b), some (.ref x), some (.ref m), some (.ref o), some (.ref od), some (.int (nI i)), none, none, none] [] h := by
  obtain ⟨S, NM, hMA, hoA, hodA, hD, no, noM, nod, nodM, noo⟩ := id Z
  obtain ⟨-, -, -, ⟨fo, eo⟩, fd, ed⟩ := id K
  have hdl9 : dl ≤ 96 := by obtain ⟨⟨_, _, _, _, _, _, q⟩, -⟩ := id K.1; exact q
  refine s_Law_law_399 ?_
  obtain ⟨K1, K2, K3, K4, K5, K6, K7, K8, K9⟩ := id K.1
  obtain ⟨mo, li, op, wp, gp, e_x, hdl⟩ := id K1
  obtain ⟨fr_, fp_, fs_, fl_, pc, sc, lc, pe, vm, sm, KS⟩ := id K5
  have SA : StA A st s1 s2 s3 s4 := ⟨S.mem 4 rfl, S.mem 5 rfl, S.mem 6 rfl, S.mem 7 rfl, S.mem 8 rfl⟩
  refine x_callV (As := []) (b := x) (rest := []) (F1 := 5) (L1 := 149) (mc := 2) (ms := 27) d_Law_law_400 cV_Law_119 (g_optimize e_x KS SA (by omega) (by omega)) e_x ⟨by decide, rfl⟩ ⟨by omega, by show 8 + (1 + 11) + 149 ≤ _; omega⟩ ⟨by omega, by omega⟩ (Nat.le_of_ble_eq_true rfl) (fun v_2 h_1 p_3 => ?_)
  obtain ⟨⟨y9, rfl⟩, ex1, KE, fr⟩ := p_3
  have fr9 : FrO (pick (CLs x d tx w st s1 s2 s3 s4 sv v1 v2 v3 v4 qo tk tl tz ph nd po k1 k2 k3 so sp ao o1 o2 o3 o4 ps ns) [4, 7, 8]) h h_1 := fr
  have K' : CI A x d tx w st s1 s2 s3 s4 sv v1 v2 v3 v4 qo tk tl tz ph nd po k1 k2 k3 so sp ao o1 o2 o3 o4 ps ns dl h_1 := K.1.up S [4, 7, 8] (by decide) fr9 (fun q hq => KE.aok q (S.pkA q hq)) (Or.inr ⟨rfl, by decide⟩) (Or.inr (by decide)) (Or.inr (by decide)) (Or.inr (by decide)) (Or.inl KE) (Or.inr (by decide)) (Or.inr (by decide)) (Or.inr (by decide)) (Or.inr (by decide))
  have KL := LwI.clsZ Z K ⟨K', fr9.mono CS.inC⟩
  obtain ⟨fs_4, l_5, e_6, -⟩ := id KL.2.1
  refine s_Law_law_403 ?_
  refine x_callV (As := []) (b := m) (rest := []) (F1 := 3) (L1 := 69) (mc := 0) (ms := 0) d_Law_law_405 cV_Law_122 (r_optimize KL.2.1 NM hT (by omega) (by omega)) e_6 ⟨by decide, rfl⟩ ⟨by omega, by show 8 + (4 + 11) + 69 ≤ _; omega⟩ ⟨by omega, by omega⟩ (Nat.le_of_ble_eq_true rfl) (fun v_11 h_10 p_12 => ?_)
  obtain ⟨⟨y8, rfl⟩, R_8, fr_9, -, ff⟩ := p_12
  have D := KL.2.2.1.ff ff (by decide)
  have K_7 := LwI.mod Z KL R_8 fr_9 D
  refine s_Law_law_408 ?_
  exact kk _ _ _ _ (by omega) (by omega) K_7
set_option maxHeartbeats 4000000 in
theorem lk_ways {G : xw_G} {F L bc bs b N i T dl : Nat} {xs : Nat → Int32} {pr : Option Value → xw_A → Prop} {px : String → xw_A → Prop} {A : List Nat} {x d tx w st s1 s2 s3 s4 sv v1 v2 v3 v4 qo tk tl tz ph nd po k1 k2 k3 so sp ao o1 o2 o3 o4 : Nat} {ps ns : List Nat} {m draft_ asked_ prepared_ preparedSize_ texts_ sizes_ weights_ entries_ lies_ live_ row_ level_ oldTexts_ oldSizes_ oldLies_ oldLive_ oldRow_ firstToken_ starred_ tokenAt_ tokenSize_ groupKind_ groupPhrase_ groupSize_ groupMask_ groupFar_ out_ top_ masks_ begins_ lasts_ truth_ answers_ order_ scores_ o od : Nat} {h : xw_A} (hX : va_X b N xs G.2.2.1 G.2.2.1.heap) (hN : N ≤ 1536) (hi : i + 3 ≤ N) (hT : T < 512) (Z : LwS A x d tx w st s1 s2 s3 s4 sv v1 v2 v3 v4 qo tk tl tz ph nd po k1 k2 k3 so sp ao o1 o2 o3 o4 ps ns m draft_ asked_ prepared_ preparedSize_ texts_ sizes_ weights_ entries_ lies_ live_ row_ level_ oldTexts_ oldSizes_ oldLies_ oldLive_ oldRow_ firstToken_ starred_ tokenAt_ tokenSize_ groupKind_ groupPhrase_ groupSize_ groupMask_ groupFar_ out_ top_ masks_ begins_ lasts_ truth_ answers_ order_ scores_ o od) (K : LwI A x d tx w st s1 s2 s3 s4 sv v1 v2 v3 v4 qo tk tl tz ph nd po k1 k2 k3 so sp ao o1 o2 o3 o4 ps ns m draft_ asked_ prepared_ preparedSize_ texts_ sizes_ weights_ entries_ lies_ live_ row_ level_ oldTexts_ oldSizes_ oldLies_ oldLive_ oldRow_ firstToken_ starred_ tokenAt_ tokenSize_ groupKind_ groupPhrase_ groupSize_ groupMask_ groupFar_ out_ top_ masks_ begins_ lasts_ truth_ answers_ order_ scores_ o od T dl dl h) (hF : 8 ≤ F) (hL : 135 ≤ L) (hbc : 13 ≤ bc) (hbs : 167 ≤ bs)
    (kk : ∀ (bc' bs' dl' : Nat) (h' : xw_A), bc ≤ bc' + 13 → bs ≤ bs' + 167 → LwI A x d tx w st s1 s2 s3 s4 sv v1 v2 v3 v4 qo tk tl tz ph nd po k1 k2 k3 so sp ao o1 o2 o3 o4 ps ns m draft_ asked_ prepared_ preparedSize_ texts_ sizes_ weights_ entries_ lies_ live_ row_ level_ oldTexts_ oldSizes_ oldLies_ oldLive_ oldRow_ firstToken_ starred_ tokenAt_ tokenSize_ groupKind_ groupPhrase_ groupSize_ groupMask_ groupFar_ out_ top_ masks_ begins_ lasts_ truth_ answers_ order_ scores_ o od (T + 1) dl' dl' h' → xw G m_Law_law F L bc' bs' pr px 739 [some (.ref b), some (.ref x), some (.ref m), some (.ref o), some (.ref od), some (.int (nI i)), none, none, none] [] h') :
    xw G m_Law_law F L bc bs pr px 412 [some (.ref b), some (.ref x), some (.ref m), some (.ref o), some (.ref od), some (.int (nI i)), none, none, none] [] h := by
  obtain ⟨S, NM, hMA, hoA, hodA, hD, no, noM, nod, nodM, noo⟩ := id Z
  obtain ⟨-, -, -, ⟨fo, eo⟩, fd, ed⟩ := id K
  have hdl9 : dl ≤ 96 := by obtain ⟨⟨_, _, _, _, _, _, q⟩, -⟩ := id K.1; exact q
  refine s_Law_law_412 hX (by first | exact vp_in_nI (by omega) (by omega) | (rw [nI_1]; exact vp_in_nI (by omega) (by omega)) | (rw [nI_2]; exact vp_in_nI (by omega) (by omega))) (by first | exact vp_in_nI (by omega) (by omega) | (rw [nI_1]; exact vp_in_nI (by omega) (by omega)) | (rw [nI_2]; exact vp_in_nI (by omega) (by omega))) ?_
  refine x_callSH (As := [.ref x, .int (xs ((nI i) + 1).toNatClampNeg), .int (xs ((nI i) + 2).toNatClampNeg)]) (rest := []) (F1 := 7) (L1 := 112) (mc := 13) (ms := 167) d_Law_law_425 cH_Law_123 (hk_ways S K.1 (by omega) (by omega)) ⟨by omega, by show 8 + (4 + 11) + 112 ≤ _; omega⟩ ⟨by omega, by omega⟩ (Nat.le_of_ble_eq_true rfl) (fun v9 h9 p9 => ?_)
  obtain ⟨hv9, hp9⟩ := p9
  have K9 := LwI.clsZ Z K hp9
  obtain ⟨fs9, l9, e9, -⟩ := id K9.2.1
  rcases hv9 with ⟨rfl, b1, b2, b3, b4⟩ | ⟨rfl, b5⟩
  · skip
    refine s_Law_law_428 hX (by first | exact vp_in_nI (by omega) (by omega) | (rw [nI_1]; exact vp_in_nI (by omega) (by omega)) | (rw [nI_2]; exact vp_in_nI (by omega) (by omega))) (by first | exact vp_in_nI (by omega) (by omega) | (rw [nI_1]; exact vp_in_nI (by omega) (by omega)) | (rw [nI_2]; exact vp_in_nI (by omega) (by omega))) ?_
    refine x_callV (As := [.int (xs ((nI i) + 1).toNatClampNeg), .int (xs ((nI i) + 2).toNatClampNeg)]) (b := m) (rest := []) (F1 := 2) (L1 := 42) (mc := 0) (ms := 0) d_Law_law_443 cV_Law_126 (r_ways K9.2.1 NM hT (by omega) (by omega)) e9 ⟨by decide, rfl⟩ ⟨by omega, by show 8 + (3 + 11) + 42 ≤ _; omega⟩ ⟨by omega, by omega⟩ (Nat.le_of_ble_eq_true rfl) (fun v_8 h_7 p_9 => ?_)
    obtain ⟨rfl, R_5, fr_6, -, ff, fs8, e8, l8, hm8⟩ := p_9
    have D := K9.2.2.1.ff ff (by decide)
    have K_4 := LwI.mod Z K9 R_5 fr_6 D
    have g8 : fs8[0]? = some (.int 0) := hm8.elim (fun q => q.1) (fun q => (q.2.elim b1 (fun q => q.elim b2 (fun q => q.elim b3 b4))).elim)
    refine x_le (xw_le_s (xw_le_s (xw_le_s (xw_le_s (xw_le_s (xw_le_s (xw_le_n (xw_le_n (xw_le_n xw_le_e))))))))) ?_
    refine s_Law_law_446 ?_
    exact kk _ _ _ _ (by omega) (by omega) K_4
  · skip
    refine s_Law_law_428 hX (by first | exact vp_in_nI (by omega) (by omega) | (rw [nI_1]; exact vp_in_nI (by omega) (by omega)) | (rw [nI_2]; exact vp_in_nI (by omega) (by omega))) (by first | exact vp_in_nI (by omega) (by omega) | (rw [nI_1]; exact vp_in_nI (by omega) (by omega)) | (rw [nI_2]; exact vp_in_nI (by omega) (by omega))) ?_
    refine x_callV (As := [.int (xs ((nI i) + 1).toNatClampNeg), .int (xs ((nI i) + 2).toNatClampNeg)]) (b := m) (rest := []) (F1 := 2) (L1 := 42) (mc := 0) (ms := 0) d_Law_law_443 cV_Law_126 (r_ways K9.2.1 NM hT (by omega) (by omega)) e9 ⟨by decide, rfl⟩ ⟨by omega, by show 8 + (3 + 11) + 42 ≤ _; omega⟩ ⟨by omega, by omega⟩ (Nat.le_of_ble_eq_true rfl) (fun v_14 h_13 p_15 => ?_)
    obtain ⟨rfl, R_11, fr_12, -, ff, fs8, e8, l8, hm8⟩ := p_15
    have D := K9.2.2.1.ff ff (by decide)
    have K_10 := LwI.mod Z K9 R_11 fr_12 D
    have g8 : fs8[0]? = some (.int 1) := hm8.elim (fun q => (b5.elim q.2.1 (fun z => z.elim q.2.2.1 (fun z => z.elim q.2.2.2.1 q.2.2.2.2))).elim) (fun q => q.1)
    refine x_le (xw_le_s (xw_le_s (xw_le_s (xw_le_s (xw_le_s (xw_le_s (xw_le_n (xw_le_n (xw_le_n xw_le_e))))))))) ?_
    refine s_Law_law_446 ?_
    exact kk _ _ _ _ (by omega) (by omega) K_10
set_option maxHeartbeats 4000000 in
theorem lk_weight {G : xw_G} {F L bc bs b N i T dl : Nat} {xs : Nat → Int32} {pr : Option Value → xw_A → Prop} {px : String → xw_A → Prop} {A : List Nat} {x d tx w st s1 s2 s3 s4 sv v1 v2 v3 v4 qo tk tl tz ph nd po k1 k2 k3 so sp ao o1 o2 o3 o4 : Nat} {ps ns : List Nat} {m draft_ asked_ prepared_ preparedSize_ texts_ sizes_ weights_ entries_ lies_ live_ row_ level_ oldTexts_ oldSizes_ oldLies_ oldLive_ oldRow_ firstToken_ starred_ tokenAt_ tokenSize_ groupKind_ groupPhrase_ groupSize_ groupMask_ groupFar_ out_ top_ masks_ begins_ lasts_ truth_ answers_ order_ scores_ o od : Nat} {h : xw_A} (hX : va_X b N xs G.2.2.1 G.2.2.1.heap) (hN : N ≤ 1536) (hi : i + 3 ≤ N) (hT : T < 512) (Z : LwS A x d tx w st s1 s2 s3 s4 sv v1 v2 v3 v4 qo tk tl tz ph nd po k1 k2 k3 so sp ao o1 o2 o3 o4 ps ns m draft_ asked_ prepared_ preparedSize_ texts_ sizes_ weights_ entries_ lies_ live_ row_ level_ oldTexts_ oldSizes_ oldLies_ oldLive_ oldRow_ firstToken_ starred_ tokenAt_ tokenSize_ groupKind_ groupPhrase_ groupSize_ groupMask_ groupFar_ out_ top_ masks_ begins_ lasts_ truth_ answers_ order_ scores_ o od) (K : LwI A x d tx w st s1 s2 s3 s4 sv v1 v2 v3 v4 qo tk tl tz ph nd po k1 k2 k3 so sp ao o1 o2 o3 o4 ps ns m draft_ asked_ prepared_ preparedSize_ texts_ sizes_ weights_ entries_ lies_ live_ row_ level_ oldTexts_ oldSizes_ oldLies_ oldLive_ oldRow_ firstToken_ starred_ tokenAt_ tokenSize_ groupKind_ groupPhrase_ groupSize_ groupMask_ groupFar_ out_ top_ masks_ begins_ lasts_ truth_ answers_ order_ scores_ o od T dl dl h) (hF : 8 ≤ F) (hL : 137 ≤ L) (hbc : 13 ≤ bc) (hbs : 167 ≤ bs)
    (kk : ∀ (bc' bs' dl' : Nat) (h' : xw_A), bc ≤ bc' + 13 → bs ≤ bs' + 167 → LwI A x d tx w st s1 s2 s3 s4 sv v1 v2 v3 v4 qo tk tl tz ph nd po k1 k2 k3 so sp ao o1 o2 o3 o4 ps ns m draft_ asked_ prepared_ preparedSize_ texts_ sizes_ weights_ entries_ lies_ live_ row_ level_ oldTexts_ oldSizes_ oldLies_ oldLive_ oldRow_ firstToken_ starred_ tokenAt_ tokenSize_ groupKind_ groupPhrase_ groupSize_ groupMask_ groupFar_ out_ top_ masks_ begins_ lasts_ truth_ answers_ order_ scores_ o od (T + 1) dl' dl' h' → xw G m_Law_law F L bc' bs' pr px 739 [some (.ref b), some (.ref x), some (.ref m), some (.ref o), some (.ref od), some (.int (nI i)), none, none, none] [] h') :
    xw G m_Law_law F L bc bs pr px 449 [some (.ref b), some (.ref x), some (.ref m), some (.ref o), some (.ref od), some (.int (nI i)), none, none, none] [] h := by
  obtain ⟨S, NM, hMA, hoA, hodA, hD, no, noM, nod, nodM, noo⟩ := id Z
  obtain ⟨-, -, -, ⟨fo, eo⟩, fd, ed⟩ := id K
  have hdl9 : dl ≤ 96 := by obtain ⟨⟨_, _, _, _, _, _, q⟩, -⟩ := id K.1; exact q
  refine s_Law_law_449 hX (by first | exact vp_in_nI (by omega) (by omega) | (rw [nI_1]; exact vp_in_nI (by omega) (by omega)) | (rw [nI_2]; exact vp_in_nI (by omega) (by omega))) (by first | exact vp_in_nI (by omega) (by omega) | (rw [nI_1]; exact vp_in_nI (by omega) (by omega)) | (rw [nI_2]; exact vp_in_nI (by omega) (by omega))) ?_
  refine x_callSH (As := [.ref x, .int (xs ((nI i) + 1).toNatClampNeg), .int (xs ((nI i) + 2).toNatClampNeg), .ref o]) (rest := []) (F1 := 7) (L1 := 113) (mc := 13) (ms := 167) d_Law_law_463 cH_Law_127 (hk_weight S K.1 eo no hoA (by omega) (by omega)) ⟨by omega, by show 8 + (5 + 11) + 113 ≤ _; omega⟩ ⟨by omega, by omega⟩ (Nat.le_of_ble_eq_true rfl) (fun v_5 h_4 p_6 => ?_)
  obtain ⟨⟨k_2, rfl⟩, hp_3⟩ := p_6
  have K_1 := LwI.cls Z K hp_3
  obtain ⟨fs_7, l_8, e_9, -⟩ := id K_1.2.1
  refine s_Law_law_466 hX (by first | exact vp_in_nI (by omega) (by omega) | (rw [nI_1]; exact vp_in_nI (by omega) (by omega)) | (rw [nI_2]; exact vp_in_nI (by omega) (by omega))) (by first | exact vp_in_nI (by omega) (by omega) | (rw [nI_1]; exact vp_in_nI (by omega) (by omega)) | (rw [nI_2]; exact vp_in_nI (by omega) (by omega))) ?_
  refine x_callV (As := [.int (xs ((nI i) + 1).toNatClampNeg), .int (xs ((nI i) + 2).toNatClampNeg)]) (b := m) (rest := []) (F1 := 2) (L1 := 42) (mc := 0) (ms := 0) d_Law_law_481 cV_Law_130 (r_weight K_1.2.1 NM hT (by omega) (by omega)) e_9 ⟨by decide, rfl⟩ ⟨by omega, by show 8 + (4 + 11) + 42 ≤ _; omega⟩ ⟨by omega, by omega⟩ (Nat.le_of_ble_eq_true rfl) (fun v_14 h_13 p_15 => ?_)
  obtain ⟨⟨y8, rfl⟩, R_11, fr_12, -, ff⟩ := p_15
  have D := K_1.2.2.1.ff ff (by decide)
  have K_10 := LwI.mod Z K_1 R_11 fr_12 D
  refine x_le (xw_le_s (xw_le_s (xw_le_s (xw_le_s (xw_le_s (xw_le_s (xw_le_n (xw_le_n (xw_le_n xw_le_e))))))))) ?_
  refine s_Law_law_484 ?_
  exact kk _ _ _ _ (by omega) (by omega) K_10
set_option maxHeartbeats 4000000 in
theorem lk_ask {G : xw_G} {F L bc bs b N i T dl : Nat} {xs : Nat → Int32} {pr : Option Value → xw_A → Prop} {px : String → xw_A → Prop} {A : List Nat} {x d tx w st s1 s2 s3 s4 sv v1 v2 v3 v4 qo tk tl tz ph nd po k1 k2 k3 so sp ao o1 o2 o3 o4 : Nat} {ps ns : List Nat} {m draft_ asked_ prepared_ preparedSize_ texts_ sizes_ weights_ entries_ lies_ live_ row_ level_ oldTexts_ oldSizes_ oldLies_ oldLive_ oldRow_ firstToken_ starred_ tokenAt_ tokenSize_ groupKind_ groupPhrase_ groupSize_ groupMask_ groupFar_ out_ top_ masks_ begins_ lasts_ truth_ answers_ order_ scores_ o od : Nat} {h : xw_A} (hX : va_X b N xs G.2.2.1 G.2.2.1.heap) (hN : N ≤ 1536) (hi : i + 3 ≤ N) (hT : T < 512) (Z : LwS A x d tx w st s1 s2 s3 s4 sv v1 v2 v3 v4 qo tk tl tz ph nd po k1 k2 k3 so sp ao o1 o2 o3 o4 ps ns m draft_ asked_ prepared_ preparedSize_ texts_ sizes_ weights_ entries_ lies_ live_ row_ level_ oldTexts_ oldSizes_ oldLies_ oldLive_ oldRow_ firstToken_ starred_ tokenAt_ tokenSize_ groupKind_ groupPhrase_ groupSize_ groupMask_ groupFar_ out_ top_ masks_ begins_ lasts_ truth_ answers_ order_ scores_ o od) (K : LwI A x d tx w st s1 s2 s3 s4 sv v1 v2 v3 v4 qo tk tl tz ph nd po k1 k2 k3 so sp ao o1 o2 o3 o4 ps ns m draft_ asked_ prepared_ preparedSize_ texts_ sizes_ weights_ entries_ lies_ live_ row_ level_ oldTexts_ oldSizes_ oldLies_ oldLive_ oldRow_ firstToken_ starred_ tokenAt_ tokenSize_ groupKind_ groupPhrase_ groupSize_ groupMask_ groupFar_ out_ top_ masks_ begins_ lasts_ truth_ answers_ order_ scores_ o od T dl dl h) (hF : 98 ≤ F) (hL : 3747 ≤ L) (hbc : 13 ≤ bc) (hbs : 167 ≤ bs)
    (kk : ∀ (bc' bs' dl' : Nat) (h' : xw_A), bc ≤ bc' + 13 → bs ≤ bs' + 167 → LwI A x d tx w st s1 s2 s3 s4 sv v1 v2 v3 v4 qo tk tl tz ph nd po k1 k2 k3 so sp ao o1 o2 o3 o4 ps ns m draft_ asked_ prepared_ preparedSize_ texts_ sizes_ weights_ entries_ lies_ live_ row_ level_ oldTexts_ oldSizes_ oldLies_ oldLive_ oldRow_ firstToken_ starred_ tokenAt_ tokenSize_ groupKind_ groupPhrase_ groupSize_ groupMask_ groupFar_ out_ top_ masks_ begins_ lasts_ truth_ answers_ order_ scores_ o od (T + 1) dl' dl' h' → xw G m_Law_law F L bc' bs' pr px 739 [some (.ref b), some (.ref x), some (.ref m), some (.ref o), some (.ref od), some (.int (nI i)), none, none, none] [] h') :
    xw G m_Law_law F L bc bs pr px 489 [some (.ref b), some (.ref x), some (.ref m), some (.ref o), some (.ref od), some (.int (nI i)), none, none, none] [] h := by
  obtain ⟨S, NM, hMA, hoA, hodA, hD, no, noM, nod, nodM, noo⟩ := id Z
  obtain ⟨-, -, -, ⟨fo, eo⟩, fd, ed⟩ := id K
  have hdl9 : dl ≤ 96 := by obtain ⟨⟨_, _, _, _, _, _, q⟩, -⟩ := id K.1; exact q
  refine s_Law_law_489 ?_
  refine x_callSH (As := [.ref x, .ref o]) (rest := []) (F1 := 97) (L1 := 3725) (mc := 13) (ms := 167) d_Law_law_491 cH_Law_131 (hk_ask S K.1 eo no hoA (by omega) (by omega)) ⟨by omega, by show 8 + (3 + 11) + 3725 ≤ _; omega⟩ ⟨by omega, by omega⟩ (Nat.le_of_ble_eq_true rfl) (fun v_5 h_4 p_6 => ?_)
  obtain ⟨⟨k_2, rfl⟩, hp_3⟩ := p_6
  have K_1 := LwI.cls Z K hp_3
  obtain ⟨fs_7, l_8, e_9, -⟩ := id K_1.2.1
  refine s_Law_law_494 ?_
  refine x_callV (As := []) (b := m) (rest := []) (F1 := 10) (L1 := 210) (mc := 0) (ms := 0) d_Law_law_497 cV_Law_133 (r_ask K_1.2.1 NM hT (by omega) (by omega)) e_9 ⟨by decide, rfl⟩ ⟨by omega, by show 8 + (3 + 11) + 210 ≤ _; omega⟩ ⟨by omega, by omega⟩ (Nat.le_of_ble_eq_true rfl) (fun v_14 h_13 p_15 => ?_)
  obtain ⟨⟨y8, rfl⟩, R_11, fr_12, -, ff, D⟩ := p_15
  have K_10 := LwI.mod Z K_1 R_11 fr_12 D
  refine x_le (xw_le_s (xw_le_s (xw_le_s (xw_le_s (xw_le_s (xw_le_s (xw_le_n (xw_le_n (xw_le_n xw_le_e))))))))) ?_
  refine s_Law_law_500 ?_
  exact kk _ _ _ _ (by omega) (by omega) K_10
set_option maxHeartbeats 4000000 in
theorem lk_wrong {G : xw_G} {F L bc bs b N i T dl : Nat} {xs : Nat → Int32} {pr : Option Value → xw_A → Prop} {px : String → xw_A → Prop} {A : List Nat} {x d tx w st s1 s2 s3 s4 sv v1 v2 v3 v4 qo tk tl tz ph nd po k1 k2 k3 so sp ao o1 o2 o3 o4 : Nat} {ps ns : List Nat} {m draft_ asked_ prepared_ preparedSize_ texts_ sizes_ weights_ entries_ lies_ live_ row_ level_ oldTexts_ oldSizes_ oldLies_ oldLive_ oldRow_ firstToken_ starred_ tokenAt_ tokenSize_ groupKind_ groupPhrase_ groupSize_ groupMask_ groupFar_ out_ top_ masks_ begins_ lasts_ truth_ answers_ order_ scores_ o od : Nat} {h : xw_A} (hX : va_X b N xs G.2.2.1 G.2.2.1.heap) (hN : N ≤ 1536) (hi : i + 3 ≤ N) (hT : T < 512) (Z : LwS A x d tx w st s1 s2 s3 s4 sv v1 v2 v3 v4 qo tk tl tz ph nd po k1 k2 k3 so sp ao o1 o2 o3 o4 ps ns m draft_ asked_ prepared_ preparedSize_ texts_ sizes_ weights_ entries_ lies_ live_ row_ level_ oldTexts_ oldSizes_ oldLies_ oldLive_ oldRow_ firstToken_ starred_ tokenAt_ tokenSize_ groupKind_ groupPhrase_ groupSize_ groupMask_ groupFar_ out_ top_ masks_ begins_ lasts_ truth_ answers_ order_ scores_ o od) (K : LwI A x d tx w st s1 s2 s3 s4 sv v1 v2 v3 v4 qo tk tl tz ph nd po k1 k2 k3 so sp ao o1 o2 o3 o4 ps ns m draft_ asked_ prepared_ preparedSize_ texts_ sizes_ weights_ entries_ lies_ live_ row_ level_ oldTexts_ oldSizes_ oldLies_ oldLive_ oldRow_ firstToken_ starred_ tokenAt_ tokenSize_ groupKind_ groupPhrase_ groupSize_ groupMask_ groupFar_ out_ top_ masks_ begins_ lasts_ truth_ answers_ order_ scores_ o od T dl dl h) (hF : 3 ≤ F) (hL : 61 ≤ L) (hbc : 13 ≤ bc) (hbs : 167 ≤ bs)
    (kk : ∀ (bc' bs' dl' : Nat) (h' : xw_A), bc ≤ bc' + 13 → bs ≤ bs' + 167 → LwI A x d tx w st s1 s2 s3 s4 sv v1 v2 v3 v4 qo tk tl tz ph nd po k1 k2 k3 so sp ao o1 o2 o3 o4 ps ns m draft_ asked_ prepared_ preparedSize_ texts_ sizes_ weights_ entries_ lies_ live_ row_ level_ oldTexts_ oldSizes_ oldLies_ oldLive_ oldRow_ firstToken_ starred_ tokenAt_ tokenSize_ groupKind_ groupPhrase_ groupSize_ groupMask_ groupFar_ out_ top_ masks_ begins_ lasts_ truth_ answers_ order_ scores_ o od (T + 1) dl' dl' h' → xw G m_Law_law F L bc' bs' pr px 739 [some (.ref b), some (.ref x), some (.ref m), some (.ref o), some (.ref od), some (.int (nI i)), none, none, none] [] h') :
    xw G m_Law_law F L bc bs pr px 505 [some (.ref b), some (.ref x), some (.ref m), some (.ref o), some (.ref od), some (.int (nI i)), none, none, none] [] h := by
  obtain ⟨S, NM, hMA, hoA, hodA, hD, no, noM, nod, nodM, noo⟩ := id Z
  obtain ⟨-, -, -, ⟨fo, eo⟩, fd, ed⟩ := id K
  have hdl9 : dl ≤ 96 := by obtain ⟨⟨_, _, _, _, _, _, q⟩, -⟩ := id K.1; exact q
  refine s_Law_law_505 ?_
  obtain ⟨K1, K2, K3, K4, K5, K6, K7, K8, K9⟩ := id K.1
  obtain ⟨mo, li, op, wp, gp, e_x, hdl⟩ := id K1
  obtain ⟨fr_, fp_, fs_, fl_, pc, sc, lc, pe, vm, sm, KS⟩ := id K5
  have SA : StA A st s1 s2 s3 s4 := ⟨S.mem 4 rfl, S.mem 5 rfl, S.mem 6 rfl, S.mem 7 rfl, S.mem 8 rfl⟩
  refine x_callV (As := []) (b := x) (rest := []) (F1 := 1) (L1 := 20) (mc := 0) (ms := 0) d_Law_law_506 cV_Law_134 (g_wrong e_x hdl (by omega) (by omega)) e_x ⟨by decide, rfl⟩ ⟨by omega, by show 8 + (1 + 11) + 20 ≤ _; omega⟩ ⟨by omega, by omega⟩ (Nat.le_of_ble_eq_true rfl) (fun v_2 h_1 p_3 => ?_)
  obtain ⟨rfl, rfl⟩ := p_3
  have K' : CI A x d tx w st s1 s2 s3 s4 sv v1 v2 v3 v4 qo tk tl tz ph nd po k1 k2 k3 so sp ao o1 o2 o3 o4 ps ns dl h := K.1
  have fr9 : FrO (pick (CLs x d tx w st s1 s2 s3 s4 sv v1 v2 v3 v4 qo tk tl tz ph nd po k1 k2 k3 so sp ao o1 o2 o3 o4 ps ns) []) h h := FrO.rf
  have KL := LwI.clsZ Z K ⟨K', fr9.mono CS.inC⟩
  obtain ⟨fs_4, l_5, e_6, -⟩ := id KL.2.1
  refine s_Law_law_509 ?_
  refine x_callV (As := []) (b := m) (rest := []) (F1 := 2) (L1 := 41) (mc := 0) (ms := 0) d_Law_law_511 cV_Law_137 (r_wrong KL.2.1 NM hT (by omega) (by omega)) e_6 ⟨by decide, rfl⟩ ⟨by omega, by show 8 + (1 + 11) + 41 ≤ _; omega⟩ ⟨by omega, by omega⟩ (Nat.le_of_ble_eq_true rfl) (fun v_11 h_10 p_12 => ?_)
  obtain ⟨⟨y8, rfl⟩, R_8, fr_9, -, ff⟩ := p_12
  have D := KL.2.2.1.ff ff (by decide)
  have K_7 := LwI.mod Z KL R_8 fr_9 D
  refine s_Law_law_514 ?_
  exact kk _ _ _ _ (by omega) (by omega) K_7
set_option maxHeartbeats 4000000 in
theorem lk_answer {G : xw_G} {F L bc bs b N i T dl : Nat} {xs : Nat → Int32} {pr : Option Value → xw_A → Prop} {px : String → xw_A → Prop} {A : List Nat} {x d tx w st s1 s2 s3 s4 sv v1 v2 v3 v4 qo tk tl tz ph nd po k1 k2 k3 so sp ao o1 o2 o3 o4 : Nat} {ps ns : List Nat} {m draft_ asked_ prepared_ preparedSize_ texts_ sizes_ weights_ entries_ lies_ live_ row_ level_ oldTexts_ oldSizes_ oldLies_ oldLive_ oldRow_ firstToken_ starred_ tokenAt_ tokenSize_ groupKind_ groupPhrase_ groupSize_ groupMask_ groupFar_ out_ top_ masks_ begins_ lasts_ truth_ answers_ order_ scores_ o od : Nat} {h : xw_A} (hX : va_X b N xs G.2.2.1 G.2.2.1.heap) (hN : N ≤ 1536) (hi : i + 3 ≤ N) (hT : T < 512) (Z : LwS A x d tx w st s1 s2 s3 s4 sv v1 v2 v3 v4 qo tk tl tz ph nd po k1 k2 k3 so sp ao o1 o2 o3 o4 ps ns m draft_ asked_ prepared_ preparedSize_ texts_ sizes_ weights_ entries_ lies_ live_ row_ level_ oldTexts_ oldSizes_ oldLies_ oldLive_ oldRow_ firstToken_ starred_ tokenAt_ tokenSize_ groupKind_ groupPhrase_ groupSize_ groupMask_ groupFar_ out_ top_ masks_ begins_ lasts_ truth_ answers_ order_ scores_ o od) (K : LwI A x d tx w st s1 s2 s3 s4 sv v1 v2 v3 v4 qo tk tl tz ph nd po k1 k2 k3 so sp ao o1 o2 o3 o4 ps ns m draft_ asked_ prepared_ preparedSize_ texts_ sizes_ weights_ entries_ lies_ live_ row_ level_ oldTexts_ oldSizes_ oldLies_ oldLive_ oldRow_ firstToken_ starred_ tokenAt_ tokenSize_ groupKind_ groupPhrase_ groupSize_ groupMask_ groupFar_ out_ top_ masks_ begins_ lasts_ truth_ answers_ order_ scores_ o od T dl dl h) (hF : 8 ≤ F) (hL : 136 ≤ L) (hbc : 13 ≤ bc) (hbs : 167 ≤ bs)
    (kk : ∀ (bc' bs' dl' : Nat) (h' : xw_A), bc ≤ bc' + 13 → bs ≤ bs' + 167 → LwI A x d tx w st s1 s2 s3 s4 sv v1 v2 v3 v4 qo tk tl tz ph nd po k1 k2 k3 so sp ao o1 o2 o3 o4 ps ns m draft_ asked_ prepared_ preparedSize_ texts_ sizes_ weights_ entries_ lies_ live_ row_ level_ oldTexts_ oldSizes_ oldLies_ oldLive_ oldRow_ firstToken_ starred_ tokenAt_ tokenSize_ groupKind_ groupPhrase_ groupSize_ groupMask_ groupFar_ out_ top_ masks_ begins_ lasts_ truth_ answers_ order_ scores_ o od (T + 1) dl' dl' h' → xw G m_Law_law F L bc' bs' pr px 739 [some (.ref b), some (.ref x), some (.ref m), some (.ref o), some (.ref od), some (.int (nI i)), none, none, none] [] h') :
    xw G m_Law_law F L bc bs pr px 518 [some (.ref b), some (.ref x), some (.ref m), some (.ref o), some (.ref od), some (.int (nI i)), none, none, none] [] h := by
  obtain ⟨S, NM, hMA, hoA, hodA, hD, no, noM, nod, nodM, noo⟩ := id Z
  obtain ⟨-, -, -, ⟨fo, eo⟩, fd, ed⟩ := id K
  have hdl9 : dl ≤ 96 := by obtain ⟨⟨_, _, _, _, _, _, q⟩, -⟩ := id K.1; exact q
  refine s_Law_law_518 hX (by first | exact vp_in_nI (by omega) (by omega) | (rw [nI_1]; exact vp_in_nI (by omega) (by omega)) | (rw [nI_2]; exact vp_in_nI (by omega) (by omega))) (by first | exact vp_in_nI (by omega) (by omega) | (rw [nI_1]; exact vp_in_nI (by omega) (by omega)) | (rw [nI_2]; exact vp_in_nI (by omega) (by omega))) (fun z_1 => ?_) (fun z_2 => ?_)
  · skip
    refine s_Law_law_538 ?_
    refine s_Law_law_539 ?_
    refine x_callSH (As := [.ref x, .int (xs ((nI i) + 1).toNatClampNeg), .int 0, .ref o]) (rest := []) (F1 := 7) (L1 := 112) (mc := 13) (ms := 167) d_Law_law_540 cH_Law_138 (hk_answer S K.1 eo no hoA (by omega) (by omega)) ⟨by omega, by show 8 + (5 + 11) + 112 ≤ _; omega⟩ ⟨by omega, by omega⟩ (Nat.le_of_ble_eq_true rfl) (fun v_7 h_6 p_8 => ?_)
    obtain ⟨⟨k_4, rfl⟩, hp_5⟩ := p_8
    have K_3 := LwI.cls Z K hp_5
    obtain ⟨fs_9, l_10, e_11, -⟩ := id K_3.2.1
    refine s_Law_law_543 hX (by first | exact vp_in_nI (by omega) (by omega) | (rw [nI_1]; exact vp_in_nI (by omega) (by omega)) | (rw [nI_2]; exact vp_in_nI (by omega) (by omega))) (by first | exact vp_in_nI (by omega) (by omega) | (rw [nI_1]; exact vp_in_nI (by omega) (by omega)) | (rw [nI_2]; exact vp_in_nI (by omega) (by omega))) (fun z_12 => ?_) (fun z => absurd z_1 z)
    refine s_Law_law_565 ?_
    refine x_callV (As := [.int (xs ((nI i) + 1).toNatClampNeg), .int 0]) (b := m) (rest := []) (F1 := 2) (L1 := 42) (mc := 0) (ms := 0) d_Law_law_566 cV_Law_141 (r_answer K_3.2.1 NM hT (by omega) (by omega)) e_11 ⟨by decide, rfl⟩ ⟨by omega, by show 8 + (3 + 11) + 42 ≤ _; omega⟩ ⟨by omega, by omega⟩ (Nat.le_of_ble_eq_true rfl) (fun v_17 h_16 p_18 => ?_)
    obtain ⟨⟨y8, rfl⟩, R_14, fr_15, -, ff⟩ := p_18
    have D := K_3.2.2.1.ff ff (by decide)
    have K_13 := LwI.mod Z K_3 R_14 fr_15 D
    refine s_Law_law_569 ?_
    exact kk _ _ _ _ (by omega) (by omega) K_13
  · skip
    refine s_Law_law_534 ?_
    refine s_Law_law_539 ?_
    refine x_callSH (As := [.ref x, .int (xs ((nI i) + 1).toNatClampNeg), .int 1, .ref o]) (rest := []) (F1 := 7) (L1 := 112) (mc := 13) (ms := 167) d_Law_law_540 cH_Law_138 (hk_answer S K.1 eo no hoA (by omega) (by omega)) ⟨by omega, by show 8 + (5 + 11) + 112 ≤ _; omega⟩ ⟨by omega, by omega⟩ (Nat.le_of_ble_eq_true rfl) (fun v_23 h_22 p_24 => ?_)
    obtain ⟨⟨k_20, rfl⟩, hp_21⟩ := p_24
    have K_19 := LwI.cls Z K hp_21
    obtain ⟨fs_25, l_26, e_27, -⟩ := id K_19.2.1
    refine s_Law_law_543 hX (by first | exact vp_in_nI (by omega) (by omega) | (rw [nI_1]; exact vp_in_nI (by omega) (by omega)) | (rw [nI_2]; exact vp_in_nI (by omega) (by omega))) (by first | exact vp_in_nI (by omega) (by omega) | (rw [nI_1]; exact vp_in_nI (by omega) (by omega)) | (rw [nI_2]; exact vp_in_nI (by omega) (by omega))) (fun z => absurd z z_2) (fun z_28 => ?_)
    refine s_Law_law_561 ?_
    refine x_callV (As := [.int (xs ((nI i) + 1).toNatClampNeg), .int 1]) (b := m) (rest := []) (F1 := 2) (L1 := 42) (mc := 0) (ms := 0) d_Law_law_566 cV_Law_141 (r_answer K_19.2.1 NM hT (by omega) (by omega)) e_27 ⟨by decide, rfl⟩ ⟨by omega, by show 8 + (3 + 11) + 42 ≤ _; omega⟩ ⟨by omega, by omega⟩ (Nat.le_of_ble_eq_true rfl) (fun v_33 h_32 p_34 => ?_)
    obtain ⟨⟨y8, rfl⟩, R_30, fr_31, -, ff⟩ := p_34
    have D := K_19.2.2.1.ff ff (by decide)
    have K_29 := LwI.mod Z K_19 R_30 fr_31 D
    refine s_Law_law_569 ?_
    exact kk _ _ _ _ (by omega) (by omega) K_29
set_option maxHeartbeats 4000000 in
theorem lk_score {G : xw_G} {F L bc bs b N i T dl : Nat} {xs : Nat → Int32} {pr : Option Value → xw_A → Prop} {px : String → xw_A → Prop} {A : List Nat} {x d tx w st s1 s2 s3 s4 sv v1 v2 v3 v4 qo tk tl tz ph nd po k1 k2 k3 so sp ao o1 o2 o3 o4 : Nat} {ps ns : List Nat} {m draft_ asked_ prepared_ preparedSize_ texts_ sizes_ weights_ entries_ lies_ live_ row_ level_ oldTexts_ oldSizes_ oldLies_ oldLive_ oldRow_ firstToken_ starred_ tokenAt_ tokenSize_ groupKind_ groupPhrase_ groupSize_ groupMask_ groupFar_ out_ top_ masks_ begins_ lasts_ truth_ answers_ order_ scores_ o od : Nat} {h : xw_A} (hX : va_X b N xs G.2.2.1 G.2.2.1.heap) (hN : N ≤ 1536) (hi : i + 3 ≤ N) (hT : T < 512) (Z : LwS A x d tx w st s1 s2 s3 s4 sv v1 v2 v3 v4 qo tk tl tz ph nd po k1 k2 k3 so sp ao o1 o2 o3 o4 ps ns m draft_ asked_ prepared_ preparedSize_ texts_ sizes_ weights_ entries_ lies_ live_ row_ level_ oldTexts_ oldSizes_ oldLies_ oldLive_ oldRow_ firstToken_ starred_ tokenAt_ tokenSize_ groupKind_ groupPhrase_ groupSize_ groupMask_ groupFar_ out_ top_ masks_ begins_ lasts_ truth_ answers_ order_ scores_ o od) (K : LwI A x d tx w st s1 s2 s3 s4 sv v1 v2 v3 v4 qo tk tl tz ph nd po k1 k2 k3 so sp ao o1 o2 o3 o4 ps ns m draft_ asked_ prepared_ preparedSize_ texts_ sizes_ weights_ entries_ lies_ live_ row_ level_ oldTexts_ oldSizes_ oldLies_ oldLive_ oldRow_ firstToken_ starred_ tokenAt_ tokenSize_ groupKind_ groupPhrase_ groupSize_ groupMask_ groupFar_ out_ top_ masks_ begins_ lasts_ truth_ answers_ order_ scores_ o od T dl dl h) (hF : 8 ≤ F) (hL : 136 ≤ L) (hbc : 13 ≤ bc) (hbs : 167 ≤ bs)
    (kk : ∀ (bc' bs' dl' : Nat) (h' : xw_A), bc ≤ bc' + 13 → bs ≤ bs' + 167 → LwI A x d tx w st s1 s2 s3 s4 sv v1 v2 v3 v4 qo tk tl tz ph nd po k1 k2 k3 so sp ao o1 o2 o3 o4 ps ns m draft_ asked_ prepared_ preparedSize_ texts_ sizes_ weights_ entries_ lies_ live_ row_ level_ oldTexts_ oldSizes_ oldLies_ oldLive_ oldRow_ firstToken_ starred_ tokenAt_ tokenSize_ groupKind_ groupPhrase_ groupSize_ groupMask_ groupFar_ out_ top_ masks_ begins_ lasts_ truth_ answers_ order_ scores_ o od (T + 1) dl' dl' h' → xw G m_Law_law F L bc' bs' pr px 739 [some (.ref b), some (.ref x), some (.ref m), some (.ref o), some (.ref od), some (.int (nI i)), none, none, none] [] h') :
    xw G m_Law_law F L bc bs pr px 574 [some (.ref b), some (.ref x), some (.ref m), some (.ref o), some (.ref od), some (.int (nI i)), none, none, none] [] h := by
  obtain ⟨S, NM, hMA, hoA, hodA, hD, no, noM, nod, nodM, noo⟩ := id Z
  obtain ⟨-, -, -, ⟨fo, eo⟩, fd, ed⟩ := id K
  have hdl9 : dl ≤ 96 := by obtain ⟨⟨_, _, _, _, _, _, q⟩, -⟩ := id K.1; exact q
  refine s_Law_law_574 hX (by first | exact vp_in_nI (by omega) (by omega) | (rw [nI_1]; exact vp_in_nI (by omega) (by omega)) | (rw [nI_2]; exact vp_in_nI (by omega) (by omega))) (by first | exact vp_in_nI (by omega) (by omega) | (rw [nI_1]; exact vp_in_nI (by omega) (by omega)) | (rw [nI_2]; exact vp_in_nI (by omega) (by omega))) (fun z_1 => ?_) (fun z_2 => ?_)
  · skip
    refine s_Law_law_594 ?_
    refine s_Law_law_595 ?_
    refine x_callSH (As := [.ref x, .int (xs ((nI i) + 1).toNatClampNeg), .int 0, .ref od]) (rest := []) (F1 := 7) (L1 := 112) (mc := 13) (ms := 167) d_Law_law_597 cH_Law_142 (hk_score S K.1 ed nod hodA (by omega) (by omega)) ⟨by omega, by show 8 + (5 + 11) + 112 ≤ _; omega⟩ ⟨by omega, by omega⟩ (Nat.le_of_ble_eq_true rfl) (fun v_7 h_6 p_8 => ?_)
    obtain ⟨⟨k_4, rfl⟩, hp_5⟩ := p_8
    have K_3 := LwI.clsD Z K hp_5
    obtain ⟨fs_9, l_10, e_11, -⟩ := id K_3.2.1
    refine s_Law_law_600 hX (by first | exact vp_in_nI (by omega) (by omega) | (rw [nI_1]; exact vp_in_nI (by omega) (by omega)) | (rw [nI_2]; exact vp_in_nI (by omega) (by omega))) (by first | exact vp_in_nI (by omega) (by omega) | (rw [nI_1]; exact vp_in_nI (by omega) (by omega)) | (rw [nI_2]; exact vp_in_nI (by omega) (by omega))) (fun z_12 => ?_) (fun z => absurd z_1 z)
    refine s_Law_law_622 ?_
    refine x_callV (As := [.int (xs ((nI i) + 1).toNatClampNeg), .int 0]) (b := m) (rest := []) (F1 := 2) (L1 := 42) (mc := 0) (ms := 0) d_Law_law_623 cV_Law_145 (r_score K_3.2.1 NM hT (by omega) (by omega)) e_11 ⟨by decide, rfl⟩ ⟨by omega, by show 8 + (3 + 11) + 42 ≤ _; omega⟩ ⟨by omega, by omega⟩ (Nat.le_of_ble_eq_true rfl) (fun v_17 h_16 p_18 => ?_)
    obtain ⟨⟨y8, rfl⟩, R_14, fr_15, -, ff⟩ := p_18
    have D := K_3.2.2.1.ff ff (by decide)
    have K_13 := LwI.mod Z K_3 R_14 fr_15 D
    refine s_Law_law_626 ?_
    exact kk _ _ _ _ (by omega) (by omega) K_13
  · skip
    refine s_Law_law_590 ?_
    refine s_Law_law_595 ?_
    refine x_callSH (As := [.ref x, .int (xs ((nI i) + 1).toNatClampNeg), .int 1, .ref od]) (rest := []) (F1 := 7) (L1 := 112) (mc := 13) (ms := 167) d_Law_law_597 cH_Law_142 (hk_score S K.1 ed nod hodA (by omega) (by omega)) ⟨by omega, by show 8 + (5 + 11) + 112 ≤ _; omega⟩ ⟨by omega, by omega⟩ (Nat.le_of_ble_eq_true rfl) (fun v_23 h_22 p_24 => ?_)
    obtain ⟨⟨k_20, rfl⟩, hp_21⟩ := p_24
    have K_19 := LwI.clsD Z K hp_21
    obtain ⟨fs_25, l_26, e_27, -⟩ := id K_19.2.1
    refine s_Law_law_600 hX (by first | exact vp_in_nI (by omega) (by omega) | (rw [nI_1]; exact vp_in_nI (by omega) (by omega)) | (rw [nI_2]; exact vp_in_nI (by omega) (by omega))) (by first | exact vp_in_nI (by omega) (by omega) | (rw [nI_1]; exact vp_in_nI (by omega) (by omega)) | (rw [nI_2]; exact vp_in_nI (by omega) (by omega))) (fun z => absurd z z_2) (fun z_28 => ?_)
    refine s_Law_law_618 ?_
    refine x_callV (As := [.int (xs ((nI i) + 1).toNatClampNeg), .int 1]) (b := m) (rest := []) (F1 := 2) (L1 := 42) (mc := 0) (ms := 0) d_Law_law_623 cV_Law_145 (r_score K_19.2.1 NM hT (by omega) (by omega)) e_27 ⟨by decide, rfl⟩ ⟨by omega, by show 8 + (3 + 11) + 42 ≤ _; omega⟩ ⟨by omega, by omega⟩ (Nat.le_of_ble_eq_true rfl) (fun v_33 h_32 p_34 => ?_)
    obtain ⟨⟨y8, rfl⟩, R_30, fr_31, -, ff⟩ := p_34
    have D := K_19.2.2.1.ff ff (by decide)
    have K_29 := LwI.mod Z K_19 R_30 fr_31 D
    refine s_Law_law_626 ?_
    exact kk _ _ _ _ (by omega) (by omega) K_29
set_option maxHeartbeats 4000000 in
theorem lk_look {G : xw_G} {F L bc bs b N i T dl : Nat} {xs : Nat → Int32} {pr : Option Value → xw_A → Prop} {px : String → xw_A → Prop} {A : List Nat} {x d tx w st s1 s2 s3 s4 sv v1 v2 v3 v4 qo tk tl tz ph nd po k1 k2 k3 so sp ao o1 o2 o3 o4 : Nat} {ps ns : List Nat} {m draft_ asked_ prepared_ preparedSize_ texts_ sizes_ weights_ entries_ lies_ live_ row_ level_ oldTexts_ oldSizes_ oldLies_ oldLive_ oldRow_ firstToken_ starred_ tokenAt_ tokenSize_ groupKind_ groupPhrase_ groupSize_ groupMask_ groupFar_ out_ top_ masks_ begins_ lasts_ truth_ answers_ order_ scores_ o od : Nat} {h : xw_A} (hX : va_X b N xs G.2.2.1 G.2.2.1.heap) (hN : N ≤ 1536) (hi : i + 3 ≤ N) (hT : T < 512) (Z : LwS A x d tx w st s1 s2 s3 s4 sv v1 v2 v3 v4 qo tk tl tz ph nd po k1 k2 k3 so sp ao o1 o2 o3 o4 ps ns m draft_ asked_ prepared_ preparedSize_ texts_ sizes_ weights_ entries_ lies_ live_ row_ level_ oldTexts_ oldSizes_ oldLies_ oldLive_ oldRow_ firstToken_ starred_ tokenAt_ tokenSize_ groupKind_ groupPhrase_ groupSize_ groupMask_ groupFar_ out_ top_ masks_ begins_ lasts_ truth_ answers_ order_ scores_ o od) (K : LwI A x d tx w st s1 s2 s3 s4 sv v1 v2 v3 v4 qo tk tl tz ph nd po k1 k2 k3 so sp ao o1 o2 o3 o4 ps ns m draft_ asked_ prepared_ preparedSize_ texts_ sizes_ weights_ entries_ lies_ live_ row_ level_ oldTexts_ oldSizes_ oldLies_ oldLive_ oldRow_ firstToken_ starred_ tokenAt_ tokenSize_ groupKind_ groupPhrase_ groupSize_ groupMask_ groupFar_ out_ top_ masks_ begins_ lasts_ truth_ answers_ order_ scores_ o od T dl dl h) (hF : 8 ≤ F) (hL : 137 ≤ L) (hbc : 13 ≤ bc) (hbs : 167 ≤ bs)
    (kk : ∀ (bc' bs' dl' : Nat) (h' : xw_A), bc ≤ bc' + 13 → bs ≤ bs' + 167 → LwI A x d tx w st s1 s2 s3 s4 sv v1 v2 v3 v4 qo tk tl tz ph nd po k1 k2 k3 so sp ao o1 o2 o3 o4 ps ns m draft_ asked_ prepared_ preparedSize_ texts_ sizes_ weights_ entries_ lies_ live_ row_ level_ oldTexts_ oldSizes_ oldLies_ oldLive_ oldRow_ firstToken_ starred_ tokenAt_ tokenSize_ groupKind_ groupPhrase_ groupSize_ groupMask_ groupFar_ out_ top_ masks_ begins_ lasts_ truth_ answers_ order_ scores_ o od (T + 1) dl' dl' h' → xw G m_Law_law F L bc' bs' pr px 739 [some (.ref b), some (.ref x), some (.ref m), some (.ref o), some (.ref od), some (.int (nI i)), none, none, none] [] h') :
    xw G m_Law_law F L bc bs pr px 631 [some (.ref b), some (.ref x), some (.ref m), some (.ref o), some (.ref od), some (.int (nI i)), none, none, none] [] h := by
  obtain ⟨S, NM, hMA, hoA, hodA, hD, no, noM, nod, nodM, noo⟩ := id Z
  obtain ⟨-, -, -, ⟨fo, eo⟩, fd, ed⟩ := id K
  have hdl9 : dl ≤ 96 := by obtain ⟨⟨_, _, _, _, _, _, q⟩, -⟩ := id K.1; exact q
  refine s_Law_law_631 hX (by first | exact vp_in_nI (by omega) (by omega) | (rw [nI_1]; exact vp_in_nI (by omega) (by omega)) | (rw [nI_2]; exact vp_in_nI (by omega) (by omega))) (by first | exact vp_in_nI (by omega) (by omega) | (rw [nI_1]; exact vp_in_nI (by omega) (by omega)) | (rw [nI_2]; exact vp_in_nI (by omega) (by omega))) ?_
  refine x_callSH (As := [.ref x, .int (xs ((nI i) + 1).toNatClampNeg), .int (xs ((nI i) + 2).toNatClampNeg), .ref o]) (rest := []) (F1 := 7) (L1 := 113) (mc := 13) (ms := 167) d_Law_law_645 cH_Law_146 (hk_look S K.1 eo no hoA (by omega) (by omega)) ⟨by omega, by show 8 + (5 + 11) + 113 ≤ _; omega⟩ ⟨by omega, by omega⟩ (Nat.le_of_ble_eq_true rfl) (fun v_5 h_4 p_6 => ?_)
  obtain ⟨⟨k_2, rfl⟩, hp_3⟩ := p_6
  have K_1 := LwI.cls Z K hp_3
  obtain ⟨fs_7, l_8, e_9, -⟩ := id K_1.2.1
  refine s_Law_law_648 hX (by first | exact vp_in_nI (by omega) (by omega) | (rw [nI_1]; exact vp_in_nI (by omega) (by omega)) | (rw [nI_2]; exact vp_in_nI (by omega) (by omega))) (by first | exact vp_in_nI (by omega) (by omega) | (rw [nI_1]; exact vp_in_nI (by omega) (by omega)) | (rw [nI_2]; exact vp_in_nI (by omega) (by omega))) ?_
  refine x_callV (As := [.int (xs ((nI i) + 1).toNatClampNeg), .int (xs ((nI i) + 2).toNatClampNeg)]) (b := m) (rest := []) (F1 := 4) (L1 := 87) (mc := 0) (ms := 0) d_Law_law_663 cV_Law_148 (r_look K_1.2.1 NM hT (by omega) (by omega)) e_9 ⟨by decide, rfl⟩ ⟨by omega, by show 8 + (3 + 11) + 87 ≤ _; omega⟩ ⟨by omega, by omega⟩ (Nat.le_of_ble_eq_true rfl) (fun v_14 h_13 p_15 => ?_)
  obtain ⟨⟨y8, rfl⟩, R_11, fr_12, -, ff⟩ := p_15
  have D := K_1.2.2.1.ff ff (by decide)
  have K_10 := LwI.mod Z K_1 R_11 fr_12 D
  refine x_le (xw_le_s (xw_le_s (xw_le_s (xw_le_s (xw_le_s (xw_le_s (xw_le_n (xw_le_n (xw_le_n xw_le_e))))))))) ?_
  refine s_Law_law_666 ?_
  exact kk _ _ _ _ (by omega) (by omega) K_10
set_option maxHeartbeats 4000000 in
theorem lk_segment {G : xw_G} {F L bc bs b N i T dl : Nat} {xs : Nat → Int32} {pr : Option Value → xw_A → Prop} {px : String → xw_A → Prop} {A : List Nat} {x d tx w st s1 s2 s3 s4 sv v1 v2 v3 v4 qo tk tl tz ph nd po k1 k2 k3 so sp ao o1 o2 o3 o4 : Nat} {ps ns : List Nat} {m draft_ asked_ prepared_ preparedSize_ texts_ sizes_ weights_ entries_ lies_ live_ row_ level_ oldTexts_ oldSizes_ oldLies_ oldLive_ oldRow_ firstToken_ starred_ tokenAt_ tokenSize_ groupKind_ groupPhrase_ groupSize_ groupMask_ groupFar_ out_ top_ masks_ begins_ lasts_ truth_ answers_ order_ scores_ o od : Nat} {h : xw_A} (hX : va_X b N xs G.2.2.1 G.2.2.1.heap) (hN : N ≤ 1536) (hi : i + 3 ≤ N) (hT : T < 512) (Z : LwS A x d tx w st s1 s2 s3 s4 sv v1 v2 v3 v4 qo tk tl tz ph nd po k1 k2 k3 so sp ao o1 o2 o3 o4 ps ns m draft_ asked_ prepared_ preparedSize_ texts_ sizes_ weights_ entries_ lies_ live_ row_ level_ oldTexts_ oldSizes_ oldLies_ oldLive_ oldRow_ firstToken_ starred_ tokenAt_ tokenSize_ groupKind_ groupPhrase_ groupSize_ groupMask_ groupFar_ out_ top_ masks_ begins_ lasts_ truth_ answers_ order_ scores_ o od) (K : LwI A x d tx w st s1 s2 s3 s4 sv v1 v2 v3 v4 qo tk tl tz ph nd po k1 k2 k3 so sp ao o1 o2 o3 o4 ps ns m draft_ asked_ prepared_ preparedSize_ texts_ sizes_ weights_ entries_ lies_ live_ row_ level_ oldTexts_ oldSizes_ oldLies_ oldLive_ oldRow_ firstToken_ starred_ tokenAt_ tokenSize_ groupKind_ groupPhrase_ groupSize_ groupMask_ groupFar_ out_ top_ masks_ begins_ lasts_ truth_ answers_ order_ scores_ o od T dl dl h) (hF : 8 ≤ F) (hL : 137 ≤ L) (hbc : 13 ≤ bc) (hbs : 167 ≤ bs)
    (kk : ∀ (bc' bs' dl' : Nat) (h' : xw_A), bc ≤ bc' + 13 → bs ≤ bs' + 167 → LwI A x d tx w st s1 s2 s3 s4 sv v1 v2 v3 v4 qo tk tl tz ph nd po k1 k2 k3 so sp ao o1 o2 o3 o4 ps ns m draft_ asked_ prepared_ preparedSize_ texts_ sizes_ weights_ entries_ lies_ live_ row_ level_ oldTexts_ oldSizes_ oldLies_ oldLive_ oldRow_ firstToken_ starred_ tokenAt_ tokenSize_ groupKind_ groupPhrase_ groupSize_ groupMask_ groupFar_ out_ top_ masks_ begins_ lasts_ truth_ answers_ order_ scores_ o od (T + 1) dl' dl' h' → xw G m_Law_law F L bc' bs' pr px 739 [some (.ref b), some (.ref x), some (.ref m), some (.ref o), some (.ref od), some (.int (nI i)), none, none, none] [] h') :
    xw G m_Law_law F L bc bs pr px 671 [some (.ref b), some (.ref x), some (.ref m), some (.ref o), some (.ref od), some (.int (nI i)), none, none, none] [] h := by
  obtain ⟨S, NM, hMA, hoA, hodA, hD, no, noM, nod, nodM, noo⟩ := id Z
  obtain ⟨-, -, -, ⟨fo, eo⟩, fd, ed⟩ := id K
  have hdl9 : dl ≤ 96 := by obtain ⟨⟨_, _, _, _, _, _, q⟩, -⟩ := id K.1; exact q
  refine s_Law_law_671 hX (by first | exact vp_in_nI (by omega) (by omega) | (rw [nI_1]; exact vp_in_nI (by omega) (by omega)) | (rw [nI_2]; exact vp_in_nI (by omega) (by omega))) (by first | exact vp_in_nI (by omega) (by omega) | (rw [nI_1]; exact vp_in_nI (by omega) (by omega)) | (rw [nI_2]; exact vp_in_nI (by omega) (by omega))) ?_
  refine x_callSH (As := [.ref x, .int (xs ((nI i) + 1).toNatClampNeg), .int (xs ((nI i) + 2).toNatClampNeg), .ref o]) (rest := []) (F1 := 7) (L1 := 113) (mc := 13) (ms := 167) d_Law_law_685 cH_Law_149 (hk_segment S K.1 eo no hoA (by omega) (by omega)) ⟨by omega, by show 8 + (5 + 11) + 113 ≤ _; omega⟩ ⟨by omega, by omega⟩ (Nat.le_of_ble_eq_true rfl) (fun v_5 h_4 p_6 => ?_)
  obtain ⟨⟨k_2, rfl⟩, hp_3⟩ := p_6
  have K_1 := LwI.cls Z K hp_3
  obtain ⟨fs_7, l_8, e_9, -⟩ := id K_1.2.1
  refine s_Law_law_688 hX (by first | exact vp_in_nI (by omega) (by omega) | (rw [nI_1]; exact vp_in_nI (by omega) (by omega)) | (rw [nI_2]; exact vp_in_nI (by omega) (by omega))) (by first | exact vp_in_nI (by omega) (by omega) | (rw [nI_1]; exact vp_in_nI (by omega) (by omega)) | (rw [nI_2]; exact vp_in_nI (by omega) (by omega))) ?_
  refine x_callV (As := [.int (xs ((nI i) + 1).toNatClampNeg), .int (xs ((nI i) + 2).toNatClampNeg)]) (b := m) (rest := []) (F1 := 2) (L1 := 42) (mc := 0) (ms := 0) d_Law_law_703 cV_Law_151 (r_segment K_1.2.1 NM hT (by omega) (by omega)) e_9 ⟨by decide, rfl⟩ ⟨by omega, by show 8 + (5 + 11) + 42 ≤ _; omega⟩ ⟨by omega, by omega⟩ (Nat.le_of_ble_eq_true rfl) (fun v_14 h_13 p_15 => ?_)
  obtain ⟨⟨y8, rfl⟩, R_11, fr_12, -, ff⟩ := p_15
  have D := K_1.2.2.1.ff ff (by decide)
  have K_10 := LwI.mod Z K_1 R_11 fr_12 D
  refine x_le (xw_le_s (xw_le_s (xw_le_s (xw_le_s (xw_le_s (xw_le_s (xw_le_n (xw_le_n (xw_le_n xw_le_e))))))))) ?_
  refine s_Law_law_706 ?_
  exact kk _ _ _ _ (by omega) (by omega) K_10
set_option maxHeartbeats 4000000 in
theorem lk_count {G : xw_G} {F L bc bs b N i T dl : Nat} {xs : Nat → Int32} {pr : Option Value → xw_A → Prop} {px : String → xw_A → Prop} {A : List Nat} {x d tx w st s1 s2 s3 s4 sv v1 v2 v3 v4 qo tk tl tz ph nd po k1 k2 k3 so sp ao o1 o2 o3 o4 : Nat} {ps ns : List Nat} {m draft_ asked_ prepared_ preparedSize_ texts_ sizes_ weights_ entries_ lies_ live_ row_ level_ oldTexts_ oldSizes_ oldLies_ oldLive_ oldRow_ firstToken_ starred_ tokenAt_ tokenSize_ groupKind_ groupPhrase_ groupSize_ groupMask_ groupFar_ out_ top_ masks_ begins_ lasts_ truth_ answers_ order_ scores_ o od : Nat} {h : xw_A} (hX : va_X b N xs G.2.2.1 G.2.2.1.heap) (hN : N ≤ 1536) (hi : i + 3 ≤ N) (hT : T < 512) (Z : LwS A x d tx w st s1 s2 s3 s4 sv v1 v2 v3 v4 qo tk tl tz ph nd po k1 k2 k3 so sp ao o1 o2 o3 o4 ps ns m draft_ asked_ prepared_ preparedSize_ texts_ sizes_ weights_ entries_ lies_ live_ row_ level_ oldTexts_ oldSizes_ oldLies_ oldLive_ oldRow_ firstToken_ starred_ tokenAt_ tokenSize_ groupKind_ groupPhrase_ groupSize_ groupMask_ groupFar_ out_ top_ masks_ begins_ lasts_ truth_ answers_ order_ scores_ o od) (K : LwI A x d tx w st s1 s2 s3 s4 sv v1 v2 v3 v4 qo tk tl tz ph nd po k1 k2 k3 so sp ao o1 o2 o3 o4 ps ns m draft_ asked_ prepared_ preparedSize_ texts_ sizes_ weights_ entries_ lies_ live_ row_ level_ oldTexts_ oldSizes_ oldLies_ oldLive_ oldRow_ firstToken_ starred_ tokenAt_ tokenSize_ groupKind_ groupPhrase_ groupSize_ groupMask_ groupFar_ out_ top_ masks_ begins_ lasts_ truth_ answers_ order_ scores_ o od T dl dl h) (hF : 8 ≤ F) (hL : 134 ≤ L) (hbc : 13 ≤ bc) (hbs : 167 ≤ bs)
    (kk : ∀ (bc' bs' dl' : Nat) (h' : xw_A), bc ≤ bc' + 13 → bs ≤ bs' + 167 → LwI A x d tx w st s1 s2 s3 s4 sv v1 v2 v3 v4 qo tk tl tz ph nd po k1 k2 k3 so sp ao o1 o2 o3 o4 ps ns m draft_ asked_ prepared_ preparedSize_ texts_ sizes_ weights_ entries_ lies_ live_ row_ level_ oldTexts_ oldSizes_ oldLies_ oldLive_ oldRow_ firstToken_ starred_ tokenAt_ tokenSize_ groupKind_ groupPhrase_ groupSize_ groupMask_ groupFar_ out_ top_ masks_ begins_ lasts_ truth_ answers_ order_ scores_ o od (T + 1) dl' dl' h' → xw G m_Law_law F L bc' bs' pr px 739 [some (.ref b), some (.ref x), some (.ref m), some (.ref o), some (.ref od), some (.int (nI i)), none, none, none] [] h') :
    xw G m_Law_law F L bc bs pr px 711 [some (.ref b), some (.ref x), some (.ref m), some (.ref o), some (.ref od), some (.int (nI i)), none, none, none] [] h := by
  obtain ⟨S, NM, hMA, hoA, hodA, hD, no, noM, nod, nodM, noo⟩ := id Z
  obtain ⟨-, -, -, ⟨fo, eo⟩, fd, ed⟩ := id K
  have hdl9 : dl ≤ 96 := by obtain ⟨⟨_, _, _, _, _, _, q⟩, -⟩ := id K.1; exact q
  refine s_Law_law_711 hX (by first | exact vp_in_nI (by omega) (by omega) | (rw [nI_1]; exact vp_in_nI (by omega) (by omega)) | (rw [nI_2]; exact vp_in_nI (by omega) (by omega))) ?_
  refine x_callSH (As := [.ref x, .int (xs ((nI i) + 1).toNatClampNeg), .ref o]) (rest := []) (F1 := 7) (L1 := 111) (mc := 13) (ms := 167) d_Law_law_719 cH_Law_152 (hk_count S K.1 eo no hoA (by omega) (by omega)) ⟨by omega, by show 8 + (4 + 11) + 111 ≤ _; omega⟩ ⟨by omega, by omega⟩ (Nat.le_of_ble_eq_true rfl) (fun v_5 h_4 p_6 => ?_)
  obtain ⟨⟨k_2, rfl⟩, hp_3⟩ := p_6
  have K_1 := LwI.cls Z K hp_3
  obtain ⟨fs_7, l_8, e_9, -⟩ := id K_1.2.1
  refine s_Law_law_722 hX (by first | exact vp_in_nI (by omega) (by omega) | (rw [nI_1]; exact vp_in_nI (by omega) (by omega)) | (rw [nI_2]; exact vp_in_nI (by omega) (by omega))) ?_
  refine x_callV (As := [.int (xs ((nI i) + 1).toNatClampNeg)]) (b := m) (rest := []) (F1 := 2) (L1 := 42) (mc := 0) (ms := 0) d_Law_law_731 cV_Law_154 (r_count K_1.2.1 NM hT (by omega) (by omega)) e_9 ⟨by decide, rfl⟩ ⟨by omega, by show 8 + (2 + 11) + 42 ≤ _; omega⟩ ⟨by omega, by omega⟩ (Nat.le_of_ble_eq_true rfl) (fun v_14 h_13 p_15 => ?_)
  obtain ⟨⟨y8, rfl⟩, R_11, fr_12, -, ff⟩ := p_15
  have D := K_1.2.2.1.ff ff (by decide)
  have K_10 := LwI.mod Z K_1 R_11 fr_12 D
  refine x_le (xw_le_s (xw_le_s (xw_le_s (xw_le_s (xw_le_s (xw_le_s (xw_le_n (xw_le_n (xw_le_n xw_le_e))))))))) ?_
  refine s_Law_law_734 ?_
  exact kk _ _ _ _ (by omega) (by omega) K_10
theorem law_end {N i : Nat} (h : N < i + 3) (hN : i ≤ 100000) : (Int32.ofNat N) - 3 < nI i := by
  by_cases h3 : 3 ≤ N
  · show nI N - 3 < nI i
    rw [show (3 : Int32) = nI 3 from rfl, pk_sub h3]
    exact nI_lt (by omega) (by omega)
  · obtain rfl | rfl | rfl : N = 0 ∨ N = 1 ∨ N = 2 := by omega
    all_goals exact i32_neg (by omega) (by decide)
theorem law_go {N i : Nat} (h : i + 3 ≤ N) (hN : N ≤ 100000) : ¬ (Int32.ofNat N) - 3 < nI i := by
  show ¬ nI N - 3 < nI i
  rw [show (3 : Int32) = nI 3 from rfl, pk_sub (by omega)]
  exact nI_nlt (by omega) (by omega)
set_option maxHeartbeats 4000000 in
theorem law_loop {G : xw_G} {F L b N : Nat} {xs : Nat → Int32} {A : List Nat} {x d tx w st s1 s2 s3 s4 sv v1 v2 v3 v4 qo tk tl tz ph nd po k1 k2 k3 so sp ao o1 o2 o3 o4 : Nat} {ps ns : List Nat} {m draft_ asked_ prepared_ preparedSize_ texts_ sizes_ weights_ entries_ lies_ live_ row_ level_ oldTexts_ oldSizes_ oldLies_ oldLive_ oldRow_ firstToken_ starred_ tokenAt_ tokenSize_ groupKind_ groupPhrase_ groupSize_ groupMask_ groupFar_ out_ top_ masks_ begins_ lasts_ truth_ answers_ order_ scores_ o od : Nat} (hX : va_X b N xs G.2.2.1 G.2.2.1.heap) (hN : N ≤ 1536) (Z : LwS A x d tx w st s1 s2 s3 s4 sv v1 v2 v3 v4 qo tk tl tz ph nd po k1 k2 k3 so sp ao o1 o2 o3 o4 ps ns m draft_ asked_ prepared_ preparedSize_ texts_ sizes_ weights_ entries_ lies_ live_ row_ level_ oldTexts_ oldSizes_ oldLies_ oldLive_ oldRow_ firstToken_ starred_ tokenAt_ tokenSize_ groupKind_ groupPhrase_ groupSize_ groupMask_ groupFar_ out_ top_ masks_ begins_ lasts_ truth_ answers_ order_ scores_ o od) (hF : 98 ≤ F) (hL : 3747 ≤ L) :
    ∀ (dd T : Nat) (bc bs dl : Nat) (h : xw_A), T + dd = 512 → 13 * dd ≤ bc → 167 * dd ≤ bs → LwI A x d tx w st s1 s2 s3 s4 sv v1 v2 v3 v4 qo tk tl tz ph nd po k1 k2 k3 so sp ao o1 o2 o3 o4 ps ns m draft_ asked_ prepared_ preparedSize_ texts_ sizes_ weights_ entries_ lies_ live_ row_ level_ oldTexts_ oldSizes_ oldLies_ oldLive_ oldRow_ firstToken_ starred_ tokenAt_ tokenSize_ groupKind_ groupPhrase_ groupSize_ groupMask_ groupFar_ out_ top_ masks_ begins_ lasts_ truth_ answers_ order_ scores_ o od T dl dl h → xw G m_Law_law F L bc bs (fun v _ => v = some (.int 1)) (fun _ _ => False) 28 [some (.ref b), some (.ref x), some (.ref m), some (.ref o), some (.ref od), some (.int (nI (3 * T))), none, none, none] [] h := by
  intro dd
  induction dd with
  | zero =>
    intro T bc bs dl h hTd hbc hbs K
    refine s_Law_law_28 hX (fun _ => s_Law_law_745 rfl) (fun z => absurd (law_end (by omega) (by omega)) z)
  | succ dd ih =>
    intro T bc bs dl h hTd hbc hbs K
    by_cases h3 : 3 * T + 3 ≤ N
    · refine s_Law_law_28 hX (fun z => absurd z (law_go h3 (by omega))) (fun _ => ?_)
      refine s_Law_law_37 hX (vp_in_nI (by omega) (by omega)) ?_
      obtain ⟨j, hj, ej⟩ := pk_andE (xs (nI (3 * T)).toNatClampNeg) (m := 31) 5 (by decide)
      rw [ej]
      have hj' : j < 32 := hj
      clear ej hj
      have kk : ∀ (bc' bs' dl' : Nat) (h' : xw_A), bc ≤ bc' + 13 → bs ≤ bs' + 167 → LwI A x d tx w st s1 s2 s3 s4 sv v1 v2 v3 v4 qo tk tl tz ph nd po k1 k2 k3 so sp ao o1 o2 o3 o4 ps ns m draft_ asked_ prepared_ preparedSize_ texts_ sizes_ weights_ entries_ lies_ live_ row_ level_ oldTexts_ oldSizes_ oldLies_ oldLive_ oldRow_ firstToken_ starred_ tokenAt_ tokenSize_ groupKind_ groupPhrase_ groupSize_ groupMask_ groupFar_ out_ top_ masks_ begins_ lasts_ truth_ answers_ order_ scores_ o od (T + 1) dl' dl' h' → xw G m_Law_law F L bc' bs' (fun v _ => v = some (.int 1)) (fun _ _ => False) 739 [some (.ref b), some (.ref x), some (.ref m), some (.ref o), some (.ref od), some (.int (nI (3 * T))), none, none, none] [] h' := fun bc' bs' dl' h' q1 q2 q3 => by
        refine s_Law_law_739 ?_
        rw [nI_3]
        exact ih (T + 1) bc' bs' dl' h' (by omega) (by omega) (by omega) q3
      obtain rfl | rfl | rfl | rfl | rfl | rfl | rfl | rfl | rfl | rfl | rfl | rfl | rfl | rfl | rfl | rfl | rfl | rfl | rfl | rfl | hj2 : j = 0 ∨ j = 1 ∨ j = 2 ∨ j = 3 ∨ j = 4 ∨ j = 5 ∨ j = 6 ∨ j = 7 ∨ j = 8 ∨ j = 9 ∨ j = 10 ∨ j = 11 ∨ j = 12 ∨ j = 13 ∨ j = 14 ∨ j = 15 ∨ j = 16 ∨ j = 17 ∨ j = 18 ∨ j = 19 ∨ 20 ≤ j := by omega
      · refine x_tableAt (tgt := 140) d_Law_law_44 (by decide) (by decide) (show _ = some 96 by decide) (by decide) ⟨739, by decide⟩ ?_
        exact lk_letters hX hN h3 (by omega) Z K (by omega) (by omega) (by omega) (by omega) kk
      · refine x_tableAt (tgt := 228) d_Law_law_44 (by decide) (by decide) (show _ = some 184 by decide) (by decide) ⟨739, by decide⟩ ?_
        exact lk_drop hX hN h3 (by omega) Z K (by omega) (by omega) (by omega) (by omega) kk
      · refine x_tableAt (tgt := 241) d_Law_law_44 (by decide) (by decide) (show _ = some 197 by decide) (by decide) ⟨739, by decide⟩ ?_
        exact lk_set hX hN h3 (by omega) Z K (by omega) (by omega) (by omega) (by omega) kk
      · refine x_tableAt (tgt := 269) d_Law_law_44 (by decide) (by decide) (show _ = some 225 by decide) (by decide) ⟨739, by decide⟩ ?_
        exact lk_insert hX hN h3 (by omega) Z K (by omega) (by omega) (by omega) (by omega) kk
      · refine x_tableAt (tgt := 285) d_Law_law_44 (by decide) (by decide) (show _ = some 241 by decide) (by decide) ⟨739, by decide⟩ ?_
        exact lk_replace hX hN h3 (by omega) Z K (by omega) (by omega) (by omega) (by omega) kk
      · refine x_tableAt (tgt := 313) d_Law_law_44 (by decide) (by decide) (show _ = some 269 by decide) (by decide) ⟨739, by decide⟩ ?_
        exact lk_delete hX hN h3 (by omega) Z K (by omega) (by omega) (by omega) (by omega) kk
      · refine x_tableAt (tgt := 341) d_Law_law_44 (by decide) (by decide) (show _ = some 297 by decide) (by decide) ⟨739, by decide⟩ ?_
        exact lk_begin hX hN h3 (by omega) Z K (by omega) (by omega) (by omega) (by omega) kk
      · refine x_tableAt (tgt := 354) d_Law_law_44 (by decide) (by decide) (show _ = some 310 by decide) (by decide) ⟨739, by decide⟩ ?_
        exact lk_commit hX hN h3 (by omega) Z K (by omega) (by omega) (by omega) (by omega) kk
      · refine x_tableAt (tgt := 370) d_Law_law_44 (by decide) (by decide) (show _ = some 326 by decide) (by decide) ⟨739, by decide⟩ ?_
        exact lk_rollback hX hN h3 (by omega) Z K (by omega) (by omega) (by omega) (by omega) kk
      · refine x_tableAt (tgt := 386) d_Law_law_44 (by decide) (by decide) (show _ = some 342 by decide) (by decide) ⟨739, by decide⟩ ?_
        exact lk_flush hX hN h3 (by omega) Z K (by omega) (by omega) (by omega) (by omega) kk
      · refine x_tableAt (tgt := 399) d_Law_law_44 (by decide) (by decide) (show _ = some 355 by decide) (by decide) ⟨739, by decide⟩ ?_
        exact lk_optimize hX hN h3 (by omega) Z K (by omega) (by omega) (by omega) (by omega) kk
      · refine x_tableAt (tgt := 412) d_Law_law_44 (by decide) (by decide) (show _ = some 368 by decide) (by decide) ⟨739, by decide⟩ ?_
        exact lk_ways hX hN h3 (by omega) Z K (by omega) (by omega) (by omega) (by omega) kk
      · refine x_tableAt (tgt := 449) d_Law_law_44 (by decide) (by decide) (show _ = some 405 by decide) (by decide) ⟨739, by decide⟩ ?_
        exact lk_weight hX hN h3 (by omega) Z K (by omega) (by omega) (by omega) (by omega) kk
      · refine x_tableAt (tgt := 489) d_Law_law_44 (by decide) (by decide) (show _ = some 445 by decide) (by decide) ⟨739, by decide⟩ ?_
        exact lk_ask hX hN h3 (by omega) Z K (by omega) (by omega) (by omega) (by omega) kk
      · refine x_tableAt (tgt := 505) d_Law_law_44 (by decide) (by decide) (show _ = some 461 by decide) (by decide) ⟨739, by decide⟩ ?_
        exact lk_wrong hX hN h3 (by omega) Z K (by omega) (by omega) (by omega) (by omega) kk
      · refine x_tableAt (tgt := 518) d_Law_law_44 (by decide) (by decide) (show _ = some 474 by decide) (by decide) ⟨739, by decide⟩ ?_
        exact lk_answer hX hN h3 (by omega) Z K (by omega) (by omega) (by omega) (by omega) kk
      · refine x_tableAt (tgt := 574) d_Law_law_44 (by decide) (by decide) (show _ = some 530 by decide) (by decide) ⟨739, by decide⟩ ?_
        exact lk_score hX hN h3 (by omega) Z K (by omega) (by omega) (by omega) (by omega) kk
      · refine x_tableAt (tgt := 631) d_Law_law_44 (by decide) (by decide) (show _ = some 587 by decide) (by decide) ⟨739, by decide⟩ ?_
        exact lk_look hX hN h3 (by omega) Z K (by omega) (by omega) (by omega) (by omega) kk
      · refine x_tableAt (tgt := 671) d_Law_law_44 (by decide) (by decide) (show _ = some 627 by decide) (by decide) ⟨739, by decide⟩ ?_
        exact lk_segment hX hN h3 (by omega) Z K (by omega) (by omega) (by omega) (by omega) kk
      · refine x_tableAt (tgt := 711) d_Law_law_44 (by decide) (by decide) (show _ = some 667 by decide) (by decide) ⟨739, by decide⟩ ?_
        exact lk_count hX hN h3 (by omega) Z K (by omega) (by omega) (by omega) (by omega) kk
      · refine x_tableOut (dt := 739) d_Law_law_44 (Or.inr (by rw [nI_toInt (by omega)]; omega)) (by decide) ?_
        exact kk _ _ _ _ (by omega) (by omega) K.skip
    · refine s_Law_law_28 hX (fun _ => s_Law_law_745 rfl) (fun z => absurd (law_end (by omega) (by omega)) z)
