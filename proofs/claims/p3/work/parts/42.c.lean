set_option maxHeartbeats 4000000 in
theorem g_put {G : xw_G} {F L : Nat} {h : xw_A} {r p q : Nat} {A : List Nat} {st s1 s2 s3 s4 : Nat} {fr fp fs fl : Nat → Option Nat} {pc sc lc : Nat} {pe vm sm : Int32} (K : StoC A st s1 s2 s3 s4 fr fp fs fl pc sc lc pe vm sm h) (SA : StA A st s1 s2 s3 s4) (hr1 : 1 ≤ r) (hr2 : r ≤ 24) (hp : TokOK A h p) (hq : TokOK A h q) (hF : 5 ≤ F) (hL : 112 ≤ L) :
    xw_Met G m_Store_putVersion F L 1 5 [.ref st, .int (nI r), .ref p, .ref q] h (fun v h' => ∃ (y : Int32) (a : Nat), v = some (.int y) ∧ (∃ (fp' : Nat → Option Nat) (pc' : Nat) (pe' vm' nn : Int32), StoC A st s1 s2 s3 s4 (va_up fr r (some a)) fp' fs fl pc' sc lc pe' vm' sm h' ∧ h' a = some (.inr (10, [.int nn, .int (nI r), .ref p, .ref q, .int y])) ∧ nn = vm + 1 ∧ vm' = vm + 1 ∧ ((¬ y ≤ 0 ∧ pc < 201 ∧ fp' = va_up fp pc (some a) ∧ pc' = pc + 1 ∧ pe' = pe + y) ∨ ((y ≤ 0 ∨ 201 ≤ pc) ∧ fp' = fp ∧ pc' = pc ∧ pe' = pe))) ∧ (∃ c1 c2 : Nat, y = nI (c1 + c2) ∧ DiA A h p c1 ∧ DiA A h q c2) ∧ FrO [st, s1, s2] h h') (fun _ _ => False) := by
  refine xw_Met.of rfl (by decide) (Nat.le_of_ble_eq_true rfl) ?_
  obtain ⟨e_st, e_s1, e_s2, e_s3, e_s4, hpc, hsc, hlc, hR, hP, hS, hV, hAO⟩ := K
  have SB : ∀ q ∈ [st, s1, s2], q ∈ A := suC SA.1 (suC SA.2.1 (suC SA.2.2.1 suN))
  obtain ⟨np9, l, z, mp9, kp9, n, fp9, gp9, nlp, nzp, Kp9⟩ := id hp
  obtain ⟨nq9, l2, z2, mq9, kq9, n2, fq9, gq9, nlq, nzq, Kq9⟩ := id hq
  have e_p := Kp9.1
  have e_q := Kq9.1
  have r0 : FrO [st, s1, s2] h h := FrO.rf
  refine s_Store_putVersion_0 (rows_a0 := some s1) (pending_a0 := some s2) (segments_a0 := some s3) (live_a0 := some s4) e_st ?_
  refine x_u1 (fun h_1 e_2 f_3 => ?_)
  have e_4 := (f_3 s1 (xw_neC e_s1 e_st (by simp))).trans e_s1
  have e_5 := (f_3 s2 (xw_neC e_s2 e_st (by simp))).trans e_s2
  have e_6 := (f_3 s3 (xw_neC e_s3 e_st (by simp))).trans e_s3
  have e_7 := (f_3 s4 (xw_neC e_s4 e_st (by simp))).trans e_s4
  have e_8 := (f_3 p (xw_neC e_p e_st (by simp))).trans e_p
  have e_9 := (f_3 q (xw_neC e_q e_st (by simp))).trans e_q
  have r_10 := r0.up (by simp) f_3
  have K_12 := Kp9.fr r_10 (nA9 np9 SB) (nA9 nlp SB) (nA9 nzp SB)
  refine x_callV (As := []) (b := p) (rest := []) (F1 := 4) (L1 := 90) (mc := 0) (ms := 0) d_Store_putVersion_11 cV_Store_37 (g_different K_12 (by omega) (by omega)) e_8 ⟨by decide, rfl⟩ ⟨by omega, by show 8 + (3 + 11) + 90 ≤ _; omega⟩ ⟨by omega, by omega⟩ (Nat.le_of_ble_eq_true rfl) (fun v_15 h_14 p_16 => ?_)
  obtain ⟨⟨c_11, rfl, hd_13⟩, rfl⟩ := p_16
  refine s_Store_putVersion_14 ?_
  have K_18 := Kq9.fr r_10 (nA9 nq9 SB) (nA9 nlq SB) (nA9 nzq SB)
  refine x_callV (As := []) (b := q) (rest := [.int (nI c_11)]) (F1 := 4) (L1 := 90) (mc := 0) (ms := 0) d_Store_putVersion_15 cV_Store_37 (g_different K_18 (by omega) (by omega)) e_9 ⟨by decide, rfl⟩ ⟨by omega, by show 8 + (3 + 11) + 90 ≤ _; omega⟩ ⟨by omega, by omega⟩ (Nat.le_of_ble_eq_true rfl) (fun v_21 h_20 p_22 => ?_)
  obtain ⟨⟨c_17, rfl, hd_19⟩, rfl⟩ := p_22
  refine s_Store_putVersion_18 (rows_a0 := some s1) (pending_a0 := some s2) (segments_a0 := some s3) (live_a0 := some s4) ⟨by omega, by omega⟩ e_2 (fun q_23 z_24 => ?_)
  have n_25 : q_23 ≠ st := Ne.symm (xw_neN e_2 z_24)
  have n_26 : q_23 ≠ s1 := Ne.symm (xw_neN e_4 z_24)
  have n_27 : q_23 ≠ s2 := Ne.symm (xw_neN e_5 z_24)
  have n_28 : q_23 ≠ s3 := Ne.symm (xw_neN e_6 z_24)
  have n_29 : q_23 ≠ s4 := Ne.symm (xw_neN e_7 z_24)
  have n_30 : q_23 ≠ p := Ne.symm (xw_neN e_8 z_24)
  have n_31 : q_23 ≠ q := Ne.symm (xw_neN e_9 z_24)
  refine x_u1 (fun h_32 e_33 f_34 => ?_)
  have e_35 := (f_34 st (Ne.symm n_25)).trans e_2
  have e_36 := (f_34 s1 (Ne.symm n_26)).trans e_4
  have e_37 := (f_34 s2 (Ne.symm n_27)).trans e_5
  have e_38 := (f_34 s3 (Ne.symm n_28)).trans e_6
  have e_39 := (f_34 s4 (Ne.symm n_29)).trans e_7
  have e_40 := (f_34 p (Ne.symm n_30)).trans e_8
  have e_41 := (f_34 q (Ne.symm n_31)).trans e_9
  have r_42 := FrO.newB r_10 z_24 (by simp only [List.mem_cons, List.not_mem_nil, or_false, not_or]; exact ⟨n_25, n_26, n_27⟩) r_10 f_34
  refine x_callI (As := [.int (vm + 1), .int (nI r), .ref p, .ref q, .int ((nI c_11) + (nI c_17))]) (b := q_23) (rest := [.ref q_23]) (F1 := 1) (L1 := 20) (mc := 0) (ms := 0) d_Store_putVersion_34 cI_Store_42 (g_verInit e_33 (by omega) (by omega)) ⟨by omega, by show 8 + (6 + 11) + 20 ≤ _; omega⟩ ⟨by omega, by omega⟩ (Nat.le_of_ble_eq_true rfl) (fun v_46 h_45 p_47 => ?_)
  obtain ⟨rfl, e_43, fr_44⟩ := p_47
  have e_48 := fr_44 st _ (by simp only [List.mem_cons, List.not_mem_nil, or_false]; exact (Ne.symm n_25)) e_35
  have e_49 := fr_44 s1 _ (by simp only [List.mem_cons, List.not_mem_nil, or_false]; exact (Ne.symm n_26)) e_36
  have e_50 := fr_44 s2 _ (by simp only [List.mem_cons, List.not_mem_nil, or_false]; exact (Ne.symm n_27)) e_37
  have e_51 := fr_44 s3 _ (by simp only [List.mem_cons, List.not_mem_nil, or_false]; exact (Ne.symm n_28)) e_38
  have e_52 := fr_44 s4 _ (by simp only [List.mem_cons, List.not_mem_nil, or_false]; exact (Ne.symm n_29)) e_39
  have e_53 := fr_44 p _ (by simp only [List.mem_cons, List.not_mem_nil, or_false]; exact (Ne.symm n_30)) e_40
  have e_54 := fr_44 q _ (by simp only [List.mem_cons, List.not_mem_nil, or_false]; exact (Ne.symm n_31)) e_41
  have r_55 := FrO.over r_10 z_24 (by simp only [List.mem_cons, List.not_mem_nil, or_false, not_or]; exact ⟨n_25, n_26, n_27⟩) r_42 fr_44
  have na_56 : q_23 ∉ A := (hAO.fr r_10 (exC e_2 (exC e_4 (exC e_5 exN)))).new z_24
  refine x_le (xw_le_s (xw_le_s (xw_le_n (xw_le_n (xw_le_s (xw_le_n xw_le_e)))))) ?_
  refine s_Store_putVersion_37 (pending_a0 := some s2) (segments_a0 := some s3) (live_a0 := some s4) (first_b0 := some p) (second_b0 := some q) e_48 e_49 (vp_in_nI (by omega) (by omega)) e_43 (fun z_57 => ?_) (fun z_58 => ?_)
  · skip
    refine x_u1 (fun h_59 e_60 f_61 => ?_)
    have e_62 := (f_61 st (xw_neC e_48 e_49 (by simp))).trans e_48
    have e_63 := (f_61 s2 (xw_neC e_50 e_49 (by simp))).trans e_50
    have e_64 := (f_61 s3 (xw_neC e_51 e_49 (by simp))).trans e_51
    have e_65 := (f_61 s4 (xw_neC e_52 e_49 (by simp))).trans e_52
    have e_66 := (f_61 p (xw_neC e_53 e_49 (by simp))).trans e_53
    have e_67 := (f_61 q (xw_neC e_54 e_49 (by simp))).trans e_54
    have e_68 := (f_61 q_23 n_26).trans e_43
    have r_69 := r_55.up (by simp) f_61
    refine s_Store_putVersion_96 ?_
    have hver : VerOK A h_59 q_23 := ⟨na_56, _, _, r, p, q, e_68, hr1, hr2, hp.fr r_69 SB, hq.fr r_69 SB⟩
    rw [nI_clamp (by omega)] at e_60
    exact ⟨_, q_23, rfl, ⟨_, pc, _, _, _, ⟨e_62, e_60, e_63, e_64, e_65, by omega, hsc, hlc, (allRU (allR hR r_69 SB) hver), (allV hP r_69 SB), allS hS r_69 SB, allV hV r_69 SB, hAO.fr r_69 (exC e_62 (exC e_60 (exC e_63 exN)))⟩, e_68, rfl, rfl, Or.inr ⟨Or.inl z_57, rfl, rfl, rfl⟩⟩, ⟨_, _, nI_add _ _, ⟨np9, l, z, mp9, kp9, n, fp9, gp9, nlp, nzp, Kp9, hd_13⟩, ⟨nq9, l2, z2, mq9, kq9, n2, fq9, gq9, nlq, nzq, Kq9, hd_19⟩⟩, r_69⟩
  · skip
    refine x_u1 (fun h_70 e_71 f_72 => ?_)
    have e_73 := (f_72 st (xw_neC e_48 e_49 (by simp))).trans e_48
    have e_74 := (f_72 s2 (xw_neC e_50 e_49 (by simp))).trans e_50
    have e_75 := (f_72 s3 (xw_neC e_51 e_49 (by simp))).trans e_51
    have e_76 := (f_72 s4 (xw_neC e_52 e_49 (by simp))).trans e_52
    have e_77 := (f_72 p (xw_neC e_53 e_49 (by simp))).trans e_53
    have e_78 := (f_72 q (xw_neC e_54 e_49 (by simp))).trans e_54
    have e_79 := (f_72 q_23 n_26).trans e_43
    have r_80 := r_55.up (by simp) f_72
    refine s_Store_putVersion_52 (rows_a0 := some s1) (segments_a0 := some s3) (live_a0 := some s4) e_73 e_74 (fun z_81 => ?_) (fun z_82 => ?_)
    · skip
      refine s_Store_putVersion_96 ?_
      have hver : VerOK A h_70 q_23 := ⟨na_56, _, _, r, p, q, e_79, hr1, hr2, hp.fr r_80 SB, hq.fr r_80 SB⟩
      rw [nI_clamp (by omega)] at e_71
      exact ⟨_, q_23, rfl, ⟨_, pc, _, _, _, ⟨e_73, e_71, e_74, e_75, e_76, by omega, hsc, hlc, (allRU (allR hR r_80 SB) hver), (allV hP r_80 SB), allS hS r_80 SB, allV hV r_80 SB, hAO.fr r_80 (exC e_73 (exC e_71 (exC e_74 exN)))⟩, e_79, rfl, rfl, Or.inr ⟨Or.inr (Nat.le_of_not_lt (fun q => absurd z_81 (nI_ge (b := 201) q (by decide)))), rfl, rfl, rfl⟩⟩, ⟨_, _, nI_add _ _, ⟨np9, l, z, mp9, kp9, n, fp9, gp9, nlp, nzp, Kp9, hd_13⟩, ⟨nq9, l2, z2, mq9, kq9, n2, fq9, gq9, nlq, nzq, Kq9, hd_19⟩⟩, r_80⟩
    · skip
      have hl1 : pc < 201 := Nat.lt_of_not_le (fun q => z_82 (nI_le q (by omega)))
      refine s_Store_putVersion_64 (rows_a0 := some s1) (segments_a0 := some s3) (live_a0 := some s4) (first_a5 := some p) (second_a5 := some q) e_73 e_74 (vp_in_nI hl1 (by decide)) e_79 ?_
      rw [xw_up_up]
      refine x_u2 (fun h_83 e_84 f_85 h_86 e_87 f_88 => ?_)
      have e_89 := (f_85 st (xw_neC e_73 e_74 (by simp))).trans e_73
      have e_90 := (f_85 s1 (xw_neC e_71 e_74 (by simp))).trans e_71
      have e_91 := (f_85 s3 (xw_neC e_75 e_74 (by simp))).trans e_75
      have e_92 := (f_85 s4 (xw_neC e_76 e_74 (by simp))).trans e_76
      have e_93 := (f_85 p (xw_neC e_77 e_74 (by simp))).trans e_77
      have e_94 := (f_85 q (xw_neC e_78 e_74 (by simp))).trans e_78
      have e_95 := (f_85 q_23 n_27).trans e_79
      have r_96 := r_80.up (by simp) f_85
      have e_97 := (f_88 s1 (xw_neC e_90 e_89 (by simp))).trans e_90
      have e_98 := (f_88 s2 (xw_neC e_84 e_89 (by simp))).trans e_84
      have e_99 := (f_88 s3 (xw_neC e_91 e_89 (by simp))).trans e_91
      have e_100 := (f_88 s4 (xw_neC e_92 e_89 (by simp))).trans e_92
      have e_101 := (f_88 p (xw_neC e_93 e_89 (by simp))).trans e_93
      have e_102 := (f_88 q (xw_neC e_94 e_89 (by simp))).trans e_94
      have e_103 := (f_88 q_23 n_25).trans e_95
      have r_104 := r_96.up (by simp) f_88
      refine s_Store_putVersion_96 ?_
      have hver : VerOK A h_86 q_23 := ⟨na_56, _, _, r, p, q, e_103, hr1, hr2, hp.fr r_104 SB, hq.fr r_104 SB⟩
      rw [nI_clamp (by omega)] at e_97
      rw [nI_1] at e_87
      rw [nI_clamp (by omega)] at e_98
      exact ⟨_, q_23, rfl, ⟨_, pc + 1, _, _, _, ⟨e_87, e_97, e_98, e_99, e_100, by omega, hsc, hlc, (allRU (allR hR r_104 SB) hver), (allU (allV hP r_104 SB) hver), allS hS r_104 SB, allV hV r_104 SB, hAO.fr r_104 (exC e_87 (exC e_97 (exC e_98 exN)))⟩, e_103, rfl, rfl, Or.inl ⟨z_58, hl1, rfl, rfl, rfl⟩⟩, ⟨_, _, nI_add _ _, ⟨np9, l, z, mp9, kp9, n, fp9, gp9, nlp, nzp, Kp9, hd_13⟩, ⟨nq9, l2, z2, mq9, kq9, n2, fq9, gq9, nlq, nzq, Kq9, hd_19⟩⟩, r_104⟩
set_option maxHeartbeats 400000 in
theorem g_clearRow {G : xw_G} {F L : Nat} {h : xw_A} {r : Int32} {A : List Nat} {st s1 s2 s3 s4 : Nat} {fr fp fs fl : Nat → Option Nat} {pc sc lc : Nat} {pe vm sm : Int32} (K : StoC A st s1 s2 s3 s4 fr fp fs fl pc sc lc pe vm sm h) (SA : StA A st s1 s2 s3 s4) (hF : 1 ≤ F) (hL : 20 ≤ L) :
    xw_Met G m_Store_clearRow F L 0 0 [.ref st, .int r] h (fun v h' => v = none ∧ (∃ fr' : Nat → Option Nat, StoC A st s1 s2 s3 s4 fr' fp fs fl pc sc lc pe vm sm h' ∧ ∀ j, 1 ≤ j → j ≤ 24 → r = nI j → fr' = va_up fr j none) ∧ FrO [s1] h h') (fun _ _ => False) := by
  refine xw_Met.of rfl (by decide) (Nat.le_of_ble_eq_true rfl) ?_
  have K0 := K
  obtain ⟨e_st, e_s1, e_s2, e_s3, e_s4, hpc, hsc, hlc, hR, hP, hS, hV, hAO⟩ := K
  have SB : ∀ q ∈ [s1], q ∈ A := suC SA.2.1 suN
  have r0 : FrO [s1] h h := FrO.rf
  refine s_Store_clearRow_0 (fun z_1 => ?_) (fun z_2 => ?_)
  · skip
    refine s_Store_clearRow_18 ?_
    exact ⟨rfl, ⟨fr, K0, fun j9 h91 h92 e9 => absurd z_1 (row_rng h91 h92 e9).1⟩, r0⟩
  · skip
    refine s_Store_clearRow_5 (fun z_3 => ?_) (fun z_4 => ?_)
    · skip
      refine s_Store_clearRow_18 ?_
      exact ⟨rfl, ⟨fr, K0, fun j9 h91 h92 e9 => absurd z_3 (row_rng h91 h92 e9).2⟩, r0⟩
    · skip
      refine s_Store_clearRow_11 (pending_a0 := some s2) (segments_a0 := some s3) (live_a0 := some s4) e_st e_s1 (row_in z_2 z_4) ?_
      refine x_u1 (fun h_5 e_6 f_7 => ?_)
      have e_8 := (f_7 st (xw_neC e_st e_s1 (by simp))).trans e_st
      have e_9 := (f_7 s2 (xw_neC e_s2 e_s1 (by simp))).trans e_s2
      have e_10 := (f_7 s3 (xw_neC e_s3 e_s1 (by simp))).trans e_s3
      have e_11 := (f_7 s4 (xw_neC e_s4 e_s1 (by simp))).trans e_s4
      have r_12 := r0.up (by simp) f_7
      refine s_Store_clearRow_18 ?_
      exact ⟨rfl, ⟨_, ⟨e_8, e_6, e_9, e_10, e_11, hpc, hsc, hlc, allRN (allR hR r_12 SB), allV hP r_12 SB, allS hS r_12 SB, allV hV r_12 SB, hAO.fr r_12 (exC e_6 exN)⟩, fun j9 h91 h92 e9 => by rw [e9, nI_clamp (by omega)]⟩, r_12⟩
set_option maxHeartbeats 2000000 in
theorem lp_cp1 {G : xw_G} {F L bc bs : Nat} {pr : Option Value → xw_A → Prop} {px : String → xw_A → Prop} {h0 : xw_A} {A : List Nat} {sv v1 v2 v3 v4 st s1 s2 s3 s4 : Nat} {fp fs fl : Nat → Option Nat} {pc sc lc : Nat} {pe vm sm : Int32} {gr gp gs gl : Nat → Option Nat} {pd sd ld : Nat} {qe wm tm : Int32} (SA : StA A sv v1 v2 v3 v4) (NE : sv ≠ st ∧ v1 ≠ s1 ∧ v2 ≠ s2 ∧ v3 ≠ s3 ∧ v4 ≠ s4)
    (kk : ∀ (h : xw_A) (fr : Nat → Option Nat), StoC A sv v1 v2 v3 v4 fr fp fs fl pc sc lc pe vm sm h → StoC A st s1 s2 s3 s4 gr gp gs gl pd sd ld qe wm tm h → (∀ j, 1 ≤ j → j ≤ 24 → fr j = gr j) → FrO [v1] h0 h → xw G m_Store_copyFrom F L bc bs pr px 26 [some (.ref sv), some (.ref st), none] [] h) :
    ∀ (d i : Nat) (h : xw_A) (fr : Nat → Option Nat), i + d = 25 → StoC A sv v1 v2 v3 v4 fr fp fs fl pc sc lc pe vm sm h → StoC A st s1 s2 s3 s4 gr gp gs gl pd sd ld qe wm tm h → (∀ j, 1 ≤ j → j < i → fr j = gr j) → FrO [v1] h0 h → xw G m_Store_copyFrom F L bc bs pr px 2 [some (.ref sv), some (.ref st), some (.int (nI i))] [] h := by
  intro d
  induction d with
  | zero =>
    intro i h fr hi K K2 hc r0
    obtain rfl : i = 25 := by omega
    refine s_Store_copyFrom_2 (fun _ => ?_) (fun z => absurd (by decide) z)
    exact kk _ _ K K2 (fun j h1 h2 => hc j h1 (by omega)) r0
  | succ d ih =>
    intro i h fr hi K K2 hc r0
    obtain ⟨e_sv, e_v1, e_v2, e_v3, e_v4, hpc, hsc, hlc, hR, hP, hS, hV, hAO⟩ := id K
    obtain ⟨g_st, g_s1, g_s2, g_s3, g_s4, hpd, hsd, hld, gR, gP, gS, gV, -⟩ := id K2
    have SB : ∀ q ∈ [v1], q ∈ A := suC SA.2.1 suN
    have n0 : sv ≠ v1 := xw_neC e_sv e_v1 (by simp)
    have n2 : v2 ≠ v1 := xw_neC e_v2 e_v1 (by simp)
    have n3 : v3 ≠ v1 := xw_neC e_v3 e_v1 (by simp)
    have n4 : v4 ≠ v1 := xw_neC e_v4 e_v1 (by simp)
    refine s_Store_copyFrom_2 (fun z => absurd z (nI_nlt (a := 24) (show i ≤ 24 by omega) (by decide))) (fun _ => ?_)
    cases hg : gr i with
    | none =>
      refine s_Store_copyFrom_8n (pending_a0 := some v2) (segments_a0 := some v3) (live_a0 := some v4) (pending_a1 := some s2) (segments_a1 := some s3) (live_a1 := some s4) e_sv g_st g_s1 (vp_in_nI (by omega) (by decide)) (by rw [nI_clamp (by omega)]; exact hg) e_v1 (vp_in_nI (by omega) (by decide)) ?_
      refine x_u1 (fun h1 e1 f1 => ?_)
      have fq : FrO [v1] h h1 := FrO.rf.up (by simp) f1
      have K3 := K2.fr fq SB ⟨(by simp only [List.mem_cons, List.not_mem_nil, or_false]; exact xw_neC g_st e_v1 (by simp)), (by simp only [List.mem_cons, List.not_mem_nil, or_false]; exact Ne.symm NE.2.1), (by simp only [List.mem_cons, List.not_mem_nil, or_false]; exact xw_neC g_s2 e_v1 (by simp)), (by simp only [List.mem_cons, List.not_mem_nil, or_false]; exact xw_neC g_s3 e_v1 (by simp)), (by simp only [List.mem_cons, List.not_mem_nil, or_false]; exact xw_neC g_s4 e_v1 (by simp))⟩ (exC e1 exN)
      rw [nI_1]
      exact ih (i + 1) _ _ (by omega) ⟨(f1 _ n0).trans e_sv, e1, (f1 _ n2).trans e_v2, (f1 _ n3).trans e_v3, (f1 _ n4).trans e_v4, hpc, hsc, hlc, allRN (allR hR fq SB), allV hP fq SB, allS hS fq SB, allV hV fq SB, hAO.fr fq (exC e1 exN)⟩ K3 (fun j h1 h2 => by rw [nI_clamp (by omega)]; by_cases q : j = i; (rw [q, va_up_self, hg]); (rw [va_up_ne _ _ q]; exact hc j h1 (by omega))) (r0.trans fq)
    | some b =>
      have hv := gR _ _ hg
      obtain ⟨-, wn, we, wr, wp, wq, ew, -⟩ := id hv
      refine s_Store_copyFrom_8 (g18 := b) (first_g18 := some wp) (second_g18 := some wq) (pending_a0 := some v2) (segments_a0 := some v3) (live_a0 := some v4) (pending_a1 := some s2) (segments_a1 := some s3) (live_a1 := some s4) e_sv g_st g_s1 (vp_in_nI (by omega) (by decide)) (by rw [nI_clamp (by omega)]; exact hg) e_v1 (vp_in_nI (by omega) (by decide)) ew ?_
      refine x_u1 (fun h1 e1 f1 => ?_)
      have fq : FrO [v1] h h1 := FrO.rf.up (by simp) f1
      have K3 := K2.fr fq SB ⟨(by simp only [List.mem_cons, List.not_mem_nil, or_false]; exact xw_neC g_st e_v1 (by simp)), (by simp only [List.mem_cons, List.not_mem_nil, or_false]; exact Ne.symm NE.2.1), (by simp only [List.mem_cons, List.not_mem_nil, or_false]; exact xw_neC g_s2 e_v1 (by simp)), (by simp only [List.mem_cons, List.not_mem_nil, or_false]; exact xw_neC g_s3 e_v1 (by simp)), (by simp only [List.mem_cons, List.not_mem_nil, or_false]; exact xw_neC g_s4 e_v1 (by simp))⟩ (exC e1 exN)
      rw [nI_1]
      exact ih (i + 1) _ _ (by omega) ⟨(f1 _ n0).trans e_sv, e1, (f1 _ n2).trans e_v2, (f1 _ n3).trans e_v3, (f1 _ n4).trans e_v4, hpc, hsc, hlc, allRU (allR hR fq SB) (hv.fr fq SB), allV hP fq SB, allS hS fq SB, allV hV fq SB, hAO.fr fq (exC e1 exN)⟩ K3 (fun j h1 h2 => by rw [nI_clamp (by omega)]; by_cases q : j = i; (rw [q, va_up_self, hg]); (rw [va_up_ne _ _ q]; exact hc j h1 (by omega))) (r0.trans fq)
