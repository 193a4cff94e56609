/-! the class in general states: by program (wip/tools/gen2.py) -/
set_option maxHeartbeats 400000 in
theorem lp_lnU {G : xw_G} {F L bc bs : Nat} {pr : Option Value → xw_A → Prop} {px : String → xw_A → Prop} {h : xw_A} {r : UInt64 × Int32} (kk : xw G m_Answers_ln F L bc bs pr px 38 [none, none, some (.double r.1), none, some (.int r.2), none, none, none, none, none, none, none] [] h) :
    ∀ (dd i : Nat) (x : UInt64) (k : Int32), i + dd = 64 → lnU dd x k = some r → xw G m_Answers_ln F L bc bs pr px 8 [none, none, some (.double x), none, some (.int k), some (.int (nI i)), none, none, none, none, none, none] [] h := by
  intro dd
  induction dd with
  | zero =>
    intro i x k hi hp
    obtain rfl : i = 64 := by omega
    refine s_Answers_ln_8 (fun _ => ?_) (fun z => absurd (by decide) z)
    rw [lnU] at hp
    rw [← Option.some.inj hp] at kk
    exact kk
  | succ dd ih =>
    intro i x k hi hp
    rw [lnU] at hp
    refine s_Answers_ln_8 (fun z => absurd z (nI_ge (b := 64) (show i < 64 by omega) (by decide))) (fun _ => ?_)
    refine s_Answers_ln_15 (fun z => ?_) (fun z => ?_)
    · rw [if_pos z] at hp
      rw [← Option.some.inj hp] at kk
      exact kk
    · rw [if_neg z] at hp
      by_cases hw : n64 (FP.ddiv x 4611686018427387904) = true
      · rw [if_pos hw] at hp
        refine s_Answers_ln_23 (n64.of hw) ?_
        rw [nI_1]
        exact ih (i + 1) _ _ (by omega) hp
      · rw [if_neg hw] at hp
        cases hp
set_option maxHeartbeats 400000 in
theorem lp_lnD {G : xw_G} {F L bc bs : Nat} {pr : Option Value → xw_A → Prop} {px : String → xw_A → Prop} {h : xw_A} {r : UInt64 × Int32} (kk : xw G m_Answers_ln F L bc bs pr px 71 [none, none, some (.double r.1), none, some (.int r.2), none, none, none, none, none, none, none] [] h) :
    ∀ (dd i : Nat) (x : UInt64) (k : Int32), i + dd = 64 → lnD dd x k = some r → xw G m_Answers_ln F L bc bs pr px 41 [none, none, some (.double x), none, some (.int k), some (.int (nI i)), none, none, none, none, none, none] [] h := by
  intro dd
  induction dd with
  | zero =>
    intro i x k hi hp
    obtain rfl : i = 64 := by omega
    refine s_Answers_ln_41 (fun _ => ?_) (fun z => absurd (by decide) z)
    rw [lnD] at hp
    rw [← Option.some.inj hp] at kk
    exact kk
  | succ dd ih =>
    intro i x k hi hp
    rw [lnD] at hp
    refine s_Answers_ln_41 (fun z => absurd z (nI_ge (b := 64) (show i < 64 by omega) (by decide))) (fun _ => ?_)
    refine s_Answers_ln_48 (fun z => ?_) (fun z => ?_)
    · rw [if_pos z] at hp
      rw [← Option.some.inj hp] at kk
      exact kk
    · rw [if_neg z] at hp
      by_cases hw : n64 (FP.dmul x 4611686018427387904) = true
      · rw [if_pos hw] at hp
        refine s_Answers_ln_56 (n64.of hw) ?_
        rw [nI_1]
        exact ih (i + 1) _ _ (by omega) hp
      · rw [if_neg hw] at hp
        cases hp
def jLst : Nat → List Int32
  | 0 => []
  | n + 1 => nI (2 * n + 1) :: jLst n
def jVal : Nat → Int32
  | 0 => -1
  | n + 1 => nI (2 * n + 1)
theorem jVal_next : ∀ n, n < 10 → jVal (n + 1) + (-2) = jVal n := by decide
set_option maxHeartbeats 400000 in
theorem lp_lnS {G : xw_G} {F L bc bs : Nat} {pr : Option Value → xw_A → Prop} {px : String → xw_A → Prop} {h : xw_A} {k : Int32} {y z t : UInt64} (kk : xw G m_Answers_ln F L bc bs pr px 119 [none, none, none, none, some (.int k), some (.double z), none, none, none, some (.double t), none, none] [] h) :
    ∀ (n : Nat), n ≤ 10 → ∀ s : UInt64, lnS y (jLst n) s = some t → xw G m_Answers_ln F L bc bs pr px 94 [none, none, none, none, some (.int k), some (.double z), none, some (.double y), none, some (.double s), none, some (.int (jVal n))] [] h := by
  intro n
  induction n with
  | zero =>
    intro _ s hp
    refine s_Answers_ln_94 (fun _ => ?_) (fun z => absurd (by decide) z)
    rw [jLst, lnS] at hp
    rw [← Option.some.inj hp] at kk
    exact kk
  | succ n ih =>
    intro hn s hp
    refine s_Answers_ln_94 (fun z => absurd z (nI_nlt (a := 2 * n + 1) (b := 1) (by omega) (by omega))) (fun _ => ?_)
    rw [jLst, lnS] at hp
    by_cases hw : n64 (FP.dmul s y) = true ∧ n64 (FP.ddiv FP.dconst1 (FP.i2d (nI (2 * n + 1)))) = true ∧ n64 (FP.dadd (FP.dmul s y) (FP.ddiv FP.dconst1 (FP.i2d (nI (2 * n + 1))))) = true
    · rw [if_pos hw] at hp
      refine s_Answers_ln_100 (n64.of hw.1) (n64.of hw.2.1) (n64.of hw.2.2) ?_
      rw [jVal_next n (by omega)]
      exact ih (by omega) _ hp
    · rw [if_neg hw] at hp
      cases hp
set_option maxHeartbeats 400000 in
theorem g_ln {G : xw_G} {F L : Nat} {h : xw_A} {x y : UInt64} (hy : lnF x = some y) (hF : 1 ≤ F) (hL : 20 ≤ L) : xw_Met G m_Answers_ln F L 0 0 [.double x] h (fun v h' => v = some (.double y) ∧ h = h') (fun _ _ => False) := by
  refine xw_Met.of rfl (by decide) (Nat.le_of_ble_eq_true rfl) ?_
  rw [lnF] at hy
  cases hU : lnU 64 x 0 with
  | none => rw [hU] at hy; cases hy
  | some p =>
    rw [hU] at hy
    change (lnD 64 p.1 p.2).bind (fun q => lnT q.1 q.2) = some y at hy
    cases hD : lnD 64 p.1 p.2 with
    | none => rw [hD] at hy; cases hy
    | some q =>
      rw [hD] at hy
      change lnT q.1 q.2 = some y at hy
      rw [lnT] at hy
      by_cases hw : n64 (FP.dsub q.1 FP.dconst1) = true ∧ n64 (FP.dadd q.1 FP.dconst1) = true ∧ n64 (lnZ q.1) = true ∧ n64 (FP.dmul (lnZ q.1) (lnZ q.1)) = true
      · rw [if_pos hw] at hy
        cases hS : lnS (FP.dmul (lnZ q.1) (lnZ q.1)) [19, 17, 15, 13, 11, 9, 7, 5, 3, 1] FP.dconst0 with
        | none => rw [hS] at hy; cases hy
        | some t =>
          rw [hS] at hy
          change lnE (lnZ q.1) q.2 t = some y at hy
          rw [lnE] at hy
          by_cases hv : n64 (FP.dmul 4611686018427387904 (lnZ q.1)) = true ∧ n64 (FP.dmul (FP.dmul 4611686018427387904 (lnZ q.1)) t) = true ∧ n64 (FP.dmul (FP.i2d q.2) 4604418534313441775) = true ∧ n64 (FP.dadd (FP.dmul (FP.dmul 4611686018427387904 (lnZ q.1)) t) (FP.dmul (FP.i2d q.2) 4604418534313441775)) = true
          · rw [if_pos hv] at hy
            refine s_Answers_ln_0 ?_
            refine lp_lnU ?_ 64 0 _ _ rfl hU
            refine s_Answers_ln_38 ?_
            refine lp_lnD ?_ 64 0 _ _ rfl hD
            refine s_Answers_ln_71 (n64.of hw.1) (n64.of hw.2.1) (n64.of hw.2.2.1) (n64.of hw.2.2.2) ?_
            refine lp_lnS (t := t) ?_ 10 (Nat.le_refl _) _ hS
            refine s_Answers_ln_119 (n64.of hv.1) (n64.of hv.2.1) (n64.of hv.2.2.1) (n64.of hv.2.2.2) ?_
            exact ⟨congrArg (fun z => some (Value.double z)) (Option.some.inj hy), rfl⟩
          · rw [if_neg hv] at hy
            cases hy
      · rw [if_neg hw] at hy
        cases hy
set_option maxHeartbeats 400000 in
theorem g_rarity {G : xw_G} {F L : Nat} {h : xw_A} {r w : Nat} (hr : r < 25) (hw : w < 25) (hF : 2 ≤ F) (hL : 60 ≤ L) : xw_Met G m_Answers_rarity F L 0 0 [.int (nI r), .int (nI w)] h (fun v h' => (∃ y : UInt64, v = some (.double y) ∧ smB y = true) ∧ h = h') (fun _ _ => False) := by
  have hk := lnOK_all r hr w hw
  rw [lnOK] at hk
  simp only [Bool.and_eq_true] at hk
  obtain ⟨⟨⟨k1, k2⟩, k3⟩, k4⟩ := hk
  cases hF2 : lnF (lnA (nI r) (nI w)) with
  | none => rw [hF2] at k4; cases k4
  | some y =>
    rw [hF2] at k4
    refine xw_Met.of rfl (by decide) (Nat.le_of_ble_eq_true rfl) ?_
    refine s_Answers_rarity_0 (n64.of k1) (n64.of k2) (n64.of k3) ?_
    refine x_callS (As := [.double (lnA (nI r) (nI w))]) (rest := []) (F1 := 1) (L1 := 20) (mc := 0) (ms := 0) d_Answers_rarity_15 cS_Answers_83 (g_ln hF2 (by omega) (by omega)) ⟨by omega, by show 8 + (12 + 11) + 20 ≤ _; omega⟩ ⟨by omega, by omega⟩ (Nat.le_of_ble_eq_true rfl) (fun v h1 p => ?_)
    obtain ⟨rfl, rfl⟩ := p
    refine x_le (xw_le_n (xw_le_n (xw_le_n (xw_le_n xw_le_e)))) ?_
    refine s_Answers_rarity_18 (fun z => ?_) (fun z => ?_)
    · refine s_Answers_rarity_29 ?_
      exact s_Answers_rarity_32 ⟨⟨_, rfl, by decide +kernel⟩, rfl⟩
    · refine s_Answers_rarity_25 ?_
      refine s_Answers_rarity_32 ⟨⟨_, rfl, ?_⟩, rfl⟩
      rcases Bool.or_eq_true _ _ |>.mp k4 with q | q
      · exact absurd (of_decide_eq_true q) z
      · exact q
set_option maxHeartbeats 2000000 in
theorem lp_addPhrase {G : xw_G} {F L bc bs : Nat} {pr : Option Value → xw_A → Prop} {px : String → xw_A → Prop} {ao o1 o2 o3 o4 : Nat} {so sp w a qo : Nat} {ra av : UInt64} {pf wf : Nat → Int32} {w0 w1 : Nat} {h0 : xw_A} {sz : Nat} {f1 f3 f4 : Nat → Int32} {g2 : Nat → UInt64} (R0 : AnsR ao o1 o2 o3 o4 sz f1 g2 f3 f4 h0) (f_so : h0 so = some (.inr (7, [.ref sp, .ref qo]))) (f_sp : h0 sp = some (.inl (0, 576, .inl pf))) (f_w : h0 w = some (.inl (0, 2, .inl wf))) (hw0 : wf 0 = nI w0 ∧ w0 ≤ 9) (hw1 : wf 1 = nI w1 ∧ w1 ≤ 9) (ha : a < 12) (hra : smB ra = true) (hav : PO av) (hF : 3 ≤ F) (hL : 65 ≤ L) (kk : ∀ (h : xw_A) (f2 : Nat → UInt64), h o2 = some (.inl (3, 24, .inr (.inr (.inr (.inl f2))))) → (∀ j, j < sz → NN (f2 j)) → FrO [o2] h0 h → pr none h) :
    ∀ (dd i : Nat) (h : xw_A) (f2 : Nat → UInt64), i + dd = sz → h o2 = some (.inl (3, 24, .inr (.inr (.inr (.inl f2))))) → (∀ j, j < sz → NN (f2 j)) → FrO [o2] h0 h → xw G m_Answers_addPhrase F L bc bs pr px 3 [some (.ref ao), some (.ref so), some (.int (nI a)), some (.ref w), some (.double ra), none, some (.double av), none, some (.int (nI i)), none] [] h := by
  intro dd
  induction dd with
  | zero =>
    intro i h f2 hi e_o2 hN r0
    obtain rfl : i = sz := by omega
    obtain ⟨f_ao, f_o1, f_o2, f_o3, f_o4, hsz, hAR⟩ := id R0
    have e_ao := r0 ao _ (nm1 (xw_neC f_ao R0.2.2.1 (by simp))) f_ao
    have e_o1 := r0 o1 _ (nm1 (xw_neC f_o1 R0.2.2.1 (by simp))) f_o1
    have e_o3 := r0 o3 _ (nm1 (xw_neC f_o3 R0.2.2.1 (by simp))) f_o3
    have e_so := r0 so _ (nm1 (xw_neC f_so R0.2.2.1 (by simp))) f_so
    have e_sp := r0 sp _ (nm1 (xw_neC f_sp R0.2.2.1 (by simp))) f_sp
    have e_w := r0 w _ (nm1 (xw_neC f_w R0.2.2.1 (by simp))) f_w
    refine s_Answers_addPhrase_3 (rows_a0 := some o1) (scores_a0 := some o2) (lengths_a0 := some o3) (order_a0 := some o4) e_ao (fun z_1 => ?_) (fun z => absurd (nI_le (Nat.le_refl _) (by omega)) z)
    refine s_Answers_addPhrase_114 ?_
    exact kk _ _ e_o2 hN r0
  | succ dd ih =>
    intro i h f2 hi e_o2 hN r0
    obtain ⟨f_ao, f_o1, f_o2, f_o3, f_o4, hsz, hAR⟩ := id R0
    have e_ao := r0 ao _ (nm1 (xw_neC f_ao R0.2.2.1 (by simp))) f_ao
    have e_o1 := r0 o1 _ (nm1 (xw_neC f_o1 R0.2.2.1 (by simp))) f_o1
    have e_o3 := r0 o3 _ (nm1 (xw_neC f_o3 R0.2.2.1 (by simp))) f_o3
    have e_so := r0 so _ (nm1 (xw_neC f_so R0.2.2.1 (by simp))) f_so
    have e_sp := r0 sp _ (nm1 (xw_neC f_sp R0.2.2.1 (by simp))) f_sp
    have e_w := r0 w _ (nm1 (xw_neC f_w R0.2.2.1 (by simp))) f_w
    refine s_Answers_addPhrase_3 (rows_a0 := some o1) (scores_a0 := some o2) (lengths_a0 := some o3) (order_a0 := some o4) e_ao (fun z => absurd z (nI_ge (b := sz) (show i < sz by omega) (by omega))) (fun z_1 => ?_)
    obtain ⟨r, len, h1, hr1, hr2, h3, hlen, -⟩ := hAR i (by omega)
    have er : f1 (nI i).toNatClampNeg = nI r := by rw [nI_clamp (by omega)]; exact h1
    have el : f3 (nI i).toNatClampNeg = nI len := by rw [nI_clamp (by omega)]; exact h3
    refine s_Answers_addPhrase_12 (scores_a0 := some o2) (lengths_a0 := some o3) (order_a0 := some o4) e_ao e_o1 (vp_in_nI (by omega) (by omega)) ?_
    rw [er]
    refine x_callV (As := [.int (nI a), .int (nI r), .int (nI 0)]) (b := so) (rest := []) (F1 := 2) (L1 := 42) (mc := 0) (ms := 0) d_Answers_addPhrase_22 cV_Answers_64 (g_placesOf e_so e_sp ha hr1 hr2 (by decide) (by omega) (by omega)) e_so ⟨by decide, rfl⟩ ⟨by omega, by show 8 + (4 + 11) + 42 ≤ _; omega⟩ ⟨by omega, by omega⟩ (Nat.le_of_ble_eq_true rfl) (fun v_4 h_3 p_5 => ?_)
    obtain ⟨⟨y_2, rfl⟩, rfl⟩ := p_5
    refine x_callS (As := [.int y_2]) (rest := []) (F1 := 1) (L1 := 20) (mc := 0) (ms := 0) d_Answers_addPhrase_25 cS_Answers_68 (j_bits (by omega) (by omega)) ⟨by omega, by show 8 + (1 + 11) + 20 ≤ _; omega⟩ ⟨by omega, by omega⟩ (Nat.le_of_ble_eq_true rfl) (fun v_9 h_8 p_10 => ?_)
    obtain ⟨⟨c_6, rfl, hc_7⟩, rfl⟩ := p_10
    refine s_Answers_addPhrase_28 (scores_a0 := some o2) (lengths_a0 := some o3) (order_a0 := some o4) e_w (by unfold vp_in; decide) e_ao e_o1 (vp_in_nI (by omega) (by omega)) ?_
    rw [er]
    refine x_callV (As := [.int (nI a), .int (nI r), .int (nI 1)]) (b := so) (rest := [.int ((nI c_6) * (wf (0 : Int32).toNatClampNeg))]) (F1 := 2) (L1 := 42) (mc := 0) (ms := 0) d_Answers_addPhrase_42 cV_Answers_64 (g_placesOf e_so e_sp ha hr1 hr2 (by decide) (by omega) (by omega)) e_so ⟨by decide, rfl⟩ ⟨by omega, by show 8 + (4 + 11) + 42 ≤ _; omega⟩ ⟨by omega, by omega⟩ (Nat.le_of_ble_eq_true rfl) (fun v_13 h_12 p_14 => ?_)
    obtain ⟨⟨y_11, rfl⟩, rfl⟩ := p_14
    refine x_callS (As := [.int y_11]) (rest := [.int ((nI c_6) * (wf (0 : Int32).toNatClampNeg))]) (F1 := 1) (L1 := 20) (mc := 0) (ms := 0) d_Answers_addPhrase_45 cS_Answers_68 (j_bits (by omega) (by omega)) ⟨by omega, by show 8 + (1 + 11) + 20 ≤ _; omega⟩ ⟨by omega, by omega⟩ (Nat.le_of_ble_eq_true rfl) (fun v_18 h_17 p_19 => ?_)
    obtain ⟨⟨c_15, rfl, hc_16⟩, rfl⟩ := p_19
    rw [show wf (0 : Int32).toNatClampNeg = nI w0 from hw0.1, pk_mul]
    refine s_Answers_addPhrase_48 e_w (by unfold vp_in; decide) (fun z_20 => ?_) (fun z_21 => ?_)
    · skip
      refine s_Answers_addPhrase_108 ?_
      rw [nI_1]
      exact ih (i + 1) _ _ (by omega) e_o2 hN r0
    · skip
      rw [show wf (1 : Int32).toNatClampNeg = nI w1 from hw1.1, pk_mul, nI_add] at z_21 ⊢
      have hm1 := Nat.mul_le_mul hc_7 hw0.2
      have hm2 := Nat.mul_le_mul hc_16 hw1.2
      obtain ⟨fN, hfN⟩ : ∃ fN, fN = c_6 * w0 + c_15 * w1 := ⟨_, rfl⟩
      rw [← hfN] at z_21 ⊢
      have hf1 : ¬ fN = 0 := fun q => z_21 (by rw [q]; decide)
      have hf2 : fN < 1135 := by omega
      have q1 := (me_i2d fN (by omega)).resolve_left hf1
      have q76 := (me_22 fN hf2).resolve_left hf1
      have q77 := fi_dmul hra (meB.sm q76)
      have q98 : smB (FP.dmul 4604930618986332160 (FP.i2d (f3 (nI i).toNatClampNeg))) = true := by rw [el]; exact sm_len len (by omega)
      have q101 := nn_ddiv (smB.fi q98) hav
      have q102 := nn_dadd (x := 4598175219545276416) (PO.nn (meB.po (by decide +kernel))) q101
      have q103 := nn_dmul (x := 4608083138725491507) (by decide +kernel) q102
      have q104 := po_dadd q1 q103
      have q105 := nn_ddiv q77 q104
      have hnn2 : NN (f2 (nI i).toNatClampNeg) := by rw [nI_clamp (by omega)]; exact hN i (by omega)
      have q106 := nn_dadd hnn2 q105
      refine s_Answers_addPhrase_60 (rows_a0 := some o1) (order_a0 := some o4) e_ao e_o2 (vp_in_nI (by omega) (by omega)) (NN.num (FI.nn (smB.fi (meB.sm q76)))) (NN.num (FI.nn q77)) e_o3 (vp_in_nI (by omega) (by omega)) (NN.num (FI.nn (smB.fi q98))) (NN.num q101) (NN.num q102) (NN.num q103) (NN.num (PO.nn q104)) (NN.num q105) (NN.num q106) (vp_in_nI (by omega) (by omega)) ?_
      refine x_u1 (fun h_22 e_23 f_24 => ?_)
      have e_25 := (f_24 ao (xw_neC e_ao e_o2 (by simp))).trans e_ao
      have e_26 := (f_24 o1 (xw_neC e_o1 e_o2 (by simp))).trans e_o1
      have e_27 := (f_24 o3 (xw_neC e_o3 e_o2 (by simp))).trans e_o3
      have e_28 := (f_24 so (xw_neC e_so e_o2 (by simp))).trans e_so
      have e_29 := (f_24 sp (xw_neC e_sp e_o2 (by simp))).trans e_sp
      have e_30 := (f_24 w (xw_neC e_w e_o2 (by simp))).trans e_w
      have r_31 := r0.up (by simp) f_24
      refine s_Answers_addPhrase_108 ?_
      rw [nI_1]
      rw [nI_clamp (show i < 2 ^ 31 by omega)] at e_23
      refine ih (i + 1) _ _ (by omega) e_23 (fun j hj => ?_) r_31
      by_cases q : j = i
      · rw [q, vf_us]; rw [nI_clamp (show i < 2 ^ 31 by omega)] at q106; exact q106
      · rw [vf_un q]; exact hN j hj
theorem g_addPhrase {G : xw_G} {F L : Nat} {h : xw_A} {ao o1 o2 o3 o4 : Nat} {so sp w a qo : Nat} {ra av : UInt64} {pf wf : Nat → Int32} {w0 w1 : Nat} {sz : Nat} {f1 f3 f4 : Nat → Int32} {g2 : Nat → UInt64} (R0 : AnsR ao o1 o2 o3 o4 sz f1 g2 f3 f4 h) (f_so : h so = some (.inr (7, [.ref sp, .ref qo]))) (f_sp : h sp = some (.inl (0, 576, .inl pf))) (f_w : h w = some (.inl (0, 2, .inl wf))) (hw0 : wf 0 = nI w0 ∧ w0 ≤ 9) (hw1 : wf 1 = nI w1 ∧ w1 ≤ 9) (ha : a < 12) (hra : smB ra = true) (hav : PO av) (hF : 3 ≤ F) (hL : 65 ≤ L) :
    xw_Met G m_Answers_addPhrase F L 0 0 [.ref ao, .ref so, .int (nI a), .ref w, .double ra, .double av] h (fun v h' => v = none ∧ (∃ f2 : Nat → UInt64, AnsR ao o1 o2 o3 o4 sz f1 f2 f3 f4 h') ∧ FrO [o2] h h') (fun _ _ => False) := by
  refine xw_Met.of rfl (by decide) (Nat.le_of_ble_eq_true rfl) ?_
  refine s_Answers_addPhrase_0 ?_
  refine lp_addPhrase R0 f_so f_sp f_w hw0 hw1 ha hra hav hF hL (fun h2 f2 e2 hN r2 => ⟨rfl, ⟨f2, ?_⟩, r2⟩) sz 0 _ _ (Nat.zero_add _) R0.2.2.1 (fun j hj => (R0.2.2.2.2.2.2 j hj).elim (fun _ q => q.elim (fun _ q => q.2.2.2.2.2))) FrO.rf
  obtain ⟨f_ao, f_o1, f_o2, f_o3, f_o4, hsz, hAR⟩ := R0
  refine ⟨r2 ao _ (nm1 (xw_neC f_ao f_o2 (by simp))) f_ao, r2 o1 _ (nm1 (xw_neC f_o1 f_o2 (by simp))) f_o1, e2, r2 o3 _ (nm1 (xw_neC f_o3 f_o2 (by simp))) f_o3, r2 o4 _ (nm1 (xw_neC f_o4 f_o2 (by simp))) f_o4, hsz, fun i hi => ?_⟩
  obtain ⟨r, len, a1, a2, a3, a4, a5, -⟩ := hAR i hi
  exact ⟨r, len, a1, a2, a3, a4, a5, hN i hi⟩
theorem nn0 : NN FP.dconst0 := FI.nn (smB.fi (by decide +kernel))
set_option maxHeartbeats 2000000 in
theorem lp_take {G : xw_G} {F L bc bs : Nat} {pr : Option Value → xw_A → Prop} {px : String → xw_A → Prop} {ao o1 o2 o3 o4 : Nat} {h0 : xw_A} {fs0 : List Value} {m1 m3 f4 : Nat → Int32} {m2 : Nat → UInt64} {x : Int32} (g_ao : h0 ao = some (.inr (1, fs0))) (g_o1 : h0 o1 = some (.inl (0, 24, .inl m1))) (g_o2 : h0 o2 = some (.inl (3, 24, .inr (.inr (.inr (.inl m2)))))) (g_o3 : h0 o3 = some (.inl (0, 24, .inl m3))) (n13 : o1 ≠ o3) (n14 : o1 ≠ o4) (n34 : o3 ≠ o4) {AL : List Nat} {st s1 s2 s3 s4 : Nat} {er ep es el : Nat → Option Nat} {pc sc lc : Nat} {pe vm sm : Int32} (KS0 : StoC AL st s1 s2 s3 s4 er ep es el pc sc lc pe vm sm h0) (hoA : ao ∈ AL ∧ o1 ∈ AL ∧ o2 ∈ AL ∧ o3 ∈ AL) (hF : 2 ≤ F) (hL : 41 ≤ L) (kk : ∀ (h : xw_A) (sz : Nat) (f1 : Nat → Int32) (f2 : Nat → UInt64) (f3 : Nat → Int32), AnsR ao o1 o2 o3 o4 sz f1 f2 f3 f4 h → FrO [ao, o1, o2, o3] h0 h → pr none h) :
    ∀ (dd i : Nat) (h : xw_A) (sz : Nat) (f1 : Nat → Int32) (f2 : Nat → UInt64) (f3 : Nat → Int32), i + dd = 25 → AnsR ao o1 o2 o3 o4 sz f1 f2 f3 f4 h → sz < i → FrO [ao, o1, o2, o3] h0 h → xw G m_Answers_take F L bc bs pr px 7 [some (.ref ao), some (.int x), some (.ref st), some (.int (nI i)), none] [] h := by
  intro dd
  induction dd with
  | zero =>
    intro i h sz f1 f2 f3 hi R hsi r0
    obtain rfl : i = 25 := by omega
    obtain ⟨e_ao, e_o1, e_o2, e_o3, e_o4, hsz, hAR⟩ := id R
    have KS := KS0.fr r0 (suC hoA.1 (suC hoA.2.1 (suC hoA.2.2.1 (suC hoA.2.2.2 suN)))) ⟨(by simp only [List.mem_cons, List.not_mem_nil, or_false, not_or]; exact ⟨xw_neC KS0.1 g_ao (by simp), xw_neC KS0.1 g_o1 (by simp), xw_neC KS0.1 g_o2 (by simp), xw_neC KS0.1 g_o3 (by simp)⟩), (by simp only [List.mem_cons, List.not_mem_nil, or_false, not_or]; exact ⟨xw_neC KS0.2.1 g_ao (by simp), xw_neC KS0.2.1 g_o1 (by simp), xw_neC KS0.2.1 g_o2 (by simp), xw_neC KS0.2.1 g_o3 (by simp)⟩), (by simp only [List.mem_cons, List.not_mem_nil, or_false, not_or]; exact ⟨xw_neC KS0.2.2.1 g_ao (by simp), xw_neC KS0.2.2.1 g_o1 (by simp), xw_neC KS0.2.2.1 g_o2 (by simp), xw_neC KS0.2.2.1 g_o3 (by simp)⟩), (by simp only [List.mem_cons, List.not_mem_nil, or_false, not_or]; exact ⟨xw_neC KS0.2.2.2.1 g_ao (by simp), xw_neC KS0.2.2.2.1 g_o1 (by simp), xw_neC KS0.2.2.2.1 g_o2 (by simp), xw_neC KS0.2.2.2.1 g_o3 (by simp)⟩), (by simp only [List.mem_cons, List.not_mem_nil, or_false, not_or]; exact ⟨xw_neC KS0.2.2.2.2.1 g_ao (by simp), xw_neC KS0.2.2.2.2.1 g_o1 (by simp), xw_neC KS0.2.2.2.2.1 g_o2 (by simp), xw_neC KS0.2.2.2.2.1 g_o3 (by simp)⟩)⟩ (exC e_ao (exC e_o1 (exC e_o2 (exC e_o3 exN))))
    have e_st := KS.1
    refine s_Answers_take_7 (fun z_1 => ?_) (fun z => absurd (by decide) z)
    refine s_Answers_take_84 ?_
    exact kk _ _ _ _ _ R r0
  | succ dd ih =>
    intro i h sz f1 f2 f3 hi R hsi r0
    obtain ⟨e_ao, e_o1, e_o2, e_o3, e_o4, hsz, hAR⟩ := id R
    have KS := KS0.fr r0 (suC hoA.1 (suC hoA.2.1 (suC hoA.2.2.1 (suC hoA.2.2.2 suN)))) ⟨(by simp only [List.mem_cons, List.not_mem_nil, or_false, not_or]; exact ⟨xw_neC KS0.1 g_ao (by simp), xw_neC KS0.1 g_o1 (by simp), xw_neC KS0.1 g_o2 (by simp), xw_neC KS0.1 g_o3 (by simp)⟩), (by simp only [List.mem_cons, List.not_mem_nil, or_false, not_or]; exact ⟨xw_neC KS0.2.1 g_ao (by simp), xw_neC KS0.2.1 g_o1 (by simp), xw_neC KS0.2.1 g_o2 (by simp), xw_neC KS0.2.1 g_o3 (by simp)⟩), (by simp only [List.mem_cons, List.not_mem_nil, or_false, not_or]; exact ⟨xw_neC KS0.2.2.1 g_ao (by simp), xw_neC KS0.2.2.1 g_o1 (by simp), xw_neC KS0.2.2.1 g_o2 (by simp), xw_neC KS0.2.2.1 g_o3 (by simp)⟩), (by simp only [List.mem_cons, List.not_mem_nil, or_false, not_or]; exact ⟨xw_neC KS0.2.2.2.1 g_ao (by simp), xw_neC KS0.2.2.2.1 g_o1 (by simp), xw_neC KS0.2.2.2.1 g_o2 (by simp), xw_neC KS0.2.2.2.1 g_o3 (by simp)⟩), (by simp only [List.mem_cons, List.not_mem_nil, or_false, not_or]; exact ⟨xw_neC KS0.2.2.2.2.1 g_ao (by simp), xw_neC KS0.2.2.2.2.1 g_o1 (by simp), xw_neC KS0.2.2.2.2.1 g_o2 (by simp), xw_neC KS0.2.2.2.2.1 g_o3 (by simp)⟩)⟩ (exC e_ao (exC e_o1 (exC e_o2 (exC e_o3 exN))))
    have e_st := KS.1
    refine s_Answers_take_7 (fun z => absurd z (nI_nlt (a := 24) (show i ≤ 24 by omega) (by decide))) (fun z_1 => ?_)
    refine s_Answers_take_13 ?_
    refine x_callV (As := [.int (nI i)]) (b := st) (rest := []) (F1 := 1) (L1 := 20) (mc := 0) (ms := 0) d_Answers_take_15 cV_Answers_29 (g_versionOf KS (by omega) (by omega)) e_st ⟨by decide, rfl⟩ ⟨by omega, by show 8 + (2 + 11) + 20 ≤ _; omega⟩ ⟨by omega, by omega⟩ (Nat.le_of_ble_eq_true rfl) (fun v_5 h_4 p_6 => ?_)
    obtain ⟨⟨o_2, rfl, ho_3, -⟩, rfl⟩ := p_6
    refine s_Answers_take_18 (s0 := o_2) (fun z_7 => ?_) (fun a_8 z_9 => ?_)
    · skip
      refine s_Answers_take_78 ?_
      rw [nI_1]
      exact ih (i + 1) _ _ _ _ _ (by omega) R (by omega) r0
    · skip
      refine s_Answers_take_25 (r4 := o_2) (fun z_10 => ?_) (fun z_11 => ?_)
      · skip
        refine s_Answers_take_78 ?_
        rw [nI_1]
        exact ih (i + 1) _ _ _ _ _ (by omega) R (by omega) r0
      · skip
        refine s_Answers_take_34 (r4 := o_2) (scores_a0 := some o2) (lengths_a0 := some o3) (order_a0 := some o4) e_ao e_o1 (vp_in_nI (by omega) (by omega)) ?_
        refine x_u1 (fun h_12 e_13 f_14 => ?_)
        have e_15 := (f_14 ao (xw_neC e_ao e_o1 (by simp))).trans e_ao
        have e_16 := (f_14 o2 (xw_neC e_o2 e_o1 (by simp))).trans e_o2
        have e_17 := (f_14 o3 (Ne.symm n13)).trans e_o3
        have e_18 := (f_14 o4 (Ne.symm n14)).trans e_o4
        have e_19 := (f_14 st (xw_neC e_st e_o1 (by simp))).trans e_st
        have r_20 := r0.up (by simp) f_14
        have fq9 : FrO [o1] h h_12 := FrO.rf.up (by simp) f_14
        obtain ⟨vn, ve, vr, vp, vq, vl, vz, vj, vl2, vz2, vj2, ev1, ev2, ev3, hj1, hj2⟩ := ((ho_3 _ z_9).1.fr fq9 (suC hoA.2.1 suN)).tokens
        rw [z_9]
        refine x_callV (As := []) (b := a_8) (rest := [.int (nI sz), .ref o3]) (F1 := 1) (L1 := 20) (mc := 0) (ms := 0) d_Answers_take_54 cV_Answers_35 (g_vtokens ev1 ev2 ev3 (by omega) (by omega)) ev1 ⟨by decide, rfl⟩ ⟨by omega, by show 8 + (1 + 11) + 20 ≤ _; omega⟩ ⟨by omega, by omega⟩ (Nat.le_of_ble_eq_true rfl) (fun v_22 h_21 p_23 => ?_)
        obtain ⟨rfl, rfl⟩ := p_23
        refine x_le (xw_le_s (xw_le_s (xw_le_s (xw_le_s (xw_le_n xw_le_e))))) ?_
        refine s_Answers_take_57 (rows_a0 := some o1) (lengths_a0 := some o3) (order_a0 := some o4) e_17 (vp_in_nI (by omega) (by omega)) e_15 e_16 (vp_in_nI (by omega) (by omega)) ?_
        refine x_u3 (fun h_24 e_25 f_26 h_27 e_28 f_29 h_30 e_31 f_32 => ?_)
        have e_33 := (f_26 ao (xw_neC e_15 e_17 (by simp))).trans e_15
        have e_34 := (f_26 o1 n13).trans e_13
        have e_35 := (f_26 o2 (xw_neC e_16 e_17 (by simp))).trans e_16
        have e_36 := (f_26 o4 (Ne.symm n34)).trans e_18
        have e_37 := (f_26 st (xw_neC e_19 e_17 (by simp))).trans e_19
        have r_38 := r_20.up (by simp) f_26
        have e_39 := (f_29 ao (xw_neC e_33 e_35 (by simp))).trans e_33
        have e_40 := (f_29 o1 (xw_neC e_34 e_35 (by simp))).trans e_34
        have e_41 := (f_29 o3 (xw_neC e_25 e_35 (by simp))).trans e_25
        have e_42 := (f_29 o4 (xw_neC e_36 e_35 (by simp))).trans e_36
        have e_43 := (f_29 st (xw_neC e_37 e_35 (by simp))).trans e_37
        have r_44 := r_38.up (by simp) f_29
        have e_45 := (f_32 o1 (xw_neC e_40 e_39 (by simp))).trans e_40
        have e_46 := (f_32 o2 (xw_neC e_28 e_39 (by simp))).trans e_28
        have e_47 := (f_32 o3 (xw_neC e_41 e_39 (by simp))).trans e_41
        have e_48 := (f_32 o4 (xw_neC e_42 e_39 (by simp))).trans e_42
        have e_49 := (f_32 st (xw_neC e_43 e_39 (by simp))).trans e_43
        have r_50 := r_44.up (by simp) f_32
        refine s_Answers_take_78 ?_
        rw [nI_1]
        rw [nI_1] at e_31
        rw [nI_clamp (show sz < 2 ^ 31 by omega)] at e_45
        rw [nI_clamp (show sz < 2 ^ 31 by omega)] at e_46
        rw [nI_clamp (show sz < 2 ^ 31 by omega)] at e_47
        refine ih (i + 1) _ _ _ _ _ (by omega) ⟨e_31, e_45, e_46, e_47, e_48, by omega, fun j hj => ?_⟩ (by omega) r_50
        by_cases q : j = sz
        · subst q; exact ⟨i, vj + vj2, pk_us, by omega, by omega, pk_us, by omega, by rw [vf_us]; exact nn0⟩
        · obtain ⟨r, len, a1, a2, a3, a4, a5, a6⟩ := hAR j (by omega)
          exact ⟨r, len, by rw [pk_un q]; exact a1, a2, a3, by rw [pk_un q]; exact a4, a5, by rw [vf_un q]; exact a6⟩
set_option maxHeartbeats 1000000 in
theorem g_take {G : xw_G} {F L : Nat} {h : xw_A} {ao o1 o2 o3 o4 : Nat} {sz0 : Nat} {m1 m3 f4 : Nat → Int32} {m2 : Nat → UInt64} {x : Int32} (N : h ao = some (.inr (1, [.ref o1, .ref o2, .int (nI sz0), .ref o3, .ref o4]))) (g_o1 : h o1 = some (.inl (0, 24, .inl m1))) (g_o2 : h o2 = some (.inl (3, 24, .inr (.inr (.inr (.inl m2)))))) (g_o3 : h o3 = some (.inl (0, 24, .inl m3))) (g_o4 : h o4 = some (.inl (0, 24, .inl f4))) (n13 : o1 ≠ o3) (n14 : o1 ≠ o4) (n34 : o3 ≠ o4) {AL : List Nat} {st s1 s2 s3 s4 : Nat} {er ep es el : Nat → Option Nat} {pc sc lc : Nat} {pe vm sm : Int32} (KS : StoC AL st s1 s2 s3 s4 er ep es el pc sc lc pe vm sm h) (hoA : ao ∈ AL ∧ o1 ∈ AL ∧ o2 ∈ AL ∧ o3 ∈ AL) (hF : 2 ≤ F) (hL : 41 ≤ L) :
    xw_Met G m_Answers_take F L 0 0 [.ref ao, .int x, .ref st] h (fun v h' => v = none ∧ (∃ (sz : Nat) (f1 : Nat → Int32) (f2 : Nat → UInt64) (f3 : Nat → Int32), AnsR ao o1 o2 o3 o4 sz f1 f2 f3 f4 h') ∧ FrO [ao, o1, o2, o3] h h') (fun _ _ => False) := by
  refine xw_Met.of rfl (by decide) (Nat.le_of_ble_eq_true rfl) ?_
  refine s_Answers_take_0 (rows_a0 := some o1) (scores_a0 := some o2) (lengths_a0 := some o3) (order_a0 := some o4) N ?_
  refine x_u1 (fun h1 e1 f_1 => ?_)
  have q1 : FrO [ao] h h1 := FrO.rf.up (by simp) f_1
  have KS1 := KS.fr q1 (suC hoA.1 suN) ⟨nm1 (xw_neC KS.1 N (by simp)), nm1 (xw_neC KS.2.1 N (by simp)), nm1 (xw_neC KS.2.2.1 N (by simp)), nm1 (xw_neC KS.2.2.2.1 N (by simp)), nm1 (xw_neC KS.2.2.2.2.1 N (by simp))⟩ (exC e1 exN)
  have a1 := (f_1 _ (xw_neC g_o1 N (by simp))).trans g_o1
  have a2 := (f_1 _ (xw_neC g_o2 N (by simp))).trans g_o2
  have a3 := (f_1 _ (xw_neC g_o3 N (by simp))).trans g_o3
  have a4 := (f_1 _ (xw_neC g_o4 N (by simp))).trans g_o4
  exact lp_take e1 a1 a2 a3 n13 n14 n34 KS1 hoA hF hL (fun h2 sz f1 f2 f3 R r2 => ⟨rfl, ⟨sz, f1, f2, f3, R⟩, (q1.mono (by simp)).trans r2⟩) 24 1 _ 0 _ _ _ rfl ⟨e1, a1, a2, a3, a4, Nat.zero_le _, fun j hj => absurd hj (Nat.not_lt_zero _)⟩ (by decide) FrO.rf
set_option maxHeartbeats 2000000 in
theorem lp_rank {G : xw_G} {F L bc bs : Nat} {pr : Option Value → xw_A → Prop} {px : String → xw_A → Prop} {ao o1 o2 o3 o4 : Nat} {so sp w qo p rc : Nat} {av : UInt64} {pf wf : Nat → Int32} {w0 w1 : Nat} {h0 : xw_A} {sz : Nat} {f1 f3 f4 : Nat → Int32} {g2 : Nat → UInt64} (R0 : AnsR ao o1 o2 o3 o4 sz f1 g2 f3 f4 h0) (f_so : h0 so = some (.inr (7, [.ref sp, .ref qo]))) (f_sp : h0 sp = some (.inl (0, 576, .inl pf))) (f_w : h0 w = some (.inl (0, 2, .inl wf))) (hw0 : wf 0 = nI w0 ∧ w0 ≤ 9) (hw1 : wf 1 = nI w1 ∧ w1 ≤ 9) (hp12 : p ≤ 12) (hrc : rc ≤ 24) (hav : PO av) (hF : 5 ≤ F) (hL : 110 ≤ L) (kk : ∀ (h : xw_A) (f2 : Nat → UInt64), AnsR ao o1 o2 o3 o4 sz f1 f2 f3 f4 h → FrO [o2] h0 h → xw G m_Answers_rank F L bc bs pr px 69 [some (.ref ao), none, none, none, none, none, none, none, none, none] [] h) :
    ∀ (dd i : Nat) (h : xw_A) (f2 : Nat → UInt64), i + dd = p → AnsR ao o1 o2 o3 o4 sz f1 f2 f3 f4 h → FrO [o2] h0 h → xw G m_Answers_rank F L bc bs pr px 36 [some (.ref ao), some (.ref so), some (.int (nI p)), some (.ref w), none, some (.int (nI rc)), none, some (.double av), none, some (.int (nI i))] [] h := by
  intro dd
  induction dd with
  | zero =>
    intro i h f2 hi R r0
    obtain rfl : i = p := by omega
    obtain ⟨e_ao, e_o1, e_o2, e_o3, e_o4, hsz, hAR⟩ := id R
    have e_so := r0 so _ (nm1 (xw_neC f_so R0.2.2.1 (by simp))) f_so
    have e_sp := r0 sp _ (nm1 (xw_neC f_sp R0.2.2.1 (by simp))) f_sp
    have e_w := r0 w _ (nm1 (xw_neC f_w R0.2.2.1 (by simp))) f_w
    refine s_Answers_rank_36 (fun z_1 => ?_) (fun z => absurd (nI_le (Nat.le_refl _) (by omega)) z)
    exact kk _ _ R r0
  | succ dd ih =>
    intro i h f2 hi R r0
    obtain ⟨e_ao, e_o1, e_o2, e_o3, e_o4, hsz, hAR⟩ := id R
    have e_so := r0 so _ (nm1 (xw_neC f_so R0.2.2.1 (by simp))) f_so
    have e_sp := r0 sp _ (nm1 (xw_neC f_sp R0.2.2.1 (by simp))) f_sp
    have e_w := r0 w _ (nm1 (xw_neC f_w R0.2.2.1 (by simp))) f_w
    refine s_Answers_rank_36 (fun z => absurd z (nI_ge (b := p) (show i < p by omega) (by omega))) (fun z_1 => ?_)
    refine s_Answers_rank_42 ?_
    refine x_callV (As := [.int (nI i)]) (b := so) (rest := [.int (nI rc), .ref w, .int (nI i), .ref so, .ref ao]) (F1 := 4) (L1 := 87) (mc := 0) (ms := 0) d_Answers_rank_52 cV_Answers_47 (g_rowsWith e_so e_sp (show i < 12 by omega) (by omega) (by omega)) e_so ⟨by decide, rfl⟩ ⟨by omega, by show 8 + (4 + 11) + 87 ≤ _; omega⟩ ⟨by omega, by omega⟩ (Nat.le_of_ble_eq_true rfl) (fun v_5 h_4 p_6 => ?_)
    obtain ⟨⟨c_2, rfl, hc_3⟩, rfl⟩ := p_6
    refine x_callS (As := [.int (nI rc), .int (nI c_2)]) (rest := [.ref w, .int (nI i), .ref so, .ref ao]) (F1 := 2) (L1 := 60) (mc := 0) (ms := 0) d_Answers_rank_55 cS_Answers_53 (g_rarity (by omega) (by omega) (by omega) (by omega)) ⟨by omega, by show 8 + (4 + 11) + 60 ≤ _; omega⟩ ⟨by omega, by omega⟩ (Nat.le_of_ble_eq_true rfl) (fun v_10 h_9 p_11 => ?_)
    obtain ⟨⟨y_7, rfl, hy_8⟩, rfl⟩ := p_11
    refine s_Answers_rank_58 ?_
    refine x_callV (As := [.ref so, .int (nI i), .ref w, .double y_7, .double av]) (b := ao) (rest := []) (F1 := 3) (L1 := 65) (mc := 0) (ms := 0) d_Answers_rank_60 cV_Answers_57 (g_addPhrase R e_so e_sp e_w hw0 hw1 (show i < 12 by omega) hy_8 hav (by omega) (by omega)) e_ao ⟨by decide, rfl⟩ ⟨by omega, by show 8 + (10 + 11) + 65 ≤ _; omega⟩ ⟨by omega, by omega⟩ (Nat.le_of_ble_eq_true rfl) (fun v_16 h_15 p_17 => ?_)
    obtain ⟨rfl, ⟨f_12, R_13⟩, fr_14⟩ := p_17
    have r_18 := r0.trans fr_14
    refine s_Answers_rank_63 ?_
    rw [nI_1]
    exact ih (i + 1) _ _ (by omega) R_13 r_18
set_option maxHeartbeats 1000000 in
theorem g_rank {G : xw_G} {F L : Nat} {h : xw_A} {ao o1 o2 o3 o4 : Nat} {so sp w qo p : Nat} {pf wf : Nat → Int32} {w0 w1 : Nat} {sz : Nat} {f1 f3 f4 : Nat → Int32} {g2 : Nat → UInt64} (R0 : AnsR ao o1 o2 o3 o4 sz f1 g2 f3 f4 h) (f_so : h so = some (.inr (7, [.ref sp, .ref qo]))) (f_sp : h sp = some (.inl (0, 576, .inl pf))) (f_w : h w = some (.inl (0, 2, .inl wf))) (hw0 : wf 0 = nI w0 ∧ w0 ≤ 9) (hw1 : wf 1 = nI w1 ∧ w1 ≤ 9) (hp12 : p ≤ 12) (n14 : o1 ≠ o4) (n34 : o3 ≠ o4) {AL : List Nat} {st s1 s2 s3 s4 : Nat} {er ep es el : Nat → Option Nat} {pc sc lc : Nat} {pe vm sm : Int32} (KS : StoC AL st s1 s2 s3 s4 er ep es el pc sc lc pe vm sm h) (hF : 5 ≤ F) (hL : 110 ≤ L) :
    xw_Met G m_Answers_rank F L 0 0 [.ref ao, .ref so, .int (nI p), .ref w, .ref st] h (fun v h' => v = none ∧ (∃ (f2' : Nat → UInt64) (f4' : Nat → Int32), AnsC ao o1 o2 o3 o4 sz f1 f2' f3 f4' h') ∧ FrO [o2, o4] h h') (fun _ _ => False) := by
  refine xw_Met.of rfl (by decide) (Nat.le_of_ble_eq_true rfl) ?_
  refine s_Answers_rank_0 ?_
  refine x_callV (As := []) (b := st) (rest := []) (F1 := 1) (L1 := 20) (mc := 0) (ms := 0) d_Answers_rank_2 cV_Answers_41 (g_rowCount KS (by omega) (by omega)) KS.1 ⟨by decide, rfl⟩ ⟨by omega, by show 8 + (3 + 11) + 20 ≤ _; omega⟩ ⟨by omega, by omega⟩ (Nat.le_of_ble_eq_true rfl) (fun v h1 q => ?_)
  obtain ⟨⟨rc, rfl, hrc, -⟩, rfl⟩ := q
  refine s_Answers_rank_5 ?_
  refine x_callV (As := []) (b := st) (rest := []) (F1 := 2) (L1 := 40) (mc := 0) (ms := 0) d_Answers_rank_9 cV_Answers_44 (g_tokenCount KS (by omega) (by omega)) KS.1 ⟨by decide, rfl⟩ ⟨by omega, by show 8 + (3 + 11) + 40 ≤ _; omega⟩ ⟨by omega, by omega⟩ (Nat.le_of_ble_eq_true rfl) (fun v h1 q => ?_)
  obtain ⟨⟨tc, rfl, htc⟩, rfl⟩ := q
  refine x_le (xw_le_s (xw_le_s (xw_le_s (xw_le_s (xw_le_n (xw_le_s (xw_le_n (xw_le_n (xw_le_n (xw_le_n xw_le_e)))))))))) ?_
  refine s_Answers_rank_12 (fun _ => ?_) (fun z1 => ?_)
  · refine s_Answers_rank_69 ?_
    refine x_callV (As := []) (b := ao) (rest := []) (F1 := 1) (L1 := 20) (mc := 0) (ms := 0) d_Answers_rank_70 cV_Answers_61 (g_sort R0.1 R0.2.2.1 R0.2.2.2.2.1 R0.2.2.2.2.2.1 (by omega) (by omega)) R0.1 ⟨by decide, rfl⟩ ⟨by omega, by show 8 + (3 + 11) + 20 ≤ _; omega⟩ ⟨by omega, by omega⟩ (Nat.le_of_ble_eq_true rfl) (fun v hz q => ?_)
    obtain ⟨rfl, ⟨f4', e4', ho⟩, r4⟩ := q
    refine x_le (xw_le_n (xw_le_n (xw_le_n (xw_le_n (xw_le_n (xw_le_n (xw_le_n (xw_le_n (xw_le_n (xw_le_n xw_le_e)))))))))) ?_
    refine s_Answers_rank_73 ?_
    obtain ⟨y_ao, y_o1, y_o2, y_o3, y_o4, ysz, -⟩ := id R0
    exact ⟨rfl, ⟨_, f4', r4 ao _ (nm1 (xw_neC y_ao y_o4 (by simp))) y_ao, r4 o1 _ (nm1 n14) y_o1, r4 o2 _ (nm1 (xw_neC y_o2 y_o4 (by simp))) y_o2, r4 o3 _ (nm1 n34) y_o3, e4', ysz, ho⟩, r4.mono (by simp)⟩
  · refine s_Answers_rank_19 (fun _ => ?_) (fun z2 => ?_)
    · refine s_Answers_rank_69 ?_
      refine x_callV (As := []) (b := ao) (rest := []) (F1 := 1) (L1 := 20) (mc := 0) (ms := 0) d_Answers_rank_70 cV_Answers_61 (g_sort R0.1 R0.2.2.1 R0.2.2.2.2.1 R0.2.2.2.2.2.1 (by omega) (by omega)) R0.1 ⟨by decide, rfl⟩ ⟨by omega, by show 8 + (3 + 11) + 20 ≤ _; omega⟩ ⟨by omega, by omega⟩ (Nat.le_of_ble_eq_true rfl) (fun v hz q => ?_)
      obtain ⟨rfl, ⟨f4', e4', ho⟩, r4⟩ := q
      refine x_le (xw_le_n (xw_le_n (xw_le_n (xw_le_n (xw_le_n (xw_le_n (xw_le_n (xw_le_n (xw_le_n (xw_le_n xw_le_e)))))))))) ?_
      refine s_Answers_rank_73 ?_
      obtain ⟨y_ao, y_o1, y_o2, y_o3, y_o4, ysz, -⟩ := id R0
      exact ⟨rfl, ⟨_, f4', r4 ao _ (nm1 (xw_neC y_ao y_o4 (by simp))) y_ao, r4 o1 _ (nm1 n14) y_o1, r4 o2 _ (nm1 (xw_neC y_o2 y_o4 (by simp))) y_o2, r4 o3 _ (nm1 n34) y_o3, e4', ysz, ho⟩, r4.mono (by simp)⟩
    · have m1 := (me_i2d tc (by omega)).resolve_left (fun q => z2 (by rw [q]; decide))
      have m2 := (me_i2d rc (by omega)).resolve_left (fun q => z1 (by rw [q]; decide))
      have hav := po_ddiv m1 m2
      refine s_Answers_rank_24 (NN.num (PO.nn hav)) ?_
      refine lp_rank (rc := rc) R0 f_so f_sp f_w hw0 hw1 hp12 hrc hav (by omega) (by omega) (fun h2 f2 R2 r2 => ?_) p 0 _ _ (Nat.zero_add _) R0 FrO.rf
      refine s_Answers_rank_69 ?_
      refine x_callV (As := []) (b := ao) (rest := []) (F1 := 1) (L1 := 20) (mc := 0) (ms := 0) d_Answers_rank_70 cV_Answers_61 (g_sort R2.1 R2.2.2.1 R2.2.2.2.2.1 R2.2.2.2.2.2.1 (by omega) (by omega)) R2.1 ⟨by decide, rfl⟩ ⟨by omega, by show 8 + (3 + 11) + 20 ≤ _; omega⟩ ⟨by omega, by omega⟩ (Nat.le_of_ble_eq_true rfl) (fun v hz q => ?_)
      obtain ⟨rfl, ⟨f4', e4', ho⟩, r4⟩ := q
      refine x_le (xw_le_n (xw_le_n (xw_le_n (xw_le_n (xw_le_n (xw_le_n (xw_le_n (xw_le_n (xw_le_n (xw_le_n xw_le_e)))))))))) ?_
      refine s_Answers_rank_73 ?_
      obtain ⟨y_ao, y_o1, y_o2, y_o3, y_o4, ysz, -⟩ := id R2
      exact ⟨rfl, ⟨_, f4', r4 ao _ (nm1 (xw_neC y_ao y_o4 (by simp))) y_ao, r4 o1 _ (nm1 n14) y_o1, r4 o2 _ (nm1 (xw_neC y_o2 y_o4 (by simp))) y_o2, r4 o3 _ (nm1 n34) y_o3, e4', ysz, ho⟩, (r2.mono (by simp)).trans (r4.mono (by simp))⟩
