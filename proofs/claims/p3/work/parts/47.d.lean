/-! the reference in general states: by program (wip/tools/gen5.py, gen6.py, gen7.py) -/
set_option maxHeartbeats 1000000 in
theorem lp_ci {G : xw_G} {F L bc bs : Nat} {pr : Option Value → xw_A → Prop} {px : String → xw_A → Prop} {h : xw_A} {m begins_ lasts_ tokenAt_ tokenSize_ texts_ asked_ firstToken_ starred_ : Nat} {fb fl ca cs ft fa c1 c2 : Nat → Int32} {k b0 nn : Nat} {fs : List Value} (l : fs.length = 62) (e : h m = some (.inr (11, fs))) (g_column : fs[(55 : Nat)]? = some (.int (nI k))) (g_begins : fs[(53 : Nat)]? = some (.ref begins_)) (e_begins : h begins_ = some (.inl (0, 24, .inl fb))) (g_lasts : fs[(54 : Nat)]? = some (.ref lasts_)) (e_lasts : h lasts_ = some (.inl (0, 24, .inl fl))) (g_tokenAt : fs[(43 : Nat)]? = some (.ref tokenAt_)) (e_tokenAt : h tokenAt_ = some (.inl (0, 60, .inl ca))) (g_tokenSize : fs[(44 : Nat)]? = some (.ref tokenSize_)) (e_tokenSize : h tokenSize_ = some (.inl (0, 60, .inl cs))) (g_texts : fs[(7 : Nat)]? = some (.ref texts_)) (e_texts : h texts_ = some (.inl (0, 2304, .inl ft))) (g_asked : fs[(4 : Nat)]? = some (.ref asked_)) (e_asked : h asked_ = some (.inl (0, 96, .inl fa))) (g_firstToken : fs[(41 : Nat)]? = some (.ref firstToken_)) (e_firstToken : h firstToken_ = some (.inl (0, 13, .inl c1))) (g_starred : fs[(42 : Nat)]? = some (.ref starred_)) (e_starred : h starred_ = some (.inl (0, 13, .inl c2))) {p a n t : Nat} (hp : p < 12) (h1 : c1 p = nI a) (h2 : c1 (p + 1) = nI (a + n)) (hat : a + n ≤ t) (ht : t ≤ 49) (TK : TkO ca cs t 97) (TW : TokW fb fl k b0 nn) (hk : k ≤ 24) (hb : b0 + nn ≤ 2304)  (hF : 5 ≤ F) (hL : 112 ≤ L) (kk : ∀ c : Nat, c ≤ k → pr (some (.int (nI c))) h) :
    ∀ (dd i : Nat) (c : Nat), i + dd = k → c ≤ i → xw G m_Model_countIn F L bc bs pr px 12 [some (.ref m), some (.int (nI p)), none, none, some (.int (nI c)), some (.int (nI i))] [] h := by
  intro dd
  induction dd with
  | zero =>
    intro i c hi hp_
    obtain rfl : i = k := by omega
    refine s_Model_countIn_12 l e g_column (fun z_1 => ?_) (fun z => absurd (nI_le (Nat.le_refl _) (by omega)) z)
    refine s_Model_countIn_40 ?_
    exact kk _ (by omega)
  | succ dd ih =>
    intro i c hi hp_
    refine s_Model_countIn_12 l e g_column (fun z => absurd z (nI_ge (b := k) (show i < k by omega) (by omega))) (fun z_1 => ?_)
    refine s_Model_countIn_21 ?_
    refine x_callV (As := [.int (nI p), .int (nI i)]) (b := m) (rest := []) (F1 := 4) (L1 := 87) (mc := 0) (ms := 0) d_Model_countIn_25 cV_Model_316 (f_stands l e g_column g_begins e_begins g_lasts e_lasts g_tokenAt e_tokenAt g_tokenSize e_tokenSize g_texts e_texts g_asked e_asked g_firstToken e_firstToken g_starred e_starred hp h1 h2 hat ht TK TW hk hb (show i < 25 by omega) (by omega) (by omega)) e ⟨by decide, rfl⟩ ⟨by omega, by show 8 + (6 + 11) + 87 ≤ _; omega⟩ ⟨by omega, by omega⟩ (Nat.le_of_ble_eq_true rfl) (fun v_5 h_4 p_6 => ?_)
    obtain ⟨⟨y_2, rfl, hy_3⟩, rfl⟩ := p_6
    refine s_Model_countIn_28 (fun z_7 => ?_) (fun z_8 => ?_)
    · skip
      refine s_Model_countIn_34 ?_
      simp only [nI_1]
      exact ih (i + 1) _ (by omega) (by omega)
    · skip
      refine s_Model_countIn_31 ?_
      refine s_Model_countIn_34 ?_
      simp only [nI_1]
      exact ih (i + 1) _ (by omega) (by omega)
set_option maxHeartbeats 2000000 in
theorem f_countIn {G : xw_G} {F L : Nat} {h : xw_A} {m draft_ asked_ prepared_ preparedSize_ texts_ sizes_ weights_ entries_ lies_ live_ row_ level_ oldTexts_ oldSizes_ oldLies_ oldLive_ oldRow_ firstToken_ starred_ tokenAt_ tokenSize_ groupKind_ groupPhrase_ groupSize_ groupMask_ groupFar_ out_ top_ masks_ begins_ lasts_ truth_ answers_ order_ scores_ : Nat} {fb fl ca cs ft fa c1 c2 fz : Nat → Int32} {cl : Int32} {fs : List Value} (l : fs.length = 62) (e : h m = some (.inr (11, fs))) (g_column : fs[(55 : Nat)]? = some (.int cl)) (g_begins : fs[(53 : Nat)]? = some (.ref begins_)) (e_begins : h begins_ = some (.inl (0, 24, .inl fb))) (g_lasts : fs[(54 : Nat)]? = some (.ref lasts_)) (e_lasts : h lasts_ = some (.inl (0, 24, .inl fl))) (g_tokenAt : fs[(43 : Nat)]? = some (.ref tokenAt_)) (e_tokenAt : h tokenAt_ = some (.inl (0, 60, .inl ca))) (g_tokenSize : fs[(44 : Nat)]? = some (.ref tokenSize_)) (e_tokenSize : h tokenSize_ = some (.inl (0, 60, .inl cs))) (g_texts : fs[(7 : Nat)]? = some (.ref texts_)) (e_texts : h texts_ = some (.inl (0, 2304, .inl ft))) (g_asked : fs[(4 : Nat)]? = some (.ref asked_)) (e_asked : h asked_ = some (.inl (0, 96, .inl fa))) (g_firstToken : fs[(41 : Nat)]? = some (.ref firstToken_)) (e_firstToken : h firstToken_ = some (.inl (0, 13, .inl c1))) (g_starred : fs[(42 : Nat)]? = some (.ref starred_)) (e_starred : h starred_ = some (.inl (0, 13, .inl c2))) (g_sizes : fs[(8 : Nat)]? = some (.ref sizes_)) (e_sizes : h sizes_ = some (.inl (0, 48, .inl fz))) (ND : NDl [m, draft_, asked_, prepared_, preparedSize_, texts_, sizes_, weights_, entries_, lies_, live_, row_, level_, oldTexts_, oldSizes_, oldLies_, oldLive_, oldRow_, firstToken_, starred_, tokenAt_, tokenSize_, groupKind_, groupPhrase_, groupSize_, groupMask_, groupFar_, out_, top_, masks_, begins_, lasts_, truth_, answers_, order_, scores_]) {p a n t : Nat} (hp : p < 12) (h1 : c1 p = nI a) (h2 : c1 (p + 1) = nI (a + n)) (hat : a + n ≤ t) (ht : t ≤ 49) (TK : TkO ca cs t 97) {r c : Nat} (hr : r < 24) (hc : c < 2) {nz : Nat} (hz : fz (2 * r + c) = nI nz) (hz48 : nz ≤ 48) (hF : 5 ≤ F) (hL : 112 ≤ L) :
    xw_Met G m_Model_countIn F L 0 0 [.ref m, .int (nI p), .int (nI r), .int (nI c)] h (fun v h' => (∃ q : Nat, v = some (.int (nI q)) ∧ q ≤ 24 ∧ q ≤ tokN (fun j => ft (96 * r + 48 * c + j)) nz) ∧ EvP m begins_ lasts_ fs h h') (fun _ _ => False) := by
  refine xw_Met.of rfl (by decide) (Nat.le_of_ble_eq_true rfl) ?_
  have ga0 : ∀ i : Nat, i ∉ [55] → fs[i]? = fs[i]? := fun _ _ => rfl
  have r0 : FrO [m, begins_, lasts_] h h := FrO.rf
  refine s_Model_countIn_0 ?_
  refine x_callV (As := [.int (nI r), .int (nI c)]) (b := m) (rest := []) (F1 := 3) (L1 := 62) (mc := 0) (ms := 0) d_Model_countIn_3 cV_Model_153 (f_opens l e g_column g_texts e_texts g_sizes e_sizes g_begins e_begins g_lasts e_lasts (nd_ne ND (i := 30) (j := 31) rfl rfl (by decide)) (show r < 24 by omega) (show c < 2 by omega) hz hz48 (by omega) (by omega)) e ⟨by decide, rfl⟩ ⟨by omega, by show 8 + (6 + 11) + 62 ≤ _; omega⟩ ⟨by omega, by omega⟩ (Nat.le_of_ble_eq_true rfl) (fun v_16 h_15 p_17 => ?_)
  obtain ⟨rfl, k_1, fb_2, fl_3, fs_4, l_5, e_6, g_7, ga_8, eb_9, el_10, TW_11, hk_12, TX_13, fr_14⟩ := p_17
  have e_18 := fr_14 tokenAt_ _ (by simp only [List.mem_cons, List.not_mem_nil, or_false, not_or]; exact ⟨(Ne.symm (nd_ne ND (i := 0) (j := 20) rfl rfl (by decide))), (Ne.symm (nd_ne ND (i := 30) (j := 20) rfl rfl (by decide))), (Ne.symm (nd_ne ND (i := 31) (j := 20) rfl rfl (by decide)))⟩) e_tokenAt
  have e_19 := fr_14 tokenSize_ _ (by simp only [List.mem_cons, List.not_mem_nil, or_false, not_or]; exact ⟨(Ne.symm (nd_ne ND (i := 0) (j := 21) rfl rfl (by decide))), (Ne.symm (nd_ne ND (i := 30) (j := 21) rfl rfl (by decide))), (Ne.symm (nd_ne ND (i := 31) (j := 21) rfl rfl (by decide)))⟩) e_tokenSize
  have e_20 := fr_14 texts_ _ (by simp only [List.mem_cons, List.not_mem_nil, or_false, not_or]; exact ⟨(Ne.symm (nd_ne ND (i := 0) (j := 5) rfl rfl (by decide))), (Ne.symm (nd_ne ND (i := 30) (j := 5) rfl rfl (by decide))), (Ne.symm (nd_ne ND (i := 31) (j := 5) rfl rfl (by decide)))⟩) e_texts
  have e_21 := fr_14 asked_ _ (by simp only [List.mem_cons, List.not_mem_nil, or_false, not_or]; exact ⟨(Ne.symm (nd_ne ND (i := 0) (j := 2) rfl rfl (by decide))), (Ne.symm (nd_ne ND (i := 30) (j := 2) rfl rfl (by decide))), (Ne.symm (nd_ne ND (i := 31) (j := 2) rfl rfl (by decide)))⟩) e_asked
  have e_22 := fr_14 firstToken_ _ (by simp only [List.mem_cons, List.not_mem_nil, or_false, not_or]; exact ⟨(Ne.symm (nd_ne ND (i := 0) (j := 18) rfl rfl (by decide))), (Ne.symm (nd_ne ND (i := 30) (j := 18) rfl rfl (by decide))), (Ne.symm (nd_ne ND (i := 31) (j := 18) rfl rfl (by decide)))⟩) e_firstToken
  have e_23 := fr_14 starred_ _ (by simp only [List.mem_cons, List.not_mem_nil, or_false, not_or]; exact ⟨(Ne.symm (nd_ne ND (i := 0) (j := 19) rfl rfl (by decide))), (Ne.symm (nd_ne ND (i := 30) (j := 19) rfl rfl (by decide))), (Ne.symm (nd_ne ND (i := 31) (j := 19) rfl rfl (by decide)))⟩) e_starred
  have e_24 := fr_14 sizes_ _ (by simp only [List.mem_cons, List.not_mem_nil, or_false, not_or]; exact ⟨(Ne.symm (nd_ne ND (i := 0) (j := 6) rfl rfl (by decide))), (Ne.symm (nd_ne ND (i := 30) (j := 6) rfl rfl (by decide))), (Ne.symm (nd_ne ND (i := 31) (j := 6) rfl rfl (by decide)))⟩) e_sizes
  have g_25 : fs_4[(53 : Nat)]? = some (.ref begins_) := (ga_8 53 (by decide)).trans g_begins
  have g_26 : fs_4[(54 : Nat)]? = some (.ref lasts_) := (ga_8 54 (by decide)).trans g_lasts
  have g_27 : fs_4[(43 : Nat)]? = some (.ref tokenAt_) := (ga_8 43 (by decide)).trans g_tokenAt
  have g_28 : fs_4[(44 : Nat)]? = some (.ref tokenSize_) := (ga_8 44 (by decide)).trans g_tokenSize
  have g_29 : fs_4[(7 : Nat)]? = some (.ref texts_) := (ga_8 7 (by decide)).trans g_texts
  have g_30 : fs_4[(4 : Nat)]? = some (.ref asked_) := (ga_8 4 (by decide)).trans g_asked
  have g_31 : fs_4[(41 : Nat)]? = some (.ref firstToken_) := (ga_8 41 (by decide)).trans g_firstToken
  have g_32 : fs_4[(42 : Nat)]? = some (.ref starred_) := (ga_8 42 (by decide)).trans g_starred
  have g_33 : fs_4[(8 : Nat)]? = some (.ref sizes_) := (ga_8 8 (by decide)).trans g_sizes
  have ga_34 : ∀ i : Nat, i ∉ [55] → fs_4[i]? = fs[i]? := fun i hi => (ga_8 i (fun z => hi (by simp only [List.mem_cons, List.not_mem_nil, or_false] at z ⊢; omega))).trans (ga0 i hi)
  have r_35 := r0.trans (fr_14.mono (by simp))
  refine x_le (xw_le_s (xw_le_s (xw_le_n (xw_le_n (xw_le_n (xw_le_n xw_le_e)))))) ?_
  refine s_Model_countIn_6 ?_
  have hk24 : k_1 ≤ 24 := by have q9 := (tokN_half (fun j => ft (96 * r + 48 * c + j)) nz).1; rw [← hk_12] at q9; omega
  exact lp_ci l_5 e_6 g_7 g_25 eb_9 g_26 el_10 g_27 e_18 g_28 e_19 g_29 e_20 g_30 e_21 g_31 e_22 g_32 e_23 hp h1 h2 hat ht TK TW_11 hk24 (by omega) (by omega) (by omega) (fun c9 hc9 => ⟨⟨c9, rfl, by omega, by rw [← hk_12]; exact hc9⟩, ⟨_, _, _, _, l_5, e_6, g_7, ga_34, eb_9, el_10, r_35⟩⟩) k_1 0 0 (Nat.zero_add _) (Nat.le_refl _)
def lgU : Nat → UInt64 → Int32 → Option (UInt64 × Int32)
  | 0, _, _ => none
  | d + 1, x, k => if (Op.cmpValue (FP.dcmp x 4609434218613702656) .l) < 0 then some (x, k) else if n64 (FP.ddiv x 4611686018427387904) = true then lgU d (FP.ddiv x 4611686018427387904) (k + 1) else none
def lgD : Nat → UInt64 → Int32 → Option (UInt64 × Int32)
  | 0, _, _ => none
  | d + 1, x, k => if 0 ≤ (Op.cmpValue (FP.dcmp x 4604930618986332160) .g) then some (x, k) else if n64 (FP.dmul x 4611686018427387904) = true then lgD d (FP.dmul x 4611686018427387904) (k + (-1)) else none
def lgF (x : UInt64) : Option UInt64 := (lgU 16 x 0).bind (fun p => (lgD 16 p.1 p.2).bind (fun q => lnT q.1 q.2))
def lgE (x : UInt64) : Bool := match lgU 16 x 0 with
  | none => false
  | some p => (lgD 16 p.1 p.2).isSome
theorem lgU_ln : ∀ (d e : Nat) (x : UInt64) (k : Int32) (r : UInt64 × Int32), lgU d x k = some r → lnU (d + e) x k = some r := by
  intro d
  induction d with
  | zero => intro e x k r h; rw [lgU] at h; cases h
  | succ d ih =>
    intro e x k r h
    rw [lgU] at h
    rw [show d + 1 + e = (d + e) + 1 by omega, lnU]
    split at h
    · rename_i q; rw [if_pos q]; exact h
    · rename_i q
      rw [if_neg q]
      split at h
      · rename_i q2; rw [if_pos q2]; exact ih e _ _ _ h
      · cases h
theorem lgD_ln : ∀ (d e : Nat) (x : UInt64) (k : Int32) (r : UInt64 × Int32), lgD d x k = some r → lnD (d + e) x k = some r := by
  intro d
  induction d with
  | zero => intro e x k r h; rw [lgD] at h; cases h
  | succ d ih =>
    intro e x k r h
    rw [lgD] at h
    rw [show d + 1 + e = (d + e) + 1 by omega, lnD]
    split at h
    · rename_i q; rw [if_pos q]; exact h
    · rename_i q
      rw [if_neg q]
      split at h
      · rename_i q2; rw [if_pos q2]; exact ih e _ _ _ h
      · cases h
theorem lgF_ln {x : UInt64} (h : lgE x = true) : lgF x = lnF x := by
  unfold lgE at h
  cases hU : lgU 16 x 0 with
  | none => rw [hU] at h; cases h
  | some p =>
    rw [hU] at h
    have h' : (lgD 16 p.1 p.2).isSome = true := h
    cases hD : lgD 16 p.1 p.2 with
    | none => rw [hD] at h'; cases h'
    | some q =>
      have e1 : lnU 64 x 0 = some p := lgU_ln 16 48 _ _ _ hU
      have e2 : lnD 64 p.1 p.2 = some q := lgD_ln 16 48 _ _ _ hD
      rw [lgF, lnF, hU, e1]
      show (lgD 16 p.1 p.2).bind _ = (lnD 64 p.1 p.2).bind _
      rw [hD, e2]
theorem lgE_r0 : ∀ w, w < 1 → lgE (lnA (nI 0) (nI w)) = true := by decide +kernel
theorem lgE_r1 : ∀ w, w < 2 → lgE (lnA (nI 1) (nI w)) = true := by decide +kernel
theorem lgE_r2 : ∀ w, w < 3 → lgE (lnA (nI 2) (nI w)) = true := by decide +kernel
theorem lgE_r3 : ∀ w, w < 4 → lgE (lnA (nI 3) (nI w)) = true := by decide +kernel
theorem lgE_r4 : ∀ w, w < 5 → lgE (lnA (nI 4) (nI w)) = true := by decide +kernel
theorem lgE_r5 : ∀ w, w < 6 → lgE (lnA (nI 5) (nI w)) = true := by decide +kernel
theorem lgE_r6 : ∀ w, w < 7 → lgE (lnA (nI 6) (nI w)) = true := by decide +kernel
theorem lgE_r7 : ∀ w, w < 8 → lgE (lnA (nI 7) (nI w)) = true := by decide +kernel
theorem lgE_r8 : ∀ w, w < 9 → lgE (lnA (nI 8) (nI w)) = true := by decide +kernel
theorem lgE_r9 : ∀ w, w < 10 → lgE (lnA (nI 9) (nI w)) = true := by decide +kernel
theorem lgE_r10 : ∀ w, w < 11 → lgE (lnA (nI 10) (nI w)) = true := by decide +kernel
theorem lgE_r11 : ∀ w, w < 12 → lgE (lnA (nI 11) (nI w)) = true := by decide +kernel
theorem lgE_r12 : ∀ w, w < 13 → lgE (lnA (nI 12) (nI w)) = true := by decide +kernel
theorem lgE_r13 : ∀ w, w < 14 → lgE (lnA (nI 13) (nI w)) = true := by decide +kernel
theorem lgE_r14 : ∀ w, w < 15 → lgE (lnA (nI 14) (nI w)) = true := by decide +kernel
theorem lgE_r15 : ∀ w, w < 16 → lgE (lnA (nI 15) (nI w)) = true := by decide +kernel
theorem lgE_r16 : ∀ w, w < 17 → lgE (lnA (nI 16) (nI w)) = true := by decide +kernel
theorem lgE_r17 : ∀ w, w < 18 → lgE (lnA (nI 17) (nI w)) = true := by decide +kernel
theorem lgE_r18 : ∀ w, w < 19 → lgE (lnA (nI 18) (nI w)) = true := by decide +kernel
theorem lgE_r19 : ∀ w, w < 20 → lgE (lnA (nI 19) (nI w)) = true := by decide +kernel
theorem lgE_r20 : ∀ w, w < 21 → lgE (lnA (nI 20) (nI w)) = true := by decide +kernel
theorem lgE_r21 : ∀ w, w < 22 → lgE (lnA (nI 21) (nI w)) = true := by decide +kernel
theorem lgE_r22 : ∀ w, w < 23 → lgE (lnA (nI 22) (nI w)) = true := by decide +kernel
theorem lgE_r23 : ∀ w, w < 24 → lgE (lnA (nI 23) (nI w)) = true := by decide +kernel
theorem lgE_r24 : ∀ w, w < 25 → lgE (lnA (nI 24) (nI w)) = true := by decide +kernel
theorem lgE_all : ∀ r, r < 25 → ∀ w, w < r + 1 → lgE (lnA (nI r) (nI w)) = true
  | 0, _ => lgE_r0
  | 1, _ => lgE_r1
  | 2, _ => lgE_r2
  | 3, _ => lgE_r3
  | 4, _ => lgE_r4
  | 5, _ => lgE_r5
  | 6, _ => lgE_r6
  | 7, _ => lgE_r7
  | 8, _ => lgE_r8
  | 9, _ => lgE_r9
  | 10, _ => lgE_r10
  | 11, _ => lgE_r11
  | 12, _ => lgE_r12
  | 13, _ => lgE_r13
  | 14, _ => lgE_r14
  | 15, _ => lgE_r15
  | 16, _ => lgE_r16
  | 17, _ => lgE_r17
  | 18, _ => lgE_r18
  | 19, _ => lgE_r19
  | 20, _ => lgE_r20
  | 21, _ => lgE_r21
  | 22, _ => lgE_r22
  | 23, _ => lgE_r23
  | 24, _ => lgE_r24
  | n + 25, h => absurd h (by omega)
set_option maxHeartbeats 400000 in
theorem lp_lgU {G : xw_G} {F L bc bs : Nat} {pr : Option Value → xw_A → Prop} {px : String → xw_A → Prop} {h : xw_A} {r : UInt64 × Int32} (kk : xw G m_Model_logarithm F L bc bs pr px 25 [none, none, some (.double r.1), none, some (.int r.2), none, none, none, none, none, none, none] [] h) :
    ∀ (dd : Nat) (x : UInt64) (k : Int32), lgU dd x k = some r → xw G m_Model_logarithm F L bc bs pr px 5 [none, none, some (.double x), none, some (.int k), none, none, none, none, none, none, none] [] h := by
  intro dd
  induction dd with
  | zero =>
    intro x k hp
    rw [lgU] at hp
    cases hp
  | succ dd ih =>
    intro x k hp
    rw [lgU] at hp
    refine s_Model_logarithm_5 (fun z => ?_) (fun z => ?_)
    · rw [if_pos z] at hp
      rw [← Option.some.inj hp] at kk
      exact kk
    · rw [if_neg z] at hp
      by_cases hw : n64 (FP.ddiv x 4611686018427387904) = true
      · rw [if_pos hw] at hp
        refine s_Model_logarithm_13 (n64.of hw) ?_
        exact ih _ _ hp
      · rw [if_neg hw] at hp
        cases hp
set_option maxHeartbeats 400000 in
theorem lp_lgD {G : xw_G} {F L bc bs : Nat} {pr : Option Value → xw_A → Prop} {px : String → xw_A → Prop} {h : xw_A} {r : UInt64 × Int32} (kk : xw G m_Model_logarithm F L bc bs pr px 45 [none, none, some (.double r.1), none, some (.int r.2), none, none, none, none, none, none, none] [] h) :
    ∀ (dd : Nat) (x : UInt64) (k : Int32), lgD dd x k = some r → xw G m_Model_logarithm F L bc bs pr px 25 [none, none, some (.double x), none, some (.int k), none, none, none, none, none, none, none] [] h := by
  intro dd
  induction dd with
  | zero =>
    intro x k hp
    rw [lgD] at hp
    cases hp
  | succ dd ih =>
    intro x k hp
    rw [lgD] at hp
    refine s_Model_logarithm_25 (fun z => ?_) (fun z => ?_)
    · rw [if_pos z] at hp
      rw [← Option.some.inj hp] at kk
      exact kk
    · rw [if_neg z] at hp
      by_cases hw : n64 (FP.dmul x 4611686018427387904) = true
      · rw [if_pos hw] at hp
        refine s_Model_logarithm_33 (n64.of hw) ?_
        exact ih _ _ hp
      · rw [if_neg hw] at hp
        cases hp
set_option maxHeartbeats 400000 in
theorem lp_lgS {G : xw_G} {F L bc bs : Nat} {pr : Option Value → xw_A → Prop} {px : String → xw_A → Prop} {h : xw_A} {k : Int32} {y z t : UInt64} (kk : xw G m_Model_logarithm F L bc bs pr px 92 [none, none, none, none, some (.int k), some (.double z), none, none, none, some (.double t), none, none] [] h) :
    ∀ (n : Nat), n ≤ 10 → ∀ s : UInt64, lnS y (jLst n) s = some t → xw G m_Model_logarithm F L bc bs pr px 68 [none, none, none, none, some (.int k), some (.double z), none, some (.double y), none, some (.double s), none, some (.int (jVal n))] [] h := by
  intro n
  induction n with
  | zero =>
    intro _ s hp
    refine s_Model_logarithm_68 (fun _ => ?_) (fun z => absurd (by decide) z)
    rw [jLst, lnS] at hp
    rw [← Option.some.inj hp] at kk
    exact kk
  | succ n ih =>
    intro hn s hp
    refine s_Model_logarithm_68 (fun z => absurd z (nI_ge (a := 0) (b := 2 * n + 1) (by omega) (by omega))) (fun _ => ?_)
    rw [jLst, lnS] at hp
    by_cases hw : n64 (FP.dmul s y) = true ∧ n64 (FP.ddiv FP.dconst1 (FP.i2d (nI (2 * n + 1)))) = true ∧ n64 (FP.dadd (FP.dmul s y) (FP.ddiv FP.dconst1 (FP.i2d (nI (2 * n + 1))))) = true
    · rw [if_pos hw] at hp
      refine s_Model_logarithm_73 (n64.of hw.1) (n64.of hw.2.1) (n64.of hw.2.2) ?_
      rw [jVal_next n (by omega)]
      exact ih (by omega) _ hp
    · rw [if_neg hw] at hp
      cases hp
set_option maxHeartbeats 400000 in
theorem f_logarithm {G : xw_G} {F L : Nat} {h : xw_A} {x y : UInt64} (hy : lgF x = some y) (hF : 1 ≤ F) (hL : 20 ≤ L) : xw_Met G m_Model_logarithm F L 0 0 [.double x] h (fun v h' => v = some (.double y) ∧ h = h') (fun _ _ => False) := by
  refine xw_Met.of rfl (by decide) (Nat.le_of_ble_eq_true rfl) ?_
  rw [lgF] at hy
  cases hU : lgU 16 x 0 with
  | none => rw [hU] at hy; cases hy
  | some p =>
    rw [hU] at hy
    change (lgD 16 p.1 p.2).bind (fun q => lnT q.1 q.2) = some y at hy
    cases hD : lgD 16 p.1 p.2 with
    | none => rw [hD] at hy; cases hy
    | some q =>
      rw [hD] at hy
      change lnT q.1 q.2 = some y at hy
      rw [lnT] at hy
      by_cases hw : n64 (FP.dsub q.1 FP.dconst1) = true ∧ n64 (FP.dadd q.1 FP.dconst1) = true ∧ n64 (lnZ q.1) = true ∧ n64 (FP.dmul (lnZ q.1) (lnZ q.1)) = true
      · rw [if_pos hw] at hy
        cases hS : lnS (FP.dmul (lnZ q.1) (lnZ q.1)) [19, 17, 15, 13, 11, 9, 7, 5, 3, 1] FP.dconst0 with
        | none => rw [hS] at hy; cases hy
        | some t =>
          rw [hS] at hy
          change lnE (lnZ q.1) q.2 t = some y at hy
          rw [lnE] at hy
          by_cases hv : n64 (FP.dmul 4611686018427387904 (lnZ q.1)) = true ∧ n64 (FP.dmul (FP.dmul 4611686018427387904 (lnZ q.1)) t) = true ∧ n64 (FP.dmul (FP.i2d q.2) 4604418534313441775) = true ∧ n64 (FP.dadd (FP.dmul (FP.dmul 4611686018427387904 (lnZ q.1)) t) (FP.dmul (FP.i2d q.2) 4604418534313441775)) = true
          · rw [if_pos hv] at hy
            refine s_Model_logarithm_0 ?_
            refine lp_lgU ?_ 16 _ _ hU
            refine lp_lgD ?_ 16 _ _ hD
            refine s_Model_logarithm_45 (n64.of hw.1) (n64.of hw.2.1) (n64.of hw.2.2.1) (n64.of hw.2.2.2) ?_
            refine lp_lgS (t := t) ?_ 10 (Nat.le_refl _) _ hS
            refine s_Model_logarithm_92 (n64.of hv.1) (n64.of hv.2.1) (n64.of hv.2.2.1) (n64.of hv.2.2.2) ?_
            exact ⟨congrArg (fun z => some (Value.double z)) (Option.some.inj hy), rfl⟩
          · rw [if_neg hv] at hy
            cases hy
      · rw [if_neg hw] at hy
        cases hy
