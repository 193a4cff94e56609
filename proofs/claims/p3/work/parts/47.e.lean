/-! the reference in general states: by program (wip/tools/gen5.py, gen6.py, gen7.py) -/
theorem fi_i2d {t : Nat} (h : t < 2401) : FI (FP.i2d (nI t)) := by
  rcases me_i2d t h with q | q
  · rw [q]; exact smB.fi (by decide +kernel)
  · exact smB.fi (meB.sm q)
theorem cmp0 : (Op.cmpValue (FP.dcmp (FP.i2d (nI 0)) FP.dconst0) .l) = 0 := by decide +kernel
theorem wq {w0 w1 q0 q1 : Nat} (h0 : w0 ≤ 9) (h1 : w1 ≤ 9) (k0 : q0 ≤ 24) (k1 : q1 ≤ 24) : w0 * q0 + w1 * q1 ≤ 432 ∧ (1 ≤ w0 * q0 + w1 * q1 → 1 ≤ q0 + q1) := by
  have a := Nat.mul_le_mul h0 k0
  have b := Nat.mul_le_mul h1 k1
  refine ⟨by omega, fun h => ?_⟩
  rcases Nat.eq_zero_or_pos q0 with q | q
  · rcases Nat.eq_zero_or_pos q1 with p | p
    · rw [q, p] at h; simp at h
    · omega
  · omega
theorem cntL_pos {f : Nat → Int32} {r : Nat} (h : ¬ f r < 0) : ∀ n, r < n → 1 ≤ cntL f n := by
  intro n
  induction n with
  | zero => intro q; omega
  | succ n ih =>
    intro q
    rw [cntL]
    by_cases q2 : r = n
    · subst q2; rw [if_pos h]; omega
    · have := ih (by omega); omega
theorem cntL_mono (f : Nat → Int32) (i : Nat) : cntL f i ≤ cntL f (i + 1) := by
  rw [cntL]; omega
theorem cntL_live {f : Nat → Int32} {i : Nat} (h : ¬ f i < 0) : cntL f (i + 1) = cntL f i + 1 := by
  rw [cntL, if_pos h]
theorem lg_of {r w : Nat} (hr : r < 25) (hw : w ≤ r) : n64 (FP.dadd (FP.i2d (nI r - nI w)) 4602678819172646912) = true ∧ n64 (FP.dadd (FP.i2d (nI w)) 4602678819172646912) = true ∧ n64 (lnA (nI r) (nI w)) = true ∧ ∃ y, lgF (lnA (nI r) (nI w)) = some y ∧ ((Op.cmpValue (FP.dcmp y FP.dconst0) .l) ≤ 0 ∨ smB y = true) := by
  have hk := lnOK_all r hr w (by omega)
  rw [lnOK] at hk
  simp only [Bool.and_eq_true] at hk
  obtain ⟨⟨⟨k1, k2⟩, k3⟩, k4⟩ := hk
  refine ⟨k1, k2, k3, ?_⟩
  rw [lgF_ln (lgE_all r hr w (by omega))]
  cases hF2 : lnF (lnA (nI r) (nI w)) with
  | none => rw [hF2] at k4; cases k4
  | some y =>
    rw [hF2] at k4
    refine ⟨y, rfl, ?_⟩
    rcases Bool.or_eq_true _ _ |>.mp k4 with q | q
    · exact Or.inl (of_decide_eq_true q)
    · exact Or.inr q
theorem sc_all {t d al rw' : Nat} {x14 x2 : UInt64} (ht : 1 ≤ t) (ht2 : t < 1135) (hd : d < 97) (ha : 1 ≤ al) (ha2 : al < 2401) (hr : 1 ≤ rw') (hr2 : rw' < 2401) (h14 : smB x14 = true) (h2 : NN x2) :
    NN (FP.dmul (FP.i2d (nI t)) 4612136378390124954) ∧ NN (FP.dmul x14 (FP.dmul (FP.i2d (nI t)) 4612136378390124954)) ∧ NN (FP.dmul 4604930618986332160 (FP.i2d (nI d))) ∧ NN (FP.ddiv (FP.dmul 4604930618986332160 (FP.i2d (nI d))) (FP.ddiv (FP.i2d (nI al)) (FP.i2d (nI rw')))) ∧ NN (FP.dadd 4598175219545276416 (FP.ddiv (FP.dmul 4604930618986332160 (FP.i2d (nI d))) (FP.ddiv (FP.i2d (nI al)) (FP.i2d (nI rw'))))) ∧ NN (FP.dmul 4608083138725491507 (FP.dadd 4598175219545276416 (FP.ddiv (FP.dmul 4604930618986332160 (FP.i2d (nI d))) (FP.ddiv (FP.i2d (nI al)) (FP.i2d (nI rw')))))) ∧ NN (FP.dadd (FP.i2d (nI t)) (FP.dmul 4608083138725491507 (FP.dadd 4598175219545276416 (FP.ddiv (FP.dmul 4604930618986332160 (FP.i2d (nI d))) (FP.ddiv (FP.i2d (nI al)) (FP.i2d (nI rw'))))))) ∧ NN (FP.ddiv (FP.dmul x14 (FP.dmul (FP.i2d (nI t)) 4612136378390124954)) (FP.dadd (FP.i2d (nI t)) (FP.dmul 4608083138725491507 (FP.dadd 4598175219545276416 (FP.ddiv (FP.dmul 4604930618986332160 (FP.i2d (nI d))) (FP.ddiv (FP.i2d (nI al)) (FP.i2d (nI rw')))))))) ∧ NN (FP.dadd x2 (FP.ddiv (FP.dmul x14 (FP.dmul (FP.i2d (nI t)) 4612136378390124954)) (FP.dadd (FP.i2d (nI t)) (FP.dmul 4608083138725491507 (FP.dadd 4598175219545276416 (FP.ddiv (FP.dmul 4604930618986332160 (FP.i2d (nI d))) (FP.ddiv (FP.i2d (nI al)) (FP.i2d (nI rw'))))))))) := by
  have m22 := (me_22 t ht2).resolve_left (by omega)
  have mf := (me_i2d t (by omega)).resolve_left (by omega)
  have sd := sm_len d hd
  have a := po_ddiv ((me_i2d al ha2).resolve_left (by omega)) ((me_i2d rw' hr2).resolve_left (by omega))
  have A1 := fi_dmul h14 (meB.sm m22)
  have A2 := nn_ddiv (smB.fi sd) a
  have A3 := po_dadd (x := 4598175219545276416) (by decide +kernel) A2
  have A4 := nn_dmul (x := 4608083138725491507) (by decide +kernel) A3.nn
  have A5 := po_dadd mf A4
  have A6 := nn_ddiv A1 A5
  have A7 := nn_dadd h2 A6
  exact ⟨(meB.po m22).nn, A1.nn, (smB.fi sd).nn, A2, A3.nn, A4, A5.nn, A6, A7⟩
set_option maxHeartbeats 2000000 in
theorem lp_sA {G : xw_G} {F L bc bs : Nat} {pr : Option Value → xw_A → Prop} {px : String → xw_A → Prop} {m draft_ asked_ prepared_ preparedSize_ texts_ sizes_ weights_ entries_ lies_ live_ row_ level_ oldTexts_ oldSizes_ oldLies_ oldLive_ oldRow_ firstToken_ starred_ tokenAt_ tokenSize_ groupKind_ groupPhrase_ groupSize_ groupMask_ groupFar_ out_ top_ masks_ begins_ lasts_ truth_ answers_ order_ scores_ : Nat} {gs : List Value} {h0 : xw_A} {ca cs ft fa c1 c2 fz fv fw : Nat → Int32} {P t r : Nat} (hP : P ≤ 12) (PH : PhO c1 P t) (ht : t ≤ 49) (TK : TkO ca cs t 97) (q_phrases : gs[(34 : Nat)]? = some (.int (nI P))) (q_begins : gs[(53 : Nat)]? = some (.ref begins_)) (q_lasts : gs[(54 : Nat)]? = some (.ref lasts_)) (q_tokenAt : gs[(43 : Nat)]? = some (.ref tokenAt_)) (q_tokenSize : gs[(44 : Nat)]? = some (.ref tokenSize_)) (q_texts : gs[(7 : Nat)]? = some (.ref texts_)) (q_asked : gs[(4 : Nat)]? = some (.ref asked_)) (q_firstToken : gs[(41 : Nat)]? = some (.ref firstToken_)) (q_starred : gs[(42 : Nat)]? = some (.ref starred_)) (q_sizes : gs[(8 : Nat)]? = some (.ref sizes_)) (q_live : gs[(14 : Nat)]? = some (.ref live_)) (q_weights : gs[(9 : Nat)]? = some (.ref weights_)) (p_tokenAt : h0 tokenAt_ = some (.inl (0, 60, .inl ca))) (p_tokenSize : h0 tokenSize_ = some (.inl (0, 60, .inl cs))) (p_texts : h0 texts_ = some (.inl (0, 2304, .inl ft))) (p_asked : h0 asked_ = some (.inl (0, 96, .inl fa))) (p_firstToken : h0 firstToken_ = some (.inl (0, 13, .inl c1))) (p_starred : h0 starred_ = some (.inl (0, 13, .inl c2))) (p_sizes : h0 sizes_ = some (.inl (0, 48, .inl fz))) (p_live : h0 live_ = some (.inl (0, 24, .inl fv))) (p_weights : h0 weights_ = some (.inl (0, 2, .inl fw))) (ND : NDl [m, draft_, asked_, prepared_, preparedSize_, texts_, sizes_, weights_, entries_, lies_, live_, row_, level_, oldTexts_, oldSizes_, oldLies_, oldLive_, oldRow_, firstToken_, starred_, tokenAt_, tokenSize_, groupKind_, groupPhrase_, groupSize_, groupMask_, groupFar_, out_, top_, masks_, begins_, lasts_, truth_, answers_, order_, scores_]) (hr : r < 24) (hz : SZo fz 48) {sm : UInt64} {rw_ : Nat} {tR : Nat} (hTR : tR = tokN (fun j => ft (96 * r + 48 * 0 + j)) (fz (2 * r + 0)).toNatClampNeg + tokN (fun j => ft (96 * r + 48 * 1 + j)) (fz (2 * r + 1)).toNatClampNeg) (hlv : ¬ fv r < 0) (hF : 5 ≤ F) (hL : 109 ≤ L) (kk : ∀ (h : xw_A) (al : Nat) (cl : Int32) (fb : Nat → Int32) (fl : Nat → Int32) (fs : List Value), fs.length = 62 → h m = some (.inr (11, fs)) → fs[(55 : Nat)]? = some (.int cl) → (∀ i : Nat, i ∉ [55] → fs[i]? = gs[i]?) → h begins_ = some (.inl (0, 24, .inl fb)) → h lasts_ = some (.inl (0, 24, .inl fl)) → al ≤ 1152 → tR ≤ al → FrO [m, begins_, lasts_] h0 h → xw G m_Model_scoreOf F L bc bs pr px 48 [some (.ref m), some (.int (nI r)), some (.double sm), none, some (.int (nI al)), some (.int (nI rw_)), none, none, none, none, none, none, none, none, none, none] [] h) :
    ∀ (dd i : Nat) (h : xw_A) (al : Nat) (cl : Int32) (fb : Nat → Int32) (fl : Nat → Int32) (fs : List Value), i + dd = 24 → fs.length = 62 → h m = some (.inr (11, fs)) → fs[(55 : Nat)]? = some (.int cl) → (∀ i : Nat, i ∉ [55] → fs[i]? = gs[i]?) → h begins_ = some (.inl (0, 24, .inl fb)) → h lasts_ = some (.inl (0, 24, .inl fl)) → al ≤ 48 * i → (r < i → tR ≤ al) → FrO [m, begins_, lasts_] h0 h → xw G m_Model_scoreOf F L bc bs pr px 14 [some (.ref m), some (.int (nI r)), some (.double sm), none, some (.int (nI al)), some (.int (nI rw_)), some (.int (nI i)), none, none, none, none, none, none, none, none, none] [] h := by
  intro dd
  induction dd with
  | zero =>
    intro i h al cl fb fl fs hi l e g_column ga0 e_begins e_lasts hal hal2 r0
    obtain rfl : i = 24 := by omega
    have g_phrases := (ga0 34 (by decide)).trans q_phrases
    have g_begins := (ga0 53 (by decide)).trans q_begins
    have g_lasts := (ga0 54 (by decide)).trans q_lasts
    have g_tokenAt := (ga0 43 (by decide)).trans q_tokenAt
    have g_tokenSize := (ga0 44 (by decide)).trans q_tokenSize
    have g_texts := (ga0 7 (by decide)).trans q_texts
    have g_asked := (ga0 4 (by decide)).trans q_asked
    have g_firstToken := (ga0 41 (by decide)).trans q_firstToken
    have g_starred := (ga0 42 (by decide)).trans q_starred
    have g_sizes := (ga0 8 (by decide)).trans q_sizes
    have g_live := (ga0 14 (by decide)).trans q_live
    have g_weights := (ga0 9 (by decide)).trans q_weights
    have e_tokenAt := r0 tokenAt_ _ (by simp only [List.mem_cons, List.not_mem_nil, or_false, not_or]; exact ⟨(nd_ne ND (i := 20) (j := 0) rfl rfl (by decide)), (nd_ne ND (i := 20) (j := 30) rfl rfl (by decide)), (nd_ne ND (i := 20) (j := 31) rfl rfl (by decide))⟩) p_tokenAt
    have e_tokenSize := r0 tokenSize_ _ (by simp only [List.mem_cons, List.not_mem_nil, or_false, not_or]; exact ⟨(nd_ne ND (i := 21) (j := 0) rfl rfl (by decide)), (nd_ne ND (i := 21) (j := 30) rfl rfl (by decide)), (nd_ne ND (i := 21) (j := 31) rfl rfl (by decide))⟩) p_tokenSize
    have e_texts := r0 texts_ _ (by simp only [List.mem_cons, List.not_mem_nil, or_false, not_or]; exact ⟨(nd_ne ND (i := 5) (j := 0) rfl rfl (by decide)), (nd_ne ND (i := 5) (j := 30) rfl rfl (by decide)), (nd_ne ND (i := 5) (j := 31) rfl rfl (by decide))⟩) p_texts
    have e_asked := r0 asked_ _ (by simp only [List.mem_cons, List.not_mem_nil, or_false, not_or]; exact ⟨(nd_ne ND (i := 2) (j := 0) rfl rfl (by decide)), (nd_ne ND (i := 2) (j := 30) rfl rfl (by decide)), (nd_ne ND (i := 2) (j := 31) rfl rfl (by decide))⟩) p_asked
    have e_firstToken := r0 firstToken_ _ (by simp only [List.mem_cons, List.not_mem_nil, or_false, not_or]; exact ⟨(nd_ne ND (i := 18) (j := 0) rfl rfl (by decide)), (nd_ne ND (i := 18) (j := 30) rfl rfl (by decide)), (nd_ne ND (i := 18) (j := 31) rfl rfl (by decide))⟩) p_firstToken
    have e_starred := r0 starred_ _ (by simp only [List.mem_cons, List.not_mem_nil, or_false, not_or]; exact ⟨(nd_ne ND (i := 19) (j := 0) rfl rfl (by decide)), (nd_ne ND (i := 19) (j := 30) rfl rfl (by decide)), (nd_ne ND (i := 19) (j := 31) rfl rfl (by decide))⟩) p_starred
    have e_sizes := r0 sizes_ _ (by simp only [List.mem_cons, List.not_mem_nil, or_false, not_or]; exact ⟨(nd_ne ND (i := 6) (j := 0) rfl rfl (by decide)), (nd_ne ND (i := 6) (j := 30) rfl rfl (by decide)), (nd_ne ND (i := 6) (j := 31) rfl rfl (by decide))⟩) p_sizes
    have e_live := r0 live_ _ (by simp only [List.mem_cons, List.not_mem_nil, or_false, not_or]; exact ⟨(nd_ne ND (i := 10) (j := 0) rfl rfl (by decide)), (nd_ne ND (i := 10) (j := 30) rfl rfl (by decide)), (nd_ne ND (i := 10) (j := 31) rfl rfl (by decide))⟩) p_live
    have e_weights := r0 weights_ _ (by simp only [List.mem_cons, List.not_mem_nil, or_false, not_or]; exact ⟨(nd_ne ND (i := 7) (j := 0) rfl rfl (by decide)), (nd_ne ND (i := 7) (j := 30) rfl rfl (by decide)), (nd_ne ND (i := 7) (j := 31) rfl rfl (by decide))⟩) p_weights
    refine s_Model_scoreOf_14 (fun z_1 => ?_) (fun z => absurd z (by decide))
    exact kk _ _ _ _ _ _ l e g_column ga0 e_begins e_lasts (by omega) (hal2 hr) r0
  | succ dd ih =>
    intro i h al cl fb fl fs hi l e g_column ga0 e_begins e_lasts hal hal2 r0
    have g_phrases := (ga0 34 (by decide)).trans q_phrases
    have g_begins := (ga0 53 (by decide)).trans q_begins
    have g_lasts := (ga0 54 (by decide)).trans q_lasts
    have g_tokenAt := (ga0 43 (by decide)).trans q_tokenAt
    have g_tokenSize := (ga0 44 (by decide)).trans q_tokenSize
    have g_texts := (ga0 7 (by decide)).trans q_texts
    have g_asked := (ga0 4 (by decide)).trans q_asked
    have g_firstToken := (ga0 41 (by decide)).trans q_firstToken
    have g_starred := (ga0 42 (by decide)).trans q_starred
    have g_sizes := (ga0 8 (by decide)).trans q_sizes
    have g_live := (ga0 14 (by decide)).trans q_live
    have g_weights := (ga0 9 (by decide)).trans q_weights
    have e_tokenAt := r0 tokenAt_ _ (by simp only [List.mem_cons, List.not_mem_nil, or_false, not_or]; exact ⟨(nd_ne ND (i := 20) (j := 0) rfl rfl (by decide)), (nd_ne ND (i := 20) (j := 30) rfl rfl (by decide)), (nd_ne ND (i := 20) (j := 31) rfl rfl (by decide))⟩) p_tokenAt
    have e_tokenSize := r0 tokenSize_ _ (by simp only [List.mem_cons, List.not_mem_nil, or_false, not_or]; exact ⟨(nd_ne ND (i := 21) (j := 0) rfl rfl (by decide)), (nd_ne ND (i := 21) (j := 30) rfl rfl (by decide)), (nd_ne ND (i := 21) (j := 31) rfl rfl (by decide))⟩) p_tokenSize
    have e_texts := r0 texts_ _ (by simp only [List.mem_cons, List.not_mem_nil, or_false, not_or]; exact ⟨(nd_ne ND (i := 5) (j := 0) rfl rfl (by decide)), (nd_ne ND (i := 5) (j := 30) rfl rfl (by decide)), (nd_ne ND (i := 5) (j := 31) rfl rfl (by decide))⟩) p_texts
    have e_asked := r0 asked_ _ (by simp only [List.mem_cons, List.not_mem_nil, or_false, not_or]; exact ⟨(nd_ne ND (i := 2) (j := 0) rfl rfl (by decide)), (nd_ne ND (i := 2) (j := 30) rfl rfl (by decide)), (nd_ne ND (i := 2) (j := 31) rfl rfl (by decide))⟩) p_asked
    have e_firstToken := r0 firstToken_ _ (by simp only [List.mem_cons, List.not_mem_nil, or_false, not_or]; exact ⟨(nd_ne ND (i := 18) (j := 0) rfl rfl (by decide)), (nd_ne ND (i := 18) (j := 30) rfl rfl (by decide)), (nd_ne ND (i := 18) (j := 31) rfl rfl (by decide))⟩) p_firstToken
    have e_starred := r0 starred_ _ (by simp only [List.mem_cons, List.not_mem_nil, or_false, not_or]; exact ⟨(nd_ne ND (i := 19) (j := 0) rfl rfl (by decide)), (nd_ne ND (i := 19) (j := 30) rfl rfl (by decide)), (nd_ne ND (i := 19) (j := 31) rfl rfl (by decide))⟩) p_starred
    have e_sizes := r0 sizes_ _ (by simp only [List.mem_cons, List.not_mem_nil, or_false, not_or]; exact ⟨(nd_ne ND (i := 6) (j := 0) rfl rfl (by decide)), (nd_ne ND (i := 6) (j := 30) rfl rfl (by decide)), (nd_ne ND (i := 6) (j := 31) rfl rfl (by decide))⟩) p_sizes
    have e_live := r0 live_ _ (by simp only [List.mem_cons, List.not_mem_nil, or_false, not_or]; exact ⟨(nd_ne ND (i := 10) (j := 0) rfl rfl (by decide)), (nd_ne ND (i := 10) (j := 30) rfl rfl (by decide)), (nd_ne ND (i := 10) (j := 31) rfl rfl (by decide))⟩) p_live
    have e_weights := r0 weights_ _ (by simp only [List.mem_cons, List.not_mem_nil, or_false, not_or]; exact ⟨(nd_ne ND (i := 7) (j := 0) rfl rfl (by decide)), (nd_ne ND (i := 7) (j := 30) rfl rfl (by decide)), (nd_ne ND (i := 7) (j := 31) rfl rfl (by decide))⟩) p_weights
    refine s_Model_scoreOf_14 (fun z => absurd z (nI_ge (b := 24) (show i < 24 by omega) (by decide))) (fun z_1 => ?_)
    refine s_Model_scoreOf_21 l e g_live e_live (vp_in_nI (by omega) (by omega)) (fun z_2 => ?_) (fun z_3 => ?_)
    · skip
      refine s_Model_scoreOf_42 ?_
      rw [nI_1]
      rw [nI_clamp (show i < 2 ^ 31 by omega)] at z_2
      have hir : ¬ r = i := fun q => hlv (by rw [q]; exact z_2)
      exact ih (i + 1) _ _ _ _ _ _ (by omega) l e g_column ga0 e_begins e_lasts (by omega) (fun q => hal2 (by omega)) r0
    · skip
      refine s_Model_scoreOf_31 ?_
      refine x_callV (As := [.int (nI i)]) (b := m) (rest := [.int (nI al)]) (F1 := 4) (L1 := 87) (mc := 0) (ms := 0) d_Model_scoreOf_36 cV_Model_184 (f_tokensOf l e g_column g_texts e_texts g_sizes e_sizes g_begins e_begins g_lasts e_lasts (nd_ne ND (i := 30) (j := 31) rfl rfl (by decide)) (show i < 24 by omega) hz (by omega) (by omega)) e ⟨by decide, rfl⟩ ⟨by omega, by show 8 + (3 + 11) + 87 ≤ _; omega⟩ ⟨by omega, by omega⟩ (Nat.le_of_ble_eq_true rfl) (fun v_19 h_18 p_20 => ?_)
      obtain ⟨k_4, fb_8, fl_9, fs_10, rfl, hk_5, hk48_6, l_11, e_12, ⟨cl_7, g_13⟩, ga_14, eb_15, el_16, r_17⟩ := p_20
      have e_21 := r_17 tokenAt_ _ (by simp only [List.mem_cons, List.not_mem_nil, or_false, not_or]; exact ⟨(Ne.symm (nd_ne ND (i := 0) (j := 20) rfl rfl (by decide))), (Ne.symm (nd_ne ND (i := 30) (j := 20) rfl rfl (by decide))), (Ne.symm (nd_ne ND (i := 31) (j := 20) rfl rfl (by decide)))⟩) e_tokenAt
      have e_22 := r_17 tokenSize_ _ (by simp only [List.mem_cons, List.not_mem_nil, or_false, not_or]; exact ⟨(Ne.symm (nd_ne ND (i := 0) (j := 21) rfl rfl (by decide))), (Ne.symm (nd_ne ND (i := 30) (j := 21) rfl rfl (by decide))), (Ne.symm (nd_ne ND (i := 31) (j := 21) rfl rfl (by decide)))⟩) e_tokenSize
      have e_23 := r_17 texts_ _ (by simp only [List.mem_cons, List.not_mem_nil, or_false, not_or]; exact ⟨(Ne.symm (nd_ne ND (i := 0) (j := 5) rfl rfl (by decide))), (Ne.symm (nd_ne ND (i := 30) (j := 5) rfl rfl (by decide))), (Ne.symm (nd_ne ND (i := 31) (j := 5) rfl rfl (by decide)))⟩) e_texts
      have e_24 := r_17 asked_ _ (by simp only [List.mem_cons, List.not_mem_nil, or_false, not_or]; exact ⟨(Ne.symm (nd_ne ND (i := 0) (j := 2) rfl rfl (by decide))), (Ne.symm (nd_ne ND (i := 30) (j := 2) rfl rfl (by decide))), (Ne.symm (nd_ne ND (i := 31) (j := 2) rfl rfl (by decide)))⟩) e_asked
      have e_25 := r_17 firstToken_ _ (by simp only [List.mem_cons, List.not_mem_nil, or_false, not_or]; exact ⟨(Ne.symm (nd_ne ND (i := 0) (j := 18) rfl rfl (by decide))), (Ne.symm (nd_ne ND (i := 30) (j := 18) rfl rfl (by decide))), (Ne.symm (nd_ne ND (i := 31) (j := 18) rfl rfl (by decide)))⟩) e_firstToken
      have e_26 := r_17 starred_ _ (by simp only [List.mem_cons, List.not_mem_nil, or_false, not_or]; exact ⟨(Ne.symm (nd_ne ND (i := 0) (j := 19) rfl rfl (by decide))), (Ne.symm (nd_ne ND (i := 30) (j := 19) rfl rfl (by decide))), (Ne.symm (nd_ne ND (i := 31) (j := 19) rfl rfl (by decide)))⟩) e_starred
      have e_27 := r_17 sizes_ _ (by simp only [List.mem_cons, List.not_mem_nil, or_false, not_or]; exact ⟨(Ne.symm (nd_ne ND (i := 0) (j := 6) rfl rfl (by decide))), (Ne.symm (nd_ne ND (i := 30) (j := 6) rfl rfl (by decide))), (Ne.symm (nd_ne ND (i := 31) (j := 6) rfl rfl (by decide)))⟩) e_sizes
      have e_28 := r_17 live_ _ (by simp only [List.mem_cons, List.not_mem_nil, or_false, not_or]; exact ⟨(Ne.symm (nd_ne ND (i := 0) (j := 10) rfl rfl (by decide))), (Ne.symm (nd_ne ND (i := 30) (j := 10) rfl rfl (by decide))), (Ne.symm (nd_ne ND (i := 31) (j := 10) rfl rfl (by decide)))⟩) e_live
      have e_29 := r_17 weights_ _ (by simp only [List.mem_cons, List.not_mem_nil, or_false, not_or]; exact ⟨(Ne.symm (nd_ne ND (i := 0) (j := 7) rfl rfl (by decide))), (Ne.symm (nd_ne ND (i := 30) (j := 7) rfl rfl (by decide))), (Ne.symm (nd_ne ND (i := 31) (j := 7) rfl rfl (by decide)))⟩) e_weights
      have r_30 := r0.trans (r_17.mono (by simp))
      have g_31 : fs_10[(34 : Nat)]? = some (.int (nI P)) := (ga_14 34 (by decide)).trans g_phrases
      have g_32 : fs_10[(53 : Nat)]? = some (.ref begins_) := (ga_14 53 (by decide)).trans g_begins
      have g_33 : fs_10[(54 : Nat)]? = some (.ref lasts_) := (ga_14 54 (by decide)).trans g_lasts
      have g_34 : fs_10[(43 : Nat)]? = some (.ref tokenAt_) := (ga_14 43 (by decide)).trans g_tokenAt
      have g_35 : fs_10[(44 : Nat)]? = some (.ref tokenSize_) := (ga_14 44 (by decide)).trans g_tokenSize
      have g_36 : fs_10[(7 : Nat)]? = some (.ref texts_) := (ga_14 7 (by decide)).trans g_texts
      have g_37 : fs_10[(4 : Nat)]? = some (.ref asked_) := (ga_14 4 (by decide)).trans g_asked
      have g_38 : fs_10[(41 : Nat)]? = some (.ref firstToken_) := (ga_14 41 (by decide)).trans g_firstToken
      have g_39 : fs_10[(42 : Nat)]? = some (.ref starred_) := (ga_14 42 (by decide)).trans g_starred
      have g_40 : fs_10[(8 : Nat)]? = some (.ref sizes_) := (ga_14 8 (by decide)).trans g_sizes
      have g_41 : fs_10[(14 : Nat)]? = some (.ref live_) := (ga_14 14 (by decide)).trans g_live
      have g_42 : fs_10[(9 : Nat)]? = some (.ref weights_) := (ga_14 9 (by decide)).trans g_weights
      have ga_43 : ∀ i : Nat, i ∉ [55] → fs_10[i]? = gs[i]? := fun i hi => (ga_14 i (fun z => hi (by simp only [List.mem_cons, List.not_mem_nil, or_false] at z ⊢; omega))).trans (ga0 i hi)
      refine x_le (xw_le_s (xw_le_s (xw_le_s (xw_le_n (xw_le_n (xw_le_s (xw_le_s (xw_le_n (xw_le_n (xw_le_n (xw_le_n (xw_le_n (xw_le_n (xw_le_n (xw_le_n (xw_le_n xw_le_e)))))))))))))))) ?_
      refine s_Model_scoreOf_39 ?_
      refine s_Model_scoreOf_42 ?_
      rw [nI_1, nI_add]
      exact ih (i + 1) _ _ _ _ _ _ (by omega) l_11 e_12 g_13 ga_43 eb_15 el_16 (by omega) (fun q => by by_cases q2 : r < i; (have q4 := hal2 q2; omega); (obtain rfl : r = i := (by omega); have q3 : tR = k_4 := hTR.trans hk_5.symm; omega)) r_30
set_option maxHeartbeats 2000000 in
theorem lp_sC {G : xw_G} {F L bc bs : Nat} {pr : Option Value → xw_A → Prop} {px : String → xw_A → Prop} {m draft_ asked_ prepared_ preparedSize_ texts_ sizes_ weights_ entries_ lies_ live_ row_ level_ oldTexts_ oldSizes_ oldLies_ oldLive_ oldRow_ firstToken_ starred_ tokenAt_ tokenSize_ groupKind_ groupPhrase_ groupSize_ groupMask_ groupFar_ out_ top_ masks_ begins_ lasts_ truth_ answers_ order_ scores_ : Nat} {gs : List Value} {h0 : xw_A} {ca cs ft fa c1 c2 fz fv fw : Nat → Int32} {P t r : Nat} (hP : P ≤ 12) (PH : PhO c1 P t) (ht : t ≤ 49) (TK : TkO ca cs t 97) (q_phrases : gs[(34 : Nat)]? = some (.int (nI P))) (q_begins : gs[(53 : Nat)]? = some (.ref begins_)) (q_lasts : gs[(54 : Nat)]? = some (.ref lasts_)) (q_tokenAt : gs[(43 : Nat)]? = some (.ref tokenAt_)) (q_tokenSize : gs[(44 : Nat)]? = some (.ref tokenSize_)) (q_texts : gs[(7 : Nat)]? = some (.ref texts_)) (q_asked : gs[(4 : Nat)]? = some (.ref asked_)) (q_firstToken : gs[(41 : Nat)]? = some (.ref firstToken_)) (q_starred : gs[(42 : Nat)]? = some (.ref starred_)) (q_sizes : gs[(8 : Nat)]? = some (.ref sizes_)) (q_live : gs[(14 : Nat)]? = some (.ref live_)) (q_weights : gs[(9 : Nat)]? = some (.ref weights_)) (p_tokenAt : h0 tokenAt_ = some (.inl (0, 60, .inl ca))) (p_tokenSize : h0 tokenSize_ = some (.inl (0, 60, .inl cs))) (p_texts : h0 texts_ = some (.inl (0, 2304, .inl ft))) (p_asked : h0 asked_ = some (.inl (0, 96, .inl fa))) (p_firstToken : h0 firstToken_ = some (.inl (0, 13, .inl c1))) (p_starred : h0 starred_ = some (.inl (0, 13, .inl c2))) (p_sizes : h0 sizes_ = some (.inl (0, 48, .inl fz))) (p_live : h0 live_ = some (.inl (0, 24, .inl fv))) (p_weights : h0 weights_ = some (.inl (0, 2, .inl fw))) (ND : NDl [m, draft_, asked_, prepared_, preparedSize_, texts_, sizes_, weights_, entries_, lies_, live_, row_, level_, oldTexts_, oldSizes_, oldLies_, oldLive_, oldRow_, firstToken_, starred_, tokenAt_, tokenSize_, groupKind_, groupPhrase_, groupSize_, groupMask_, groupFar_, out_, top_, masks_, begins_, lasts_, truth_, answers_, order_, scores_]) (hr : r < 24) (hz : SZo fz 48) {sm : UInt64} {rw_ al p : Nat} (hp : p < P) (hF : 6 ≤ F) (hL : 137 ≤ L) (kk : ∀ (h : xw_A) (n : Nat) (cl : Int32) (fb : Nat → Int32) (fl : Nat → Int32) (fs : List Value), fs.length = 62 → h m = some (.inr (11, fs)) → fs[(55 : Nat)]? = some (.int cl) → (∀ i : Nat, i ∉ [55] → fs[i]? = gs[i]?) → h begins_ = some (.inl (0, 24, .inl fb)) → h lasts_ = some (.inl (0, 24, .inl fl)) → n ≤ cntL fv 24 → FrO [m, begins_, lasts_] h0 h → xw G m_Model_scoreOf F L bc bs pr px 114 [some (.ref m), some (.int (nI r)), some (.double sm), none, some (.int (nI al)), some (.int (nI rw_)), some (.int (nI p)), some (.int (nI n)), none, none, none, none, none, none, none, none] [] h) :
    ∀ (dd i : Nat) (h : xw_A) (n : Nat) (cl : Int32) (fb : Nat → Int32) (fl : Nat → Int32) (fs : List Value), i + dd = 24 → fs.length = 62 → h m = some (.inr (11, fs)) → fs[(55 : Nat)]? = some (.int cl) → (∀ i : Nat, i ∉ [55] → fs[i]? = gs[i]?) → h begins_ = some (.inl (0, 24, .inl fb)) → h lasts_ = some (.inl (0, 24, .inl fl)) → n ≤ cntL fv i → FrO [m, begins_, lasts_] h0 h → xw G m_Model_scoreOf F L bc bs pr px 66 [some (.ref m), some (.int (nI r)), some (.double sm), none, some (.int (nI al)), some (.int (nI rw_)), some (.int (nI p)), some (.int (nI n)), some (.int (nI i)), none, none, none, none, none, none, none] [] h := by
  intro dd
  induction dd with
  | zero =>
    intro i h n cl fb fl fs hi l e g_column ga0 e_begins e_lasts hn r0
    obtain rfl : i = 24 := by omega
    have g_phrases := (ga0 34 (by decide)).trans q_phrases
    have g_begins := (ga0 53 (by decide)).trans q_begins
    have g_lasts := (ga0 54 (by decide)).trans q_lasts
    have g_tokenAt := (ga0 43 (by decide)).trans q_tokenAt
    have g_tokenSize := (ga0 44 (by decide)).trans q_tokenSize
    have g_texts := (ga0 7 (by decide)).trans q_texts
    have g_asked := (ga0 4 (by decide)).trans q_asked
    have g_firstToken := (ga0 41 (by decide)).trans q_firstToken
    have g_starred := (ga0 42 (by decide)).trans q_starred
    have g_sizes := (ga0 8 (by decide)).trans q_sizes
    have g_live := (ga0 14 (by decide)).trans q_live
    have g_weights := (ga0 9 (by decide)).trans q_weights
    have e_tokenAt := r0 tokenAt_ _ (by simp only [List.mem_cons, List.not_mem_nil, or_false, not_or]; exact ⟨(nd_ne ND (i := 20) (j := 0) rfl rfl (by decide)), (nd_ne ND (i := 20) (j := 30) rfl rfl (by decide)), (nd_ne ND (i := 20) (j := 31) rfl rfl (by decide))⟩) p_tokenAt
    have e_tokenSize := r0 tokenSize_ _ (by simp only [List.mem_cons, List.not_mem_nil, or_false, not_or]; exact ⟨(nd_ne ND (i := 21) (j := 0) rfl rfl (by decide)), (nd_ne ND (i := 21) (j := 30) rfl rfl (by decide)), (nd_ne ND (i := 21) (j := 31) rfl rfl (by decide))⟩) p_tokenSize
    have e_texts := r0 texts_ _ (by simp only [List.mem_cons, List.not_mem_nil, or_false, not_or]; exact ⟨(nd_ne ND (i := 5) (j := 0) rfl rfl (by decide)), (nd_ne ND (i := 5) (j := 30) rfl rfl (by decide)), (nd_ne ND (i := 5) (j := 31) rfl rfl (by decide))⟩) p_texts
    have e_asked := r0 asked_ _ (by simp only [List.mem_cons, List.not_mem_nil, or_false, not_or]; exact ⟨(nd_ne ND (i := 2) (j := 0) rfl rfl (by decide)), (nd_ne ND (i := 2) (j := 30) rfl rfl (by decide)), (nd_ne ND (i := 2) (j := 31) rfl rfl (by decide))⟩) p_asked
    have e_firstToken := r0 firstToken_ _ (by simp only [List.mem_cons, List.not_mem_nil, or_false, not_or]; exact ⟨(nd_ne ND (i := 18) (j := 0) rfl rfl (by decide)), (nd_ne ND (i := 18) (j := 30) rfl rfl (by decide)), (nd_ne ND (i := 18) (j := 31) rfl rfl (by decide))⟩) p_firstToken
    have e_starred := r0 starred_ _ (by simp only [List.mem_cons, List.not_mem_nil, or_false, not_or]; exact ⟨(nd_ne ND (i := 19) (j := 0) rfl rfl (by decide)), (nd_ne ND (i := 19) (j := 30) rfl rfl (by decide)), (nd_ne ND (i := 19) (j := 31) rfl rfl (by decide))⟩) p_starred
    have e_sizes := r0 sizes_ _ (by simp only [List.mem_cons, List.not_mem_nil, or_false, not_or]; exact ⟨(nd_ne ND (i := 6) (j := 0) rfl rfl (by decide)), (nd_ne ND (i := 6) (j := 30) rfl rfl (by decide)), (nd_ne ND (i := 6) (j := 31) rfl rfl (by decide))⟩) p_sizes
    have e_live := r0 live_ _ (by simp only [List.mem_cons, List.not_mem_nil, or_false, not_or]; exact ⟨(nd_ne ND (i := 10) (j := 0) rfl rfl (by decide)), (nd_ne ND (i := 10) (j := 30) rfl rfl (by decide)), (nd_ne ND (i := 10) (j := 31) rfl rfl (by decide))⟩) p_live
    have e_weights := r0 weights_ _ (by simp only [List.mem_cons, List.not_mem_nil, or_false, not_or]; exact ⟨(nd_ne ND (i := 7) (j := 0) rfl rfl (by decide)), (nd_ne ND (i := 7) (j := 30) rfl rfl (by decide)), (nd_ne ND (i := 7) (j := 31) rfl rfl (by decide))⟩) p_weights
    obtain ⟨a9, b9, h19, h29, hab9, hbt9⟩ := PH p hp
    obtain ⟨n9, rfl⟩ : ∃ n9, b9 = a9 + n9 := ⟨b9 - a9, by omega⟩
    refine s_Model_scoreOf_66 (fun z_1 => ?_) (fun z => absurd z (by decide))
    exact kk _ _ _ _ _ _ l e g_column ga0 e_begins e_lasts hn r0
  | succ dd ih =>
    intro i h n cl fb fl fs hi l e g_column ga0 e_begins e_lasts hn r0
    have g_phrases := (ga0 34 (by decide)).trans q_phrases
    have g_begins := (ga0 53 (by decide)).trans q_begins
    have g_lasts := (ga0 54 (by decide)).trans q_lasts
    have g_tokenAt := (ga0 43 (by decide)).trans q_tokenAt
    have g_tokenSize := (ga0 44 (by decide)).trans q_tokenSize
    have g_texts := (ga0 7 (by decide)).trans q_texts
    have g_asked := (ga0 4 (by decide)).trans q_asked
    have g_firstToken := (ga0 41 (by decide)).trans q_firstToken
    have g_starred := (ga0 42 (by decide)).trans q_starred
    have g_sizes := (ga0 8 (by decide)).trans q_sizes
    have g_live := (ga0 14 (by decide)).trans q_live
    have g_weights := (ga0 9 (by decide)).trans q_weights
    have e_tokenAt := r0 tokenAt_ _ (by simp only [List.mem_cons, List.not_mem_nil, or_false, not_or]; exact ⟨(nd_ne ND (i := 20) (j := 0) rfl rfl (by decide)), (nd_ne ND (i := 20) (j := 30) rfl rfl (by decide)), (nd_ne ND (i := 20) (j := 31) rfl rfl (by decide))⟩) p_tokenAt
    have e_tokenSize := r0 tokenSize_ _ (by simp only [List.mem_cons, List.not_mem_nil, or_false, not_or]; exact ⟨(nd_ne ND (i := 21) (j := 0) rfl rfl (by decide)), (nd_ne ND (i := 21) (j := 30) rfl rfl (by decide)), (nd_ne ND (i := 21) (j := 31) rfl rfl (by decide))⟩) p_tokenSize
    have e_texts := r0 texts_ _ (by simp only [List.mem_cons, List.not_mem_nil, or_false, not_or]; exact ⟨(nd_ne ND (i := 5) (j := 0) rfl rfl (by decide)), (nd_ne ND (i := 5) (j := 30) rfl rfl (by decide)), (nd_ne ND (i := 5) (j := 31) rfl rfl (by decide))⟩) p_texts
    have e_asked := r0 asked_ _ (by simp only [List.mem_cons, List.not_mem_nil, or_false, not_or]; exact ⟨(nd_ne ND (i := 2) (j := 0) rfl rfl (by decide)), (nd_ne ND (i := 2) (j := 30) rfl rfl (by decide)), (nd_ne ND (i := 2) (j := 31) rfl rfl (by decide))⟩) p_asked
    have e_firstToken := r0 firstToken_ _ (by simp only [List.mem_cons, List.not_mem_nil, or_false, not_or]; exact ⟨(nd_ne ND (i := 18) (j := 0) rfl rfl (by decide)), (nd_ne ND (i := 18) (j := 30) rfl rfl (by decide)), (nd_ne ND (i := 18) (j := 31) rfl rfl (by decide))⟩) p_firstToken
    have e_starred := r0 starred_ _ (by simp only [List.mem_cons, List.not_mem_nil, or_false, not_or]; exact ⟨(nd_ne ND (i := 19) (j := 0) rfl rfl (by decide)), (nd_ne ND (i := 19) (j := 30) rfl rfl (by decide)), (nd_ne ND (i := 19) (j := 31) rfl rfl (by decide))⟩) p_starred
    have e_sizes := r0 sizes_ _ (by simp only [List.mem_cons, List.not_mem_nil, or_false, not_or]; exact ⟨(nd_ne ND (i := 6) (j := 0) rfl rfl (by decide)), (nd_ne ND (i := 6) (j := 30) rfl rfl (by decide)), (nd_ne ND (i := 6) (j := 31) rfl rfl (by decide))⟩) p_sizes
    have e_live := r0 live_ _ (by simp only [List.mem_cons, List.not_mem_nil, or_false, not_or]; exact ⟨(nd_ne ND (i := 10) (j := 0) rfl rfl (by decide)), (nd_ne ND (i := 10) (j := 30) rfl rfl (by decide)), (nd_ne ND (i := 10) (j := 31) rfl rfl (by decide))⟩) p_live
    have e_weights := r0 weights_ _ (by simp only [List.mem_cons, List.not_mem_nil, or_false, not_or]; exact ⟨(nd_ne ND (i := 7) (j := 0) rfl rfl (by decide)), (nd_ne ND (i := 7) (j := 30) rfl rfl (by decide)), (nd_ne ND (i := 7) (j := 31) rfl rfl (by decide))⟩) p_weights
    obtain ⟨a9, b9, h19, h29, hab9, hbt9⟩ := PH p hp
    obtain ⟨n9, rfl⟩ : ∃ n9, b9 = a9 + n9 := ⟨b9 - a9, by omega⟩
    refine s_Model_scoreOf_66 (fun z => absurd z (nI_ge (b := 24) (show i < 24 by omega) (by decide))) (fun z_1 => ?_)
    refine s_Model_scoreOf_73 l e g_live e_live (vp_in_nI (by omega) (by omega)) (fun z_2 => ?_) (fun z_3 => ?_)
    · skip
      refine s_Model_scoreOf_108 ?_
      have hcm := cntL_mono fv i
      rw [nI_1]
      exact ih (i + 1) _ _ _ _ _ _ (by omega) l e g_column ga0 e_begins e_lasts (by omega) r0
    · skip
      refine s_Model_scoreOf_83 ?_
      obtain ⟨nz_18, hz_19, hzb_20⟩ := hz (2 * i + 0) (by omega)
      refine x_callV (As := [.int (nI p), .int (nI i), .int (nI 0)]) (b := m) (rest := []) (F1 := 5) (L1 := 112) (mc := 0) (ms := 0) d_Model_scoreOf_89 cV_Model_336 (f_countIn l e g_column g_begins e_begins g_lasts e_lasts g_tokenAt e_tokenAt g_tokenSize e_tokenSize g_texts e_texts g_asked e_asked g_firstToken e_firstToken g_starred e_starred g_sizes e_sizes ND (show p < 12 by omega) h19 h29 hbt9 ht TK (show i < 24 by omega) (show 0 < 2 by omega) hz_19 hzb_20 (by omega) (by omega)) e ⟨by decide, rfl⟩ ⟨by omega, by show 8 + (6 + 11) + 112 ≤ _; omega⟩ ⟨by omega, by omega⟩ (Nat.le_of_ble_eq_true rfl) (fun v_22 h_21 p_23 => ?_)
      obtain ⟨⟨q_4, rfl, hq_5, hqt_6⟩, cl_7, fb_8, fl_9, fs_10, l_11, e_12, g_13, ga_14, eb_15, el_16, r_17⟩ := p_23
      have e_24 := r_17 tokenAt_ _ (by simp only [List.mem_cons, List.not_mem_nil, or_false, not_or]; exact ⟨(Ne.symm (nd_ne ND (i := 0) (j := 20) rfl rfl (by decide))), (Ne.symm (nd_ne ND (i := 30) (j := 20) rfl rfl (by decide))), (Ne.symm (nd_ne ND (i := 31) (j := 20) rfl rfl (by decide)))⟩) e_tokenAt
      have e_25 := r_17 tokenSize_ _ (by simp only [List.mem_cons, List.not_mem_nil, or_false, not_or]; exact ⟨(Ne.symm (nd_ne ND (i := 0) (j := 21) rfl rfl (by decide))), (Ne.symm (nd_ne ND (i := 30) (j := 21) rfl rfl (by decide))), (Ne.symm (nd_ne ND (i := 31) (j := 21) rfl rfl (by decide)))⟩) e_tokenSize
      have e_26 := r_17 texts_ _ (by simp only [List.mem_cons, List.not_mem_nil, or_false, not_or]; exact ⟨(Ne.symm (nd_ne ND (i := 0) (j := 5) rfl rfl (by decide))), (Ne.symm (nd_ne ND (i := 30) (j := 5) rfl rfl (by decide))), (Ne.symm (nd_ne ND (i := 31) (j := 5) rfl rfl (by decide)))⟩) e_texts
      have e_27 := r_17 asked_ _ (by simp only [List.mem_cons, List.not_mem_nil, or_false, not_or]; exact ⟨(Ne.symm (nd_ne ND (i := 0) (j := 2) rfl rfl (by decide))), (Ne.symm (nd_ne ND (i := 30) (j := 2) rfl rfl (by decide))), (Ne.symm (nd_ne ND (i := 31) (j := 2) rfl rfl (by decide)))⟩) e_asked
      have e_28 := r_17 firstToken_ _ (by simp only [List.mem_cons, List.not_mem_nil, or_false, not_or]; exact ⟨(Ne.symm (nd_ne ND (i := 0) (j := 18) rfl rfl (by decide))), (Ne.symm (nd_ne ND (i := 30) (j := 18) rfl rfl (by decide))), (Ne.symm (nd_ne ND (i := 31) (j := 18) rfl rfl (by decide)))⟩) e_firstToken
      have e_29 := r_17 starred_ _ (by simp only [List.mem_cons, List.not_mem_nil, or_false, not_or]; exact ⟨(Ne.symm (nd_ne ND (i := 0) (j := 19) rfl rfl (by decide))), (Ne.symm (nd_ne ND (i := 30) (j := 19) rfl rfl (by decide))), (Ne.symm (nd_ne ND (i := 31) (j := 19) rfl rfl (by decide)))⟩) e_starred
      have e_30 := r_17 sizes_ _ (by simp only [List.mem_cons, List.not_mem_nil, or_false, not_or]; exact ⟨(Ne.symm (nd_ne ND (i := 0) (j := 6) rfl rfl (by decide))), (Ne.symm (nd_ne ND (i := 30) (j := 6) rfl rfl (by decide))), (Ne.symm (nd_ne ND (i := 31) (j := 6) rfl rfl (by decide)))⟩) e_sizes
      have e_31 := r_17 live_ _ (by simp only [List.mem_cons, List.not_mem_nil, or_false, not_or]; exact ⟨(Ne.symm (nd_ne ND (i := 0) (j := 10) rfl rfl (by decide))), (Ne.symm (nd_ne ND (i := 30) (j := 10) rfl rfl (by decide))), (Ne.symm (nd_ne ND (i := 31) (j := 10) rfl rfl (by decide)))⟩) e_live
      have e_32 := r_17 weights_ _ (by simp only [List.mem_cons, List.not_mem_nil, or_false, not_or]; exact ⟨(Ne.symm (nd_ne ND (i := 0) (j := 7) rfl rfl (by decide))), (Ne.symm (nd_ne ND (i := 30) (j := 7) rfl rfl (by decide))), (Ne.symm (nd_ne ND (i := 31) (j := 7) rfl rfl (by decide)))⟩) e_weights
      have r_33 := r0.trans (r_17.mono (by simp))
      have g_34 : fs_10[(34 : Nat)]? = some (.int (nI P)) := (ga_14 34 (by decide)).trans g_phrases
      have g_35 : fs_10[(53 : Nat)]? = some (.ref begins_) := (ga_14 53 (by decide)).trans g_begins
      have g_36 : fs_10[(54 : Nat)]? = some (.ref lasts_) := (ga_14 54 (by decide)).trans g_lasts
      have g_37 : fs_10[(43 : Nat)]? = some (.ref tokenAt_) := (ga_14 43 (by decide)).trans g_tokenAt
      have g_38 : fs_10[(44 : Nat)]? = some (.ref tokenSize_) := (ga_14 44 (by decide)).trans g_tokenSize
      have g_39 : fs_10[(7 : Nat)]? = some (.ref texts_) := (ga_14 7 (by decide)).trans g_texts
      have g_40 : fs_10[(4 : Nat)]? = some (.ref asked_) := (ga_14 4 (by decide)).trans g_asked
      have g_41 : fs_10[(41 : Nat)]? = some (.ref firstToken_) := (ga_14 41 (by decide)).trans g_firstToken
      have g_42 : fs_10[(42 : Nat)]? = some (.ref starred_) := (ga_14 42 (by decide)).trans g_starred
      have g_43 : fs_10[(8 : Nat)]? = some (.ref sizes_) := (ga_14 8 (by decide)).trans g_sizes
      have g_44 : fs_10[(14 : Nat)]? = some (.ref live_) := (ga_14 14 (by decide)).trans g_live
      have g_45 : fs_10[(9 : Nat)]? = some (.ref weights_) := (ga_14 9 (by decide)).trans g_weights
      have ga_46 : ∀ i : Nat, i ∉ [55] → fs_10[i]? = gs[i]? := fun i hi => (ga_14 i (fun z => hi (by simp only [List.mem_cons, List.not_mem_nil, or_false] at z ⊢; omega))).trans (ga0 i hi)
      refine s_Model_scoreOf_92 ?_
      obtain ⟨nz_61, hz_62, hzb_63⟩ := hz (2 * i + 1) (by omega)
      refine x_callV (As := [.int (nI p), .int (nI i), .int (nI 1)]) (b := m) (rest := [.int (nI q_4)]) (F1 := 5) (L1 := 112) (mc := 0) (ms := 0) d_Model_scoreOf_98 cV_Model_336 (f_countIn l_11 e_12 g_13 g_35 eb_15 g_36 el_16 g_37 e_24 g_38 e_25 g_39 e_26 g_40 e_27 g_41 e_28 g_42 e_29 g_43 e_30 ND (show p < 12 by omega) h19 h29 hbt9 ht TK (show i < 24 by omega) (show 1 < 2 by omega) hz_62 hzb_63 (by omega) (by omega)) e_12 ⟨by decide, rfl⟩ ⟨by omega, by show 8 + (6 + 11) + 112 ≤ _; omega⟩ ⟨by omega, by omega⟩ (Nat.le_of_ble_eq_true rfl) (fun v_65 h_64 p_66 => ?_)
      obtain ⟨⟨q_47, rfl, hq_48, hqt_49⟩, cl_50, fb_51, fl_52, fs_53, l_54, e_55, g_56, ga_57, eb_58, el_59, r_60⟩ := p_66
      have e_67 := r_60 tokenAt_ _ (by simp only [List.mem_cons, List.not_mem_nil, or_false, not_or]; exact ⟨(Ne.symm (nd_ne ND (i := 0) (j := 20) rfl rfl (by decide))), (Ne.symm (nd_ne ND (i := 30) (j := 20) rfl rfl (by decide))), (Ne.symm (nd_ne ND (i := 31) (j := 20) rfl rfl (by decide)))⟩) e_24
      have e_68 := r_60 tokenSize_ _ (by simp only [List.mem_cons, List.not_mem_nil, or_false, not_or]; exact ⟨(Ne.symm (nd_ne ND (i := 0) (j := 21) rfl rfl (by decide))), (Ne.symm (nd_ne ND (i := 30) (j := 21) rfl rfl (by decide))), (Ne.symm (nd_ne ND (i := 31) (j := 21) rfl rfl (by decide)))⟩) e_25
      have e_69 := r_60 texts_ _ (by simp only [List.mem_cons, List.not_mem_nil, or_false, not_or]; exact ⟨(Ne.symm (nd_ne ND (i := 0) (j := 5) rfl rfl (by decide))), (Ne.symm (nd_ne ND (i := 30) (j := 5) rfl rfl (by decide))), (Ne.symm (nd_ne ND (i := 31) (j := 5) rfl rfl (by decide)))⟩) e_26
      have e_70 := r_60 asked_ _ (by simp only [List.mem_cons, List.not_mem_nil, or_false, not_or]; exact ⟨(Ne.symm (nd_ne ND (i := 0) (j := 2) rfl rfl (by decide))), (Ne.symm (nd_ne ND (i := 30) (j := 2) rfl rfl (by decide))), (Ne.symm (nd_ne ND (i := 31) (j := 2) rfl rfl (by decide)))⟩) e_27
      have e_71 := r_60 firstToken_ _ (by simp only [List.mem_cons, List.not_mem_nil, or_false, not_or]; exact ⟨(Ne.symm (nd_ne ND (i := 0) (j := 18) rfl rfl (by decide))), (Ne.symm (nd_ne ND (i := 30) (j := 18) rfl rfl (by decide))), (Ne.symm (nd_ne ND (i := 31) (j := 18) rfl rfl (by decide)))⟩) e_28
      have e_72 := r_60 starred_ _ (by simp only [List.mem_cons, List.not_mem_nil, or_false, not_or]; exact ⟨(Ne.symm (nd_ne ND (i := 0) (j := 19) rfl rfl (by decide))), (Ne.symm (nd_ne ND (i := 30) (j := 19) rfl rfl (by decide))), (Ne.symm (nd_ne ND (i := 31) (j := 19) rfl rfl (by decide)))⟩) e_29
      have e_73 := r_60 sizes_ _ (by simp only [List.mem_cons, List.not_mem_nil, or_false, not_or]; exact ⟨(Ne.symm (nd_ne ND (i := 0) (j := 6) rfl rfl (by decide))), (Ne.symm (nd_ne ND (i := 30) (j := 6) rfl rfl (by decide))), (Ne.symm (nd_ne ND (i := 31) (j := 6) rfl rfl (by decide)))⟩) e_30
      have e_74 := r_60 live_ _ (by simp only [List.mem_cons, List.not_mem_nil, or_false, not_or]; exact ⟨(Ne.symm (nd_ne ND (i := 0) (j := 10) rfl rfl (by decide))), (Ne.symm (nd_ne ND (i := 30) (j := 10) rfl rfl (by decide))), (Ne.symm (nd_ne ND (i := 31) (j := 10) rfl rfl (by decide)))⟩) e_31
      have e_75 := r_60 weights_ _ (by simp only [List.mem_cons, List.not_mem_nil, or_false, not_or]; exact ⟨(Ne.symm (nd_ne ND (i := 0) (j := 7) rfl rfl (by decide))), (Ne.symm (nd_ne ND (i := 30) (j := 7) rfl rfl (by decide))), (Ne.symm (nd_ne ND (i := 31) (j := 7) rfl rfl (by decide)))⟩) e_32
      have r_76 := r_33.trans (r_60.mono (by simp))
      have g_77 : fs_53[(34 : Nat)]? = some (.int (nI P)) := (ga_57 34 (by decide)).trans g_34
      have g_78 : fs_53[(53 : Nat)]? = some (.ref begins_) := (ga_57 53 (by decide)).trans g_35
      have g_79 : fs_53[(54 : Nat)]? = some (.ref lasts_) := (ga_57 54 (by decide)).trans g_36
      have g_80 : fs_53[(43 : Nat)]? = some (.ref tokenAt_) := (ga_57 43 (by decide)).trans g_37
      have g_81 : fs_53[(44 : Nat)]? = some (.ref tokenSize_) := (ga_57 44 (by decide)).trans g_38
      have g_82 : fs_53[(7 : Nat)]? = some (.ref texts_) := (ga_57 7 (by decide)).trans g_39
      have g_83 : fs_53[(4 : Nat)]? = some (.ref asked_) := (ga_57 4 (by decide)).trans g_40
      have g_84 : fs_53[(41 : Nat)]? = some (.ref firstToken_) := (ga_57 41 (by decide)).trans g_41
      have g_85 : fs_53[(42 : Nat)]? = some (.ref starred_) := (ga_57 42 (by decide)).trans g_42
      have g_86 : fs_53[(8 : Nat)]? = some (.ref sizes_) := (ga_57 8 (by decide)).trans g_43
      have g_87 : fs_53[(14 : Nat)]? = some (.ref live_) := (ga_57 14 (by decide)).trans g_44
      have g_88 : fs_53[(9 : Nat)]? = some (.ref weights_) := (ga_57 9 (by decide)).trans g_45
      have ga_89 : ∀ i : Nat, i ∉ [55] → fs_53[i]? = gs[i]? := fun i hi => (ga_57 i (fun z => hi (by simp only [List.mem_cons, List.not_mem_nil, or_false] at z ⊢; omega))).trans (ga_46 i hi)
      refine s_Model_scoreOf_101 (fun z_90 => ?_) (fun z_91 => ?_)
      · skip
        refine s_Model_scoreOf_108 ?_
        have hcm := cntL_mono fv i
        have hcl := cntL_live (f := fv) (i := i) (by rw [nI_clamp (show i < 2 ^ 31 by omega)] at z_3; exact z_3)
        simp only [nI_1]
        exact ih (i + 1) _ _ _ _ _ _ (by omega) l_54 e_55 g_56 ga_89 eb_58 el_59 (by omega) r_76
      · skip
        refine s_Model_scoreOf_105 ?_
        refine s_Model_scoreOf_108 ?_
        have hcm := cntL_mono fv i
        have hcl := cntL_live (f := fv) (i := i) (by rw [nI_clamp (show i < 2 ^ 31 by omega)] at z_3; exact z_3)
        simp only [nI_1]
        exact ih (i + 1) _ _ _ _ _ _ (by omega) l_54 e_55 g_56 ga_89 eb_58 el_59 (by omega) r_76
set_option maxHeartbeats 8000000 in
theorem lp_sB {G : xw_G} {F L bc bs : Nat} {pr : Option Value → xw_A → Prop} {px : String → xw_A → Prop} {m draft_ asked_ prepared_ preparedSize_ texts_ sizes_ weights_ entries_ lies_ live_ row_ level_ oldTexts_ oldSizes_ oldLies_ oldLive_ oldRow_ firstToken_ starred_ tokenAt_ tokenSize_ groupKind_ groupPhrase_ groupSize_ groupMask_ groupFar_ out_ top_ masks_ begins_ lasts_ truth_ answers_ order_ scores_ : Nat} {gs : List Value} {h0 : xw_A} {ca cs ft fa c1 c2 fz fv fw : Nat → Int32} {P t r : Nat} (hP : P ≤ 12) (PH : PhO c1 P t) (ht : t ≤ 49) (TK : TkO ca cs t 97) (q_phrases : gs[(34 : Nat)]? = some (.int (nI P))) (q_begins : gs[(53 : Nat)]? = some (.ref begins_)) (q_lasts : gs[(54 : Nat)]? = some (.ref lasts_)) (q_tokenAt : gs[(43 : Nat)]? = some (.ref tokenAt_)) (q_tokenSize : gs[(44 : Nat)]? = some (.ref tokenSize_)) (q_texts : gs[(7 : Nat)]? = some (.ref texts_)) (q_asked : gs[(4 : Nat)]? = some (.ref asked_)) (q_firstToken : gs[(41 : Nat)]? = some (.ref firstToken_)) (q_starred : gs[(42 : Nat)]? = some (.ref starred_)) (q_sizes : gs[(8 : Nat)]? = some (.ref sizes_)) (q_live : gs[(14 : Nat)]? = some (.ref live_)) (q_weights : gs[(9 : Nat)]? = some (.ref weights_)) (p_tokenAt : h0 tokenAt_ = some (.inl (0, 60, .inl ca))) (p_tokenSize : h0 tokenSize_ = some (.inl (0, 60, .inl cs))) (p_texts : h0 texts_ = some (.inl (0, 2304, .inl ft))) (p_asked : h0 asked_ = some (.inl (0, 96, .inl fa))) (p_firstToken : h0 firstToken_ = some (.inl (0, 13, .inl c1))) (p_starred : h0 starred_ = some (.inl (0, 13, .inl c2))) (p_sizes : h0 sizes_ = some (.inl (0, 48, .inl fz))) (p_live : h0 live_ = some (.inl (0, 24, .inl fv))) (p_weights : h0 weights_ = some (.inl (0, 2, .inl fw))) (ND : NDl [m, draft_, asked_, prepared_, preparedSize_, texts_, sizes_, weights_, entries_, lies_, live_, row_, level_, oldTexts_, oldSizes_, oldLies_, oldLive_, oldRow_, firstToken_, starred_, tokenAt_, tokenSize_, groupKind_, groupPhrase_, groupSize_, groupMask_, groupFar_, out_, top_, masks_, begins_, lasts_, truth_, answers_, order_, scores_]) (hr : r < 24) (hz : SZo fz 48) {rw_ al w0 w1 : Nat} (hw0 : fw 0 = nI w0) (hw0b : w0 ≤ 9) (hw1 : fw 1 = nI w1) (hw1b : w1 ≤ 9) (hrw1 : 1 ≤ rw_) (hrw2 : rw_ ≤ 24) (hrw3 : rw_ = cntL fv 24) {tR : Nat} (hTR : tR = tokN (fun j => ft (96 * r + 48 * 0 + j)) (fz (2 * r + 0)).toNatClampNeg + tokN (fun j => ft (96 * r + 48 * 1 + j)) (fz (2 * r + 1)).toNatClampNeg) (hal : al ≤ 1152) (hta : tR ≤ al) (hF : 6 ≤ F) (hL : 137 ≤ L) (kk : ∀ (h : xw_A) (sm : UInt64) (cl : Int32) (fb : Nat → Int32) (fl : Nat → Int32) (fs : List Value), fs.length = 62 → h m = some (.inr (11, fs)) → fs[(55 : Nat)]? = some (.int cl) → (∀ i : Nat, i ∉ [55] → fs[i]? = gs[i]?) → h begins_ = some (.inl (0, 24, .inl fb)) → h lasts_ = some (.inl (0, 24, .inl fl)) → NN sm → FrO [m, begins_, lasts_] h0 h → pr (some (.double sm)) h) :
    ∀ (dd i : Nat) (h : xw_A) (sm : UInt64) (cl : Int32) (fb : Nat → Int32) (fl : Nat → Int32) (fs : List Value), i + dd = P → fs.length = 62 → h m = some (.inr (11, fs)) → fs[(55 : Nat)]? = some (.int cl) → (∀ i : Nat, i ∉ [55] → fs[i]? = gs[i]?) → h begins_ = some (.inl (0, 24, .inl fb)) → h lasts_ = some (.inl (0, 24, .inl fl)) → NN sm → FrO [m, begins_, lasts_] h0 h → xw G m_Model_scoreOf F L bc bs pr px 51 [some (.ref m), some (.int (nI r)), some (.double sm), none, some (.int (nI al)), some (.int (nI rw_)), some (.int (nI i)), none, none, none, none, none, none, none, none, none] [] h := by
  intro dd
  induction dd with
  | zero =>
    intro i h sm cl fb fl fs hi l e g_column ga0 e_begins e_lasts hNN r0
    obtain rfl : i = P := by omega
    have g_phrases := (ga0 34 (by decide)).trans q_phrases
    have g_begins := (ga0 53 (by decide)).trans q_begins
    have g_lasts := (ga0 54 (by decide)).trans q_lasts
    have g_tokenAt := (ga0 43 (by decide)).trans q_tokenAt
    have g_tokenSize := (ga0 44 (by decide)).trans q_tokenSize
    have g_texts := (ga0 7 (by decide)).trans q_texts
    have g_asked := (ga0 4 (by decide)).trans q_asked
    have g_firstToken := (ga0 41 (by decide)).trans q_firstToken
    have g_starred := (ga0 42 (by decide)).trans q_starred
    have g_sizes := (ga0 8 (by decide)).trans q_sizes
    have g_live := (ga0 14 (by decide)).trans q_live
    have g_weights := (ga0 9 (by decide)).trans q_weights
    have e_tokenAt := r0 tokenAt_ _ (by simp only [List.mem_cons, List.not_mem_nil, or_false, not_or]; exact ⟨(nd_ne ND (i := 20) (j := 0) rfl rfl (by decide)), (nd_ne ND (i := 20) (j := 30) rfl rfl (by decide)), (nd_ne ND (i := 20) (j := 31) rfl rfl (by decide))⟩) p_tokenAt
    have e_tokenSize := r0 tokenSize_ _ (by simp only [List.mem_cons, List.not_mem_nil, or_false, not_or]; exact ⟨(nd_ne ND (i := 21) (j := 0) rfl rfl (by decide)), (nd_ne ND (i := 21) (j := 30) rfl rfl (by decide)), (nd_ne ND (i := 21) (j := 31) rfl rfl (by decide))⟩) p_tokenSize
    have e_texts := r0 texts_ _ (by simp only [List.mem_cons, List.not_mem_nil, or_false, not_or]; exact ⟨(nd_ne ND (i := 5) (j := 0) rfl rfl (by decide)), (nd_ne ND (i := 5) (j := 30) rfl rfl (by decide)), (nd_ne ND (i := 5) (j := 31) rfl rfl (by decide))⟩) p_texts
    have e_asked := r0 asked_ _ (by simp only [List.mem_cons, List.not_mem_nil, or_false, not_or]; exact ⟨(nd_ne ND (i := 2) (j := 0) rfl rfl (by decide)), (nd_ne ND (i := 2) (j := 30) rfl rfl (by decide)), (nd_ne ND (i := 2) (j := 31) rfl rfl (by decide))⟩) p_asked
    have e_firstToken := r0 firstToken_ _ (by simp only [List.mem_cons, List.not_mem_nil, or_false, not_or]; exact ⟨(nd_ne ND (i := 18) (j := 0) rfl rfl (by decide)), (nd_ne ND (i := 18) (j := 30) rfl rfl (by decide)), (nd_ne ND (i := 18) (j := 31) rfl rfl (by decide))⟩) p_firstToken
    have e_starred := r0 starred_ _ (by simp only [List.mem_cons, List.not_mem_nil, or_false, not_or]; exact ⟨(nd_ne ND (i := 19) (j := 0) rfl rfl (by decide)), (nd_ne ND (i := 19) (j := 30) rfl rfl (by decide)), (nd_ne ND (i := 19) (j := 31) rfl rfl (by decide))⟩) p_starred
    have e_sizes := r0 sizes_ _ (by simp only [List.mem_cons, List.not_mem_nil, or_false, not_or]; exact ⟨(nd_ne ND (i := 6) (j := 0) rfl rfl (by decide)), (nd_ne ND (i := 6) (j := 30) rfl rfl (by decide)), (nd_ne ND (i := 6) (j := 31) rfl rfl (by decide))⟩) p_sizes
    have e_live := r0 live_ _ (by simp only [List.mem_cons, List.not_mem_nil, or_false, not_or]; exact ⟨(nd_ne ND (i := 10) (j := 0) rfl rfl (by decide)), (nd_ne ND (i := 10) (j := 30) rfl rfl (by decide)), (nd_ne ND (i := 10) (j := 31) rfl rfl (by decide))⟩) p_live
    have e_weights := r0 weights_ _ (by simp only [List.mem_cons, List.not_mem_nil, or_false, not_or]; exact ⟨(nd_ne ND (i := 7) (j := 0) rfl rfl (by decide)), (nd_ne ND (i := 7) (j := 30) rfl rfl (by decide)), (nd_ne ND (i := 7) (j := 31) rfl rfl (by decide))⟩) p_weights
    refine s_Model_scoreOf_51 l e g_phrases (fun z_1 => ?_) (fun z => absurd (nI_le (Nat.le_refl _) (by omega)) z)
    refine s_Model_scoreOf_249 ?_
    exact kk _ _ _ _ _ _ l e g_column ga0 e_begins e_lasts hNN r0
  | succ dd ih =>
    intro i h sm cl fb fl fs hi l e g_column ga0 e_begins e_lasts hNN r0
    have g_phrases := (ga0 34 (by decide)).trans q_phrases
    have g_begins := (ga0 53 (by decide)).trans q_begins
    have g_lasts := (ga0 54 (by decide)).trans q_lasts
    have g_tokenAt := (ga0 43 (by decide)).trans q_tokenAt
    have g_tokenSize := (ga0 44 (by decide)).trans q_tokenSize
    have g_texts := (ga0 7 (by decide)).trans q_texts
    have g_asked := (ga0 4 (by decide)).trans q_asked
    have g_firstToken := (ga0 41 (by decide)).trans q_firstToken
    have g_starred := (ga0 42 (by decide)).trans q_starred
    have g_sizes := (ga0 8 (by decide)).trans q_sizes
    have g_live := (ga0 14 (by decide)).trans q_live
    have g_weights := (ga0 9 (by decide)).trans q_weights
    have e_tokenAt := r0 tokenAt_ _ (by simp only [List.mem_cons, List.not_mem_nil, or_false, not_or]; exact ⟨(nd_ne ND (i := 20) (j := 0) rfl rfl (by decide)), (nd_ne ND (i := 20) (j := 30) rfl rfl (by decide)), (nd_ne ND (i := 20) (j := 31) rfl rfl (by decide))⟩) p_tokenAt
    have e_tokenSize := r0 tokenSize_ _ (by simp only [List.mem_cons, List.not_mem_nil, or_false, not_or]; exact ⟨(nd_ne ND (i := 21) (j := 0) rfl rfl (by decide)), (nd_ne ND (i := 21) (j := 30) rfl rfl (by decide)), (nd_ne ND (i := 21) (j := 31) rfl rfl (by decide))⟩) p_tokenSize
    have e_texts := r0 texts_ _ (by simp only [List.mem_cons, List.not_mem_nil, or_false, not_or]; exact ⟨(nd_ne ND (i := 5) (j := 0) rfl rfl (by decide)), (nd_ne ND (i := 5) (j := 30) rfl rfl (by decide)), (nd_ne ND (i := 5) (j := 31) rfl rfl (by decide))⟩) p_texts
    have e_asked := r0 asked_ _ (by simp only [List.mem_cons, List.not_mem_nil, or_false, not_or]; exact ⟨(nd_ne ND (i := 2) (j := 0) rfl rfl (by decide)), (nd_ne ND (i := 2) (j := 30) rfl rfl (by decide)), (nd_ne ND (i := 2) (j := 31) rfl rfl (by decide))⟩) p_asked
    have e_firstToken := r0 firstToken_ _ (by simp only [List.mem_cons, List.not_mem_nil, or_false, not_or]; exact ⟨(nd_ne ND (i := 18) (j := 0) rfl rfl (by decide)), (nd_ne ND (i := 18) (j := 30) rfl rfl (by decide)), (nd_ne ND (i := 18) (j := 31) rfl rfl (by decide))⟩) p_firstToken
    have e_starred := r0 starred_ _ (by simp only [List.mem_cons, List.not_mem_nil, or_false, not_or]; exact ⟨(nd_ne ND (i := 19) (j := 0) rfl rfl (by decide)), (nd_ne ND (i := 19) (j := 30) rfl rfl (by decide)), (nd_ne ND (i := 19) (j := 31) rfl rfl (by decide))⟩) p_starred
    have e_sizes := r0 sizes_ _ (by simp only [List.mem_cons, List.not_mem_nil, or_false, not_or]; exact ⟨(nd_ne ND (i := 6) (j := 0) rfl rfl (by decide)), (nd_ne ND (i := 6) (j := 30) rfl rfl (by decide)), (nd_ne ND (i := 6) (j := 31) rfl rfl (by decide))⟩) p_sizes
    have e_live := r0 live_ _ (by simp only [List.mem_cons, List.not_mem_nil, or_false, not_or]; exact ⟨(nd_ne ND (i := 10) (j := 0) rfl rfl (by decide)), (nd_ne ND (i := 10) (j := 30) rfl rfl (by decide)), (nd_ne ND (i := 10) (j := 31) rfl rfl (by decide))⟩) p_live
    have e_weights := r0 weights_ _ (by simp only [List.mem_cons, List.not_mem_nil, or_false, not_or]; exact ⟨(nd_ne ND (i := 7) (j := 0) rfl rfl (by decide)), (nd_ne ND (i := 7) (j := 30) rfl rfl (by decide)), (nd_ne ND (i := 7) (j := 31) rfl rfl (by decide))⟩) p_weights
    refine s_Model_scoreOf_51 l e g_phrases (fun z => absurd z (nI_ge (b := P) (show i < P by omega) (by omega))) (fun z_1 => ?_)
    refine s_Model_scoreOf_60 ?_
    refine lp_sC (gs := gs) (h0 := h0) (r := r) hP PH ht TK q_phrases q_begins q_lasts q_tokenAt q_tokenSize q_texts q_asked q_firstToken q_starred q_sizes q_live q_weights p_tokenAt p_tokenSize p_texts p_asked p_firstToken p_starred p_sizes p_live p_weights ND hr hz (show i < P by omega) (by omega) (by omega) (fun h8 n8 cl8 fb8 fl8 fs8 a1 a2 a3 a4 a5 a6 hn8 r8 => ?_) 24 0 _ 0 _ _ _ _ (by omega) l e g_column ga0 e_begins e_lasts (Nat.zero_le _) r0
    have e8_tokenAt := r8 tokenAt_ _ (by simp only [List.mem_cons, List.not_mem_nil, or_false, not_or]; exact ⟨(nd_ne ND (i := 20) (j := 0) rfl rfl (by decide)), (nd_ne ND (i := 20) (j := 30) rfl rfl (by decide)), (nd_ne ND (i := 20) (j := 31) rfl rfl (by decide))⟩) p_tokenAt
    have e8_tokenSize := r8 tokenSize_ _ (by simp only [List.mem_cons, List.not_mem_nil, or_false, not_or]; exact ⟨(nd_ne ND (i := 21) (j := 0) rfl rfl (by decide)), (nd_ne ND (i := 21) (j := 30) rfl rfl (by decide)), (nd_ne ND (i := 21) (j := 31) rfl rfl (by decide))⟩) p_tokenSize
    have e8_texts := r8 texts_ _ (by simp only [List.mem_cons, List.not_mem_nil, or_false, not_or]; exact ⟨(nd_ne ND (i := 5) (j := 0) rfl rfl (by decide)), (nd_ne ND (i := 5) (j := 30) rfl rfl (by decide)), (nd_ne ND (i := 5) (j := 31) rfl rfl (by decide))⟩) p_texts
    have e8_asked := r8 asked_ _ (by simp only [List.mem_cons, List.not_mem_nil, or_false, not_or]; exact ⟨(nd_ne ND (i := 2) (j := 0) rfl rfl (by decide)), (nd_ne ND (i := 2) (j := 30) rfl rfl (by decide)), (nd_ne ND (i := 2) (j := 31) rfl rfl (by decide))⟩) p_asked
    have e8_firstToken := r8 firstToken_ _ (by simp only [List.mem_cons, List.not_mem_nil, or_false, not_or]; exact ⟨(nd_ne ND (i := 18) (j := 0) rfl rfl (by decide)), (nd_ne ND (i := 18) (j := 30) rfl rfl (by decide)), (nd_ne ND (i := 18) (j := 31) rfl rfl (by decide))⟩) p_firstToken
    have e8_starred := r8 starred_ _ (by simp only [List.mem_cons, List.not_mem_nil, or_false, not_or]; exact ⟨(nd_ne ND (i := 19) (j := 0) rfl rfl (by decide)), (nd_ne ND (i := 19) (j := 30) rfl rfl (by decide)), (nd_ne ND (i := 19) (j := 31) rfl rfl (by decide))⟩) p_starred
    have e8_sizes := r8 sizes_ _ (by simp only [List.mem_cons, List.not_mem_nil, or_false, not_or]; exact ⟨(nd_ne ND (i := 6) (j := 0) rfl rfl (by decide)), (nd_ne ND (i := 6) (j := 30) rfl rfl (by decide)), (nd_ne ND (i := 6) (j := 31) rfl rfl (by decide))⟩) p_sizes
    have e8_live := r8 live_ _ (by simp only [List.mem_cons, List.not_mem_nil, or_false, not_or]; exact ⟨(nd_ne ND (i := 10) (j := 0) rfl rfl (by decide)), (nd_ne ND (i := 10) (j := 30) rfl rfl (by decide)), (nd_ne ND (i := 10) (j := 31) rfl rfl (by decide))⟩) p_live
    have e8_weights := r8 weights_ _ (by simp only [List.mem_cons, List.not_mem_nil, or_false, not_or]; exact ⟨(nd_ne ND (i := 7) (j := 0) rfl rfl (by decide)), (nd_ne ND (i := 7) (j := 30) rfl rfl (by decide)), (nd_ne ND (i := 7) (j := 31) rfl rfl (by decide))⟩) p_weights
    have g8_phrases := (a4 34 (by decide)).trans q_phrases
    have g8_begins := (a4 53 (by decide)).trans q_begins
    have g8_lasts := (a4 54 (by decide)).trans q_lasts
    have g8_tokenAt := (a4 43 (by decide)).trans q_tokenAt
    have g8_tokenSize := (a4 44 (by decide)).trans q_tokenSize
    have g8_texts := (a4 7 (by decide)).trans q_texts
    have g8_asked := (a4 4 (by decide)).trans q_asked
    have g8_firstToken := (a4 41 (by decide)).trans q_firstToken
    have g8_starred := (a4 42 (by decide)).trans q_starred
    have g8_sizes := (a4 8 (by decide)).trans q_sizes
    have g8_live := (a4 14 (by decide)).trans q_live
    have g8_weights := (a4 9 (by decide)).trans q_weights
    refine s_Model_scoreOf_114 a1 a2 g8_weights e8_weights (by unfold vp_in; decide) ?_
    obtain ⟨a9, b9, h19, h29, hab9, hbt9⟩ := PH (i) (by omega)
    obtain ⟨n9, rfl⟩ : ∃ n9, b9 = a9 + n9 := ⟨b9 - a9, by omega⟩
    obtain ⟨nz_16, hz_17, hzb_18⟩ := hz (2 * r + 0) (by omega)
    refine x_callV (As := [.int (nI i), .int (nI r), .int (nI 0)]) (b := m) (rest := [.int (fw (0 : Int32).toNatClampNeg)]) (F1 := 5) (L1 := 112) (mc := 0) (ms := 0) d_Model_scoreOf_125 cV_Model_336 (f_countIn a1 a2 a3 g8_begins a5 g8_lasts a6 g8_tokenAt e8_tokenAt g8_tokenSize e8_tokenSize g8_texts e8_texts g8_asked e8_asked g8_firstToken e8_firstToken g8_starred e8_starred g8_sizes e8_sizes ND (show i < 12 by omega) h19 h29 hbt9 ht TK (show r < 24 by omega) (show 0 < 2 by omega) hz_17 hzb_18 (by omega) (by omega)) a2 ⟨by decide, rfl⟩ ⟨by omega, by show 8 + (6 + 11) + 112 ≤ _; omega⟩ ⟨by omega, by omega⟩ (Nat.le_of_ble_eq_true rfl) (fun v_20 h_19 p_21 => ?_)
    obtain ⟨⟨q_2, rfl, hq_3, hqt_4⟩, cl_5, fb_6, fl_7, fs_8, l_9, e_10, g_11, ga_12, eb_13, el_14, r_15⟩ := p_21
    have e_22 := r_15 tokenAt_ _ (by simp only [List.mem_cons, List.not_mem_nil, or_false, not_or]; exact ⟨(Ne.symm (nd_ne ND (i := 0) (j := 20) rfl rfl (by decide))), (Ne.symm (nd_ne ND (i := 30) (j := 20) rfl rfl (by decide))), (Ne.symm (nd_ne ND (i := 31) (j := 20) rfl rfl (by decide)))⟩) e8_tokenAt
    have e_23 := r_15 tokenSize_ _ (by simp only [List.mem_cons, List.not_mem_nil, or_false, not_or]; exact ⟨(Ne.symm (nd_ne ND (i := 0) (j := 21) rfl rfl (by decide))), (Ne.symm (nd_ne ND (i := 30) (j := 21) rfl rfl (by decide))), (Ne.symm (nd_ne ND (i := 31) (j := 21) rfl rfl (by decide)))⟩) e8_tokenSize
    have e_24 := r_15 texts_ _ (by simp only [List.mem_cons, List.not_mem_nil, or_false, not_or]; exact ⟨(Ne.symm (nd_ne ND (i := 0) (j := 5) rfl rfl (by decide))), (Ne.symm (nd_ne ND (i := 30) (j := 5) rfl rfl (by decide))), (Ne.symm (nd_ne ND (i := 31) (j := 5) rfl rfl (by decide)))⟩) e8_texts
    have e_25 := r_15 asked_ _ (by simp only [List.mem_cons, List.not_mem_nil, or_false, not_or]; exact ⟨(Ne.symm (nd_ne ND (i := 0) (j := 2) rfl rfl (by decide))), (Ne.symm (nd_ne ND (i := 30) (j := 2) rfl rfl (by decide))), (Ne.symm (nd_ne ND (i := 31) (j := 2) rfl rfl (by decide)))⟩) e8_asked
    have e_26 := r_15 firstToken_ _ (by simp only [List.mem_cons, List.not_mem_nil, or_false, not_or]; exact ⟨(Ne.symm (nd_ne ND (i := 0) (j := 18) rfl rfl (by decide))), (Ne.symm (nd_ne ND (i := 30) (j := 18) rfl rfl (by decide))), (Ne.symm (nd_ne ND (i := 31) (j := 18) rfl rfl (by decide)))⟩) e8_firstToken
    have e_27 := r_15 starred_ _ (by simp only [List.mem_cons, List.not_mem_nil, or_false, not_or]; exact ⟨(Ne.symm (nd_ne ND (i := 0) (j := 19) rfl rfl (by decide))), (Ne.symm (nd_ne ND (i := 30) (j := 19) rfl rfl (by decide))), (Ne.symm (nd_ne ND (i := 31) (j := 19) rfl rfl (by decide)))⟩) e8_starred
    have e_28 := r_15 sizes_ _ (by simp only [List.mem_cons, List.not_mem_nil, or_false, not_or]; exact ⟨(Ne.symm (nd_ne ND (i := 0) (j := 6) rfl rfl (by decide))), (Ne.symm (nd_ne ND (i := 30) (j := 6) rfl rfl (by decide))), (Ne.symm (nd_ne ND (i := 31) (j := 6) rfl rfl (by decide)))⟩) e8_sizes
    have e_29 := r_15 live_ _ (by simp only [List.mem_cons, List.not_mem_nil, or_false, not_or]; exact ⟨(Ne.symm (nd_ne ND (i := 0) (j := 10) rfl rfl (by decide))), (Ne.symm (nd_ne ND (i := 30) (j := 10) rfl rfl (by decide))), (Ne.symm (nd_ne ND (i := 31) (j := 10) rfl rfl (by decide)))⟩) e8_live
    have e_30 := r_15 weights_ _ (by simp only [List.mem_cons, List.not_mem_nil, or_false, not_or]; exact ⟨(Ne.symm (nd_ne ND (i := 0) (j := 7) rfl rfl (by decide))), (Ne.symm (nd_ne ND (i := 30) (j := 7) rfl rfl (by decide))), (Ne.symm (nd_ne ND (i := 31) (j := 7) rfl rfl (by decide)))⟩) e8_weights
    have r_31 := r8.trans (r_15.mono (by simp))
    have g_32 : fs_8[(34 : Nat)]? = some (.int (nI P)) := (ga_12 34 (by decide)).trans g8_phrases
    have g_33 : fs_8[(53 : Nat)]? = some (.ref begins_) := (ga_12 53 (by decide)).trans g8_begins
    have g_34 : fs_8[(54 : Nat)]? = some (.ref lasts_) := (ga_12 54 (by decide)).trans g8_lasts
    have g_35 : fs_8[(43 : Nat)]? = some (.ref tokenAt_) := (ga_12 43 (by decide)).trans g8_tokenAt
    have g_36 : fs_8[(44 : Nat)]? = some (.ref tokenSize_) := (ga_12 44 (by decide)).trans g8_tokenSize
    have g_37 : fs_8[(7 : Nat)]? = some (.ref texts_) := (ga_12 7 (by decide)).trans g8_texts
    have g_38 : fs_8[(4 : Nat)]? = some (.ref asked_) := (ga_12 4 (by decide)).trans g8_asked
    have g_39 : fs_8[(41 : Nat)]? = some (.ref firstToken_) := (ga_12 41 (by decide)).trans g8_firstToken
    have g_40 : fs_8[(42 : Nat)]? = some (.ref starred_) := (ga_12 42 (by decide)).trans g8_starred
    have g_41 : fs_8[(8 : Nat)]? = some (.ref sizes_) := (ga_12 8 (by decide)).trans g8_sizes
    have g_42 : fs_8[(14 : Nat)]? = some (.ref live_) := (ga_12 14 (by decide)).trans g8_live
    have g_43 : fs_8[(9 : Nat)]? = some (.ref weights_) := (ga_12 9 (by decide)).trans g8_weights
    have ga_44 : ∀ i : Nat, i ∉ [55] → fs_8[i]? = gs[i]? := fun i hi => (ga_12 i (fun z => hi (by simp only [List.mem_cons, List.not_mem_nil, or_false] at z ⊢; omega))).trans (a4 i hi)
    refine s_Model_scoreOf_128 l_9 e_10 g_43 e_30 (by unfold vp_in; decide) ?_
    obtain ⟨nz_59, hz_60, hzb_61⟩ := hz (2 * r + 1) (by omega)
    refine x_callV (As := [.int (nI i), .int (nI r), .int (nI 1)]) (b := m) (rest := [.int (fw (1 : Int32).toNatClampNeg), .int ((fw (0 : Int32).toNatClampNeg) * (nI q_2))]) (F1 := 5) (L1 := 112) (mc := 0) (ms := 0) d_Model_scoreOf_140 cV_Model_336 (f_countIn l_9 e_10 g_11 g_33 eb_13 g_34 el_14 g_35 e_22 g_36 e_23 g_37 e_24 g_38 e_25 g_39 e_26 g_40 e_27 g_41 e_28 ND (show i < 12 by omega) h19 h29 hbt9 ht TK (show r < 24 by omega) (show 1 < 2 by omega) hz_60 hzb_61 (by omega) (by omega)) e_10 ⟨by decide, rfl⟩ ⟨by omega, by show 8 + (6 + 11) + 112 ≤ _; omega⟩ ⟨by omega, by omega⟩ (Nat.le_of_ble_eq_true rfl) (fun v_63 h_62 p_64 => ?_)
    obtain ⟨⟨q_45, rfl, hq_46, hqt_47⟩, cl_48, fb_49, fl_50, fs_51, l_52, e_53, g_54, ga_55, eb_56, el_57, r_58⟩ := p_64
    have e_65 := r_58 tokenAt_ _ (by simp only [List.mem_cons, List.not_mem_nil, or_false, not_or]; exact ⟨(Ne.symm (nd_ne ND (i := 0) (j := 20) rfl rfl (by decide))), (Ne.symm (nd_ne ND (i := 30) (j := 20) rfl rfl (by decide))), (Ne.symm (nd_ne ND (i := 31) (j := 20) rfl rfl (by decide)))⟩) e_22
    have e_66 := r_58 tokenSize_ _ (by simp only [List.mem_cons, List.not_mem_nil, or_false, not_or]; exact ⟨(Ne.symm (nd_ne ND (i := 0) (j := 21) rfl rfl (by decide))), (Ne.symm (nd_ne ND (i := 30) (j := 21) rfl rfl (by decide))), (Ne.symm (nd_ne ND (i := 31) (j := 21) rfl rfl (by decide)))⟩) e_23
    have e_67 := r_58 texts_ _ (by simp only [List.mem_cons, List.not_mem_nil, or_false, not_or]; exact ⟨(Ne.symm (nd_ne ND (i := 0) (j := 5) rfl rfl (by decide))), (Ne.symm (nd_ne ND (i := 30) (j := 5) rfl rfl (by decide))), (Ne.symm (nd_ne ND (i := 31) (j := 5) rfl rfl (by decide)))⟩) e_24
    have e_68 := r_58 asked_ _ (by simp only [List.mem_cons, List.not_mem_nil, or_false, not_or]; exact ⟨(Ne.symm (nd_ne ND (i := 0) (j := 2) rfl rfl (by decide))), (Ne.symm (nd_ne ND (i := 30) (j := 2) rfl rfl (by decide))), (Ne.symm (nd_ne ND (i := 31) (j := 2) rfl rfl (by decide)))⟩) e_25
    have e_69 := r_58 firstToken_ _ (by simp only [List.mem_cons, List.not_mem_nil, or_false, not_or]; exact ⟨(Ne.symm (nd_ne ND (i := 0) (j := 18) rfl rfl (by decide))), (Ne.symm (nd_ne ND (i := 30) (j := 18) rfl rfl (by decide))), (Ne.symm (nd_ne ND (i := 31) (j := 18) rfl rfl (by decide)))⟩) e_26
    have e_70 := r_58 starred_ _ (by simp only [List.mem_cons, List.not_mem_nil, or_false, not_or]; exact ⟨(Ne.symm (nd_ne ND (i := 0) (j := 19) rfl rfl (by decide))), (Ne.symm (nd_ne ND (i := 30) (j := 19) rfl rfl (by decide))), (Ne.symm (nd_ne ND (i := 31) (j := 19) rfl rfl (by decide)))⟩) e_27
    have e_71 := r_58 sizes_ _ (by simp only [List.mem_cons, List.not_mem_nil, or_false, not_or]; exact ⟨(Ne.symm (nd_ne ND (i := 0) (j := 6) rfl rfl (by decide))), (Ne.symm (nd_ne ND (i := 30) (j := 6) rfl rfl (by decide))), (Ne.symm (nd_ne ND (i := 31) (j := 6) rfl rfl (by decide)))⟩) e_28
    have e_72 := r_58 live_ _ (by simp only [List.mem_cons, List.not_mem_nil, or_false, not_or]; exact ⟨(Ne.symm (nd_ne ND (i := 0) (j := 10) rfl rfl (by decide))), (Ne.symm (nd_ne ND (i := 30) (j := 10) rfl rfl (by decide))), (Ne.symm (nd_ne ND (i := 31) (j := 10) rfl rfl (by decide)))⟩) e_29
    have e_73 := r_58 weights_ _ (by simp only [List.mem_cons, List.not_mem_nil, or_false, not_or]; exact ⟨(Ne.symm (nd_ne ND (i := 0) (j := 7) rfl rfl (by decide))), (Ne.symm (nd_ne ND (i := 30) (j := 7) rfl rfl (by decide))), (Ne.symm (nd_ne ND (i := 31) (j := 7) rfl rfl (by decide)))⟩) e_30
    have r_74 := r_31.trans (r_58.mono (by simp))
    have g_75 : fs_51[(34 : Nat)]? = some (.int (nI P)) := (ga_55 34 (by decide)).trans g_32
    have g_76 : fs_51[(53 : Nat)]? = some (.ref begins_) := (ga_55 53 (by decide)).trans g_33
    have g_77 : fs_51[(54 : Nat)]? = some (.ref lasts_) := (ga_55 54 (by decide)).trans g_34
    have g_78 : fs_51[(43 : Nat)]? = some (.ref tokenAt_) := (ga_55 43 (by decide)).trans g_35
    have g_79 : fs_51[(44 : Nat)]? = some (.ref tokenSize_) := (ga_55 44 (by decide)).trans g_36
    have g_80 : fs_51[(7 : Nat)]? = some (.ref texts_) := (ga_55 7 (by decide)).trans g_37
    have g_81 : fs_51[(4 : Nat)]? = some (.ref asked_) := (ga_55 4 (by decide)).trans g_38
    have g_82 : fs_51[(41 : Nat)]? = some (.ref firstToken_) := (ga_55 41 (by decide)).trans g_39
    have g_83 : fs_51[(42 : Nat)]? = some (.ref starred_) := (ga_55 42 (by decide)).trans g_40
    have g_84 : fs_51[(8 : Nat)]? = some (.ref sizes_) := (ga_55 8 (by decide)).trans g_41
    have g_85 : fs_51[(14 : Nat)]? = some (.ref live_) := (ga_55 14 (by decide)).trans g_42
    have g_86 : fs_51[(9 : Nat)]? = some (.ref weights_) := (ga_55 9 (by decide)).trans g_43
    have ga_87 : ∀ i : Nat, i ∉ [55] → fs_51[i]? = gs[i]? := fun i hi => (ga_55 i (fun z => hi (by simp only [List.mem_cons, List.not_mem_nil, or_false] at z ⊢; omega))).trans (ga_44 i hi)
    refine s_Model_scoreOf_143 ?_
    rw [show fw (0 : Int32).toNatClampNeg * nI q_2 + fw (1 : Int32).toNatClampNeg * nI q_45 = nI (w0 * q_2 + w1 * q_45) by rw [show fw (0 : Int32).toNatClampNeg = nI w0 from hw0, show fw (1 : Int32).toNatClampNeg = nI w1 from hw1, pk_mul, pk_mul, nI_add]]
    obtain ⟨hwq1, hwq2⟩ := wq hw0b hw1b hq_3 hq_46
    generalize htt : w0 * q_2 + w1 * q_45 = tt at hwq1 hwq2 ⊢
    refine x_callV (As := [.int (nI r)]) (b := m) (rest := []) (F1 := 4) (L1 := 87) (mc := 0) (ms := 0) d_Model_scoreOf_150 cV_Model_184 (f_tokensOf l_52 e_53 g_54 g_80 e_67 g_84 e_71 g_76 eb_56 g_77 el_57 (nd_ne ND (i := 30) (j := 31) rfl rfl (by decide)) (show r < 24 by omega) hz (by omega) (by omega)) e_53 ⟨by decide, rfl⟩ ⟨by omega, by show 8 + (3 + 11) + 87 ≤ _; omega⟩ ⟨by omega, by omega⟩ (Nat.le_of_ble_eq_true rfl) (fun v_103 h_102 p_104 => ?_)
    obtain ⟨k_88, fb_92, fl_93, fs_94, rfl, hk_89, hk48_90, l_95, e_96, ⟨cl_91, g_97⟩, ga_98, eb_99, el_100, r_101⟩ := p_104
    have e_105 := r_101 tokenAt_ _ (by simp only [List.mem_cons, List.not_mem_nil, or_false, not_or]; exact ⟨(Ne.symm (nd_ne ND (i := 0) (j := 20) rfl rfl (by decide))), (Ne.symm (nd_ne ND (i := 30) (j := 20) rfl rfl (by decide))), (Ne.symm (nd_ne ND (i := 31) (j := 20) rfl rfl (by decide)))⟩) e_65
    have e_106 := r_101 tokenSize_ _ (by simp only [List.mem_cons, List.not_mem_nil, or_false, not_or]; exact ⟨(Ne.symm (nd_ne ND (i := 0) (j := 21) rfl rfl (by decide))), (Ne.symm (nd_ne ND (i := 30) (j := 21) rfl rfl (by decide))), (Ne.symm (nd_ne ND (i := 31) (j := 21) rfl rfl (by decide)))⟩) e_66
    have e_107 := r_101 texts_ _ (by simp only [List.mem_cons, List.not_mem_nil, or_false, not_or]; exact ⟨(Ne.symm (nd_ne ND (i := 0) (j := 5) rfl rfl (by decide))), (Ne.symm (nd_ne ND (i := 30) (j := 5) rfl rfl (by decide))), (Ne.symm (nd_ne ND (i := 31) (j := 5) rfl rfl (by decide)))⟩) e_67
    have e_108 := r_101 asked_ _ (by simp only [List.mem_cons, List.not_mem_nil, or_false, not_or]; exact ⟨(Ne.symm (nd_ne ND (i := 0) (j := 2) rfl rfl (by decide))), (Ne.symm (nd_ne ND (i := 30) (j := 2) rfl rfl (by decide))), (Ne.symm (nd_ne ND (i := 31) (j := 2) rfl rfl (by decide)))⟩) e_68
    have e_109 := r_101 firstToken_ _ (by simp only [List.mem_cons, List.not_mem_nil, or_false, not_or]; exact ⟨(Ne.symm (nd_ne ND (i := 0) (j := 18) rfl rfl (by decide))), (Ne.symm (nd_ne ND (i := 30) (j := 18) rfl rfl (by decide))), (Ne.symm (nd_ne ND (i := 31) (j := 18) rfl rfl (by decide)))⟩) e_69
    have e_110 := r_101 starred_ _ (by simp only [List.mem_cons, List.not_mem_nil, or_false, not_or]; exact ⟨(Ne.symm (nd_ne ND (i := 0) (j := 19) rfl rfl (by decide))), (Ne.symm (nd_ne ND (i := 30) (j := 19) rfl rfl (by decide))), (Ne.symm (nd_ne ND (i := 31) (j := 19) rfl rfl (by decide)))⟩) e_70
    have e_111 := r_101 sizes_ _ (by simp only [List.mem_cons, List.not_mem_nil, or_false, not_or]; exact ⟨(Ne.symm (nd_ne ND (i := 0) (j := 6) rfl rfl (by decide))), (Ne.symm (nd_ne ND (i := 30) (j := 6) rfl rfl (by decide))), (Ne.symm (nd_ne ND (i := 31) (j := 6) rfl rfl (by decide)))⟩) e_71
    have e_112 := r_101 live_ _ (by simp only [List.mem_cons, List.not_mem_nil, or_false, not_or]; exact ⟨(Ne.symm (nd_ne ND (i := 0) (j := 10) rfl rfl (by decide))), (Ne.symm (nd_ne ND (i := 30) (j := 10) rfl rfl (by decide))), (Ne.symm (nd_ne ND (i := 31) (j := 10) rfl rfl (by decide)))⟩) e_72
    have e_113 := r_101 weights_ _ (by simp only [List.mem_cons, List.not_mem_nil, or_false, not_or]; exact ⟨(Ne.symm (nd_ne ND (i := 0) (j := 7) rfl rfl (by decide))), (Ne.symm (nd_ne ND (i := 30) (j := 7) rfl rfl (by decide))), (Ne.symm (nd_ne ND (i := 31) (j := 7) rfl rfl (by decide)))⟩) e_73
    have r_114 := r_74.trans (r_101.mono (by simp))
    have g_115 : fs_94[(34 : Nat)]? = some (.int (nI P)) := (ga_98 34 (by decide)).trans g_75
    have g_116 : fs_94[(53 : Nat)]? = some (.ref begins_) := (ga_98 53 (by decide)).trans g_76
    have g_117 : fs_94[(54 : Nat)]? = some (.ref lasts_) := (ga_98 54 (by decide)).trans g_77
    have g_118 : fs_94[(43 : Nat)]? = some (.ref tokenAt_) := (ga_98 43 (by decide)).trans g_78
    have g_119 : fs_94[(44 : Nat)]? = some (.ref tokenSize_) := (ga_98 44 (by decide)).trans g_79
    have g_120 : fs_94[(7 : Nat)]? = some (.ref texts_) := (ga_98 7 (by decide)).trans g_80
    have g_121 : fs_94[(4 : Nat)]? = some (.ref asked_) := (ga_98 4 (by decide)).trans g_81
    have g_122 : fs_94[(41 : Nat)]? = some (.ref firstToken_) := (ga_98 41 (by decide)).trans g_82
    have g_123 : fs_94[(42 : Nat)]? = some (.ref starred_) := (ga_98 42 (by decide)).trans g_83
    have g_124 : fs_94[(8 : Nat)]? = some (.ref sizes_) := (ga_98 8 (by decide)).trans g_84
    have g_125 : fs_94[(14 : Nat)]? = some (.ref live_) := (ga_98 14 (by decide)).trans g_85
    have g_126 : fs_94[(9 : Nat)]? = some (.ref weights_) := (ga_98 9 (by decide)).trans g_86
    have ga_127 : ∀ i : Nat, i ∉ [55] → fs_94[i]? = gs[i]? := fun i hi => (ga_98 i (fun z => hi (by simp only [List.mem_cons, List.not_mem_nil, or_false] at z ⊢; omega))).trans (ga_87 i hi)
    refine s_Model_scoreOf_153 (NN.num (nn_ddiv (fi_i2d (by omega)) (meB.po ((me_i2d rw_ (by omega)).resolve_left (by omega))))) (fun z_128 => ?_) (fun z_129 => ?_)
    · skip
      have htt1 : 1 ≤ tt := by rcases Nat.eq_zero_or_pos tt with q | q; (exact absurd (by rw [q]; exact cmp0) z_128); (exact q)
      have hT2 : tR = tokN (fun j => ft (96 * r + 48 * 0 + j)) nz_16 + tokN (fun j => ft (96 * r + 48 * 1 + j)) nz_59 := by rw [hTR, hz_17, hz_60, nI_clamp (by omega), nI_clamp (by omega)]
      have hq9 := hwq2 htt1
      have hal1 : 1 ≤ al := by omega
      obtain ⟨k1, k2, k3, y8, hF2, hy8⟩ := lg_of (r := rw_) (w := n8) (by omega) (by omega)
      refine s_Model_scoreOf_175 (n64.of k1) (n64.of k2) (n64.of k3) ?_
      refine x_callS (As := [.double (FP.ddiv (FP.dadd (FP.i2d ((nI rw_) - (nI n8))) 4602678819172646912) (FP.dadd (FP.i2d (nI n8)) 4602678819172646912))]) (rest := []) (F1 := 1) (L1 := 20) (mc := 0) (ms := 0) d_Model_scoreOf_193 cS_Model_342 (f_logarithm hF2 (by omega) (by omega)) ⟨by omega, by show 8 + (12 + 11) + 20 ≤ _; omega⟩ ⟨by omega, by omega⟩ (Nat.le_of_ble_eq_true rfl) (fun v_131 h_130 p_132 => ?_)
      obtain ⟨rfl, rfl⟩ := p_132
      refine x_le (xw_le_s (xw_le_s (xw_le_s (xw_le_n (xw_le_s (xw_le_s (xw_le_s (xw_le_n (xw_le_s (xw_le_n (xw_le_s (xw_le_n (xw_le_s (xw_le_n (xw_le_n (xw_le_n xw_le_e)))))))))))))))) ?_
      refine s_Model_scoreOf_196 (fun z_133 => ?_) (fun z_134 => ?_)
      · skip
        obtain ⟨A0, A1, A2, A3, A4, A5, A6, A7, A8⟩ := sc_all (t := tt) (d := k_88) (al := al) (rw' := rw_) (x2 := sm) htt1 (by omega) (by omega) hal1 (by omega) hrw1 (by omega) (hy8.resolve_left (fun q => absurd z_133 (Int32.not_lt.mpr q))) hNN
        refine s_Model_scoreOf_210 (NN.num A0) (NN.num A1) (NN.num A2) (NN.num A3) (NN.num A4) (NN.num A5) (NN.num A6) (NN.num A7) (NN.num A8) ?_
        refine s_Model_scoreOf_243 ?_
        rw [nI_1]
        exact ih (i + 1) _ _ _ _ _ _ (by omega) l_95 e_96 g_97 ga_127 eb_99 el_100 A8 r_114
      · skip
        refine s_Model_scoreOf_205 ?_
        obtain ⟨A0, A1, A2, A3, A4, A5, A6, A7, A8⟩ := sc_all (t := tt) (d := k_88) (al := al) (rw' := rw_) (x2 := sm) htt1 (by omega) (by omega) hal1 (by omega) hrw1 (by omega) (show smB 4517329193108106637 = true by decide +kernel) hNN
        refine s_Model_scoreOf_210 (NN.num A0) (NN.num A1) (NN.num A2) (NN.num A3) (NN.num A4) (NN.num A5) (NN.num A6) (NN.num A7) (NN.num A8) ?_
        refine s_Model_scoreOf_243 ?_
        rw [nI_1]
        exact ih (i + 1) _ _ _ _ _ _ (by omega) l_95 e_96 g_97 ga_127 eb_99 el_100 A8 r_114
    · skip
      refine s_Model_scoreOf_172 ?_
      refine s_Model_scoreOf_243 ?_
      rw [nI_1]
      exact ih (i + 1) _ _ _ _ _ _ (by omega) l_95 e_96 g_97 ga_127 eb_99 el_100 hNN r_114
set_option maxHeartbeats 2000000 in
theorem f_scoreOf {G : xw_G} {F L : Nat} {h : xw_A} {m draft_ asked_ prepared_ preparedSize_ texts_ sizes_ weights_ entries_ lies_ live_ row_ level_ oldTexts_ oldSizes_ oldLies_ oldLive_ oldRow_ firstToken_ starred_ tokenAt_ tokenSize_ groupKind_ groupPhrase_ groupSize_ groupMask_ groupFar_ out_ top_ masks_ begins_ lasts_ truth_ answers_ order_ scores_ : Nat} {fb fl ca cs ft fa c1 c2 fz fv fw : Nat → Int32} {cl : Int32} {P t r : Nat} (hP : P ≤ 12) (PH : PhO c1 P t) (ht : t ≤ 49) (TK : TkO ca cs t 97) {fs : List Value} (l : fs.length = 62) (e : h m = some (.inr (11, fs))) (g_column : fs[(55 : Nat)]? = some (.int cl)) (g_phrases : fs[(34 : Nat)]? = some (.int (nI P))) (g_begins : fs[(53 : Nat)]? = some (.ref begins_)) (e_begins : h begins_ = some (.inl (0, 24, .inl fb))) (g_lasts : fs[(54 : Nat)]? = some (.ref lasts_)) (e_lasts : h lasts_ = some (.inl (0, 24, .inl fl))) (g_tokenAt : fs[(43 : Nat)]? = some (.ref tokenAt_)) (e_tokenAt : h tokenAt_ = some (.inl (0, 60, .inl ca))) (g_tokenSize : fs[(44 : Nat)]? = some (.ref tokenSize_)) (e_tokenSize : h tokenSize_ = some (.inl (0, 60, .inl cs))) (g_texts : fs[(7 : Nat)]? = some (.ref texts_)) (e_texts : h texts_ = some (.inl (0, 2304, .inl ft))) (g_asked : fs[(4 : Nat)]? = some (.ref asked_)) (e_asked : h asked_ = some (.inl (0, 96, .inl fa))) (g_firstToken : fs[(41 : Nat)]? = some (.ref firstToken_)) (e_firstToken : h firstToken_ = some (.inl (0, 13, .inl c1))) (g_starred : fs[(42 : Nat)]? = some (.ref starred_)) (e_starred : h starred_ = some (.inl (0, 13, .inl c2))) (g_sizes : fs[(8 : Nat)]? = some (.ref sizes_)) (e_sizes : h sizes_ = some (.inl (0, 48, .inl fz))) (g_live : fs[(14 : Nat)]? = some (.ref live_)) (e_live : h live_ = some (.inl (0, 24, .inl fv))) (g_weights : fs[(9 : Nat)]? = some (.ref weights_)) (e_weights : h weights_ = some (.inl (0, 2, .inl fw))) (ND : NDl [m, draft_, asked_, prepared_, preparedSize_, texts_, sizes_, weights_, entries_, lies_, live_, row_, level_, oldTexts_, oldSizes_, oldLies_, oldLive_, oldRow_, firstToken_, starred_, tokenAt_, tokenSize_, groupKind_, groupPhrase_, groupSize_, groupMask_, groupFar_, out_, top_, masks_, begins_, lasts_, truth_, answers_, order_, scores_]) (hr : r < 24) (hz : SZo fz 48) (hlv : ¬ fv r < 0) (hwe : ∀ c, c < 2 → ∃ n, fw c = nI n ∧ n ≤ 9) (hF : 6 ≤ F) (hL : 137 ≤ L) :
    xw_Met G m_Model_scoreOf F L 0 0 [.ref m, .int (nI r)] h (fun v h' => (∃ y : UInt64, v = some (.double y)) ∧ EvP m begins_ lasts_ fs h h') (fun _ _ => False) := by
  refine xw_Met.of rfl (by decide) (Nat.le_of_ble_eq_true rfl) ?_
  refine s_Model_scoreOf_0 ?_
  refine x_callV (As := []) (b := m) (rest := []) (F1 := 1) (L1 := 20) (mc := 0) (ms := 0) d_Model_scoreOf_6 cV_Model_209 (f_rows l e g_live e_live (by omega) (by omega)) e ⟨by decide, rfl⟩ ⟨by omega, by show 8 + (3 + 11) + 20 ≤ _; omega⟩ ⟨by omega, by omega⟩ (Nat.le_of_ble_eq_true rfl) (fun v_2 h_1 p_3 => ?_)
  obtain ⟨⟨rw_, rfl, hrw2, hrw3⟩, rfl⟩ := p_3
  refine s_Model_scoreOf_9 ?_
  have hrw1 : 1 ≤ rw_ := by rw [hrw3]; exact cntL_pos hlv 24 hr
  obtain ⟨w0, hw0, hw0b⟩ := hwe 0 (by omega)
  obtain ⟨w1, hw1, hw1b⟩ := hwe 1 (by omega)
  refine lp_sA (gs := fs) (h0 := h) hP PH ht TK g_phrases g_begins g_lasts g_tokenAt g_tokenSize g_texts g_asked g_firstToken g_starred g_sizes g_live g_weights e_tokenAt e_tokenSize e_texts e_asked e_firstToken e_starred e_sizes e_live e_weights ND hr hz rfl hlv (by omega) (by omega) (fun h8 al8 cl8 fb8 fl8 fs8 a1 a2 a3 a4 a5 a6 hal8 hta8 r8 => ?_) 24 0 _ 0 _ _ _ _ (by omega) l e g_column (fun _ _ => rfl) e_begins e_lasts (Nat.zero_le _) (fun q => absurd q (Nat.not_lt_zero _)) FrO.rf
  refine s_Model_scoreOf_48 ?_
  exact lp_sB (gs := fs) (h0 := h) hP PH ht TK g_phrases g_begins g_lasts g_tokenAt g_tokenSize g_texts g_asked g_firstToken g_starred g_sizes g_live g_weights e_tokenAt e_tokenSize e_texts e_asked e_firstToken e_starred e_sizes e_live e_weights ND hr hz hw0 hw0b hw1 hw1b hrw1 hrw2 hrw3 rfl hal8 hta8 (by omega) (by omega) (fun h9 sm9 cl9 fb9 fl9 fs9 b1 b2 b3 b4 b5 b6 hNN9 r9 => ⟨⟨sm9, rfl⟩, cl9, fb9, fl9, fs9, b1, b2, b3, b4, b5, b6, r9⟩) P 0 _ _ _ _ _ _ (Nat.zero_add _) a1 a2 a3 a4 a5 a6 nn0 r8
