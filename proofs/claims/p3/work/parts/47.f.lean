/-! the reference in general states: by program (wip/tools/gen5.py, gen6.py, gen7.py) -/
theorem NDl.of {l k : List Nat} (is : List Nat) (h : NDl l) (hk : ∀ i : Nat, k[i]? = (is[i]?).bind (fun x => l[x]?)) (hi : is.Nodup) : NDl k := fun i j a h1 h2 => by
  rw [hk] at h1 h2
  cases q1 : is[i]? with
  | none => rw [q1] at h1; cases h1
  | some x =>
    cases q2 : is[j]? with
    | none => rw [q2] at h2; cases h2
    | some y =>
      rw [q1, Option.bind_some] at h1
      rw [q2, Option.bind_some] at h2
      have e := h x y a h1 h2
      have hl : i < is.length := (List.getElem?_eq_some_iff.mp q1).1
      exact (List.getElem?_inj hl hi).mp (by rw [q1, q2, e])
theorem ndQ {m draft_ asked_ prepared_ preparedSize_ texts_ sizes_ weights_ entries_ lies_ live_ row_ level_ oldTexts_ oldSizes_ oldLies_ oldLive_ oldRow_ firstToken_ starred_ tokenAt_ tokenSize_ groupKind_ groupPhrase_ groupSize_ groupMask_ groupFar_ out_ top_ masks_ begins_ lasts_ truth_ answers_ order_ scores_ : Nat} (ND : NDl [m, draft_, asked_, prepared_, preparedSize_, texts_, sizes_, weights_, entries_, lies_, live_, row_, level_, oldTexts_, oldSizes_, oldLies_, oldLive_, oldRow_, firstToken_, starred_, tokenAt_, tokenSize_, groupKind_, groupPhrase_, groupSize_, groupMask_, groupFar_, out_, top_, masks_, begins_, lasts_, truth_, answers_, order_, scores_]) : NDl [m, asked_, firstToken_, starred_, tokenAt_, tokenSize_, groupKind_, groupPhrase_, groupSize_, groupMask_, groupFar_, out_, top_, masks_] := NDl.of [0, 2, 18, 19, 20, 21, 22, 23, 24, 25, 26, 27, 28, 29] ND (fun i => match i with
  | 0 => rfl
  | 1 => rfl
  | 2 => rfl
  | 3 => rfl
  | 4 => rfl
  | 5 => rfl
  | 6 => rfl
  | 7 => rfl
  | 8 => rfl
  | 9 => rfl
  | 10 => rfl
  | 11 => rfl
  | 12 => rfl
  | 13 => rfl
  | _ + 14 => rfl) (by decide)
set_option maxHeartbeats 2000000 in
theorem lp_a1 {G : xw_G} {F L bc bs : Nat} {pr : Option Value → xw_A → Prop} {px : String → xw_A → Prop} {m asked_ draft_ dl : Nat} {gs : List Value} {fd : Nat → Int32} {h0 : xw_A} (l : gs.length = 62) (q_m : h0 m = some (.inr (11, gs))) (g_drafted : gs[(10 : Nat)]? = some (.int (nI dl))) (g_draft : gs[(3 : Nat)]? = some (.ref draft_)) (g_asked : gs[(4 : Nat)]? = some (.ref asked_)) (q_d : h0 draft_ = some (.inl (0, 96, .inl fd))) (q_a : ∃ f, h0 asked_ = some (.inl (0, 96, .inl f))) (nda : draft_ ≠ asked_) (hdl : dl ≤ 96) (kk : ∀ (h : xw_A) (fa : Nat → Int32), h asked_ = some (.inl (0, 96, .inl fa)) → FrO [asked_] h0 h → xw G m_Model_ask F L bc bs pr px 33 [some (.ref m), none, none] [] h) :
    ∀ (dd i : Nat) (h : xw_A) (fa : Nat → Int32), i + dd = dl → h asked_ = some (.inl (0, 96, .inl fa)) → FrO [asked_] h0 h → xw G m_Model_ask F L bc bs pr px 7 [some (.ref m), some (.int (nI i)), none] [] h := by
  intro dd
  induction dd with
  | zero =>
    intro i h fa hi e_asked r0
    obtain rfl : i = dl := by omega
    have e := r0 m _ (by obtain ⟨f, o⟩ := q_a; simp only [List.mem_cons, List.not_mem_nil, or_false, not_or]; exact xw_neC q_m o (by simp)) q_m
    have e_draft := r0 draft_ _ (by simp only [List.mem_cons, List.not_mem_nil, or_false, not_or]; exact nda) q_d
    refine s_Model_ask_7 l e g_drafted (fun z_1 => ?_) (fun z => absurd (nI_le (Nat.le_refl _) (by omega)) z)
    exact kk _ _ e_asked r0
  | succ dd ih =>
    intro i h fa hi e_asked r0
    have e := r0 m _ (by obtain ⟨f, o⟩ := q_a; simp only [List.mem_cons, List.not_mem_nil, or_false, not_or]; exact xw_neC q_m o (by simp)) q_m
    have e_draft := r0 draft_ _ (by simp only [List.mem_cons, List.not_mem_nil, or_false, not_or]; exact nda) q_d
    refine s_Model_ask_7 l e g_drafted (fun z => absurd z (nI_ge (b := dl) (show i < dl by omega) (by omega))) (fun z_1 => ?_)
    refine s_Model_ask_15 l e g_asked g_draft e_draft (vp_in_nI (by omega) (by omega)) e_asked (vp_in_nI (by omega) (by omega)) ?_
    refine x_u1 (fun h_2 e_3 f_4 => ?_)
    have e_5 := (f_4 m (xw_neC e e_asked (by simp))).trans e
    have e_6 := (f_4 draft_ nda).trans e_draft
    have r_7 := r0.up (by simp) f_4
    rw [nI_1]
    exact ih (i + 1) _ _ (by omega) e_3 r_7
set_option maxHeartbeats 2000000 in
theorem lp_so {G : xw_G} {F L bc bs : Nat} {pr : Option Value → xw_A → Prop} {px : String → xw_A → Prop} {m order_ scores_ fn : Nat} {x1 : Int32} {gs : List Value} {fsc : Nat → UInt64} {h0 : xw_A} (l : gs.length = 62) (q_m : h0 m = some (.inr (11, gs))) (g_found : gs[(56 : Nat)]? = some (.int (nI fn))) (g_order : gs[(59 : Nat)]? = some (.ref order_)) (g_scores : gs[(60 : Nat)]? = some (.ref scores_)) (q_s : h0 scores_ = some (.inl (3, 24, .inr (.inr (.inr (.inl fsc)))))) (q_o : ∃ f, h0 order_ = some (.inl (0, 24, .inl f))) (hfn : fn < 24) (kk : ∀ (h : xw_A) (n : Nat) (fo : Nat → Int32), h order_ = some (.inl (0, 24, .inl fo)) → n ≤ fn → (∀ i, i ≤ fn → i ≠ n → ∃ j, fo i = nI j ∧ j < fn) → FrO [order_] h0 h → xw G m_Model_ask F L bc bs pr px 199 [some (.ref m), some (.int x1), some (.int (nI n))] [] h) :
    ∀ (n : Nat) (h : xw_A) (fo : Nat → Int32), h order_ = some (.inl (0, 24, .inl fo)) → n ≤ fn → (∀ i, i ≤ fn → i ≠ n → ∃ j, fo i = nI j ∧ j < fn) → FrO [order_] h0 h → xw G m_Model_ask F L bc bs pr px 149 [some (.ref m), some (.int x1), some (.int (nI n))] [] h := by
  intro n
  induction n with
  | zero =>
    intro h fo e_order hN hO r0
    have e := r0 m _ (by obtain ⟨f, o⟩ := q_o; simp only [List.mem_cons, List.not_mem_nil, or_false, not_or]; exact xw_neC q_m o (by simp)) q_m
    have e_scores := r0 scores_ _ (by obtain ⟨f, o⟩ := q_o; simp only [List.mem_cons, List.not_mem_nil, or_false, not_or]; exact xw_neC q_s o (by simp)) q_s
    refine s_Model_ask_149 (fun z_1 => ?_) (fun z => absurd (show nI 0 ≤ 0 by decide) z)
    exact kk _ _ _ e_order hN hO r0
  | succ n ih =>
    intro h fo e_order hN hO r0
    have e := r0 m _ (by obtain ⟨f, o⟩ := q_o; simp only [List.mem_cons, List.not_mem_nil, or_false, not_or]; exact xw_neC q_m o (by simp)) q_m
    have e_scores := r0 scores_ _ (by obtain ⟨f, o⟩ := q_o; simp only [List.mem_cons, List.not_mem_nil, or_false, not_or]; exact xw_neC q_s o (by simp)) q_s
    refine s_Model_ask_149 (fun z => absurd z (nI_ge (b := n + 1) (show 0 < n + 1 by omega) (by omega))) (fun z_1 => ?_)
    refine s_Model_ask_153 l e g_scores g_order e_order (by rw [nI_pred]; exact vp_in_nI (by omega) (by decide)) e_scores (by rw [nI_pred, nI_clamp (by omega)]; obtain ⟨j, hj, hj2⟩ := hO n (by omega) (by omega); rw [hj]; exact vp_in_nI (by omega) (by decide)) g_found (vp_in_nI (by omega) (by omega)) (fun z_2 => ?_) (fun z_3 => ?_)
    · skip
      exact kk _ _ _ e_order hN hO r0
    · skip
      refine s_Model_ask_179 l e g_order e_order (by rw [nI_pred]; exact vp_in_nI (by omega) (by decide)) (vp_in_nI (by omega) (by omega)) ?_
      refine x_u1 (fun h_4 e_5 f_6 => ?_)
      have e_7 := (f_6 m (xw_neC e e_order (by simp))).trans e
      have e_8 := (f_6 scores_ (xw_neC e_scores e_order (by simp))).trans e_scores
      have r_9 := r0.up (by simp) f_6
      rw [show nI (n + 1) + (-1) = nI n from nI_m1 n]
      rw [nI_pred, nI_clamp (show n < 2 ^ 31 by omega), nI_clamp (show n + 1 < 2 ^ 31 by omega)] at e_5
      exact ih _ _ e_5 (by omega) (fun i hi hne => by by_cases q : i = n + 1; (subst q; rw [pk_us]; exact hO n (by omega) (by omega)); (rw [pk_un q]; exact hO i hi q)) r_9
set_option maxHeartbeats 8000000 in
theorem lp_a2 {G : xw_G} {F L bc bs : Nat} {pr : Option Value → xw_A → Prop} {px : String → xw_A → Prop} {m draft_ asked_ prepared_ preparedSize_ texts_ sizes_ weights_ entries_ lies_ live_ row_ level_ oldTexts_ oldSizes_ oldLies_ oldLive_ oldRow_ firstToken_ starred_ tokenAt_ tokenSize_ groupKind_ groupPhrase_ groupSize_ groupMask_ groupFar_ out_ top_ masks_ begins_ lasts_ truth_ answers_ order_ scores_ : Nat} {o g0 P t : Nat} {gs : List Value} {h0 : xw_A} {ca cs ft fa c1 c2 c5 c6 c7 c9 c8 fz co fv fw : Nat → Int32} (q_outs : gs[(37 : Nat)]? = some (.int (nI o))) (q_phrases : gs[(34 : Nat)]? = some (.int (nI P))) (q_begins : gs[(53 : Nat)]? = some (.ref begins_)) (q_lasts : gs[(54 : Nat)]? = some (.ref lasts_)) (q_tokenAt : gs[(43 : Nat)]? = some (.ref tokenAt_)) (q_tokenSize : gs[(44 : Nat)]? = some (.ref tokenSize_)) (q_texts : gs[(7 : Nat)]? = some (.ref texts_)) (q_asked : gs[(4 : Nat)]? = some (.ref asked_)) (q_firstToken : gs[(41 : Nat)]? = some (.ref firstToken_)) (q_starred : gs[(42 : Nat)]? = some (.ref starred_)) (q_groupKind : gs[(45 : Nat)]? = some (.ref groupKind_)) (q_groupPhrase : gs[(46 : Nat)]? = some (.ref groupPhrase_)) (q_groupSize : gs[(47 : Nat)]? = some (.ref groupSize_)) (q_groupFar : gs[(49 : Nat)]? = some (.ref groupFar_)) (q_groupMask : gs[(48 : Nat)]? = some (.ref groupMask_)) (q_sizes : gs[(8 : Nat)]? = some (.ref sizes_)) (q_out : gs[(50 : Nat)]? = some (.ref out_)) (q_truth : gs[(57 : Nat)]? = some (.ref truth_)) (q_live : gs[(14 : Nat)]? = some (.ref live_)) (q_weights : gs[(9 : Nat)]? = some (.ref weights_)) (q_answers : gs[(58 : Nat)]? = some (.ref answers_)) (q_order : gs[(59 : Nat)]? = some (.ref order_)) (q_scores : gs[(60 : Nat)]? = some (.ref scores_)) (p_tokenAt : h0 tokenAt_ = some (.inl (0, 60, .inl ca))) (p_tokenSize : h0 tokenSize_ = some (.inl (0, 60, .inl cs))) (p_texts : h0 texts_ = some (.inl (0, 2304, .inl ft))) (p_asked : h0 asked_ = some (.inl (0, 96, .inl fa))) (p_firstToken : h0 firstToken_ = some (.inl (0, 13, .inl c1))) (p_starred : h0 starred_ = some (.inl (0, 13, .inl c2))) (p_groupKind : h0 groupKind_ = some (.inl (0, 13, .inl c5))) (p_groupPhrase : h0 groupPhrase_ = some (.inl (0, 13, .inl c6))) (p_groupSize : h0 groupSize_ = some (.inl (0, 13, .inl c7))) (p_groupFar : h0 groupFar_ = some (.inl (0, 13, .inl c9))) (p_groupMask : h0 groupMask_ = some (.inl (0, 13, .inl c8))) (p_sizes : h0 sizes_ = some (.inl (0, 48, .inl fz))) (p_out : h0 out_ = some (.inl (0, 60, .inl co))) (p_live : h0 live_ = some (.inl (0, 24, .inl fv))) (p_weights : h0 weights_ = some (.inl (0, 2, .inl fw))) (ND : NDl [m, draft_, asked_, prepared_, preparedSize_, texts_, sizes_, weights_, entries_, lies_, live_, row_, level_, oldTexts_, oldSizes_, oldLies_, oldLive_, oldRow_, firstToken_, starred_, tokenAt_, tokenSize_, groupKind_, groupPhrase_, groupSize_, groupMask_, groupFar_, out_, top_, masks_, begins_, lasts_, truth_, answers_, order_, scores_]) (hP : P ≤ 12) (PH : PhO c1 P t) (ht : t ≤ 49) (TK : TkO ca cs t 97) (GR : GrO c6 c7 g0 P) (hg0 : g0 ≤ P) (hz : SZo fz 48) (ho : o ≤ 60) (hO : hgt co o = some 1) (hC : ∀ k, k < o → co k < 0 ∨ ∃ j, j < g0 ∧ co k = nI j) (hwe : ∀ c, c < 2 → ∃ n, fw c = nI n ∧ n ≤ 9) (hF : 9 ≤ F) (hL : 209 ≤ L) (kk : ∀ (h : xw_A) (fn : Nat) (fan : Nat → Int32) (fo : Nat → Int32) (fsc : Nat → UInt64) (c13 : Nat → Int32) (cl : Int32) (fb : Nat → Int32) (fl : Nat → Int32) (fs : List Value), fs.length = 62 → h m = some (.inr (11, fs)) → fs[(55 : Nat)]? = some (.int cl) → fs[(56 : Nat)]? = some (.int (nI fn)) → (∀ i : Nat, i ∉ [55, 56] → fs[i]? = gs[i]?) → h begins_ = some (.inl (0, 24, .inl fb)) → h lasts_ = some (.inl (0, 24, .inl fl)) → h truth_ = some (.inl (4, 60, .inl c13)) → h answers_ = some (.inl (0, 24, .inl fan)) → h order_ = some (.inl (0, 24, .inl fo)) → h scores_ = some (.inl (3, 24, .inr (.inr (.inr (.inl fsc))))) → fn ≤ 24 → (∀ i, i < fn → ∃ j, fo i = nI j ∧ j < fn) → FrO [m, begins_, lasts_, truth_, answers_, order_, scores_] h0 h → xw G m_Model_ask F L bc bs pr px 225 [some (.ref m), none, none] [] h) :
    ∀ (dd i : Nat) (h : xw_A) (fn : Nat) (fan : Nat → Int32) (fo : Nat → Int32) (fsc : Nat → UInt64) (c13 : Nat → Int32) (cl : Int32) (fb : Nat → Int32) (fl : Nat → Int32) (fs : List Value), i + dd = 24 → fs.length = 62 → h m = some (.inr (11, fs)) → fs[(55 : Nat)]? = some (.int cl) → fs[(56 : Nat)]? = some (.int (nI fn)) → (∀ i : Nat, i ∉ [55, 56] → fs[i]? = gs[i]?) → h begins_ = some (.inl (0, 24, .inl fb)) → h lasts_ = some (.inl (0, 24, .inl fl)) → h truth_ = some (.inl (4, 60, .inl c13)) → h answers_ = some (.inl (0, 24, .inl fan)) → h order_ = some (.inl (0, 24, .inl fo)) → h scores_ = some (.inl (3, 24, .inr (.inr (.inr (.inl fsc))))) → fn ≤ i → (∀ i, i < fn → ∃ j, fo i = nI j ∧ j < fn) → FrO [m, begins_, lasts_, truth_, answers_, order_, scores_] h0 h → xw G m_Model_ask F L bc bs pr px 95 [some (.ref m), some (.int (nI i)), none] [] h := by
  intro dd
  induction dd with
  | zero =>
    intro i h fn fan fo fsc c13 cl fb fl fs hi l e g_column g_found ga0 e_begins e_lasts e_truth e_answers e_order e_scores hfn hord r0
    obtain rfl : i = 24 := by omega
    have g_outs := (ga0 37 (by decide)).trans q_outs
    have g_phrases := (ga0 34 (by decide)).trans q_phrases
    have g_begins := (ga0 53 (by decide)).trans q_begins
    have g_lasts := (ga0 54 (by decide)).trans q_lasts
    have g_tokenAt := (ga0 43 (by decide)).trans q_tokenAt
    have g_tokenSize := (ga0 44 (by decide)).trans q_tokenSize
    have g_texts := (ga0 7 (by decide)).trans q_texts
    have g_asked := (ga0 4 (by decide)).trans q_asked
    have g_firstToken := (ga0 41 (by decide)).trans q_firstToken
    have g_starred := (ga0 42 (by decide)).trans q_starred
    have g_groupKind := (ga0 45 (by decide)).trans q_groupKind
    have g_groupPhrase := (ga0 46 (by decide)).trans q_groupPhrase
    have g_groupSize := (ga0 47 (by decide)).trans q_groupSize
    have g_groupFar := (ga0 49 (by decide)).trans q_groupFar
    have g_groupMask := (ga0 48 (by decide)).trans q_groupMask
    have g_sizes := (ga0 8 (by decide)).trans q_sizes
    have g_out := (ga0 50 (by decide)).trans q_out
    have g_truth := (ga0 57 (by decide)).trans q_truth
    have g_live := (ga0 14 (by decide)).trans q_live
    have g_weights := (ga0 9 (by decide)).trans q_weights
    have g_answers := (ga0 58 (by decide)).trans q_answers
    have g_order := (ga0 59 (by decide)).trans q_order
    have g_scores := (ga0 60 (by decide)).trans q_scores
    have e_tokenAt := r0 tokenAt_ _ (by simp only [List.mem_cons, List.not_mem_nil, or_false, not_or]; exact ⟨(nd_ne ND (i := 20) (j := 0) rfl rfl (by decide)), (nd_ne ND (i := 20) (j := 30) rfl rfl (by decide)), (nd_ne ND (i := 20) (j := 31) rfl rfl (by decide)), (nd_ne ND (i := 20) (j := 32) rfl rfl (by decide)), (nd_ne ND (i := 20) (j := 33) rfl rfl (by decide)), (nd_ne ND (i := 20) (j := 34) rfl rfl (by decide)), (nd_ne ND (i := 20) (j := 35) rfl rfl (by decide))⟩) p_tokenAt
    have e_tokenSize := r0 tokenSize_ _ (by simp only [List.mem_cons, List.not_mem_nil, or_false, not_or]; exact ⟨(nd_ne ND (i := 21) (j := 0) rfl rfl (by decide)), (nd_ne ND (i := 21) (j := 30) rfl rfl (by decide)), (nd_ne ND (i := 21) (j := 31) rfl rfl (by decide)), (nd_ne ND (i := 21) (j := 32) rfl rfl (by decide)), (nd_ne ND (i := 21) (j := 33) rfl rfl (by decide)), (nd_ne ND (i := 21) (j := 34) rfl rfl (by decide)), (nd_ne ND (i := 21) (j := 35) rfl rfl (by decide))⟩) p_tokenSize
    have e_texts := r0 texts_ _ (by simp only [List.mem_cons, List.not_mem_nil, or_false, not_or]; exact ⟨(nd_ne ND (i := 5) (j := 0) rfl rfl (by decide)), (nd_ne ND (i := 5) (j := 30) rfl rfl (by decide)), (nd_ne ND (i := 5) (j := 31) rfl rfl (by decide)), (nd_ne ND (i := 5) (j := 32) rfl rfl (by decide)), (nd_ne ND (i := 5) (j := 33) rfl rfl (by decide)), (nd_ne ND (i := 5) (j := 34) rfl rfl (by decide)), (nd_ne ND (i := 5) (j := 35) rfl rfl (by decide))⟩) p_texts
    have e_asked := r0 asked_ _ (by simp only [List.mem_cons, List.not_mem_nil, or_false, not_or]; exact ⟨(nd_ne ND (i := 2) (j := 0) rfl rfl (by decide)), (nd_ne ND (i := 2) (j := 30) rfl rfl (by decide)), (nd_ne ND (i := 2) (j := 31) rfl rfl (by decide)), (nd_ne ND (i := 2) (j := 32) rfl rfl (by decide)), (nd_ne ND (i := 2) (j := 33) rfl rfl (by decide)), (nd_ne ND (i := 2) (j := 34) rfl rfl (by decide)), (nd_ne ND (i := 2) (j := 35) rfl rfl (by decide))⟩) p_asked
    have e_firstToken := r0 firstToken_ _ (by simp only [List.mem_cons, List.not_mem_nil, or_false, not_or]; exact ⟨(nd_ne ND (i := 18) (j := 0) rfl rfl (by decide)), (nd_ne ND (i := 18) (j := 30) rfl rfl (by decide)), (nd_ne ND (i := 18) (j := 31) rfl rfl (by decide)), (nd_ne ND (i := 18) (j := 32) rfl rfl (by decide)), (nd_ne ND (i := 18) (j := 33) rfl rfl (by decide)), (nd_ne ND (i := 18) (j := 34) rfl rfl (by decide)), (nd_ne ND (i := 18) (j := 35) rfl rfl (by decide))⟩) p_firstToken
    have e_starred := r0 starred_ _ (by simp only [List.mem_cons, List.not_mem_nil, or_false, not_or]; exact ⟨(nd_ne ND (i := 19) (j := 0) rfl rfl (by decide)), (nd_ne ND (i := 19) (j := 30) rfl rfl (by decide)), (nd_ne ND (i := 19) (j := 31) rfl rfl (by decide)), (nd_ne ND (i := 19) (j := 32) rfl rfl (by decide)), (nd_ne ND (i := 19) (j := 33) rfl rfl (by decide)), (nd_ne ND (i := 19) (j := 34) rfl rfl (by decide)), (nd_ne ND (i := 19) (j := 35) rfl rfl (by decide))⟩) p_starred
    have e_groupKind := r0 groupKind_ _ (by simp only [List.mem_cons, List.not_mem_nil, or_false, not_or]; exact ⟨(nd_ne ND (i := 22) (j := 0) rfl rfl (by decide)), (nd_ne ND (i := 22) (j := 30) rfl rfl (by decide)), (nd_ne ND (i := 22) (j := 31) rfl rfl (by decide)), (nd_ne ND (i := 22) (j := 32) rfl rfl (by decide)), (nd_ne ND (i := 22) (j := 33) rfl rfl (by decide)), (nd_ne ND (i := 22) (j := 34) rfl rfl (by decide)), (nd_ne ND (i := 22) (j := 35) rfl rfl (by decide))⟩) p_groupKind
    have e_groupPhrase := r0 groupPhrase_ _ (by simp only [List.mem_cons, List.not_mem_nil, or_false, not_or]; exact ⟨(nd_ne ND (i := 23) (j := 0) rfl rfl (by decide)), (nd_ne ND (i := 23) (j := 30) rfl rfl (by decide)), (nd_ne ND (i := 23) (j := 31) rfl rfl (by decide)), (nd_ne ND (i := 23) (j := 32) rfl rfl (by decide)), (nd_ne ND (i := 23) (j := 33) rfl rfl (by decide)), (nd_ne ND (i := 23) (j := 34) rfl rfl (by decide)), (nd_ne ND (i := 23) (j := 35) rfl rfl (by decide))⟩) p_groupPhrase
    have e_groupSize := r0 groupSize_ _ (by simp only [List.mem_cons, List.not_mem_nil, or_false, not_or]; exact ⟨(nd_ne ND (i := 24) (j := 0) rfl rfl (by decide)), (nd_ne ND (i := 24) (j := 30) rfl rfl (by decide)), (nd_ne ND (i := 24) (j := 31) rfl rfl (by decide)), (nd_ne ND (i := 24) (j := 32) rfl rfl (by decide)), (nd_ne ND (i := 24) (j := 33) rfl rfl (by decide)), (nd_ne ND (i := 24) (j := 34) rfl rfl (by decide)), (nd_ne ND (i := 24) (j := 35) rfl rfl (by decide))⟩) p_groupSize
    have e_groupFar := r0 groupFar_ _ (by simp only [List.mem_cons, List.not_mem_nil, or_false, not_or]; exact ⟨(nd_ne ND (i := 26) (j := 0) rfl rfl (by decide)), (nd_ne ND (i := 26) (j := 30) rfl rfl (by decide)), (nd_ne ND (i := 26) (j := 31) rfl rfl (by decide)), (nd_ne ND (i := 26) (j := 32) rfl rfl (by decide)), (nd_ne ND (i := 26) (j := 33) rfl rfl (by decide)), (nd_ne ND (i := 26) (j := 34) rfl rfl (by decide)), (nd_ne ND (i := 26) (j := 35) rfl rfl (by decide))⟩) p_groupFar
    have e_groupMask := r0 groupMask_ _ (by simp only [List.mem_cons, List.not_mem_nil, or_false, not_or]; exact ⟨(nd_ne ND (i := 25) (j := 0) rfl rfl (by decide)), (nd_ne ND (i := 25) (j := 30) rfl rfl (by decide)), (nd_ne ND (i := 25) (j := 31) rfl rfl (by decide)), (nd_ne ND (i := 25) (j := 32) rfl rfl (by decide)), (nd_ne ND (i := 25) (j := 33) rfl rfl (by decide)), (nd_ne ND (i := 25) (j := 34) rfl rfl (by decide)), (nd_ne ND (i := 25) (j := 35) rfl rfl (by decide))⟩) p_groupMask
    have e_sizes := r0 sizes_ _ (by simp only [List.mem_cons, List.not_mem_nil, or_false, not_or]; exact ⟨(nd_ne ND (i := 6) (j := 0) rfl rfl (by decide)), (nd_ne ND (i := 6) (j := 30) rfl rfl (by decide)), (nd_ne ND (i := 6) (j := 31) rfl rfl (by decide)), (nd_ne ND (i := 6) (j := 32) rfl rfl (by decide)), (nd_ne ND (i := 6) (j := 33) rfl rfl (by decide)), (nd_ne ND (i := 6) (j := 34) rfl rfl (by decide)), (nd_ne ND (i := 6) (j := 35) rfl rfl (by decide))⟩) p_sizes
    have e_out := r0 out_ _ (by simp only [List.mem_cons, List.not_mem_nil, or_false, not_or]; exact ⟨(nd_ne ND (i := 27) (j := 0) rfl rfl (by decide)), (nd_ne ND (i := 27) (j := 30) rfl rfl (by decide)), (nd_ne ND (i := 27) (j := 31) rfl rfl (by decide)), (nd_ne ND (i := 27) (j := 32) rfl rfl (by decide)), (nd_ne ND (i := 27) (j := 33) rfl rfl (by decide)), (nd_ne ND (i := 27) (j := 34) rfl rfl (by decide)), (nd_ne ND (i := 27) (j := 35) rfl rfl (by decide))⟩) p_out
    have e_live := r0 live_ _ (by simp only [List.mem_cons, List.not_mem_nil, or_false, not_or]; exact ⟨(nd_ne ND (i := 10) (j := 0) rfl rfl (by decide)), (nd_ne ND (i := 10) (j := 30) rfl rfl (by decide)), (nd_ne ND (i := 10) (j := 31) rfl rfl (by decide)), (nd_ne ND (i := 10) (j := 32) rfl rfl (by decide)), (nd_ne ND (i := 10) (j := 33) rfl rfl (by decide)), (nd_ne ND (i := 10) (j := 34) rfl rfl (by decide)), (nd_ne ND (i := 10) (j := 35) rfl rfl (by decide))⟩) p_live
    have e_weights := r0 weights_ _ (by simp only [List.mem_cons, List.not_mem_nil, or_false, not_or]; exact ⟨(nd_ne ND (i := 7) (j := 0) rfl rfl (by decide)), (nd_ne ND (i := 7) (j := 30) rfl rfl (by decide)), (nd_ne ND (i := 7) (j := 31) rfl rfl (by decide)), (nd_ne ND (i := 7) (j := 32) rfl rfl (by decide)), (nd_ne ND (i := 7) (j := 33) rfl rfl (by decide)), (nd_ne ND (i := 7) (j := 34) rfl rfl (by decide)), (nd_ne ND (i := 7) (j := 35) rfl rfl (by decide))⟩) p_weights
    refine s_Model_ask_95 (fun z_1 => ?_) (fun z => absurd z (by decide))
    exact kk _ _ _ _ _ _ _ _ _ _ l e g_column g_found ga0 e_begins e_lasts e_truth e_answers e_order e_scores hfn hord r0
  | succ dd ih =>
    intro i h fn fan fo fsc c13 cl fb fl fs hi l e g_column g_found ga0 e_begins e_lasts e_truth e_answers e_order e_scores hfn hord r0
    have g_outs := (ga0 37 (by decide)).trans q_outs
    have g_phrases := (ga0 34 (by decide)).trans q_phrases
    have g_begins := (ga0 53 (by decide)).trans q_begins
    have g_lasts := (ga0 54 (by decide)).trans q_lasts
    have g_tokenAt := (ga0 43 (by decide)).trans q_tokenAt
    have g_tokenSize := (ga0 44 (by decide)).trans q_tokenSize
    have g_texts := (ga0 7 (by decide)).trans q_texts
    have g_asked := (ga0 4 (by decide)).trans q_asked
    have g_firstToken := (ga0 41 (by decide)).trans q_firstToken
    have g_starred := (ga0 42 (by decide)).trans q_starred
    have g_groupKind := (ga0 45 (by decide)).trans q_groupKind
    have g_groupPhrase := (ga0 46 (by decide)).trans q_groupPhrase
    have g_groupSize := (ga0 47 (by decide)).trans q_groupSize
    have g_groupFar := (ga0 49 (by decide)).trans q_groupFar
    have g_groupMask := (ga0 48 (by decide)).trans q_groupMask
    have g_sizes := (ga0 8 (by decide)).trans q_sizes
    have g_out := (ga0 50 (by decide)).trans q_out
    have g_truth := (ga0 57 (by decide)).trans q_truth
    have g_live := (ga0 14 (by decide)).trans q_live
    have g_weights := (ga0 9 (by decide)).trans q_weights
    have g_answers := (ga0 58 (by decide)).trans q_answers
    have g_order := (ga0 59 (by decide)).trans q_order
    have g_scores := (ga0 60 (by decide)).trans q_scores
    have e_tokenAt := r0 tokenAt_ _ (by simp only [List.mem_cons, List.not_mem_nil, or_false, not_or]; exact ⟨(nd_ne ND (i := 20) (j := 0) rfl rfl (by decide)), (nd_ne ND (i := 20) (j := 30) rfl rfl (by decide)), (nd_ne ND (i := 20) (j := 31) rfl rfl (by decide)), (nd_ne ND (i := 20) (j := 32) rfl rfl (by decide)), (nd_ne ND (i := 20) (j := 33) rfl rfl (by decide)), (nd_ne ND (i := 20) (j := 34) rfl rfl (by decide)), (nd_ne ND (i := 20) (j := 35) rfl rfl (by decide))⟩) p_tokenAt
    have e_tokenSize := r0 tokenSize_ _ (by simp only [List.mem_cons, List.not_mem_nil, or_false, not_or]; exact ⟨(nd_ne ND (i := 21) (j := 0) rfl rfl (by decide)), (nd_ne ND (i := 21) (j := 30) rfl rfl (by decide)), (nd_ne ND (i := 21) (j := 31) rfl rfl (by decide)), (nd_ne ND (i := 21) (j := 32) rfl rfl (by decide)), (nd_ne ND (i := 21) (j := 33) rfl rfl (by decide)), (nd_ne ND (i := 21) (j := 34) rfl rfl (by decide)), (nd_ne ND (i := 21) (j := 35) rfl rfl (by decide))⟩) p_tokenSize
    have e_texts := r0 texts_ _ (by simp only [List.mem_cons, List.not_mem_nil, or_false, not_or]; exact ⟨(nd_ne ND (i := 5) (j := 0) rfl rfl (by decide)), (nd_ne ND (i := 5) (j := 30) rfl rfl (by decide)), (nd_ne ND (i := 5) (j := 31) rfl rfl (by decide)), (nd_ne ND (i := 5) (j := 32) rfl rfl (by decide)), (nd_ne ND (i := 5) (j := 33) rfl rfl (by decide)), (nd_ne ND (i := 5) (j := 34) rfl rfl (by decide)), (nd_ne ND (i := 5) (j := 35) rfl rfl (by decide))⟩) p_texts
    have e_asked := r0 asked_ _ (by simp only [List.mem_cons, List.not_mem_nil, or_false, not_or]; exact ⟨(nd_ne ND (i := 2) (j := 0) rfl rfl (by decide)), (nd_ne ND (i := 2) (j := 30) rfl rfl (by decide)), (nd_ne ND (i := 2) (j := 31) rfl rfl (by decide)), (nd_ne ND (i := 2) (j := 32) rfl rfl (by decide)), (nd_ne ND (i := 2) (j := 33) rfl rfl (by decide)), (nd_ne ND (i := 2) (j := 34) rfl rfl (by decide)), (nd_ne ND (i := 2) (j := 35) rfl rfl (by decide))⟩) p_asked
    have e_firstToken := r0 firstToken_ _ (by simp only [List.mem_cons, List.not_mem_nil, or_false, not_or]; exact ⟨(nd_ne ND (i := 18) (j := 0) rfl rfl (by decide)), (nd_ne ND (i := 18) (j := 30) rfl rfl (by decide)), (nd_ne ND (i := 18) (j := 31) rfl rfl (by decide)), (nd_ne ND (i := 18) (j := 32) rfl rfl (by decide)), (nd_ne ND (i := 18) (j := 33) rfl rfl (by decide)), (nd_ne ND (i := 18) (j := 34) rfl rfl (by decide)), (nd_ne ND (i := 18) (j := 35) rfl rfl (by decide))⟩) p_firstToken
    have e_starred := r0 starred_ _ (by simp only [List.mem_cons, List.not_mem_nil, or_false, not_or]; exact ⟨(nd_ne ND (i := 19) (j := 0) rfl rfl (by decide)), (nd_ne ND (i := 19) (j := 30) rfl rfl (by decide)), (nd_ne ND (i := 19) (j := 31) rfl rfl (by decide)), (nd_ne ND (i := 19) (j := 32) rfl rfl (by decide)), (nd_ne ND (i := 19) (j := 33) rfl rfl (by decide)), (nd_ne ND (i := 19) (j := 34) rfl rfl (by decide)), (nd_ne ND (i := 19) (j := 35) rfl rfl (by decide))⟩) p_starred
    have e_groupKind := r0 groupKind_ _ (by simp only [List.mem_cons, List.not_mem_nil, or_false, not_or]; exact ⟨(nd_ne ND (i := 22) (j := 0) rfl rfl (by decide)), (nd_ne ND (i := 22) (j := 30) rfl rfl (by decide)), (nd_ne ND (i := 22) (j := 31) rfl rfl (by decide)), (nd_ne ND (i := 22) (j := 32) rfl rfl (by decide)), (nd_ne ND (i := 22) (j := 33) rfl rfl (by decide)), (nd_ne ND (i := 22) (j := 34) rfl rfl (by decide)), (nd_ne ND (i := 22) (j := 35) rfl rfl (by decide))⟩) p_groupKind
    have e_groupPhrase := r0 groupPhrase_ _ (by simp only [List.mem_cons, List.not_mem_nil, or_false, not_or]; exact ⟨(nd_ne ND (i := 23) (j := 0) rfl rfl (by decide)), (nd_ne ND (i := 23) (j := 30) rfl rfl (by decide)), (nd_ne ND (i := 23) (j := 31) rfl rfl (by decide)), (nd_ne ND (i := 23) (j := 32) rfl rfl (by decide)), (nd_ne ND (i := 23) (j := 33) rfl rfl (by decide)), (nd_ne ND (i := 23) (j := 34) rfl rfl (by decide)), (nd_ne ND (i := 23) (j := 35) rfl rfl (by decide))⟩) p_groupPhrase
    have e_groupSize := r0 groupSize_ _ (by simp only [List.mem_cons, List.not_mem_nil, or_false, not_or]; exact ⟨(nd_ne ND (i := 24) (j := 0) rfl rfl (by decide)), (nd_ne ND (i := 24) (j := 30) rfl rfl (by decide)), (nd_ne ND (i := 24) (j := 31) rfl rfl (by decide)), (nd_ne ND (i := 24) (j := 32) rfl rfl (by decide)), (nd_ne ND (i := 24) (j := 33) rfl rfl (by decide)), (nd_ne ND (i := 24) (j := 34) rfl rfl (by decide)), (nd_ne ND (i := 24) (j := 35) rfl rfl (by decide))⟩) p_groupSize
    have e_groupFar := r0 groupFar_ _ (by simp only [List.mem_cons, List.not_mem_nil, or_false, not_or]; exact ⟨(nd_ne ND (i := 26) (j := 0) rfl rfl (by decide)), (nd_ne ND (i := 26) (j := 30) rfl rfl (by decide)), (nd_ne ND (i := 26) (j := 31) rfl rfl (by decide)), (nd_ne ND (i := 26) (j := 32) rfl rfl (by decide)), (nd_ne ND (i := 26) (j := 33) rfl rfl (by decide)), (nd_ne ND (i := 26) (j := 34) rfl rfl (by decide)), (nd_ne ND (i := 26) (j := 35) rfl rfl (by decide))⟩) p_groupFar
    have e_groupMask := r0 groupMask_ _ (by simp only [List.mem_cons, List.not_mem_nil, or_false, not_or]; exact ⟨(nd_ne ND (i := 25) (j := 0) rfl rfl (by decide)), (nd_ne ND (i := 25) (j := 30) rfl rfl (by decide)), (nd_ne ND (i := 25) (j := 31) rfl rfl (by decide)), (nd_ne ND (i := 25) (j := 32) rfl rfl (by decide)), (nd_ne ND (i := 25) (j := 33) rfl rfl (by decide)), (nd_ne ND (i := 25) (j := 34) rfl rfl (by decide)), (nd_ne ND (i := 25) (j := 35) rfl rfl (by decide))⟩) p_groupMask
    have e_sizes := r0 sizes_ _ (by simp only [List.mem_cons, List.not_mem_nil, or_false, not_or]; exact ⟨(nd_ne ND (i := 6) (j := 0) rfl rfl (by decide)), (nd_ne ND (i := 6) (j := 30) rfl rfl (by decide)), (nd_ne ND (i := 6) (j := 31) rfl rfl (by decide)), (nd_ne ND (i := 6) (j := 32) rfl rfl (by decide)), (nd_ne ND (i := 6) (j := 33) rfl rfl (by decide)), (nd_ne ND (i := 6) (j := 34) rfl rfl (by decide)), (nd_ne ND (i := 6) (j := 35) rfl rfl (by decide))⟩) p_sizes
    have e_out := r0 out_ _ (by simp only [List.mem_cons, List.not_mem_nil, or_false, not_or]; exact ⟨(nd_ne ND (i := 27) (j := 0) rfl rfl (by decide)), (nd_ne ND (i := 27) (j := 30) rfl rfl (by decide)), (nd_ne ND (i := 27) (j := 31) rfl rfl (by decide)), (nd_ne ND (i := 27) (j := 32) rfl rfl (by decide)), (nd_ne ND (i := 27) (j := 33) rfl rfl (by decide)), (nd_ne ND (i := 27) (j := 34) rfl rfl (by decide)), (nd_ne ND (i := 27) (j := 35) rfl rfl (by decide))⟩) p_out
    have e_live := r0 live_ _ (by simp only [List.mem_cons, List.not_mem_nil, or_false, not_or]; exact ⟨(nd_ne ND (i := 10) (j := 0) rfl rfl (by decide)), (nd_ne ND (i := 10) (j := 30) rfl rfl (by decide)), (nd_ne ND (i := 10) (j := 31) rfl rfl (by decide)), (nd_ne ND (i := 10) (j := 32) rfl rfl (by decide)), (nd_ne ND (i := 10) (j := 33) rfl rfl (by decide)), (nd_ne ND (i := 10) (j := 34) rfl rfl (by decide)), (nd_ne ND (i := 10) (j := 35) rfl rfl (by decide))⟩) p_live
    have e_weights := r0 weights_ _ (by simp only [List.mem_cons, List.not_mem_nil, or_false, not_or]; exact ⟨(nd_ne ND (i := 7) (j := 0) rfl rfl (by decide)), (nd_ne ND (i := 7) (j := 30) rfl rfl (by decide)), (nd_ne ND (i := 7) (j := 31) rfl rfl (by decide)), (nd_ne ND (i := 7) (j := 32) rfl rfl (by decide)), (nd_ne ND (i := 7) (j := 33) rfl rfl (by decide)), (nd_ne ND (i := 7) (j := 34) rfl rfl (by decide)), (nd_ne ND (i := 7) (j := 35) rfl rfl (by decide))⟩) p_weights
    refine s_Model_ask_95 (fun z => absurd z (nI_ge (b := 24) (show i < 24 by omega) (by decide))) (fun z_1 => ?_)
    refine s_Model_ask_101 l e g_live e_live (vp_in_nI (by omega) (by omega)) (fun z_2 => ?_) (fun z_3 => ?_)
    · skip
      refine s_Model_ask_219 ?_
      rw [nI_1]
      exact ih (i + 1) _ fn _ _ _ _ _ _ _ _ (by omega) l e g_column g_found ga0 e_begins e_lasts e_truth e_answers e_order e_scores (by omega) hord r0
    · skip
      refine s_Model_ask_110 ?_
      have hlv : ¬ fv i < 0 := by rw [nI_clamp (show i < 2 ^ 31 by omega)] at z_3; exact z_3
      refine x_callV (As := [.int (nI i)]) (b := m) (rest := []) (F1 := 8) (L1 := 184) (mc := 0) (ms := 0) d_Model_ask_112 cV_Model_363 (f_finds l e g_outs g_column g_begins e_begins g_lasts e_lasts g_tokenAt e_tokenAt g_tokenSize e_tokenSize g_texts e_texts g_asked e_asked g_firstToken e_firstToken g_starred e_starred g_groupKind e_groupKind g_groupPhrase e_groupPhrase g_groupSize e_groupSize g_groupFar e_groupFar g_groupMask e_groupMask g_sizes e_sizes g_out e_out g_truth e_truth ND hP PH ht TK GR hg0 (show i < 24 by omega) hz ho hO hC (by omega) (by omega)) e ⟨by decide, rfl⟩ ⟨by omega, by show 8 + (6 + 11) + 184 ≤ _; omega⟩ ⟨by omega, by omega⟩ (Nat.le_of_ble_eq_true rfl) (fun v_20 h_19 p_21 => ?_)
      obtain ⟨⟨y_4, rfl, hy_5⟩, c13_6, cl_7, fb_8, fl_9, fs_10, l_11, e_12, g_13, ga_14, eb_15, el_16, et_17, r_18⟩ := p_21
      have e_22 := r_18 tokenAt_ _ (by simp only [List.mem_cons, List.not_mem_nil, or_false, not_or]; exact ⟨(Ne.symm (nd_ne ND (i := 0) (j := 20) rfl rfl (by decide))), (Ne.symm (nd_ne ND (i := 30) (j := 20) rfl rfl (by decide))), (Ne.symm (nd_ne ND (i := 31) (j := 20) rfl rfl (by decide))), (nd_ne ND (i := 20) (j := 32) rfl rfl (by decide))⟩) e_tokenAt
      have e_23 := r_18 tokenSize_ _ (by simp only [List.mem_cons, List.not_mem_nil, or_false, not_or]; exact ⟨(Ne.symm (nd_ne ND (i := 0) (j := 21) rfl rfl (by decide))), (Ne.symm (nd_ne ND (i := 30) (j := 21) rfl rfl (by decide))), (Ne.symm (nd_ne ND (i := 31) (j := 21) rfl rfl (by decide))), (nd_ne ND (i := 21) (j := 32) rfl rfl (by decide))⟩) e_tokenSize
      have e_24 := r_18 texts_ _ (by simp only [List.mem_cons, List.not_mem_nil, or_false, not_or]; exact ⟨(Ne.symm (nd_ne ND (i := 0) (j := 5) rfl rfl (by decide))), (Ne.symm (nd_ne ND (i := 30) (j := 5) rfl rfl (by decide))), (Ne.symm (nd_ne ND (i := 31) (j := 5) rfl rfl (by decide))), (nd_ne ND (i := 5) (j := 32) rfl rfl (by decide))⟩) e_texts
      have e_25 := r_18 asked_ _ (by simp only [List.mem_cons, List.not_mem_nil, or_false, not_or]; exact ⟨(Ne.symm (nd_ne ND (i := 0) (j := 2) rfl rfl (by decide))), (Ne.symm (nd_ne ND (i := 30) (j := 2) rfl rfl (by decide))), (Ne.symm (nd_ne ND (i := 31) (j := 2) rfl rfl (by decide))), (nd_ne ND (i := 2) (j := 32) rfl rfl (by decide))⟩) e_asked
      have e_26 := r_18 firstToken_ _ (by simp only [List.mem_cons, List.not_mem_nil, or_false, not_or]; exact ⟨(Ne.symm (nd_ne ND (i := 0) (j := 18) rfl rfl (by decide))), (Ne.symm (nd_ne ND (i := 30) (j := 18) rfl rfl (by decide))), (Ne.symm (nd_ne ND (i := 31) (j := 18) rfl rfl (by decide))), (nd_ne ND (i := 18) (j := 32) rfl rfl (by decide))⟩) e_firstToken
      have e_27 := r_18 starred_ _ (by simp only [List.mem_cons, List.not_mem_nil, or_false, not_or]; exact ⟨(Ne.symm (nd_ne ND (i := 0) (j := 19) rfl rfl (by decide))), (Ne.symm (nd_ne ND (i := 30) (j := 19) rfl rfl (by decide))), (Ne.symm (nd_ne ND (i := 31) (j := 19) rfl rfl (by decide))), (nd_ne ND (i := 19) (j := 32) rfl rfl (by decide))⟩) e_starred
      have e_28 := r_18 groupKind_ _ (by simp only [List.mem_cons, List.not_mem_nil, or_false, not_or]; exact ⟨(Ne.symm (nd_ne ND (i := 0) (j := 22) rfl rfl (by decide))), (Ne.symm (nd_ne ND (i := 30) (j := 22) rfl rfl (by decide))), (Ne.symm (nd_ne ND (i := 31) (j := 22) rfl rfl (by decide))), (nd_ne ND (i := 22) (j := 32) rfl rfl (by decide))⟩) e_groupKind
      have e_29 := r_18 groupPhrase_ _ (by simp only [List.mem_cons, List.not_mem_nil, or_false, not_or]; exact ⟨(Ne.symm (nd_ne ND (i := 0) (j := 23) rfl rfl (by decide))), (Ne.symm (nd_ne ND (i := 30) (j := 23) rfl rfl (by decide))), (Ne.symm (nd_ne ND (i := 31) (j := 23) rfl rfl (by decide))), (nd_ne ND (i := 23) (j := 32) rfl rfl (by decide))⟩) e_groupPhrase
      have e_30 := r_18 groupSize_ _ (by simp only [List.mem_cons, List.not_mem_nil, or_false, not_or]; exact ⟨(Ne.symm (nd_ne ND (i := 0) (j := 24) rfl rfl (by decide))), (Ne.symm (nd_ne ND (i := 30) (j := 24) rfl rfl (by decide))), (Ne.symm (nd_ne ND (i := 31) (j := 24) rfl rfl (by decide))), (nd_ne ND (i := 24) (j := 32) rfl rfl (by decide))⟩) e_groupSize
      have e_31 := r_18 groupFar_ _ (by simp only [List.mem_cons, List.not_mem_nil, or_false, not_or]; exact ⟨(Ne.symm (nd_ne ND (i := 0) (j := 26) rfl rfl (by decide))), (Ne.symm (nd_ne ND (i := 30) (j := 26) rfl rfl (by decide))), (Ne.symm (nd_ne ND (i := 31) (j := 26) rfl rfl (by decide))), (nd_ne ND (i := 26) (j := 32) rfl rfl (by decide))⟩) e_groupFar
      have e_32 := r_18 groupMask_ _ (by simp only [List.mem_cons, List.not_mem_nil, or_false, not_or]; exact ⟨(Ne.symm (nd_ne ND (i := 0) (j := 25) rfl rfl (by decide))), (Ne.symm (nd_ne ND (i := 30) (j := 25) rfl rfl (by decide))), (Ne.symm (nd_ne ND (i := 31) (j := 25) rfl rfl (by decide))), (nd_ne ND (i := 25) (j := 32) rfl rfl (by decide))⟩) e_groupMask
      have e_33 := r_18 sizes_ _ (by simp only [List.mem_cons, List.not_mem_nil, or_false, not_or]; exact ⟨(Ne.symm (nd_ne ND (i := 0) (j := 6) rfl rfl (by decide))), (Ne.symm (nd_ne ND (i := 30) (j := 6) rfl rfl (by decide))), (Ne.symm (nd_ne ND (i := 31) (j := 6) rfl rfl (by decide))), (nd_ne ND (i := 6) (j := 32) rfl rfl (by decide))⟩) e_sizes
      have e_34 := r_18 out_ _ (by simp only [List.mem_cons, List.not_mem_nil, or_false, not_or]; exact ⟨(Ne.symm (nd_ne ND (i := 0) (j := 27) rfl rfl (by decide))), (Ne.symm (nd_ne ND (i := 30) (j := 27) rfl rfl (by decide))), (Ne.symm (nd_ne ND (i := 31) (j := 27) rfl rfl (by decide))), (nd_ne ND (i := 27) (j := 32) rfl rfl (by decide))⟩) e_out
      have e_35 := r_18 live_ _ (by simp only [List.mem_cons, List.not_mem_nil, or_false, not_or]; exact ⟨(Ne.symm (nd_ne ND (i := 0) (j := 10) rfl rfl (by decide))), (Ne.symm (nd_ne ND (i := 30) (j := 10) rfl rfl (by decide))), (Ne.symm (nd_ne ND (i := 31) (j := 10) rfl rfl (by decide))), (Ne.symm (nd_ne ND (i := 32) (j := 10) rfl rfl (by decide)))⟩) e_live
      have e_36 := r_18 weights_ _ (by simp only [List.mem_cons, List.not_mem_nil, or_false, not_or]; exact ⟨(Ne.symm (nd_ne ND (i := 0) (j := 7) rfl rfl (by decide))), (Ne.symm (nd_ne ND (i := 30) (j := 7) rfl rfl (by decide))), (Ne.symm (nd_ne ND (i := 31) (j := 7) rfl rfl (by decide))), (Ne.symm (nd_ne ND (i := 32) (j := 7) rfl rfl (by decide)))⟩) e_weights
      have e_37 := r_18 answers_ _ (by simp only [List.mem_cons, List.not_mem_nil, or_false, not_or]; exact ⟨(Ne.symm (nd_ne ND (i := 0) (j := 33) rfl rfl (by decide))), (Ne.symm (nd_ne ND (i := 30) (j := 33) rfl rfl (by decide))), (Ne.symm (nd_ne ND (i := 31) (j := 33) rfl rfl (by decide))), (Ne.symm (nd_ne ND (i := 32) (j := 33) rfl rfl (by decide)))⟩) e_answers
      have e_38 := r_18 order_ _ (by simp only [List.mem_cons, List.not_mem_nil, or_false, not_or]; exact ⟨(Ne.symm (nd_ne ND (i := 0) (j := 34) rfl rfl (by decide))), (Ne.symm (nd_ne ND (i := 30) (j := 34) rfl rfl (by decide))), (Ne.symm (nd_ne ND (i := 31) (j := 34) rfl rfl (by decide))), (Ne.symm (nd_ne ND (i := 32) (j := 34) rfl rfl (by decide)))⟩) e_order
      have e_39 := r_18 scores_ _ (by simp only [List.mem_cons, List.not_mem_nil, or_false, not_or]; exact ⟨(Ne.symm (nd_ne ND (i := 0) (j := 35) rfl rfl (by decide))), (Ne.symm (nd_ne ND (i := 30) (j := 35) rfl rfl (by decide))), (Ne.symm (nd_ne ND (i := 31) (j := 35) rfl rfl (by decide))), (Ne.symm (nd_ne ND (i := 32) (j := 35) rfl rfl (by decide)))⟩) e_scores
      have r_40 := r0.trans (r_18.mono (by simp))
      have g_41 : fs_10[(37 : Nat)]? = some (.int (nI o)) := (ga_14 37 (by decide)).trans g_outs
      have g_42 : fs_10[(34 : Nat)]? = some (.int (nI P)) := (ga_14 34 (by decide)).trans g_phrases
      have g_43 : fs_10[(56 : Nat)]? = some (.int (nI fn)) := (ga_14 56 (by decide)).trans g_found
      have g_44 : fs_10[(53 : Nat)]? = some (.ref begins_) := (ga_14 53 (by decide)).trans g_begins
      have g_45 : fs_10[(54 : Nat)]? = some (.ref lasts_) := (ga_14 54 (by decide)).trans g_lasts
      have g_46 : fs_10[(43 : Nat)]? = some (.ref tokenAt_) := (ga_14 43 (by decide)).trans g_tokenAt
      have g_47 : fs_10[(44 : Nat)]? = some (.ref tokenSize_) := (ga_14 44 (by decide)).trans g_tokenSize
      have g_48 : fs_10[(7 : Nat)]? = some (.ref texts_) := (ga_14 7 (by decide)).trans g_texts
      have g_49 : fs_10[(4 : Nat)]? = some (.ref asked_) := (ga_14 4 (by decide)).trans g_asked
      have g_50 : fs_10[(41 : Nat)]? = some (.ref firstToken_) := (ga_14 41 (by decide)).trans g_firstToken
      have g_51 : fs_10[(42 : Nat)]? = some (.ref starred_) := (ga_14 42 (by decide)).trans g_starred
      have g_52 : fs_10[(45 : Nat)]? = some (.ref groupKind_) := (ga_14 45 (by decide)).trans g_groupKind
      have g_53 : fs_10[(46 : Nat)]? = some (.ref groupPhrase_) := (ga_14 46 (by decide)).trans g_groupPhrase
      have g_54 : fs_10[(47 : Nat)]? = some (.ref groupSize_) := (ga_14 47 (by decide)).trans g_groupSize
      have g_55 : fs_10[(49 : Nat)]? = some (.ref groupFar_) := (ga_14 49 (by decide)).trans g_groupFar
      have g_56 : fs_10[(48 : Nat)]? = some (.ref groupMask_) := (ga_14 48 (by decide)).trans g_groupMask
      have g_57 : fs_10[(8 : Nat)]? = some (.ref sizes_) := (ga_14 8 (by decide)).trans g_sizes
      have g_58 : fs_10[(50 : Nat)]? = some (.ref out_) := (ga_14 50 (by decide)).trans g_out
      have g_59 : fs_10[(57 : Nat)]? = some (.ref truth_) := (ga_14 57 (by decide)).trans g_truth
      have g_60 : fs_10[(14 : Nat)]? = some (.ref live_) := (ga_14 14 (by decide)).trans g_live
      have g_61 : fs_10[(9 : Nat)]? = some (.ref weights_) := (ga_14 9 (by decide)).trans g_weights
      have g_62 : fs_10[(58 : Nat)]? = some (.ref answers_) := (ga_14 58 (by decide)).trans g_answers
      have g_63 : fs_10[(59 : Nat)]? = some (.ref order_) := (ga_14 59 (by decide)).trans g_order
      have g_64 : fs_10[(60 : Nat)]? = some (.ref scores_) := (ga_14 60 (by decide)).trans g_scores
      have ga_65 : ∀ i : Nat, i ∉ [55, 56] → fs_10[i]? = gs[i]? := fun i hi => (ga_14 i (fun z => hi (by simp only [List.mem_cons, List.not_mem_nil, or_false] at z ⊢; omega))).trans (ga0 i hi)
      refine s_Model_ask_115 (fun z_66 => ?_) (fun z_67 => ?_)
      · skip
        refine s_Model_ask_219 ?_
        rw [nI_1]
        exact ih (i + 1) _ fn _ _ _ _ _ _ _ _ (by omega) l_11 e_12 g_13 g_43 ga_65 eb_15 el_16 et_17 e_37 e_38 e_39 (by omega) hord r_40
      · skip
        refine s_Model_ask_118 (scores_a0 := some scores_) l_11 e_12 g_62 g_43 e_37 (vp_in_nI (by omega) (by omega)) g_64 ?_
        refine x_u1 (fun h_68 e_69 f_70 => ?_)
        have e_71 := (f_70 m (nd_ne ND (i := 0) (j := 33) rfl rfl (by decide))).trans e_12
        have e_72 := (f_70 begins_ (nd_ne ND (i := 30) (j := 33) rfl rfl (by decide))).trans eb_15
        have e_73 := (f_70 lasts_ (nd_ne ND (i := 31) (j := 33) rfl rfl (by decide))).trans el_16
        have e_74 := (f_70 tokenAt_ (nd_ne ND (i := 20) (j := 33) rfl rfl (by decide))).trans e_22
        have e_75 := (f_70 tokenSize_ (nd_ne ND (i := 21) (j := 33) rfl rfl (by decide))).trans e_23
        have e_76 := (f_70 texts_ (nd_ne ND (i := 5) (j := 33) rfl rfl (by decide))).trans e_24
        have e_77 := (f_70 asked_ (nd_ne ND (i := 2) (j := 33) rfl rfl (by decide))).trans e_25
        have e_78 := (f_70 firstToken_ (nd_ne ND (i := 18) (j := 33) rfl rfl (by decide))).trans e_26
        have e_79 := (f_70 starred_ (nd_ne ND (i := 19) (j := 33) rfl rfl (by decide))).trans e_27
        have e_80 := (f_70 groupKind_ (nd_ne ND (i := 22) (j := 33) rfl rfl (by decide))).trans e_28
        have e_81 := (f_70 groupPhrase_ (nd_ne ND (i := 23) (j := 33) rfl rfl (by decide))).trans e_29
        have e_82 := (f_70 groupSize_ (nd_ne ND (i := 24) (j := 33) rfl rfl (by decide))).trans e_30
        have e_83 := (f_70 groupFar_ (nd_ne ND (i := 26) (j := 33) rfl rfl (by decide))).trans e_31
        have e_84 := (f_70 groupMask_ (nd_ne ND (i := 25) (j := 33) rfl rfl (by decide))).trans e_32
        have e_85 := (f_70 sizes_ (nd_ne ND (i := 6) (j := 33) rfl rfl (by decide))).trans e_33
        have e_86 := (f_70 out_ (nd_ne ND (i := 27) (j := 33) rfl rfl (by decide))).trans e_34
        have e_87 := (f_70 truth_ (nd_ne ND (i := 32) (j := 33) rfl rfl (by decide))).trans et_17
        have e_88 := (f_70 live_ (nd_ne ND (i := 10) (j := 33) rfl rfl (by decide))).trans e_35
        have e_89 := (f_70 weights_ (nd_ne ND (i := 7) (j := 33) rfl rfl (by decide))).trans e_36
        have e_90 := (f_70 order_ (Ne.symm (nd_ne ND (i := 33) (j := 34) rfl rfl (by decide)))).trans e_38
        have e_91 := (f_70 scores_ (Ne.symm (nd_ne ND (i := 33) (j := 35) rfl rfl (by decide)))).trans e_39
        have r_92 := r_40.up (by simp) f_70
        refine x_callV (As := [.int (nI i)]) (b := m) (rest := [.int (nI fn), .ref scores_]) (F1 := 6) (L1 := 137) (mc := 0) (ms := 0) d_Model_ask_140 cV_Model_366 (f_scoreOf hP PH ht TK l_11 e_71 g_13 g_42 g_44 e_72 g_45 e_73 g_46 e_74 g_47 e_75 g_48 e_76 g_49 e_77 g_50 e_78 g_51 e_79 g_57 e_85 g_60 e_88 g_61 e_89 ND (show i < 24 by omega) hz hlv hwe (by omega) (by omega)) e_71 ⟨by decide, rfl⟩ ⟨by omega, by show 8 + (16 + 11) + 137 ≤ _; omega⟩ ⟨by omega, by omega⟩ (Nat.le_of_ble_eq_true rfl) (fun v_106 h_105 p_107 => ?_)
        obtain ⟨⟨y_93, rfl⟩, cl_94, fb_95, fl_96, fs_97, l_98, e_99, g_100, ga_101, eb_102, el_103, r_104⟩ := p_107
        have e_108 := r_104 tokenAt_ _ (by simp only [List.mem_cons, List.not_mem_nil, or_false, not_or]; exact ⟨(Ne.symm (nd_ne ND (i := 0) (j := 20) rfl rfl (by decide))), (Ne.symm (nd_ne ND (i := 30) (j := 20) rfl rfl (by decide))), (Ne.symm (nd_ne ND (i := 31) (j := 20) rfl rfl (by decide)))⟩) e_74
        have e_109 := r_104 tokenSize_ _ (by simp only [List.mem_cons, List.not_mem_nil, or_false, not_or]; exact ⟨(Ne.symm (nd_ne ND (i := 0) (j := 21) rfl rfl (by decide))), (Ne.symm (nd_ne ND (i := 30) (j := 21) rfl rfl (by decide))), (Ne.symm (nd_ne ND (i := 31) (j := 21) rfl rfl (by decide)))⟩) e_75
        have e_110 := r_104 texts_ _ (by simp only [List.mem_cons, List.not_mem_nil, or_false, not_or]; exact ⟨(Ne.symm (nd_ne ND (i := 0) (j := 5) rfl rfl (by decide))), (Ne.symm (nd_ne ND (i := 30) (j := 5) rfl rfl (by decide))), (Ne.symm (nd_ne ND (i := 31) (j := 5) rfl rfl (by decide)))⟩) e_76
        have e_111 := r_104 asked_ _ (by simp only [List.mem_cons, List.not_mem_nil, or_false, not_or]; exact ⟨(Ne.symm (nd_ne ND (i := 0) (j := 2) rfl rfl (by decide))), (Ne.symm (nd_ne ND (i := 30) (j := 2) rfl rfl (by decide))), (Ne.symm (nd_ne ND (i := 31) (j := 2) rfl rfl (by decide)))⟩) e_77
        have e_112 := r_104 firstToken_ _ (by simp only [List.mem_cons, List.not_mem_nil, or_false, not_or]; exact ⟨(Ne.symm (nd_ne ND (i := 0) (j := 18) rfl rfl (by decide))), (Ne.symm (nd_ne ND (i := 30) (j := 18) rfl rfl (by decide))), (Ne.symm (nd_ne ND (i := 31) (j := 18) rfl rfl (by decide)))⟩) e_78
        have e_113 := r_104 starred_ _ (by simp only [List.mem_cons, List.not_mem_nil, or_false, not_or]; exact ⟨(Ne.symm (nd_ne ND (i := 0) (j := 19) rfl rfl (by decide))), (Ne.symm (nd_ne ND (i := 30) (j := 19) rfl rfl (by decide))), (Ne.symm (nd_ne ND (i := 31) (j := 19) rfl rfl (by decide)))⟩) e_79
        have e_114 := r_104 groupKind_ _ (by simp only [List.mem_cons, List.not_mem_nil, or_false, not_or]; exact ⟨(Ne.symm (nd_ne ND (i := 0) (j := 22) rfl rfl (by decide))), (Ne.symm (nd_ne ND (i := 30) (j := 22) rfl rfl (by decide))), (Ne.symm (nd_ne ND (i := 31) (j := 22) rfl rfl (by decide)))⟩) e_80
        have e_115 := r_104 groupPhrase_ _ (by simp only [List.mem_cons, List.not_mem_nil, or_false, not_or]; exact ⟨(Ne.symm (nd_ne ND (i := 0) (j := 23) rfl rfl (by decide))), (Ne.symm (nd_ne ND (i := 30) (j := 23) rfl rfl (by decide))), (Ne.symm (nd_ne ND (i := 31) (j := 23) rfl rfl (by decide)))⟩) e_81
        have e_116 := r_104 groupSize_ _ (by simp only [List.mem_cons, List.not_mem_nil, or_false, not_or]; exact ⟨(Ne.symm (nd_ne ND (i := 0) (j := 24) rfl rfl (by decide))), (Ne.symm (nd_ne ND (i := 30) (j := 24) rfl rfl (by decide))), (Ne.symm (nd_ne ND (i := 31) (j := 24) rfl rfl (by decide)))⟩) e_82
        have e_117 := r_104 groupFar_ _ (by simp only [List.mem_cons, List.not_mem_nil, or_false, not_or]; exact ⟨(Ne.symm (nd_ne ND (i := 0) (j := 26) rfl rfl (by decide))), (Ne.symm (nd_ne ND (i := 30) (j := 26) rfl rfl (by decide))), (Ne.symm (nd_ne ND (i := 31) (j := 26) rfl rfl (by decide)))⟩) e_83
        have e_118 := r_104 groupMask_ _ (by simp only [List.mem_cons, List.not_mem_nil, or_false, not_or]; exact ⟨(Ne.symm (nd_ne ND (i := 0) (j := 25) rfl rfl (by decide))), (Ne.symm (nd_ne ND (i := 30) (j := 25) rfl rfl (by decide))), (Ne.symm (nd_ne ND (i := 31) (j := 25) rfl rfl (by decide)))⟩) e_84
        have e_119 := r_104 sizes_ _ (by simp only [List.mem_cons, List.not_mem_nil, or_false, not_or]; exact ⟨(Ne.symm (nd_ne ND (i := 0) (j := 6) rfl rfl (by decide))), (Ne.symm (nd_ne ND (i := 30) (j := 6) rfl rfl (by decide))), (Ne.symm (nd_ne ND (i := 31) (j := 6) rfl rfl (by decide)))⟩) e_85
        have e_120 := r_104 out_ _ (by simp only [List.mem_cons, List.not_mem_nil, or_false, not_or]; exact ⟨(Ne.symm (nd_ne ND (i := 0) (j := 27) rfl rfl (by decide))), (Ne.symm (nd_ne ND (i := 30) (j := 27) rfl rfl (by decide))), (Ne.symm (nd_ne ND (i := 31) (j := 27) rfl rfl (by decide)))⟩) e_86
        have e_121 := r_104 truth_ _ (by simp only [List.mem_cons, List.not_mem_nil, or_false, not_or]; exact ⟨(Ne.symm (nd_ne ND (i := 0) (j := 32) rfl rfl (by decide))), (Ne.symm (nd_ne ND (i := 30) (j := 32) rfl rfl (by decide))), (Ne.symm (nd_ne ND (i := 31) (j := 32) rfl rfl (by decide)))⟩) e_87
        have e_122 := r_104 live_ _ (by simp only [List.mem_cons, List.not_mem_nil, or_false, not_or]; exact ⟨(Ne.symm (nd_ne ND (i := 0) (j := 10) rfl rfl (by decide))), (Ne.symm (nd_ne ND (i := 30) (j := 10) rfl rfl (by decide))), (Ne.symm (nd_ne ND (i := 31) (j := 10) rfl rfl (by decide)))⟩) e_88
        have e_123 := r_104 weights_ _ (by simp only [List.mem_cons, List.not_mem_nil, or_false, not_or]; exact ⟨(Ne.symm (nd_ne ND (i := 0) (j := 7) rfl rfl (by decide))), (Ne.symm (nd_ne ND (i := 30) (j := 7) rfl rfl (by decide))), (Ne.symm (nd_ne ND (i := 31) (j := 7) rfl rfl (by decide)))⟩) e_89
        have e_124 := r_104 answers_ _ (by simp only [List.mem_cons, List.not_mem_nil, or_false, not_or]; exact ⟨(Ne.symm (nd_ne ND (i := 0) (j := 33) rfl rfl (by decide))), (Ne.symm (nd_ne ND (i := 30) (j := 33) rfl rfl (by decide))), (Ne.symm (nd_ne ND (i := 31) (j := 33) rfl rfl (by decide)))⟩) e_69
        have e_125 := r_104 order_ _ (by simp only [List.mem_cons, List.not_mem_nil, or_false, not_or]; exact ⟨(Ne.symm (nd_ne ND (i := 0) (j := 34) rfl rfl (by decide))), (Ne.symm (nd_ne ND (i := 30) (j := 34) rfl rfl (by decide))), (Ne.symm (nd_ne ND (i := 31) (j := 34) rfl rfl (by decide)))⟩) e_90
        have e_126 := r_104 scores_ _ (by simp only [List.mem_cons, List.not_mem_nil, or_false, not_or]; exact ⟨(Ne.symm (nd_ne ND (i := 0) (j := 35) rfl rfl (by decide))), (Ne.symm (nd_ne ND (i := 30) (j := 35) rfl rfl (by decide))), (Ne.symm (nd_ne ND (i := 31) (j := 35) rfl rfl (by decide)))⟩) e_91
        have r_127 := r_92.trans (r_104.mono (by simp))
        have g_128 : fs_97[(37 : Nat)]? = some (.int (nI o)) := (ga_101 37 (by decide)).trans g_41
        have g_129 : fs_97[(34 : Nat)]? = some (.int (nI P)) := (ga_101 34 (by decide)).trans g_42
        have g_130 : fs_97[(56 : Nat)]? = some (.int (nI fn)) := (ga_101 56 (by decide)).trans g_43
        have g_131 : fs_97[(53 : Nat)]? = some (.ref begins_) := (ga_101 53 (by decide)).trans g_44
        have g_132 : fs_97[(54 : Nat)]? = some (.ref lasts_) := (ga_101 54 (by decide)).trans g_45
        have g_133 : fs_97[(43 : Nat)]? = some (.ref tokenAt_) := (ga_101 43 (by decide)).trans g_46
        have g_134 : fs_97[(44 : Nat)]? = some (.ref tokenSize_) := (ga_101 44 (by decide)).trans g_47
        have g_135 : fs_97[(7 : Nat)]? = some (.ref texts_) := (ga_101 7 (by decide)).trans g_48
        have g_136 : fs_97[(4 : Nat)]? = some (.ref asked_) := (ga_101 4 (by decide)).trans g_49
        have g_137 : fs_97[(41 : Nat)]? = some (.ref firstToken_) := (ga_101 41 (by decide)).trans g_50
        have g_138 : fs_97[(42 : Nat)]? = some (.ref starred_) := (ga_101 42 (by decide)).trans g_51
        have g_139 : fs_97[(45 : Nat)]? = some (.ref groupKind_) := (ga_101 45 (by decide)).trans g_52
        have g_140 : fs_97[(46 : Nat)]? = some (.ref groupPhrase_) := (ga_101 46 (by decide)).trans g_53
        have g_141 : fs_97[(47 : Nat)]? = some (.ref groupSize_) := (ga_101 47 (by decide)).trans g_54
        have g_142 : fs_97[(49 : Nat)]? = some (.ref groupFar_) := (ga_101 49 (by decide)).trans g_55
        have g_143 : fs_97[(48 : Nat)]? = some (.ref groupMask_) := (ga_101 48 (by decide)).trans g_56
        have g_144 : fs_97[(8 : Nat)]? = some (.ref sizes_) := (ga_101 8 (by decide)).trans g_57
        have g_145 : fs_97[(50 : Nat)]? = some (.ref out_) := (ga_101 50 (by decide)).trans g_58
        have g_146 : fs_97[(57 : Nat)]? = some (.ref truth_) := (ga_101 57 (by decide)).trans g_59
        have g_147 : fs_97[(14 : Nat)]? = some (.ref live_) := (ga_101 14 (by decide)).trans g_60
        have g_148 : fs_97[(9 : Nat)]? = some (.ref weights_) := (ga_101 9 (by decide)).trans g_61
        have g_149 : fs_97[(58 : Nat)]? = some (.ref answers_) := (ga_101 58 (by decide)).trans g_62
        have g_150 : fs_97[(59 : Nat)]? = some (.ref order_) := (ga_101 59 (by decide)).trans g_63
        have g_151 : fs_97[(60 : Nat)]? = some (.ref scores_) := (ga_101 60 (by decide)).trans g_64
        have ga_152 : ∀ i : Nat, i ∉ [55, 56] → fs_97[i]? = gs[i]? := fun i hi => (ga_101 i (fun z => hi (by simp only [List.mem_cons, List.not_mem_nil, or_false] at z ⊢; omega))).trans (ga_65 i hi)
        refine s_Model_ask_143 e_126 (vp_in_nI (by omega) (by omega)) l_98 e_99 g_130 ?_
        refine x_u1 (fun h_153 e_154 f_155 => ?_)
        have e_156 := (f_155 m (nd_ne ND (i := 0) (j := 35) rfl rfl (by decide))).trans e_99
        have e_157 := (f_155 begins_ (nd_ne ND (i := 30) (j := 35) rfl rfl (by decide))).trans eb_102
        have e_158 := (f_155 lasts_ (nd_ne ND (i := 31) (j := 35) rfl rfl (by decide))).trans el_103
        have e_159 := (f_155 tokenAt_ (nd_ne ND (i := 20) (j := 35) rfl rfl (by decide))).trans e_108
        have e_160 := (f_155 tokenSize_ (nd_ne ND (i := 21) (j := 35) rfl rfl (by decide))).trans e_109
        have e_161 := (f_155 texts_ (nd_ne ND (i := 5) (j := 35) rfl rfl (by decide))).trans e_110
        have e_162 := (f_155 asked_ (nd_ne ND (i := 2) (j := 35) rfl rfl (by decide))).trans e_111
        have e_163 := (f_155 firstToken_ (nd_ne ND (i := 18) (j := 35) rfl rfl (by decide))).trans e_112
        have e_164 := (f_155 starred_ (nd_ne ND (i := 19) (j := 35) rfl rfl (by decide))).trans e_113
        have e_165 := (f_155 groupKind_ (nd_ne ND (i := 22) (j := 35) rfl rfl (by decide))).trans e_114
        have e_166 := (f_155 groupPhrase_ (nd_ne ND (i := 23) (j := 35) rfl rfl (by decide))).trans e_115
        have e_167 := (f_155 groupSize_ (nd_ne ND (i := 24) (j := 35) rfl rfl (by decide))).trans e_116
        have e_168 := (f_155 groupFar_ (nd_ne ND (i := 26) (j := 35) rfl rfl (by decide))).trans e_117
        have e_169 := (f_155 groupMask_ (nd_ne ND (i := 25) (j := 35) rfl rfl (by decide))).trans e_118
        have e_170 := (f_155 sizes_ (nd_ne ND (i := 6) (j := 35) rfl rfl (by decide))).trans e_119
        have e_171 := (f_155 out_ (nd_ne ND (i := 27) (j := 35) rfl rfl (by decide))).trans e_120
        have e_172 := (f_155 truth_ (nd_ne ND (i := 32) (j := 35) rfl rfl (by decide))).trans e_121
        have e_173 := (f_155 live_ (nd_ne ND (i := 10) (j := 35) rfl rfl (by decide))).trans e_122
        have e_174 := (f_155 weights_ (nd_ne ND (i := 7) (j := 35) rfl rfl (by decide))).trans e_123
        have e_175 := (f_155 answers_ (nd_ne ND (i := 33) (j := 35) rfl rfl (by decide))).trans e_124
        have e_176 := (f_155 order_ (nd_ne ND (i := 34) (j := 35) rfl rfl (by decide))).trans e_125
        have r_177 := r_127.up (by simp) f_155
        refine lp_so (gs := fs_97) (h0 := h_153) l_98 e_156 g_130 g_150 g_151 e_154 ⟨_, e_176⟩ (by omega) (fun h7 n7 fo7 eo7 hN7 hO7 r7 => ?_) fn _ _ e_176 (Nat.le_refl _) (fun j hj hne => hord j (by omega)) FrO.rf
        have e_178 := r7 m _ (by simp only [List.mem_cons, List.not_mem_nil, or_false, not_or]; exact (nd_ne ND (i := 0) (j := 34) rfl rfl (by decide))) e_156
        have e_179 := r7 begins_ _ (by simp only [List.mem_cons, List.not_mem_nil, or_false, not_or]; exact (nd_ne ND (i := 30) (j := 34) rfl rfl (by decide))) e_157
        have e_180 := r7 lasts_ _ (by simp only [List.mem_cons, List.not_mem_nil, or_false, not_or]; exact (nd_ne ND (i := 31) (j := 34) rfl rfl (by decide))) e_158
        have e_181 := r7 tokenAt_ _ (by simp only [List.mem_cons, List.not_mem_nil, or_false, not_or]; exact (nd_ne ND (i := 20) (j := 34) rfl rfl (by decide))) e_159
        have e_182 := r7 tokenSize_ _ (by simp only [List.mem_cons, List.not_mem_nil, or_false, not_or]; exact (nd_ne ND (i := 21) (j := 34) rfl rfl (by decide))) e_160
        have e_183 := r7 texts_ _ (by simp only [List.mem_cons, List.not_mem_nil, or_false, not_or]; exact (nd_ne ND (i := 5) (j := 34) rfl rfl (by decide))) e_161
        have e_184 := r7 asked_ _ (by simp only [List.mem_cons, List.not_mem_nil, or_false, not_or]; exact (nd_ne ND (i := 2) (j := 34) rfl rfl (by decide))) e_162
        have e_185 := r7 firstToken_ _ (by simp only [List.mem_cons, List.not_mem_nil, or_false, not_or]; exact (nd_ne ND (i := 18) (j := 34) rfl rfl (by decide))) e_163
        have e_186 := r7 starred_ _ (by simp only [List.mem_cons, List.not_mem_nil, or_false, not_or]; exact (nd_ne ND (i := 19) (j := 34) rfl rfl (by decide))) e_164
        have e_187 := r7 groupKind_ _ (by simp only [List.mem_cons, List.not_mem_nil, or_false, not_or]; exact (nd_ne ND (i := 22) (j := 34) rfl rfl (by decide))) e_165
        have e_188 := r7 groupPhrase_ _ (by simp only [List.mem_cons, List.not_mem_nil, or_false, not_or]; exact (nd_ne ND (i := 23) (j := 34) rfl rfl (by decide))) e_166
        have e_189 := r7 groupSize_ _ (by simp only [List.mem_cons, List.not_mem_nil, or_false, not_or]; exact (nd_ne ND (i := 24) (j := 34) rfl rfl (by decide))) e_167
        have e_190 := r7 groupFar_ _ (by simp only [List.mem_cons, List.not_mem_nil, or_false, not_or]; exact (nd_ne ND (i := 26) (j := 34) rfl rfl (by decide))) e_168
        have e_191 := r7 groupMask_ _ (by simp only [List.mem_cons, List.not_mem_nil, or_false, not_or]; exact (nd_ne ND (i := 25) (j := 34) rfl rfl (by decide))) e_169
        have e_192 := r7 sizes_ _ (by simp only [List.mem_cons, List.not_mem_nil, or_false, not_or]; exact (nd_ne ND (i := 6) (j := 34) rfl rfl (by decide))) e_170
        have e_193 := r7 out_ _ (by simp only [List.mem_cons, List.not_mem_nil, or_false, not_or]; exact (nd_ne ND (i := 27) (j := 34) rfl rfl (by decide))) e_171
        have e_194 := r7 truth_ _ (by simp only [List.mem_cons, List.not_mem_nil, or_false, not_or]; exact (nd_ne ND (i := 32) (j := 34) rfl rfl (by decide))) e_172
        have e_195 := r7 live_ _ (by simp only [List.mem_cons, List.not_mem_nil, or_false, not_or]; exact (nd_ne ND (i := 10) (j := 34) rfl rfl (by decide))) e_173
        have e_196 := r7 weights_ _ (by simp only [List.mem_cons, List.not_mem_nil, or_false, not_or]; exact (nd_ne ND (i := 7) (j := 34) rfl rfl (by decide))) e_174
        have e_197 := r7 answers_ _ (by simp only [List.mem_cons, List.not_mem_nil, or_false, not_or]; exact (nd_ne ND (i := 33) (j := 34) rfl rfl (by decide))) e_175
        have e_198 := r7 scores_ _ (by simp only [List.mem_cons, List.not_mem_nil, or_false, not_or]; exact (Ne.symm (nd_ne ND (i := 34) (j := 35) rfl rfl (by decide)))) e_154
        have r_199 := r_177.trans (r7.mono (by simp))
        refine s_Model_ask_199 l_98 e_178 g_150 g_130 eo7 (vp_in_nI (by omega) (by omega)) ?_
        refine x_u2 (fun h_200 e_201 f_202 h_203 e_204 f_205 => ?_)
        have e_206 := (f_202 m (nd_ne ND (i := 0) (j := 34) rfl rfl (by decide))).trans e_178
        have e_207 := (f_202 begins_ (nd_ne ND (i := 30) (j := 34) rfl rfl (by decide))).trans e_179
        have e_208 := (f_202 lasts_ (nd_ne ND (i := 31) (j := 34) rfl rfl (by decide))).trans e_180
        have e_209 := (f_202 tokenAt_ (nd_ne ND (i := 20) (j := 34) rfl rfl (by decide))).trans e_181
        have e_210 := (f_202 tokenSize_ (nd_ne ND (i := 21) (j := 34) rfl rfl (by decide))).trans e_182
        have e_211 := (f_202 texts_ (nd_ne ND (i := 5) (j := 34) rfl rfl (by decide))).trans e_183
        have e_212 := (f_202 asked_ (nd_ne ND (i := 2) (j := 34) rfl rfl (by decide))).trans e_184
        have e_213 := (f_202 firstToken_ (nd_ne ND (i := 18) (j := 34) rfl rfl (by decide))).trans e_185
        have e_214 := (f_202 starred_ (nd_ne ND (i := 19) (j := 34) rfl rfl (by decide))).trans e_186
        have e_215 := (f_202 groupKind_ (nd_ne ND (i := 22) (j := 34) rfl rfl (by decide))).trans e_187
        have e_216 := (f_202 groupPhrase_ (nd_ne ND (i := 23) (j := 34) rfl rfl (by decide))).trans e_188
        have e_217 := (f_202 groupSize_ (nd_ne ND (i := 24) (j := 34) rfl rfl (by decide))).trans e_189
        have e_218 := (f_202 groupFar_ (nd_ne ND (i := 26) (j := 34) rfl rfl (by decide))).trans e_190
        have e_219 := (f_202 groupMask_ (nd_ne ND (i := 25) (j := 34) rfl rfl (by decide))).trans e_191
        have e_220 := (f_202 sizes_ (nd_ne ND (i := 6) (j := 34) rfl rfl (by decide))).trans e_192
        have e_221 := (f_202 out_ (nd_ne ND (i := 27) (j := 34) rfl rfl (by decide))).trans e_193
        have e_222 := (f_202 truth_ (nd_ne ND (i := 32) (j := 34) rfl rfl (by decide))).trans e_194
        have e_223 := (f_202 live_ (nd_ne ND (i := 10) (j := 34) rfl rfl (by decide))).trans e_195
        have e_224 := (f_202 weights_ (nd_ne ND (i := 7) (j := 34) rfl rfl (by decide))).trans e_196
        have e_225 := (f_202 answers_ (nd_ne ND (i := 33) (j := 34) rfl rfl (by decide))).trans e_197
        have e_226 := (f_202 scores_ (Ne.symm (nd_ne ND (i := 34) (j := 35) rfl rfl (by decide)))).trans e_198
        have r_227 := r_199.up (by simp) f_202
        have e_228 := (f_205 begins_ (Ne.symm (nd_ne ND (i := 0) (j := 30) rfl rfl (by decide)))).trans e_207
        have e_229 := (f_205 lasts_ (Ne.symm (nd_ne ND (i := 0) (j := 31) rfl rfl (by decide)))).trans e_208
        have e_230 := (f_205 tokenAt_ (Ne.symm (nd_ne ND (i := 0) (j := 20) rfl rfl (by decide)))).trans e_209
        have e_231 := (f_205 tokenSize_ (Ne.symm (nd_ne ND (i := 0) (j := 21) rfl rfl (by decide)))).trans e_210
        have e_232 := (f_205 texts_ (Ne.symm (nd_ne ND (i := 0) (j := 5) rfl rfl (by decide)))).trans e_211
        have e_233 := (f_205 asked_ (Ne.symm (nd_ne ND (i := 0) (j := 2) rfl rfl (by decide)))).trans e_212
        have e_234 := (f_205 firstToken_ (Ne.symm (nd_ne ND (i := 0) (j := 18) rfl rfl (by decide)))).trans e_213
        have e_235 := (f_205 starred_ (Ne.symm (nd_ne ND (i := 0) (j := 19) rfl rfl (by decide)))).trans e_214
        have e_236 := (f_205 groupKind_ (Ne.symm (nd_ne ND (i := 0) (j := 22) rfl rfl (by decide)))).trans e_215
        have e_237 := (f_205 groupPhrase_ (Ne.symm (nd_ne ND (i := 0) (j := 23) rfl rfl (by decide)))).trans e_216
        have e_238 := (f_205 groupSize_ (Ne.symm (nd_ne ND (i := 0) (j := 24) rfl rfl (by decide)))).trans e_217
        have e_239 := (f_205 groupFar_ (Ne.symm (nd_ne ND (i := 0) (j := 26) rfl rfl (by decide)))).trans e_218
        have e_240 := (f_205 groupMask_ (Ne.symm (nd_ne ND (i := 0) (j := 25) rfl rfl (by decide)))).trans e_219
        have e_241 := (f_205 sizes_ (Ne.symm (nd_ne ND (i := 0) (j := 6) rfl rfl (by decide)))).trans e_220
        have e_242 := (f_205 out_ (Ne.symm (nd_ne ND (i := 0) (j := 27) rfl rfl (by decide)))).trans e_221
        have e_243 := (f_205 truth_ (Ne.symm (nd_ne ND (i := 0) (j := 32) rfl rfl (by decide)))).trans e_222
        have e_244 := (f_205 live_ (Ne.symm (nd_ne ND (i := 0) (j := 10) rfl rfl (by decide)))).trans e_223
        have e_245 := (f_205 weights_ (Ne.symm (nd_ne ND (i := 0) (j := 7) rfl rfl (by decide)))).trans e_224
        have e_246 := (f_205 answers_ (Ne.symm (nd_ne ND (i := 0) (j := 33) rfl rfl (by decide)))).trans e_225
        have e_247 := (f_205 order_ (Ne.symm (nd_ne ND (i := 0) (j := 34) rfl rfl (by decide)))).trans e_201
        have e_248 := (f_205 scores_ (Ne.symm (nd_ne ND (i := 0) (j := 35) rfl rfl (by decide)))).trans e_226
        have r_249 := r_227.up (by simp) f_205
        obtain ⟨fs_250, z_251⟩ : ∃ z, z = fs_97.set 56 (.int ((nI fn) + 1)) := ⟨_, rfl⟩
        rw [← z_251] at e_204
        have l_252 : fs_250.length = 62 := by rw [z_251]; simp only [List.length_set]; exact l_98
        have g_253 : fs_250[(4 : Nat)]? = some (.ref asked_) := by rw [z_251]; exact (xw_gn (by decide) g_136)
        have g_254 : fs_250[(7 : Nat)]? = some (.ref texts_) := by rw [z_251]; exact (xw_gn (by decide) g_135)
        have g_255 : fs_250[(8 : Nat)]? = some (.ref sizes_) := by rw [z_251]; exact (xw_gn (by decide) g_144)
        have g_256 : fs_250[(9 : Nat)]? = some (.ref weights_) := by rw [z_251]; exact (xw_gn (by decide) g_148)
        have g_257 : fs_250[(14 : Nat)]? = some (.ref live_) := by rw [z_251]; exact (xw_gn (by decide) g_147)
        have g_258 : fs_250[(34 : Nat)]? = some (.int (nI P)) := by rw [z_251]; exact (xw_gn (by decide) g_129)
        have g_259 : fs_250[(37 : Nat)]? = some (.int (nI o)) := by rw [z_251]; exact (xw_gn (by decide) g_128)
        have g_260 : fs_250[(41 : Nat)]? = some (.ref firstToken_) := by rw [z_251]; exact (xw_gn (by decide) g_137)
        have g_261 : fs_250[(42 : Nat)]? = some (.ref starred_) := by rw [z_251]; exact (xw_gn (by decide) g_138)
        have g_262 : fs_250[(43 : Nat)]? = some (.ref tokenAt_) := by rw [z_251]; exact (xw_gn (by decide) g_133)
        have g_263 : fs_250[(44 : Nat)]? = some (.ref tokenSize_) := by rw [z_251]; exact (xw_gn (by decide) g_134)
        have g_264 : fs_250[(45 : Nat)]? = some (.ref groupKind_) := by rw [z_251]; exact (xw_gn (by decide) g_139)
        have g_265 : fs_250[(46 : Nat)]? = some (.ref groupPhrase_) := by rw [z_251]; exact (xw_gn (by decide) g_140)
        have g_266 : fs_250[(47 : Nat)]? = some (.ref groupSize_) := by rw [z_251]; exact (xw_gn (by decide) g_141)
        have g_267 : fs_250[(48 : Nat)]? = some (.ref groupMask_) := by rw [z_251]; exact (xw_gn (by decide) g_143)
        have g_268 : fs_250[(49 : Nat)]? = some (.ref groupFar_) := by rw [z_251]; exact (xw_gn (by decide) g_142)
        have g_269 : fs_250[(50 : Nat)]? = some (.ref out_) := by rw [z_251]; exact (xw_gn (by decide) g_145)
        have g_270 : fs_250[(53 : Nat)]? = some (.ref begins_) := by rw [z_251]; exact (xw_gn (by decide) g_131)
        have g_271 : fs_250[(54 : Nat)]? = some (.ref lasts_) := by rw [z_251]; exact (xw_gn (by decide) g_132)
        have g_272 : fs_250[(55 : Nat)]? = some (.int cl_94) := by rw [z_251]; exact (xw_gn (by decide) g_100)
        have g_273 : fs_250[(56 : Nat)]? = some (.int ((nI fn) + 1)) := by rw [z_251]; exact (xw_gs (by simp [l_98]))
        have g_274 : fs_250[(57 : Nat)]? = some (.ref truth_) := by rw [z_251]; exact (xw_gn (by decide) g_146)
        have g_275 : fs_250[(58 : Nat)]? = some (.ref answers_) := by rw [z_251]; exact (xw_gn (by decide) g_149)
        have g_276 : fs_250[(59 : Nat)]? = some (.ref order_) := by rw [z_251]; exact (xw_gn (by decide) g_150)
        have g_277 : fs_250[(60 : Nat)]? = some (.ref scores_) := by rw [z_251]; exact (xw_gn (by decide) g_151)
        have ga_278 : ∀ i : Nat, i ∉ [55, 56] → fs_250[i]? = gs[i]? := fun i hi => by rw [z_251]; exact xw_gn (fun z => hi (by rw [z]; simp)) (ga_152 i hi)
        clear z_251
        refine s_Model_ask_219 ?_
        rw [nI_1]
        rw [nI_1] at g_273
        rw [nI_clamp (show n7 < 2 ^ 31 by omega)] at e_247
        exact ih (i + 1) _ (fn + 1) _ _ _ _ _ _ _ _ (by omega) l_252 e_204 g_272 g_273 ga_278 e_228 e_229 e_243 e_246 e_247 e_248 (by omega) (fun j hj => by by_cases q : j = n7; (subst q; exact ⟨fn, pk_us, by omega⟩); (rw [pk_un q]; obtain ⟨j2, u1, u2⟩ := hO7 j (by omega) q; exact ⟨j2, u1, by omega⟩)) r_249
