/-! the reference in general states: by program (wip/tools/gen5.py, gen6.py, gen7.py) -/
theorem NDl.of {l k : List Nat} (is : List Nat) (h : NDl l) (hk : ∀ i : Nat, k[i]? = (is[i]?).bind (fun x => l[x]?)) (hi : is.Nodup) : NDl k := fun i j a h1 h2 => by
  rw [hk] at h1 h2
  cases q1 : is[i]? with
  | none => rw [q1] at h1; cases h1
  | some x =>
    cases q2 : is[j]? with
    | none => rw [q2] at h2; cases h2
    | some y =>
      rw [q1, Option.bind_some] at h1
      rw [q2, Option.bind_some] at h2
      have e := h x y a h1 h2
      have hl : i < is.length := (List.getElem?_eq_some_iff.mp q1).1
      exact (List.getElem?_inj hl hi).mp (by rw [q1, q2, e])
theorem ndQ {m draft_ asked_ prepared_ preparedSize_ texts_ sizes_ weights_ entries_ lies_ live_ row_ level_ oldTexts_ oldSizes_ oldLies_ oldLive_ oldRow_ firstToken_ starred_ tokenAt_ tokenSize_ groupKind_ groupPhrase_ groupSize_ groupMask_ groupFar_ out_ top_ masks_ begins_ lasts_ truth_ answers_ order_ scores_ : Nat} (ND : NDl [m, draft_, asked_, prepared_, preparedSize_, texts_, sizes_, weights_, entries_, lies_, live_, row_, level_, oldTexts_, oldSizes_, oldLies_, oldLive_, oldRow_, firstToken_, starred_, tokenAt_, tokenSize_, groupKind_, groupPhrase_, groupSize_, groupMask_, groupFar_, out_, top_, masks_, begins_, lasts_, truth_, answers_, order_, scores_]) : NDl [m, asked_, firstToken_, starred_, tokenAt_, tokenSize_, groupKind_, groupPhrase_, groupSize_, groupMask_, groupFar_, out_, top_, masks_] := NDl.of [0, 2, 18, 19, 20, 21, 22, 23, 24, 25, 26, 27, 28, 29] ND (fun i => match i with
  | 0 => rfl
  | 1 => rfl
  | 2 => rfl
  | 3 => rfl
  | 4 => rfl
  | 5 => rfl
  | 6 => rfl
  | 7 => rfl
  | 8 => rfl
  | 9 => rfl
  | 10 => rfl
  | 11 => rfl
  | 12 => rfl
  | 13 => rfl
  | _ + 14 => rfl) (by decide)
set_option maxHeartbeats 2000000 in
theorem lp_so {G : xw_G} {F L bc bs : Nat} {pr : Option Value → xw_A → Prop} {px : String → xw_A → Prop} {m order_ scores_ fn : Nat} {x1 : Int32} {gs : List Value} {fsc : Nat → UInt64} {h0 : xw_A} (l : gs.length = 62) (q_m : h0 m = some (.inr (11, gs))) (g_found : gs[(56 : Nat)]? = some (.int (nI fn))) (g_order : gs[(59 : Nat)]? = some (.ref order_)) (g_scores : gs[(60 : Nat)]? = some (.ref scores_)) (q_s : h0 scores_ = some (.inl (3, 24, .inr (.inr (.inr (.inl fsc)))))) (q_o : ∃ f, h0 order_ = some (.inl (0, 24, .inl f))) (hfn : fn < 24) (kk : ∀ (h : xw_A) (n : Nat) (fo : Nat → Int32), h order_ = some (.inl (0, 24, .inl fo)) → n ≤ fn → (∀ i, i ≤ fn → i ≠ n → ∃ j, fo i = nI j ∧ j < fn) → FrO [order_] h0 h → xw G m_Model_ask F L bc bs pr px 199 [some (.ref m), some (.int x1), some (.int (nI n))] [] h) :
    ∀ (n : Nat) (h : xw_A) (fo : Nat → Int32), h order_ = some (.inl (0, 24, .inl fo)) → n ≤ fn → (∀ i, i ≤ fn → i ≠ n → ∃ j, fo i = nI j ∧ j < fn) → FrO [order_] h0 h → xw G m_Model_ask F L bc bs pr px 149 [some (.ref m), some (.int x1), some (.int (nI n))] [] h := by
  intro n
  induction n with
  | zero =>
    intro h fo e_order hN hO r0
    have e := r0 m _ (by obtain ⟨f, o⟩ := q_o; simp only [List.mem_cons, List.not_mem_nil, or_false, not_or]; exact xw_neC q_m o (by simp)) q_m
    have e_scores := r0 scores_ _ (by obtain ⟨f, o⟩ := q_o; simp only [List.mem_cons, List.not_mem_nil, or_false, not_or]; exact xw_neC q_s o (by simp)) q_s
    refine s_Model_ask_149 (fun z_1 => ?_) (fun z => absurd (show nI 0 ≤ 0 by decide) z)
    exact kk _ _ _ e_order hN hO r0
  | succ n ih =>
    intro h fo e_order hN hO r0
    have e := r0 m _ (by obtain ⟨f, o⟩ := q_o; simp only [List.mem_cons, List.not_mem_nil, or_false, not_or]; exact xw_neC q_m o (by simp)) q_m
    have e_scores := r0 scores_ _ (by obtain ⟨f, o⟩ := q_o; simp only [List.mem_cons, List.not_mem_nil, or_false, not_or]; exact xw_neC q_s o (by simp)) q_s
    refine s_Model_ask_149 (fun z => absurd z (nI_ge (b := n + 1) (show 0 < n + 1 by omega) (by omega))) (fun z_1 => ?_)
    refine s_Model_ask_153 l e g_scores g_order e_order (by rw [nI_pred]; exact vp_in_nI (by omega) (by decide)) e_scores (by rw [nI_pred, nI_clamp (by omega)]; obtain ⟨j, hj, hj2⟩ := hO n (by omega) (by omega); rw [hj]; exact vp_in_nI (by omega) (by decide)) g_found (vp_in_nI (by omega) (by omega)) (fun z_2 => ?_) (fun z_3 => ?_)
    · skip
      exact kk _ _ _ e_order hN hO r0
    · skip
      refine s_Model_ask_179 l e g_order e_order (by rw [nI_pred]; exact vp_in_nI (by omega) (by decide)) (vp_in_nI (by omega) (by omega)) ?_
      refine x_u1 (fun h_4 e_5 f_6 => ?_)
      have e_7 := (f_6 m (xw_neC e e_order (by simp))).trans e
      have e_8 := (f_6 scores_ (xw_neC e_scores e_order (by simp))).trans e_scores
      have r_9 := r0.up (by simp) f_6
      rw [show nI (n + 1) + (-1) = nI n from nI_m1 n]
      rw [nI_pred, nI_clamp (show n < 2 ^ 31 by omega), nI_clamp (show n + 1 < 2 ^ 31 by omega)] at e_5
      exact ih _ _ e_5 (by omega) (fun i hi hne => by by_cases q : i = n + 1; (subst q; rw [pk_us]; exact hO n (by omega) (by omega)); (rw [pk_un q]; exact hO i hi q)) r_9
