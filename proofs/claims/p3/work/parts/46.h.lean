/-! the reference in general states: by program (wip/tools/gen5.py, gen6.py, gen7.py) -/
/-! THE REFERENCE: groups -/
def GrO (c6 c7 : Nat → Int32) (g p : Nat) : Prop := ∀ j, j < g → ∃ a n, c6 j = nI a ∧ c7 j = nI n ∧ 1 ≤ n ∧ a + n ≤ p
theorem GrO.new {c6 c7 : Nat → Int32} {g p p' : Nat} (h : GrO c6 c7 g p) (hp : p < p') : GrO (upd c6 g (nI p)) (upd c7 g (nI p' - nI p)) (g + 1) p' := fun j hj => by
  by_cases q : j = g
  · subst q
    exact ⟨p, p' - p, pk_us, by rw [pk_us, pk_sub (by omega)], by omega, by omega⟩
  · obtain ⟨a, n, h1, h2, h3, h4⟩ := h j (by omega)
    exact ⟨a, n, by rw [pk_un q]; exact h1, by rw [pk_un q]; exact h2, h3, by omega⟩
def GpP (m firstToken_ starred_ tokenAt_ tokenSize_ groupKind_ groupPhrase_ groupSize_ groupMask_ groupFar_ out_ : Nat) (gs : List Value) (fa : Nat → Int32) (asz x p t g o n : Nat) (c6 c7 co ct : Nat → Int32) (h0 h : xw_A) : Prop :=
  ∃ (x' y' p' t' g' o' n' : Nat) (kd' bd' mk' : Int32) (c1' c2' ca' cs' c5' c6' c7' c8' c9' co' : Nat → Int32) (fs : List Value), PtO fa asz x' y' kd' ∧ JO fa asz t' x' ∧ TkO ca' cs' t' x' ∧ x ≤ x' ∧ p ≤ p' ∧ p' ≤ 12 ∧ t ≤ t' ∧ g' ≤ p' ∧ (bd' < 0 → x < x' ∧ PhO c1' p' t' ∧ g' = g + 1 ∧ GrO c6' c7' g' p' ∧ o' = o + 1 ∧ co' = upd co o (nI g) ∧ n' ≤ n ∧ cntJ ct n' = cntJ ct n ∧ cntD ct n' ≤ cntD ct n) ∧ (¬ bd' < 0 → g' = g ∧ o' = o ∧ n' = n) ∧ fs.length = 62 ∧ h m = some (.inr (11, fs)) ∧ fs[(28 : Nat)]? = some (.int (nI x')) ∧ fs[(29 : Nat)]? = some (.int kd') ∧ fs[(30 : Nat)]? = some (.int (nI x')) ∧ fs[(31 : Nat)]? = some (.int (nI y')) ∧ fs[(33 : Nat)]? = some (.int bd') ∧ fs[(34 : Nat)]? = some (.int (nI p')) ∧ fs[(35 : Nat)]? = some (.int (nI t')) ∧ fs[(36 : Nat)]? = some (.int (nI g')) ∧ fs[(37 : Nat)]? = some (.int (nI o')) ∧ fs[(38 : Nat)]? = some (.int (nI n')) ∧ fs[(39 : Nat)]? = some (.int mk') ∧ (∀ i : Nat, i ∉ [28, 29, 30, 31, 33, 34, 35, 36, 37, 38, 39] → fs[i]? = gs[i]?) ∧ h firstToken_ = some (.inl (0, 13, .inl c1')) ∧ h starred_ = some (.inl (0, 13, .inl c2')) ∧ h tokenAt_ = some (.inl (0, 60, .inl ca')) ∧ h tokenSize_ = some (.inl (0, 60, .inl cs')) ∧ h groupKind_ = some (.inl (0, 13, .inl c5')) ∧ h groupPhrase_ = some (.inl (0, 13, .inl c6')) ∧ h groupSize_ = some (.inl (0, 13, .inl c7')) ∧ h groupMask_ = some (.inl (0, 13, .inl c8')) ∧ h groupFar_ = some (.inl (0, 13, .inl c9')) ∧ h out_ = some (.inl (0, 60, .inl co')) ∧ FrO [m, firstToken_, starred_, tokenAt_, tokenSize_, groupKind_, groupPhrase_, groupSize_, groupMask_, groupFar_, out_] h0 h
def FiP (m top_ masks_ : Nat) (gs : List Value) (fa : Nat → Int32) (asz x n : Nat) (ct : Nat → Int32) (h0 h : xw_A) : Prop :=
  ∃ (x' y' n' : Nat) (kd' bd' mk' : Int32) (ct' cm' : Nat → Int32) (fs : List Value), PtO fa asz x' y' kd' ∧ x ≤ x' ∧ (bd' < 0 → x < x' ∧ n' = n + 1 ∧ ct' = upd ct n 6 ∧ cntD ct n ≤ 7) ∧ (¬ bd' < 0 → n' = n ∧ ct' = ct) ∧ fs.length = 62 ∧ h m = some (.inr (11, fs)) ∧ fs[(28 : Nat)]? = some (.int (nI x')) ∧ fs[(29 : Nat)]? = some (.int kd') ∧ fs[(30 : Nat)]? = some (.int (nI x')) ∧ fs[(31 : Nat)]? = some (.int (nI y')) ∧ fs[(33 : Nat)]? = some (.int bd') ∧ fs[(38 : Nat)]? = some (.int (nI n')) ∧ fs[(39 : Nat)]? = some (.int mk') ∧ (∀ i : Nat, i ∉ [28, 29, 30, 31, 33, 38, 39] → fs[i]? = gs[i]?) ∧ h top_ = some (.inl (0, 60, .inl ct')) ∧ h masks_ = some (.inl (0, 60, .inl cm')) ∧ FrO [m, top_, masks_] h0 h
/-- the question's state between two of its steps -/
def QSt (m asked_ firstToken_ starred_ tokenAt_ tokenSize_ groupKind_ groupPhrase_ groupSize_ groupMask_ groupFar_ out_ top_ masks_ : Nat) (gs : List Value) (h0 : xw_A) (fa : Nat → Int32) (asz x b : Nat) (kd bd : Int32) (h : xw_A) : Prop :=
  ∃ (y p t g o n : Nat) (mk : Int32) (c1 c2 ca cs c5 c6 c7 c8 c9 co ct cm : Nat → Int32) (fs : List Value), PtO fa asz x y kd ∧ JO fa asz t x ∧ TkO ca cs t x ∧ p ≤ 12 ∧ g ≤ p ∧ cntD ct n ≤ 9 ∧ o + cntJ ct n ≤ 2 * g ∧ b ≤ 1 ∧ (∀ k, k < n → ¬ ct k < 1) ∧ (bd < 0 → PhO c1 p t ∧ GrO c6 c7 g p ∧ cntD ct n ≤ 8 ∧ o + cntJ ct n + b = 2 * g ∧ hgt co o = some (cntJ ct n + b) ∧ ∀ k, k < o → co k < 0 ∨ ∃ j, j < g ∧ co k = nI j) ∧ fs.length = 62 ∧ h m = some (.inr (11, fs)) ∧ fs[(28 : Nat)]? = some (.int (nI x)) ∧ fs[(29 : Nat)]? = some (.int kd) ∧ fs[(30 : Nat)]? = some (.int (nI x)) ∧ fs[(31 : Nat)]? = some (.int (nI y)) ∧ fs[(33 : Nat)]? = some (.int bd) ∧ fs[(34 : Nat)]? = some (.int (nI p)) ∧ fs[(35 : Nat)]? = some (.int (nI t)) ∧ fs[(36 : Nat)]? = some (.int (nI g)) ∧ fs[(37 : Nat)]? = some (.int (nI o)) ∧ fs[(38 : Nat)]? = some (.int (nI n)) ∧ fs[(39 : Nat)]? = some (.int mk) ∧ fs[(61 : Nat)]? = some (.int (nI b)) ∧ (∀ i : Nat, i ∉ [28, 29, 30, 31, 33, 34, 35, 36, 37, 38, 39, 61] → fs[i]? = gs[i]?) ∧ h firstToken_ = some (.inl (0, 13, .inl c1)) ∧ h starred_ = some (.inl (0, 13, .inl c2)) ∧ h tokenAt_ = some (.inl (0, 60, .inl ca)) ∧ h tokenSize_ = some (.inl (0, 60, .inl cs)) ∧ h groupKind_ = some (.inl (0, 13, .inl c5)) ∧ h groupPhrase_ = some (.inl (0, 13, .inl c6)) ∧ h groupSize_ = some (.inl (0, 13, .inl c7)) ∧ h groupMask_ = some (.inl (0, 13, .inl c8)) ∧ h groupFar_ = some (.inl (0, 13, .inl c9)) ∧ h out_ = some (.inl (0, 60, .inl co)) ∧ h top_ = some (.inl (0, 60, .inl ct)) ∧ h masks_ = some (.inl (0, 60, .inl cm)) ∧ FrO [m, firstToken_, starred_, tokenAt_, tokenSize_, groupKind_, groupPhrase_, groupSize_, groupMask_, groupFar_, out_, top_, masks_] h0 h
set_option maxHeartbeats 8000000 in
theorem f_group {G : xw_G} {F L : Nat} {h : xw_A} {x y p t g o n asz : Nat} {kd bd mk : Int32} {fa c1 c2 ca cs c5 c6 c7 c8 c9 co ct cm : Nat → Int32} {m asked_ firstToken_ starred_ tokenAt_ tokenSize_ groupKind_ groupPhrase_ groupSize_ groupMask_ groupFar_ out_ top_ masks_ : Nat} {fs : List Value} (l : fs.length = 62) (e : h m = some (.inr (11, fs))) (g_at : fs[(28 : Nat)]? = some (.int (nI x))) (g_kind : fs[(29 : Nat)]? = some (.int kd)) (g_from : fs[(30 : Nat)]? = some (.int (nI x))) (g_to : fs[(31 : Nat)]? = some (.int (nI y))) (g_bad : fs[(33 : Nat)]? = some (.int bd)) (g_phrases : fs[(34 : Nat)]? = some (.int (nI p))) (g_tokens : fs[(35 : Nat)]? = some (.int (nI t))) (g_groups : fs[(36 : Nat)]? = some (.int (nI g))) (g_outs : fs[(37 : Nat)]? = some (.int (nI o))) (g_tops : fs[(38 : Nat)]? = some (.int (nI n))) (g_mask : fs[(39 : Nat)]? = some (.int mk)) (g_askedSize : fs[(11 : Nat)]? = some (.int (nI asz))) (g_asked : fs[(4 : Nat)]? = some (.ref asked_)) (e_asked : h asked_ = some (.inl (0, 96, .inl fa))) (g_firstToken : fs[(41 : Nat)]? = some (.ref firstToken_)) (e_firstToken : h firstToken_ = some (.inl (0, 13, .inl c1))) (g_starred : fs[(42 : Nat)]? = some (.ref starred_)) (e_starred : h starred_ = some (.inl (0, 13, .inl c2))) (g_tokenAt : fs[(43 : Nat)]? = some (.ref tokenAt_)) (e_tokenAt : h tokenAt_ = some (.inl (0, 60, .inl ca))) (g_tokenSize : fs[(44 : Nat)]? = some (.ref tokenSize_)) (e_tokenSize : h tokenSize_ = some (.inl (0, 60, .inl cs))) (g_groupKind : fs[(45 : Nat)]? = some (.ref groupKind_)) (e_groupKind : h groupKind_ = some (.inl (0, 13, .inl c5))) (g_groupPhrase : fs[(46 : Nat)]? = some (.ref groupPhrase_)) (e_groupPhrase : h groupPhrase_ = some (.inl (0, 13, .inl c6))) (g_groupSize : fs[(47 : Nat)]? = some (.ref groupSize_)) (e_groupSize : h groupSize_ = some (.inl (0, 13, .inl c7))) (g_groupMask : fs[(48 : Nat)]? = some (.ref groupMask_)) (e_groupMask : h groupMask_ = some (.inl (0, 13, .inl c8))) (g_groupFar : fs[(49 : Nat)]? = some (.ref groupFar_)) (e_groupFar : h groupFar_ = some (.inl (0, 13, .inl c9))) (g_out : fs[(50 : Nat)]? = some (.ref out_)) (e_out : h out_ = some (.inl (0, 60, .inl co))) (g_top : fs[(51 : Nat)]? = some (.ref top_)) (e_top : h top_ = some (.inl (0, 60, .inl ct))) (g_masks : fs[(52 : Nat)]? = some (.ref masks_)) (e_masks : h masks_ = some (.inl (0, 60, .inl cm))) (ND : NDl [m, asked_, firstToken_, starred_, tokenAt_, tokenSize_, groupKind_, groupPhrase_, groupSize_, groupMask_, groupFar_, out_, top_, masks_]) (hasz : asz ≤ 96) (PT : PtO fa asz x y kd) (J : JO fa asz t x) (TK : TkO ca cs t x) (PH : PhO c1 p t) (GR : GrO c6 c7 g p) (hbd : bd < 0) (hp12 : p ≤ 12) (hgp : g ≤ p) (ho : o < 60) (hn : n ≤ 60) (hk0 : ¬ kd = 0) (hF : 7 ≤ F) (hL : 150 ≤ L) :
    xw_Met G m_Model_group F L 0 0 [.ref m] h (fun v h' => v = none ∧ GpP m firstToken_ starred_ tokenAt_ tokenSize_ groupKind_ groupPhrase_ groupSize_ groupMask_ groupFar_ out_ fs fa asz x p t g o n c6 c7 co ct h h') (fun _ _ => False) := by
  refine xw_Met.of rfl (by decide) (Nat.le_of_ble_eq_true rfl) ?_
  have hxy0 := PT.1
  have hy97 := PT.2.1
  have ga0 : ∀ i : Nat, i ∉ [28, 29, 30, 31, 33, 34, 35, 36, 37, 38, 39] → fs[i]? = fs[i]? := fun _ _ => rfl
  have r0 : FrO [m, firstToken_, starred_, tokenAt_, tokenSize_, groupKind_, groupPhrase_, groupSize_, groupMask_, groupFar_, out_] h h := FrO.rf
  refine s_Model_group_0 (groupKind_a0 := some groupKind_) l e g_groupKind g_groups g_kind (fun z_1 => ?_) (fun z_2 => ?_)
  · skip
    refine s_Model_group_21 l e g_kind (fun z_3 => ?_) (fun z_4 => ?_)
    · skip
      refine s_Model_group_34 ?_
      refine s_Model_group_35 e_groupKind (vp_in_nI (by omega) (by omega)) l e g_groupPhrase g_groups g_phrases e_groupPhrase (vp_in_nI (by omega) (by omega)) (Ne.symm (nd_ne ND (i := 6) (j := 7) rfl rfl (by decide))) g_groupMask g_mask e_groupMask (vp_in_nI (by omega) (by omega)) (Ne.symm (nd_ne ND (i := 7) (j := 9) rfl rfl (by decide))) (Ne.symm (nd_ne ND (i := 6) (j := 9) rfl rfl (by decide))) g_groupFar e_groupFar (vp_in_nI (by omega) (by omega)) (Ne.symm (nd_ne ND (i := 9) (j := 10) rfl rfl (by decide))) (Ne.symm (nd_ne ND (i := 7) (j := 10) rfl rfl (by decide))) (Ne.symm (nd_ne ND (i := 6) (j := 10) rfl rfl (by decide))) ?_
      refine x_u4 (fun h_5 e_6 f_7 h_8 e_9 f_10 h_11 e_12 f_13 h_14 e_15 f_16 => ?_)
      have e_17 := (f_7 m (nd_ne ND (i := 0) (j := 6) rfl rfl (by decide))).trans e
      have e_18 := (f_7 asked_ (nd_ne ND (i := 1) (j := 6) rfl rfl (by decide))).trans e_asked
      have e_19 := (f_7 firstToken_ (nd_ne ND (i := 2) (j := 6) rfl rfl (by decide))).trans e_firstToken
      have e_20 := (f_7 starred_ (nd_ne ND (i := 3) (j := 6) rfl rfl (by decide))).trans e_starred
      have e_21 := (f_7 tokenAt_ (nd_ne ND (i := 4) (j := 6) rfl rfl (by decide))).trans e_tokenAt
      have e_22 := (f_7 tokenSize_ (nd_ne ND (i := 5) (j := 6) rfl rfl (by decide))).trans e_tokenSize
      have e_23 := (f_7 groupPhrase_ (Ne.symm (nd_ne ND (i := 6) (j := 7) rfl rfl (by decide)))).trans e_groupPhrase
      have e_24 := (f_7 groupSize_ (Ne.symm (nd_ne ND (i := 6) (j := 8) rfl rfl (by decide)))).trans e_groupSize
      have e_25 := (f_7 groupMask_ (Ne.symm (nd_ne ND (i := 6) (j := 9) rfl rfl (by decide)))).trans e_groupMask
      have e_26 := (f_7 groupFar_ (Ne.symm (nd_ne ND (i := 6) (j := 10) rfl rfl (by decide)))).trans e_groupFar
      have e_27 := (f_7 out_ (Ne.symm (nd_ne ND (i := 6) (j := 11) rfl rfl (by decide)))).trans e_out
      have e_28 := (f_7 top_ (Ne.symm (nd_ne ND (i := 6) (j := 12) rfl rfl (by decide)))).trans e_top
      have e_29 := (f_7 masks_ (Ne.symm (nd_ne ND (i := 6) (j := 13) rfl rfl (by decide)))).trans e_masks
      have r_30 := r0.up (by simp) f_7
      have e_31 := (f_10 m (nd_ne ND (i := 0) (j := 7) rfl rfl (by decide))).trans e_17
      have e_32 := (f_10 asked_ (nd_ne ND (i := 1) (j := 7) rfl rfl (by decide))).trans e_18
      have e_33 := (f_10 firstToken_ (nd_ne ND (i := 2) (j := 7) rfl rfl (by decide))).trans e_19
      have e_34 := (f_10 starred_ (nd_ne ND (i := 3) (j := 7) rfl rfl (by decide))).trans e_20
      have e_35 := (f_10 tokenAt_ (nd_ne ND (i := 4) (j := 7) rfl rfl (by decide))).trans e_21
      have e_36 := (f_10 tokenSize_ (nd_ne ND (i := 5) (j := 7) rfl rfl (by decide))).trans e_22
      have e_37 := (f_10 groupKind_ (nd_ne ND (i := 6) (j := 7) rfl rfl (by decide))).trans e_6
      have e_38 := (f_10 groupSize_ (Ne.symm (nd_ne ND (i := 7) (j := 8) rfl rfl (by decide)))).trans e_24
      have e_39 := (f_10 groupMask_ (Ne.symm (nd_ne ND (i := 7) (j := 9) rfl rfl (by decide)))).trans e_25
      have e_40 := (f_10 groupFar_ (Ne.symm (nd_ne ND (i := 7) (j := 10) rfl rfl (by decide)))).trans e_26
      have e_41 := (f_10 out_ (Ne.symm (nd_ne ND (i := 7) (j := 11) rfl rfl (by decide)))).trans e_27
      have e_42 := (f_10 top_ (Ne.symm (nd_ne ND (i := 7) (j := 12) rfl rfl (by decide)))).trans e_28
      have e_43 := (f_10 masks_ (Ne.symm (nd_ne ND (i := 7) (j := 13) rfl rfl (by decide)))).trans e_29
      have r_44 := r_30.up (by simp) f_10
      have e_45 := (f_13 m (nd_ne ND (i := 0) (j := 9) rfl rfl (by decide))).trans e_31
      have e_46 := (f_13 asked_ (nd_ne ND (i := 1) (j := 9) rfl rfl (by decide))).trans e_32
      have e_47 := (f_13 firstToken_ (nd_ne ND (i := 2) (j := 9) rfl rfl (by decide))).trans e_33
      have e_48 := (f_13 starred_ (nd_ne ND (i := 3) (j := 9) rfl rfl (by decide))).trans e_34
      have e_49 := (f_13 tokenAt_ (nd_ne ND (i := 4) (j := 9) rfl rfl (by decide))).trans e_35
      have e_50 := (f_13 tokenSize_ (nd_ne ND (i := 5) (j := 9) rfl rfl (by decide))).trans e_36
      have e_51 := (f_13 groupKind_ (nd_ne ND (i := 6) (j := 9) rfl rfl (by decide))).trans e_37
      have e_52 := (f_13 groupPhrase_ (nd_ne ND (i := 7) (j := 9) rfl rfl (by decide))).trans e_9
      have e_53 := (f_13 groupSize_ (nd_ne ND (i := 8) (j := 9) rfl rfl (by decide))).trans e_38
      have e_54 := (f_13 groupFar_ (Ne.symm (nd_ne ND (i := 9) (j := 10) rfl rfl (by decide)))).trans e_40
      have e_55 := (f_13 out_ (Ne.symm (nd_ne ND (i := 9) (j := 11) rfl rfl (by decide)))).trans e_41
      have e_56 := (f_13 top_ (Ne.symm (nd_ne ND (i := 9) (j := 12) rfl rfl (by decide)))).trans e_42
      have e_57 := (f_13 masks_ (Ne.symm (nd_ne ND (i := 9) (j := 13) rfl rfl (by decide)))).trans e_43
      have r_58 := r_44.up (by simp) f_13
      have e_59 := (f_16 m (nd_ne ND (i := 0) (j := 10) rfl rfl (by decide))).trans e_45
      have e_60 := (f_16 asked_ (nd_ne ND (i := 1) (j := 10) rfl rfl (by decide))).trans e_46
      have e_61 := (f_16 firstToken_ (nd_ne ND (i := 2) (j := 10) rfl rfl (by decide))).trans e_47
      have e_62 := (f_16 starred_ (nd_ne ND (i := 3) (j := 10) rfl rfl (by decide))).trans e_48
      have e_63 := (f_16 tokenAt_ (nd_ne ND (i := 4) (j := 10) rfl rfl (by decide))).trans e_49
      have e_64 := (f_16 tokenSize_ (nd_ne ND (i := 5) (j := 10) rfl rfl (by decide))).trans e_50
      have e_65 := (f_16 groupKind_ (nd_ne ND (i := 6) (j := 10) rfl rfl (by decide))).trans e_51
      have e_66 := (f_16 groupPhrase_ (nd_ne ND (i := 7) (j := 10) rfl rfl (by decide))).trans e_52
      have e_67 := (f_16 groupSize_ (nd_ne ND (i := 8) (j := 10) rfl rfl (by decide))).trans e_53
      have e_68 := (f_16 groupMask_ (nd_ne ND (i := 9) (j := 10) rfl rfl (by decide))).trans e_12
      have e_69 := (f_16 out_ (Ne.symm (nd_ne ND (i := 10) (j := 11) rfl rfl (by decide)))).trans e_55
      have e_70 := (f_16 top_ (Ne.symm (nd_ne ND (i := 10) (j := 12) rfl rfl (by decide)))).trans e_56
      have e_71 := (f_16 masks_ (Ne.symm (nd_ne ND (i := 10) (j := 13) rfl rfl (by decide)))).trans e_57
      have r_72 := r_58.up (by simp) f_16
      rw [nI_clamp (show g < 2 ^ 31 by omega)] at e_66
      refine s_Model_group_73 l e_59 g_kind (fun z_73 => ?_) (fun z => absurd z z_3)
      refine s_Model_group_89 l e_59 g_kind (fun z_74 => ?_) (fun z => absurd z z_1)
      refine s_Model_group_102 ?_
      refine x_callV (As := []) (b := m) (rest := []) (F1 := 5) (L1 := 107) (mc := 0) (ms := 0) d_Model_group_103 cV_Model_260 (f_phrase l e_59 g_at g_kind g_from g_to g_bad g_phrases g_tokens g_askedSize g_asked e_60 g_firstToken e_61 g_starred e_62 g_tokenAt e_63 g_tokenSize e_64 (nd_ne ND (i := 2) (j := 3) rfl rfl (by decide)) (nd_ne ND (i := 4) (j := 5) rfl rfl (by decide)) hasz PT J TK hbd (by omega) (by omega) (by omega)) e_59 ⟨by decide, rfl⟩ ⟨by omega, by show 8 + (1 + 11) + 107 ≤ _; omega⟩ ⟨by omega, by omega⟩ (Nat.le_of_ble_eq_true rfl) (fun v_110 h_109 p_111 => ?_)
      obtain ⟨rfl, x_75, y_76, p_77, t_78, kd_79, bd_80, c1_81, c2_82, ca_83, cs_84, fs_85, PT_86, J_87, TK_88, hx_89, hp_90, hp12_91, ht_92, HB_93, l_94, e_95, g_96, g_97, g_98, g_99, g_100, g_101, g_102, ga_103, e_104, e_105, e_106, e_107, r_108⟩ := p_111
      have e_112 := r_108 asked_ _ (by simp only [List.mem_cons, List.not_mem_nil, or_false, not_or]; exact ⟨(Ne.symm (nd_ne ND (i := 0) (j := 1) rfl rfl (by decide))), (nd_ne ND (i := 1) (j := 2) rfl rfl (by decide)), (nd_ne ND (i := 1) (j := 3) rfl rfl (by decide)), (nd_ne ND (i := 1) (j := 4) rfl rfl (by decide)), (nd_ne ND (i := 1) (j := 5) rfl rfl (by decide))⟩) e_60
      have e_113 := r_108 groupKind_ _ (by simp only [List.mem_cons, List.not_mem_nil, or_false, not_or]; exact ⟨(Ne.symm (nd_ne ND (i := 0) (j := 6) rfl rfl (by decide))), (Ne.symm (nd_ne ND (i := 2) (j := 6) rfl rfl (by decide))), (Ne.symm (nd_ne ND (i := 3) (j := 6) rfl rfl (by decide))), (Ne.symm (nd_ne ND (i := 4) (j := 6) rfl rfl (by decide))), (Ne.symm (nd_ne ND (i := 5) (j := 6) rfl rfl (by decide)))⟩) e_65
      have e_114 := r_108 groupPhrase_ _ (by simp only [List.mem_cons, List.not_mem_nil, or_false, not_or]; exact ⟨(Ne.symm (nd_ne ND (i := 0) (j := 7) rfl rfl (by decide))), (Ne.symm (nd_ne ND (i := 2) (j := 7) rfl rfl (by decide))), (Ne.symm (nd_ne ND (i := 3) (j := 7) rfl rfl (by decide))), (Ne.symm (nd_ne ND (i := 4) (j := 7) rfl rfl (by decide))), (Ne.symm (nd_ne ND (i := 5) (j := 7) rfl rfl (by decide)))⟩) e_66
      have e_115 := r_108 groupSize_ _ (by simp only [List.mem_cons, List.not_mem_nil, or_false, not_or]; exact ⟨(Ne.symm (nd_ne ND (i := 0) (j := 8) rfl rfl (by decide))), (Ne.symm (nd_ne ND (i := 2) (j := 8) rfl rfl (by decide))), (Ne.symm (nd_ne ND (i := 3) (j := 8) rfl rfl (by decide))), (Ne.symm (nd_ne ND (i := 4) (j := 8) rfl rfl (by decide))), (Ne.symm (nd_ne ND (i := 5) (j := 8) rfl rfl (by decide)))⟩) e_67
      have e_116 := r_108 groupMask_ _ (by simp only [List.mem_cons, List.not_mem_nil, or_false, not_or]; exact ⟨(Ne.symm (nd_ne ND (i := 0) (j := 9) rfl rfl (by decide))), (Ne.symm (nd_ne ND (i := 2) (j := 9) rfl rfl (by decide))), (Ne.symm (nd_ne ND (i := 3) (j := 9) rfl rfl (by decide))), (Ne.symm (nd_ne ND (i := 4) (j := 9) rfl rfl (by decide))), (Ne.symm (nd_ne ND (i := 5) (j := 9) rfl rfl (by decide)))⟩) e_68
      have e_117 := r_108 groupFar_ _ (by simp only [List.mem_cons, List.not_mem_nil, or_false, not_or]; exact ⟨(Ne.symm (nd_ne ND (i := 0) (j := 10) rfl rfl (by decide))), (Ne.symm (nd_ne ND (i := 2) (j := 10) rfl rfl (by decide))), (Ne.symm (nd_ne ND (i := 3) (j := 10) rfl rfl (by decide))), (Ne.symm (nd_ne ND (i := 4) (j := 10) rfl rfl (by decide))), (Ne.symm (nd_ne ND (i := 5) (j := 10) rfl rfl (by decide)))⟩) e_15
      have e_118 := r_108 out_ _ (by simp only [List.mem_cons, List.not_mem_nil, or_false, not_or]; exact ⟨(Ne.symm (nd_ne ND (i := 0) (j := 11) rfl rfl (by decide))), (Ne.symm (nd_ne ND (i := 2) (j := 11) rfl rfl (by decide))), (Ne.symm (nd_ne ND (i := 3) (j := 11) rfl rfl (by decide))), (Ne.symm (nd_ne ND (i := 4) (j := 11) rfl rfl (by decide))), (Ne.symm (nd_ne ND (i := 5) (j := 11) rfl rfl (by decide)))⟩) e_69
      have e_119 := r_108 top_ _ (by simp only [List.mem_cons, List.not_mem_nil, or_false, not_or]; exact ⟨(Ne.symm (nd_ne ND (i := 0) (j := 12) rfl rfl (by decide))), (Ne.symm (nd_ne ND (i := 2) (j := 12) rfl rfl (by decide))), (Ne.symm (nd_ne ND (i := 3) (j := 12) rfl rfl (by decide))), (Ne.symm (nd_ne ND (i := 4) (j := 12) rfl rfl (by decide))), (Ne.symm (nd_ne ND (i := 5) (j := 12) rfl rfl (by decide)))⟩) e_70
      have e_120 := r_108 masks_ _ (by simp only [List.mem_cons, List.not_mem_nil, or_false, not_or]; exact ⟨(Ne.symm (nd_ne ND (i := 0) (j := 13) rfl rfl (by decide))), (Ne.symm (nd_ne ND (i := 2) (j := 13) rfl rfl (by decide))), (Ne.symm (nd_ne ND (i := 3) (j := 13) rfl rfl (by decide))), (Ne.symm (nd_ne ND (i := 4) (j := 13) rfl rfl (by decide))), (Ne.symm (nd_ne ND (i := 5) (j := 13) rfl rfl (by decide)))⟩) e_71
      have r_121 := r_72.trans (r_108.mono (by simp))
      have g_122 : fs_85[(36 : Nat)]? = some (.int (nI g)) := (ga_103 36 (by decide)).trans g_groups
      have g_123 : fs_85[(37 : Nat)]? = some (.int (nI o)) := (ga_103 37 (by decide)).trans g_outs
      have g_124 : fs_85[(38 : Nat)]? = some (.int (nI n)) := (ga_103 38 (by decide)).trans g_tops
      have g_125 : fs_85[(39 : Nat)]? = some (.int mk) := (ga_103 39 (by decide)).trans g_mask
      have g_126 : fs_85[(11 : Nat)]? = some (.int (nI asz)) := (ga_103 11 (by decide)).trans g_askedSize
      have g_127 : fs_85[(4 : Nat)]? = some (.ref asked_) := (ga_103 4 (by decide)).trans g_asked
      have g_128 : fs_85[(41 : Nat)]? = some (.ref firstToken_) := (ga_103 41 (by decide)).trans g_firstToken
      have g_129 : fs_85[(42 : Nat)]? = some (.ref starred_) := (ga_103 42 (by decide)).trans g_starred
      have g_130 : fs_85[(43 : Nat)]? = some (.ref tokenAt_) := (ga_103 43 (by decide)).trans g_tokenAt
      have g_131 : fs_85[(44 : Nat)]? = some (.ref tokenSize_) := (ga_103 44 (by decide)).trans g_tokenSize
      have g_132 : fs_85[(45 : Nat)]? = some (.ref groupKind_) := (ga_103 45 (by decide)).trans g_groupKind
      have g_133 : fs_85[(46 : Nat)]? = some (.ref groupPhrase_) := (ga_103 46 (by decide)).trans g_groupPhrase
      have g_134 : fs_85[(47 : Nat)]? = some (.ref groupSize_) := (ga_103 47 (by decide)).trans g_groupSize
      have g_135 : fs_85[(48 : Nat)]? = some (.ref groupMask_) := (ga_103 48 (by decide)).trans g_groupMask
      have g_136 : fs_85[(49 : Nat)]? = some (.ref groupFar_) := (ga_103 49 (by decide)).trans g_groupFar
      have g_137 : fs_85[(50 : Nat)]? = some (.ref out_) := (ga_103 50 (by decide)).trans g_out
      have g_138 : fs_85[(51 : Nat)]? = some (.ref top_) := (ga_103 51 (by decide)).trans g_top
      have g_139 : fs_85[(52 : Nat)]? = some (.ref masks_) := (ga_103 52 (by decide)).trans g_masks
      have ga_140 : ∀ i : Nat, i ∉ [28, 29, 30, 31, 33, 34, 35, 36, 37, 38, 39] → fs_85[i]? = fs[i]? := fun i hi => (ga_103 i (fun z => hi (by simp only [List.mem_cons, List.not_mem_nil, or_false] at z ⊢; omega))).trans (ga0 i hi)
      have PH_141 : bd_80 < 0 → x < x_75 ∧ p_77 = p + 1 ∧ PhO c1_81 p_77 t_78 := fun q => by obtain ⟨q1, q2, q3, q4, q5⟩ := HB_93 q; subst q2; exact ⟨q1, rfl, PhO.new PH ht_92 q3 q4 q5⟩
      have hb_142 := Nat.le_trans PT_86.1 PT_86.2.1
      have PHf : bd_80 < 0 → x < x_75 ∧ p < p_77 ∧ PhO c1_81 p_77 t_78 := fun q => by obtain ⟨q1, q2, q3⟩ := PH_141 q; exact ⟨by omega, by omega, q3⟩
      refine s_Model_group_106 l_94 e_95 g_100 (fun z_143 => ?_) (fun z_144 => ?_)
      · skip
        refine s_Model_group_114 l_94 e_95 g_134 g_122 g_101 g_133 e_114 (vp_in_nI (by omega) (by omega)) e_115 (vp_in_nI (by omega) (by omega)) g_137 g_123 e_118 (vp_in_nI (by omega) (by omega)) (Ne.symm (nd_ne ND (i := 8) (j := 11) rfl rfl (by decide))) ?_
        rw [xw_up_up]
        refine x_u3 (fun h_145 e_146 f_147 h_148 e_149 f_150 h_151 e_152 f_153 => ?_)
        have e_154 := (f_147 m (nd_ne ND (i := 0) (j := 8) rfl rfl (by decide))).trans e_95
        have e_155 := (f_147 asked_ (nd_ne ND (i := 1) (j := 8) rfl rfl (by decide))).trans e_112
        have e_156 := (f_147 firstToken_ (nd_ne ND (i := 2) (j := 8) rfl rfl (by decide))).trans e_104
        have e_157 := (f_147 starred_ (nd_ne ND (i := 3) (j := 8) rfl rfl (by decide))).trans e_105
        have e_158 := (f_147 tokenAt_ (nd_ne ND (i := 4) (j := 8) rfl rfl (by decide))).trans e_106
        have e_159 := (f_147 tokenSize_ (nd_ne ND (i := 5) (j := 8) rfl rfl (by decide))).trans e_107
        have e_160 := (f_147 groupKind_ (nd_ne ND (i := 6) (j := 8) rfl rfl (by decide))).trans e_113
        have e_161 := (f_147 groupPhrase_ (nd_ne ND (i := 7) (j := 8) rfl rfl (by decide))).trans e_114
        have e_162 := (f_147 groupMask_ (Ne.symm (nd_ne ND (i := 8) (j := 9) rfl rfl (by decide)))).trans e_116
        have e_163 := (f_147 groupFar_ (Ne.symm (nd_ne ND (i := 8) (j := 10) rfl rfl (by decide)))).trans e_117
        have e_164 := (f_147 out_ (Ne.symm (nd_ne ND (i := 8) (j := 11) rfl rfl (by decide)))).trans e_118
        have e_165 := (f_147 top_ (Ne.symm (nd_ne ND (i := 8) (j := 12) rfl rfl (by decide)))).trans e_119
        have e_166 := (f_147 masks_ (Ne.symm (nd_ne ND (i := 8) (j := 13) rfl rfl (by decide)))).trans e_120
        have r_167 := r_121.up (by simp) f_147
        have e_168 := (f_150 m (nd_ne ND (i := 0) (j := 11) rfl rfl (by decide))).trans e_154
        have e_169 := (f_150 asked_ (nd_ne ND (i := 1) (j := 11) rfl rfl (by decide))).trans e_155
        have e_170 := (f_150 firstToken_ (nd_ne ND (i := 2) (j := 11) rfl rfl (by decide))).trans e_156
        have e_171 := (f_150 starred_ (nd_ne ND (i := 3) (j := 11) rfl rfl (by decide))).trans e_157
        have e_172 := (f_150 tokenAt_ (nd_ne ND (i := 4) (j := 11) rfl rfl (by decide))).trans e_158
        have e_173 := (f_150 tokenSize_ (nd_ne ND (i := 5) (j := 11) rfl rfl (by decide))).trans e_159
        have e_174 := (f_150 groupKind_ (nd_ne ND (i := 6) (j := 11) rfl rfl (by decide))).trans e_160
        have e_175 := (f_150 groupPhrase_ (nd_ne ND (i := 7) (j := 11) rfl rfl (by decide))).trans e_161
        have e_176 := (f_150 groupSize_ (nd_ne ND (i := 8) (j := 11) rfl rfl (by decide))).trans e_146
        have e_177 := (f_150 groupMask_ (nd_ne ND (i := 9) (j := 11) rfl rfl (by decide))).trans e_162
        have e_178 := (f_150 groupFar_ (nd_ne ND (i := 10) (j := 11) rfl rfl (by decide))).trans e_163
        have e_179 := (f_150 top_ (Ne.symm (nd_ne ND (i := 11) (j := 12) rfl rfl (by decide)))).trans e_165
        have e_180 := (f_150 masks_ (Ne.symm (nd_ne ND (i := 11) (j := 13) rfl rfl (by decide)))).trans e_166
        have r_181 := r_167.up (by simp) f_150
        have e_182 := (f_153 asked_ (Ne.symm (nd_ne ND (i := 0) (j := 1) rfl rfl (by decide)))).trans e_169
        have e_183 := (f_153 firstToken_ (Ne.symm (nd_ne ND (i := 0) (j := 2) rfl rfl (by decide)))).trans e_170
        have e_184 := (f_153 starred_ (Ne.symm (nd_ne ND (i := 0) (j := 3) rfl rfl (by decide)))).trans e_171
        have e_185 := (f_153 tokenAt_ (Ne.symm (nd_ne ND (i := 0) (j := 4) rfl rfl (by decide)))).trans e_172
        have e_186 := (f_153 tokenSize_ (Ne.symm (nd_ne ND (i := 0) (j := 5) rfl rfl (by decide)))).trans e_173
        have e_187 := (f_153 groupKind_ (Ne.symm (nd_ne ND (i := 0) (j := 6) rfl rfl (by decide)))).trans e_174
        have e_188 := (f_153 groupPhrase_ (Ne.symm (nd_ne ND (i := 0) (j := 7) rfl rfl (by decide)))).trans e_175
        have e_189 := (f_153 groupSize_ (Ne.symm (nd_ne ND (i := 0) (j := 8) rfl rfl (by decide)))).trans e_176
        have e_190 := (f_153 groupMask_ (Ne.symm (nd_ne ND (i := 0) (j := 9) rfl rfl (by decide)))).trans e_177
        have e_191 := (f_153 groupFar_ (Ne.symm (nd_ne ND (i := 0) (j := 10) rfl rfl (by decide)))).trans e_178
        have e_192 := (f_153 out_ (Ne.symm (nd_ne ND (i := 0) (j := 11) rfl rfl (by decide)))).trans e_149
        have e_193 := (f_153 top_ (Ne.symm (nd_ne ND (i := 0) (j := 12) rfl rfl (by decide)))).trans e_179
        have e_194 := (f_153 masks_ (Ne.symm (nd_ne ND (i := 0) (j := 13) rfl rfl (by decide)))).trans e_180
        have r_195 := r_181.up (by simp) f_153
        obtain ⟨fs_196, z_197⟩ : ∃ z, z = (fs_85.set 37 (.int ((nI o) + 1))).set 36 (.int ((nI g) + 1)) := ⟨_, rfl⟩
        rw [← z_197] at e_152
        have l_198 : fs_196.length = 62 := by rw [z_197]; simp only [List.length_set]; exact l_94
        have g_199 : fs_196[(4 : Nat)]? = some (.ref asked_) := by rw [z_197]; exact (xw_gn (by decide) (xw_gn (by decide) g_127))
        have g_200 : fs_196[(11 : Nat)]? = some (.int (nI asz)) := by rw [z_197]; exact (xw_gn (by decide) (xw_gn (by decide) g_126))
        have g_201 : fs_196[(28 : Nat)]? = some (.int (nI x_75)) := by rw [z_197]; exact (xw_gn (by decide) (xw_gn (by decide) g_96))
        have g_202 : fs_196[(29 : Nat)]? = some (.int kd_79) := by rw [z_197]; exact (xw_gn (by decide) (xw_gn (by decide) g_97))
        have g_203 : fs_196[(30 : Nat)]? = some (.int (nI x_75)) := by rw [z_197]; exact (xw_gn (by decide) (xw_gn (by decide) g_98))
        have g_204 : fs_196[(31 : Nat)]? = some (.int (nI y_76)) := by rw [z_197]; exact (xw_gn (by decide) (xw_gn (by decide) g_99))
        have g_205 : fs_196[(33 : Nat)]? = some (.int bd_80) := by rw [z_197]; exact (xw_gn (by decide) (xw_gn (by decide) g_100))
        have g_206 : fs_196[(34 : Nat)]? = some (.int (nI p_77)) := by rw [z_197]; exact (xw_gn (by decide) (xw_gn (by decide) g_101))
        have g_207 : fs_196[(35 : Nat)]? = some (.int (nI t_78)) := by rw [z_197]; exact (xw_gn (by decide) (xw_gn (by decide) g_102))
        have g_208 : fs_196[(36 : Nat)]? = some (.int ((nI g) + 1)) := by rw [z_197]; exact (xw_gs (by simp [l_94]))
        have g_209 : fs_196[(37 : Nat)]? = some (.int ((nI o) + 1)) := by rw [z_197]; exact (xw_gn (by decide) (xw_gs (by simp [l_94])))
        have g_210 : fs_196[(38 : Nat)]? = some (.int (nI n)) := by rw [z_197]; exact (xw_gn (by decide) (xw_gn (by decide) g_124))
        have g_211 : fs_196[(39 : Nat)]? = some (.int mk) := by rw [z_197]; exact (xw_gn (by decide) (xw_gn (by decide) g_125))
        have g_212 : fs_196[(41 : Nat)]? = some (.ref firstToken_) := by rw [z_197]; exact (xw_gn (by decide) (xw_gn (by decide) g_128))
        have g_213 : fs_196[(42 : Nat)]? = some (.ref starred_) := by rw [z_197]; exact (xw_gn (by decide) (xw_gn (by decide) g_129))
        have g_214 : fs_196[(43 : Nat)]? = some (.ref tokenAt_) := by rw [z_197]; exact (xw_gn (by decide) (xw_gn (by decide) g_130))
        have g_215 : fs_196[(44 : Nat)]? = some (.ref tokenSize_) := by rw [z_197]; exact (xw_gn (by decide) (xw_gn (by decide) g_131))
        have g_216 : fs_196[(45 : Nat)]? = some (.ref groupKind_) := by rw [z_197]; exact (xw_gn (by decide) (xw_gn (by decide) g_132))
        have g_217 : fs_196[(46 : Nat)]? = some (.ref groupPhrase_) := by rw [z_197]; exact (xw_gn (by decide) (xw_gn (by decide) g_133))
        have g_218 : fs_196[(47 : Nat)]? = some (.ref groupSize_) := by rw [z_197]; exact (xw_gn (by decide) (xw_gn (by decide) g_134))
        have g_219 : fs_196[(48 : Nat)]? = some (.ref groupMask_) := by rw [z_197]; exact (xw_gn (by decide) (xw_gn (by decide) g_135))
        have g_220 : fs_196[(49 : Nat)]? = some (.ref groupFar_) := by rw [z_197]; exact (xw_gn (by decide) (xw_gn (by decide) g_136))
        have g_221 : fs_196[(50 : Nat)]? = some (.ref out_) := by rw [z_197]; exact (xw_gn (by decide) (xw_gn (by decide) g_137))
        have g_222 : fs_196[(51 : Nat)]? = some (.ref top_) := by rw [z_197]; exact (xw_gn (by decide) (xw_gn (by decide) g_138))
        have g_223 : fs_196[(52 : Nat)]? = some (.ref masks_) := by rw [z_197]; exact (xw_gn (by decide) (xw_gn (by decide) g_139))
        have ga_224 : ∀ i : Nat, i ∉ [28, 29, 30, 31, 33, 34, 35, 36, 37, 38, 39] → fs_196[i]? = fs[i]? := fun i hi => by rw [z_197]; exact xw_gn (fun z => hi (by rw [z]; simp)) (xw_gn (fun z => hi (by rw [z]; simp)) (ga_140 i hi))
        clear z_197
        obtain ⟨u1, u2, u3⟩ := PHf z_143
        rw [nI_clamp (show g < 2 ^ 31 by omega), pk_us] at e_189
        rw [nI_clamp (show o < 2 ^ 31 by omega)] at e_192
        rw [nI_1] at g_208 g_209
        refine s_Model_group_170 ?_
        refine x_callV (As := []) (b := m) (rest := []) (F1 := 1) (L1 := 20) (mc := 0) (ms := 0) d_Model_group_171 cV_Model_275 (f_closesFilters l_198 e_152 g_210 g_211 g_222 e_193 g_223 e_194 (nd_ne ND (i := 12) (j := 13) rfl rfl (by decide)) (by omega) (by omega) (by omega)) e_152 ⟨by decide, rfl⟩ ⟨by omega, by show 8 + (1 + 11) + 20 ≤ _; omega⟩ ⟨by omega, by omega⟩ (Nat.le_of_ble_eq_true rfl) (fun v_238 h_237 p_239 => ?_)
        obtain ⟨rfl, n_225, mk_226, fs_227, hn_228, hJ_229, hD_230, l_231, e_232, g_233, g_234, ga_235, r_236⟩ := p_239
        have e_240 := r_236 asked_ _ (by simp only [List.mem_cons, List.not_mem_nil, or_false, not_or]; exact (Ne.symm (nd_ne ND (i := 0) (j := 1) rfl rfl (by decide)))) e_182
        have e_241 := r_236 firstToken_ _ (by simp only [List.mem_cons, List.not_mem_nil, or_false, not_or]; exact (Ne.symm (nd_ne ND (i := 0) (j := 2) rfl rfl (by decide)))) e_183
        have e_242 := r_236 starred_ _ (by simp only [List.mem_cons, List.not_mem_nil, or_false, not_or]; exact (Ne.symm (nd_ne ND (i := 0) (j := 3) rfl rfl (by decide)))) e_184
        have e_243 := r_236 tokenAt_ _ (by simp only [List.mem_cons, List.not_mem_nil, or_false, not_or]; exact (Ne.symm (nd_ne ND (i := 0) (j := 4) rfl rfl (by decide)))) e_185
        have e_244 := r_236 tokenSize_ _ (by simp only [List.mem_cons, List.not_mem_nil, or_false, not_or]; exact (Ne.symm (nd_ne ND (i := 0) (j := 5) rfl rfl (by decide)))) e_186
        have e_245 := r_236 groupKind_ _ (by simp only [List.mem_cons, List.not_mem_nil, or_false, not_or]; exact (Ne.symm (nd_ne ND (i := 0) (j := 6) rfl rfl (by decide)))) e_187
        have e_246 := r_236 groupPhrase_ _ (by simp only [List.mem_cons, List.not_mem_nil, or_false, not_or]; exact (Ne.symm (nd_ne ND (i := 0) (j := 7) rfl rfl (by decide)))) e_188
        have e_247 := r_236 groupSize_ _ (by simp only [List.mem_cons, List.not_mem_nil, or_false, not_or]; exact (Ne.symm (nd_ne ND (i := 0) (j := 8) rfl rfl (by decide)))) e_189
        have e_248 := r_236 groupMask_ _ (by simp only [List.mem_cons, List.not_mem_nil, or_false, not_or]; exact (Ne.symm (nd_ne ND (i := 0) (j := 9) rfl rfl (by decide)))) e_190
        have e_249 := r_236 groupFar_ _ (by simp only [List.mem_cons, List.not_mem_nil, or_false, not_or]; exact (Ne.symm (nd_ne ND (i := 0) (j := 10) rfl rfl (by decide)))) e_191
        have e_250 := r_236 out_ _ (by simp only [List.mem_cons, List.not_mem_nil, or_false, not_or]; exact (Ne.symm (nd_ne ND (i := 0) (j := 11) rfl rfl (by decide)))) e_192
        have e_251 := r_236 top_ _ (by simp only [List.mem_cons, List.not_mem_nil, or_false, not_or]; exact (Ne.symm (nd_ne ND (i := 0) (j := 12) rfl rfl (by decide)))) e_193
        have e_252 := r_236 masks_ _ (by simp only [List.mem_cons, List.not_mem_nil, or_false, not_or]; exact (Ne.symm (nd_ne ND (i := 0) (j := 13) rfl rfl (by decide)))) e_194
        have r_253 := r_195.trans (r_236.mono (by simp))
        have g_254 : fs_227[(4 : Nat)]? = some (.ref asked_) := (ga_235 4 (by decide)).trans g_199
        have g_255 : fs_227[(11 : Nat)]? = some (.int (nI asz)) := (ga_235 11 (by decide)).trans g_200
        have g_256 : fs_227[(28 : Nat)]? = some (.int (nI x_75)) := (ga_235 28 (by decide)).trans g_201
        have g_257 : fs_227[(29 : Nat)]? = some (.int kd_79) := (ga_235 29 (by decide)).trans g_202
        have g_258 : fs_227[(30 : Nat)]? = some (.int (nI x_75)) := (ga_235 30 (by decide)).trans g_203
        have g_259 : fs_227[(31 : Nat)]? = some (.int (nI y_76)) := (ga_235 31 (by decide)).trans g_204
        have g_260 : fs_227[(33 : Nat)]? = some (.int bd_80) := (ga_235 33 (by decide)).trans g_205
        have g_261 : fs_227[(34 : Nat)]? = some (.int (nI p_77)) := (ga_235 34 (by decide)).trans g_206
        have g_262 : fs_227[(35 : Nat)]? = some (.int (nI t_78)) := (ga_235 35 (by decide)).trans g_207
        have g_263 : fs_227[(36 : Nat)]? = some (.int (nI (g + 1))) := (ga_235 36 (by decide)).trans g_208
        have g_264 : fs_227[(37 : Nat)]? = some (.int (nI (o + 1))) := (ga_235 37 (by decide)).trans g_209
        have g_265 : fs_227[(41 : Nat)]? = some (.ref firstToken_) := (ga_235 41 (by decide)).trans g_212
        have g_266 : fs_227[(42 : Nat)]? = some (.ref starred_) := (ga_235 42 (by decide)).trans g_213
        have g_267 : fs_227[(43 : Nat)]? = some (.ref tokenAt_) := (ga_235 43 (by decide)).trans g_214
        have g_268 : fs_227[(44 : Nat)]? = some (.ref tokenSize_) := (ga_235 44 (by decide)).trans g_215
        have g_269 : fs_227[(45 : Nat)]? = some (.ref groupKind_) := (ga_235 45 (by decide)).trans g_216
        have g_270 : fs_227[(46 : Nat)]? = some (.ref groupPhrase_) := (ga_235 46 (by decide)).trans g_217
        have g_271 : fs_227[(47 : Nat)]? = some (.ref groupSize_) := (ga_235 47 (by decide)).trans g_218
        have g_272 : fs_227[(48 : Nat)]? = some (.ref groupMask_) := (ga_235 48 (by decide)).trans g_219
        have g_273 : fs_227[(49 : Nat)]? = some (.ref groupFar_) := (ga_235 49 (by decide)).trans g_220
        have g_274 : fs_227[(50 : Nat)]? = some (.ref out_) := (ga_235 50 (by decide)).trans g_221
        have g_275 : fs_227[(51 : Nat)]? = some (.ref top_) := (ga_235 51 (by decide)).trans g_222
        have g_276 : fs_227[(52 : Nat)]? = some (.ref masks_) := (ga_235 52 (by decide)).trans g_223
        have ga_277 : ∀ i : Nat, i ∉ [28, 29, 30, 31, 33, 34, 35, 36, 37, 38, 39] → fs_227[i]? = fs[i]? := fun i hi => (ga_235 i (fun z => hi (by simp only [List.mem_cons, List.not_mem_nil, or_false] at z ⊢; omega))).trans (ga_224 i hi)
        refine x_le (xw_le_n xw_le_e) ?_
        refine s_Model_group_174 ?_
        exact ⟨rfl, _, _, _, _, (g + 1), (o + 1), n_225, _, _, _, _, _, _, _, _, _, _, _, _, _, _, PT_86, J_87, TK_88, by omega, by omega, by omega, by omega, by omega, fun _ => ⟨u1, u3, rfl, GR.new u2, rfl, rfl, hn_228, hJ_229, hD_230⟩, fun q => absurd z_143 q, l_231, e_232, g_256, g_257, g_258, g_259, g_260, g_261, g_262, g_263, g_264, g_233, g_234, ga_277, e_241, e_242, e_243, e_244, e_245, e_246, e_247, e_248, e_249, e_250, r_253⟩
      · skip
        refine s_Model_group_113 ?_
        exact ⟨rfl, _, _, _, _, g, o, n, _, _, _, _, _, _, _, _, _, _, _, _, _, _, PT_86, J_87, TK_88, by omega, by omega, by omega, by omega, by omega, fun q => absurd q z_144, fun _ => ⟨rfl, rfl, rfl⟩, l_94, e_95, g_96, g_97, g_98, g_99, g_100, g_101, g_102, g_122, g_123, g_124, g_125, ga_140, e_104, e_105, e_106, e_107, e_113, e_114, e_115, e_116, e_117, e_118, r_121⟩
    · skip
      refine s_Model_group_30 ?_
      refine s_Model_group_35 e_groupKind (vp_in_nI (by omega) (by omega)) l e g_groupPhrase g_groups g_phrases e_groupPhrase (vp_in_nI (by omega) (by omega)) (Ne.symm (nd_ne ND (i := 6) (j := 7) rfl rfl (by decide))) g_groupMask g_mask e_groupMask (vp_in_nI (by omega) (by omega)) (Ne.symm (nd_ne ND (i := 7) (j := 9) rfl rfl (by decide))) (Ne.symm (nd_ne ND (i := 6) (j := 9) rfl rfl (by decide))) g_groupFar e_groupFar (vp_in_nI (by omega) (by omega)) (Ne.symm (nd_ne ND (i := 9) (j := 10) rfl rfl (by decide))) (Ne.symm (nd_ne ND (i := 7) (j := 10) rfl rfl (by decide))) (Ne.symm (nd_ne ND (i := 6) (j := 10) rfl rfl (by decide))) ?_
      refine x_u4 (fun h_278 e_279 f_280 h_281 e_282 f_283 h_284 e_285 f_286 h_287 e_288 f_289 => ?_)
      have e_290 := (f_280 m (nd_ne ND (i := 0) (j := 6) rfl rfl (by decide))).trans e
      have e_291 := (f_280 asked_ (nd_ne ND (i := 1) (j := 6) rfl rfl (by decide))).trans e_asked
      have e_292 := (f_280 firstToken_ (nd_ne ND (i := 2) (j := 6) rfl rfl (by decide))).trans e_firstToken
      have e_293 := (f_280 starred_ (nd_ne ND (i := 3) (j := 6) rfl rfl (by decide))).trans e_starred
      have e_294 := (f_280 tokenAt_ (nd_ne ND (i := 4) (j := 6) rfl rfl (by decide))).trans e_tokenAt
      have e_295 := (f_280 tokenSize_ (nd_ne ND (i := 5) (j := 6) rfl rfl (by decide))).trans e_tokenSize
      have e_296 := (f_280 groupPhrase_ (Ne.symm (nd_ne ND (i := 6) (j := 7) rfl rfl (by decide)))).trans e_groupPhrase
      have e_297 := (f_280 groupSize_ (Ne.symm (nd_ne ND (i := 6) (j := 8) rfl rfl (by decide)))).trans e_groupSize
      have e_298 := (f_280 groupMask_ (Ne.symm (nd_ne ND (i := 6) (j := 9) rfl rfl (by decide)))).trans e_groupMask
      have e_299 := (f_280 groupFar_ (Ne.symm (nd_ne ND (i := 6) (j := 10) rfl rfl (by decide)))).trans e_groupFar
      have e_300 := (f_280 out_ (Ne.symm (nd_ne ND (i := 6) (j := 11) rfl rfl (by decide)))).trans e_out
      have e_301 := (f_280 top_ (Ne.symm (nd_ne ND (i := 6) (j := 12) rfl rfl (by decide)))).trans e_top
      have e_302 := (f_280 masks_ (Ne.symm (nd_ne ND (i := 6) (j := 13) rfl rfl (by decide)))).trans e_masks
      have r_303 := r0.up (by simp) f_280
      have e_304 := (f_283 m (nd_ne ND (i := 0) (j := 7) rfl rfl (by decide))).trans e_290
      have e_305 := (f_283 asked_ (nd_ne ND (i := 1) (j := 7) rfl rfl (by decide))).trans e_291
      have e_306 := (f_283 firstToken_ (nd_ne ND (i := 2) (j := 7) rfl rfl (by decide))).trans e_292
      have e_307 := (f_283 starred_ (nd_ne ND (i := 3) (j := 7) rfl rfl (by decide))).trans e_293
      have e_308 := (f_283 tokenAt_ (nd_ne ND (i := 4) (j := 7) rfl rfl (by decide))).trans e_294
      have e_309 := (f_283 tokenSize_ (nd_ne ND (i := 5) (j := 7) rfl rfl (by decide))).trans e_295
      have e_310 := (f_283 groupKind_ (nd_ne ND (i := 6) (j := 7) rfl rfl (by decide))).trans e_279
      have e_311 := (f_283 groupSize_ (Ne.symm (nd_ne ND (i := 7) (j := 8) rfl rfl (by decide)))).trans e_297
      have e_312 := (f_283 groupMask_ (Ne.symm (nd_ne ND (i := 7) (j := 9) rfl rfl (by decide)))).trans e_298
      have e_313 := (f_283 groupFar_ (Ne.symm (nd_ne ND (i := 7) (j := 10) rfl rfl (by decide)))).trans e_299
      have e_314 := (f_283 out_ (Ne.symm (nd_ne ND (i := 7) (j := 11) rfl rfl (by decide)))).trans e_300
      have e_315 := (f_283 top_ (Ne.symm (nd_ne ND (i := 7) (j := 12) rfl rfl (by decide)))).trans e_301
      have e_316 := (f_283 masks_ (Ne.symm (nd_ne ND (i := 7) (j := 13) rfl rfl (by decide)))).trans e_302
      have r_317 := r_303.up (by simp) f_283
      have e_318 := (f_286 m (nd_ne ND (i := 0) (j := 9) rfl rfl (by decide))).trans e_304
      have e_319 := (f_286 asked_ (nd_ne ND (i := 1) (j := 9) rfl rfl (by decide))).trans e_305
      have e_320 := (f_286 firstToken_ (nd_ne ND (i := 2) (j := 9) rfl rfl (by decide))).trans e_306
      have e_321 := (f_286 starred_ (nd_ne ND (i := 3) (j := 9) rfl rfl (by decide))).trans e_307
      have e_322 := (f_286 tokenAt_ (nd_ne ND (i := 4) (j := 9) rfl rfl (by decide))).trans e_308
      have e_323 := (f_286 tokenSize_ (nd_ne ND (i := 5) (j := 9) rfl rfl (by decide))).trans e_309
      have e_324 := (f_286 groupKind_ (nd_ne ND (i := 6) (j := 9) rfl rfl (by decide))).trans e_310
      have e_325 := (f_286 groupPhrase_ (nd_ne ND (i := 7) (j := 9) rfl rfl (by decide))).trans e_282
      have e_326 := (f_286 groupSize_ (nd_ne ND (i := 8) (j := 9) rfl rfl (by decide))).trans e_311
      have e_327 := (f_286 groupFar_ (Ne.symm (nd_ne ND (i := 9) (j := 10) rfl rfl (by decide)))).trans e_313
      have e_328 := (f_286 out_ (Ne.symm (nd_ne ND (i := 9) (j := 11) rfl rfl (by decide)))).trans e_314
      have e_329 := (f_286 top_ (Ne.symm (nd_ne ND (i := 9) (j := 12) rfl rfl (by decide)))).trans e_315
      have e_330 := (f_286 masks_ (Ne.symm (nd_ne ND (i := 9) (j := 13) rfl rfl (by decide)))).trans e_316
      have r_331 := r_317.up (by simp) f_286
      have e_332 := (f_289 m (nd_ne ND (i := 0) (j := 10) rfl rfl (by decide))).trans e_318
      have e_333 := (f_289 asked_ (nd_ne ND (i := 1) (j := 10) rfl rfl (by decide))).trans e_319
      have e_334 := (f_289 firstToken_ (nd_ne ND (i := 2) (j := 10) rfl rfl (by decide))).trans e_320
      have e_335 := (f_289 starred_ (nd_ne ND (i := 3) (j := 10) rfl rfl (by decide))).trans e_321
      have e_336 := (f_289 tokenAt_ (nd_ne ND (i := 4) (j := 10) rfl rfl (by decide))).trans e_322
      have e_337 := (f_289 tokenSize_ (nd_ne ND (i := 5) (j := 10) rfl rfl (by decide))).trans e_323
      have e_338 := (f_289 groupKind_ (nd_ne ND (i := 6) (j := 10) rfl rfl (by decide))).trans e_324
      have e_339 := (f_289 groupPhrase_ (nd_ne ND (i := 7) (j := 10) rfl rfl (by decide))).trans e_325
      have e_340 := (f_289 groupSize_ (nd_ne ND (i := 8) (j := 10) rfl rfl (by decide))).trans e_326
      have e_341 := (f_289 groupMask_ (nd_ne ND (i := 9) (j := 10) rfl rfl (by decide))).trans e_285
      have e_342 := (f_289 out_ (Ne.symm (nd_ne ND (i := 10) (j := 11) rfl rfl (by decide)))).trans e_328
      have e_343 := (f_289 top_ (Ne.symm (nd_ne ND (i := 10) (j := 12) rfl rfl (by decide)))).trans e_329
      have e_344 := (f_289 masks_ (Ne.symm (nd_ne ND (i := 10) (j := 13) rfl rfl (by decide)))).trans e_330
      have r_345 := r_331.up (by simp) f_289
      rw [nI_clamp (show g < 2 ^ 31 by omega)] at e_339
      refine s_Model_group_73 l e_332 g_kind (fun z => absurd z_4 z) (fun z_346 => ?_)
      refine s_Model_group_82 ?_
      refine x_callV (As := []) (b := m) (rest := []) (F1 := 6) (L1 := 127) (mc := 0) (ms := 0) d_Model_group_83 cV_Model_269 (f_near l e_332 g_at g_kind g_from g_to g_bad g_phrases g_tokens g_groups g_askedSize g_asked e_333 g_firstToken e_334 g_starred e_335 g_tokenAt e_336 g_tokenSize e_337 g_groupFar e_288 (nd_ne ND (i := 2) (j := 3) rfl rfl (by decide)) (nd_ne ND (i := 2) (j := 10) rfl rfl (by decide)) (nd_ne ND (i := 3) (j := 10) rfl rfl (by decide)) (nd_ne ND (i := 4) (j := 5) rfl rfl (by decide)) hasz PT J TK PH hbd (by omega) (by omega) hk0 (by omega) (by omega)) e_332 ⟨by decide, rfl⟩ ⟨by omega, by show 8 + (4 + 11) + 127 ≤ _; omega⟩ ⟨by omega, by omega⟩ (Nat.le_of_ble_eq_true rfl) (fun v_384 h_383 p_385 => ?_)
      obtain ⟨rfl, x_347, y_348, p_349, t_350, kd_351, bd_352, c1_353, c2_354, ca_355, cs_356, c9_357, fs_358, PT_359, J_360, TK_361, hx_362, hp_363, hp12_364, ht_365, HB_366, l_367, e_368, g_369, g_370, g_371, g_372, g_373, g_374, g_375, ga_376, e_377, e_378, e_379, e_380, e_381, r_382⟩ := p_385
      have e_386 := r_382 asked_ _ (by simp only [List.mem_cons, List.not_mem_nil, or_false, not_or]; exact ⟨(Ne.symm (nd_ne ND (i := 0) (j := 1) rfl rfl (by decide))), (nd_ne ND (i := 1) (j := 2) rfl rfl (by decide)), (nd_ne ND (i := 1) (j := 3) rfl rfl (by decide)), (nd_ne ND (i := 1) (j := 4) rfl rfl (by decide)), (nd_ne ND (i := 1) (j := 5) rfl rfl (by decide)), (nd_ne ND (i := 1) (j := 10) rfl rfl (by decide))⟩) e_333
      have e_387 := r_382 groupKind_ _ (by simp only [List.mem_cons, List.not_mem_nil, or_false, not_or]; exact ⟨(Ne.symm (nd_ne ND (i := 0) (j := 6) rfl rfl (by decide))), (Ne.symm (nd_ne ND (i := 2) (j := 6) rfl rfl (by decide))), (Ne.symm (nd_ne ND (i := 3) (j := 6) rfl rfl (by decide))), (Ne.symm (nd_ne ND (i := 4) (j := 6) rfl rfl (by decide))), (Ne.symm (nd_ne ND (i := 5) (j := 6) rfl rfl (by decide))), (nd_ne ND (i := 6) (j := 10) rfl rfl (by decide))⟩) e_338
      have e_388 := r_382 groupPhrase_ _ (by simp only [List.mem_cons, List.not_mem_nil, or_false, not_or]; exact ⟨(Ne.symm (nd_ne ND (i := 0) (j := 7) rfl rfl (by decide))), (Ne.symm (nd_ne ND (i := 2) (j := 7) rfl rfl (by decide))), (Ne.symm (nd_ne ND (i := 3) (j := 7) rfl rfl (by decide))), (Ne.symm (nd_ne ND (i := 4) (j := 7) rfl rfl (by decide))), (Ne.symm (nd_ne ND (i := 5) (j := 7) rfl rfl (by decide))), (nd_ne ND (i := 7) (j := 10) rfl rfl (by decide))⟩) e_339
      have e_389 := r_382 groupSize_ _ (by simp only [List.mem_cons, List.not_mem_nil, or_false, not_or]; exact ⟨(Ne.symm (nd_ne ND (i := 0) (j := 8) rfl rfl (by decide))), (Ne.symm (nd_ne ND (i := 2) (j := 8) rfl rfl (by decide))), (Ne.symm (nd_ne ND (i := 3) (j := 8) rfl rfl (by decide))), (Ne.symm (nd_ne ND (i := 4) (j := 8) rfl rfl (by decide))), (Ne.symm (nd_ne ND (i := 5) (j := 8) rfl rfl (by decide))), (nd_ne ND (i := 8) (j := 10) rfl rfl (by decide))⟩) e_340
      have e_390 := r_382 groupMask_ _ (by simp only [List.mem_cons, List.not_mem_nil, or_false, not_or]; exact ⟨(Ne.symm (nd_ne ND (i := 0) (j := 9) rfl rfl (by decide))), (Ne.symm (nd_ne ND (i := 2) (j := 9) rfl rfl (by decide))), (Ne.symm (nd_ne ND (i := 3) (j := 9) rfl rfl (by decide))), (Ne.symm (nd_ne ND (i := 4) (j := 9) rfl rfl (by decide))), (Ne.symm (nd_ne ND (i := 5) (j := 9) rfl rfl (by decide))), (nd_ne ND (i := 9) (j := 10) rfl rfl (by decide))⟩) e_341
      have e_391 := r_382 out_ _ (by simp only [List.mem_cons, List.not_mem_nil, or_false, not_or]; exact ⟨(Ne.symm (nd_ne ND (i := 0) (j := 11) rfl rfl (by decide))), (Ne.symm (nd_ne ND (i := 2) (j := 11) rfl rfl (by decide))), (Ne.symm (nd_ne ND (i := 3) (j := 11) rfl rfl (by decide))), (Ne.symm (nd_ne ND (i := 4) (j := 11) rfl rfl (by decide))), (Ne.symm (nd_ne ND (i := 5) (j := 11) rfl rfl (by decide))), (Ne.symm (nd_ne ND (i := 10) (j := 11) rfl rfl (by decide)))⟩) e_342
      have e_392 := r_382 top_ _ (by simp only [List.mem_cons, List.not_mem_nil, or_false, not_or]; exact ⟨(Ne.symm (nd_ne ND (i := 0) (j := 12) rfl rfl (by decide))), (Ne.symm (nd_ne ND (i := 2) (j := 12) rfl rfl (by decide))), (Ne.symm (nd_ne ND (i := 3) (j := 12) rfl rfl (by decide))), (Ne.symm (nd_ne ND (i := 4) (j := 12) rfl rfl (by decide))), (Ne.symm (nd_ne ND (i := 5) (j := 12) rfl rfl (by decide))), (Ne.symm (nd_ne ND (i := 10) (j := 12) rfl rfl (by decide)))⟩) e_343
      have e_393 := r_382 masks_ _ (by simp only [List.mem_cons, List.not_mem_nil, or_false, not_or]; exact ⟨(Ne.symm (nd_ne ND (i := 0) (j := 13) rfl rfl (by decide))), (Ne.symm (nd_ne ND (i := 2) (j := 13) rfl rfl (by decide))), (Ne.symm (nd_ne ND (i := 3) (j := 13) rfl rfl (by decide))), (Ne.symm (nd_ne ND (i := 4) (j := 13) rfl rfl (by decide))), (Ne.symm (nd_ne ND (i := 5) (j := 13) rfl rfl (by decide))), (Ne.symm (nd_ne ND (i := 10) (j := 13) rfl rfl (by decide)))⟩) e_344
      have r_394 := r_345.trans (r_382.mono (by simp))
      have g_395 : fs_358[(36 : Nat)]? = some (.int (nI g)) := (ga_376 36 (by decide)).trans g_groups
      have g_396 : fs_358[(37 : Nat)]? = some (.int (nI o)) := (ga_376 37 (by decide)).trans g_outs
      have g_397 : fs_358[(38 : Nat)]? = some (.int (nI n)) := (ga_376 38 (by decide)).trans g_tops
      have g_398 : fs_358[(39 : Nat)]? = some (.int mk) := (ga_376 39 (by decide)).trans g_mask
      have g_399 : fs_358[(11 : Nat)]? = some (.int (nI asz)) := (ga_376 11 (by decide)).trans g_askedSize
      have g_400 : fs_358[(4 : Nat)]? = some (.ref asked_) := (ga_376 4 (by decide)).trans g_asked
      have g_401 : fs_358[(41 : Nat)]? = some (.ref firstToken_) := (ga_376 41 (by decide)).trans g_firstToken
      have g_402 : fs_358[(42 : Nat)]? = some (.ref starred_) := (ga_376 42 (by decide)).trans g_starred
      have g_403 : fs_358[(43 : Nat)]? = some (.ref tokenAt_) := (ga_376 43 (by decide)).trans g_tokenAt
      have g_404 : fs_358[(44 : Nat)]? = some (.ref tokenSize_) := (ga_376 44 (by decide)).trans g_tokenSize
      have g_405 : fs_358[(45 : Nat)]? = some (.ref groupKind_) := (ga_376 45 (by decide)).trans g_groupKind
      have g_406 : fs_358[(46 : Nat)]? = some (.ref groupPhrase_) := (ga_376 46 (by decide)).trans g_groupPhrase
      have g_407 : fs_358[(47 : Nat)]? = some (.ref groupSize_) := (ga_376 47 (by decide)).trans g_groupSize
      have g_408 : fs_358[(48 : Nat)]? = some (.ref groupMask_) := (ga_376 48 (by decide)).trans g_groupMask
      have g_409 : fs_358[(49 : Nat)]? = some (.ref groupFar_) := (ga_376 49 (by decide)).trans g_groupFar
      have g_410 : fs_358[(50 : Nat)]? = some (.ref out_) := (ga_376 50 (by decide)).trans g_out
      have g_411 : fs_358[(51 : Nat)]? = some (.ref top_) := (ga_376 51 (by decide)).trans g_top
      have g_412 : fs_358[(52 : Nat)]? = some (.ref masks_) := (ga_376 52 (by decide)).trans g_masks
      have ga_413 : ∀ i : Nat, i ∉ [28, 29, 30, 31, 33, 34, 35, 36, 37, 38, 39] → fs_358[i]? = fs[i]? := fun i hi => (ga_376 i (fun z => hi (by simp only [List.mem_cons, List.not_mem_nil, or_false] at z ⊢; omega))).trans (ga0 i hi)
      have hb_414 := Nat.le_trans PT_359.1 PT_359.2.1
      refine s_Model_group_86 ?_
      have PHf := HB_366
      refine s_Model_group_106 l_367 e_368 g_373 (fun z_415 => ?_) (fun z_416 => ?_)
      · skip
        refine s_Model_group_114 l_367 e_368 g_407 g_395 g_374 g_406 e_388 (vp_in_nI (by omega) (by omega)) e_389 (vp_in_nI (by omega) (by omega)) g_410 g_396 e_391 (vp_in_nI (by omega) (by omega)) (Ne.symm (nd_ne ND (i := 8) (j := 11) rfl rfl (by decide))) ?_
        rw [xw_up_up]
        refine x_u3 (fun h_417 e_418 f_419 h_420 e_421 f_422 h_423 e_424 f_425 => ?_)
        have e_426 := (f_419 m (nd_ne ND (i := 0) (j := 8) rfl rfl (by decide))).trans e_368
        have e_427 := (f_419 asked_ (nd_ne ND (i := 1) (j := 8) rfl rfl (by decide))).trans e_386
        have e_428 := (f_419 firstToken_ (nd_ne ND (i := 2) (j := 8) rfl rfl (by decide))).trans e_377
        have e_429 := (f_419 starred_ (nd_ne ND (i := 3) (j := 8) rfl rfl (by decide))).trans e_378
        have e_430 := (f_419 tokenAt_ (nd_ne ND (i := 4) (j := 8) rfl rfl (by decide))).trans e_379
        have e_431 := (f_419 tokenSize_ (nd_ne ND (i := 5) (j := 8) rfl rfl (by decide))).trans e_380
        have e_432 := (f_419 groupKind_ (nd_ne ND (i := 6) (j := 8) rfl rfl (by decide))).trans e_387
        have e_433 := (f_419 groupPhrase_ (nd_ne ND (i := 7) (j := 8) rfl rfl (by decide))).trans e_388
        have e_434 := (f_419 groupMask_ (Ne.symm (nd_ne ND (i := 8) (j := 9) rfl rfl (by decide)))).trans e_390
        have e_435 := (f_419 groupFar_ (Ne.symm (nd_ne ND (i := 8) (j := 10) rfl rfl (by decide)))).trans e_381
        have e_436 := (f_419 out_ (Ne.symm (nd_ne ND (i := 8) (j := 11) rfl rfl (by decide)))).trans e_391
        have e_437 := (f_419 top_ (Ne.symm (nd_ne ND (i := 8) (j := 12) rfl rfl (by decide)))).trans e_392
        have e_438 := (f_419 masks_ (Ne.symm (nd_ne ND (i := 8) (j := 13) rfl rfl (by decide)))).trans e_393
        have r_439 := r_394.up (by simp) f_419
        have e_440 := (f_422 m (nd_ne ND (i := 0) (j := 11) rfl rfl (by decide))).trans e_426
        have e_441 := (f_422 asked_ (nd_ne ND (i := 1) (j := 11) rfl rfl (by decide))).trans e_427
        have e_442 := (f_422 firstToken_ (nd_ne ND (i := 2) (j := 11) rfl rfl (by decide))).trans e_428
        have e_443 := (f_422 starred_ (nd_ne ND (i := 3) (j := 11) rfl rfl (by decide))).trans e_429
        have e_444 := (f_422 tokenAt_ (nd_ne ND (i := 4) (j := 11) rfl rfl (by decide))).trans e_430
        have e_445 := (f_422 tokenSize_ (nd_ne ND (i := 5) (j := 11) rfl rfl (by decide))).trans e_431
        have e_446 := (f_422 groupKind_ (nd_ne ND (i := 6) (j := 11) rfl rfl (by decide))).trans e_432
        have e_447 := (f_422 groupPhrase_ (nd_ne ND (i := 7) (j := 11) rfl rfl (by decide))).trans e_433
        have e_448 := (f_422 groupSize_ (nd_ne ND (i := 8) (j := 11) rfl rfl (by decide))).trans e_418
        have e_449 := (f_422 groupMask_ (nd_ne ND (i := 9) (j := 11) rfl rfl (by decide))).trans e_434
        have e_450 := (f_422 groupFar_ (nd_ne ND (i := 10) (j := 11) rfl rfl (by decide))).trans e_435
        have e_451 := (f_422 top_ (Ne.symm (nd_ne ND (i := 11) (j := 12) rfl rfl (by decide)))).trans e_437
        have e_452 := (f_422 masks_ (Ne.symm (nd_ne ND (i := 11) (j := 13) rfl rfl (by decide)))).trans e_438
        have r_453 := r_439.up (by simp) f_422
        have e_454 := (f_425 asked_ (Ne.symm (nd_ne ND (i := 0) (j := 1) rfl rfl (by decide)))).trans e_441
        have e_455 := (f_425 firstToken_ (Ne.symm (nd_ne ND (i := 0) (j := 2) rfl rfl (by decide)))).trans e_442
        have e_456 := (f_425 starred_ (Ne.symm (nd_ne ND (i := 0) (j := 3) rfl rfl (by decide)))).trans e_443
        have e_457 := (f_425 tokenAt_ (Ne.symm (nd_ne ND (i := 0) (j := 4) rfl rfl (by decide)))).trans e_444
        have e_458 := (f_425 tokenSize_ (Ne.symm (nd_ne ND (i := 0) (j := 5) rfl rfl (by decide)))).trans e_445
        have e_459 := (f_425 groupKind_ (Ne.symm (nd_ne ND (i := 0) (j := 6) rfl rfl (by decide)))).trans e_446
        have e_460 := (f_425 groupPhrase_ (Ne.symm (nd_ne ND (i := 0) (j := 7) rfl rfl (by decide)))).trans e_447
        have e_461 := (f_425 groupSize_ (Ne.symm (nd_ne ND (i := 0) (j := 8) rfl rfl (by decide)))).trans e_448
        have e_462 := (f_425 groupMask_ (Ne.symm (nd_ne ND (i := 0) (j := 9) rfl rfl (by decide)))).trans e_449
        have e_463 := (f_425 groupFar_ (Ne.symm (nd_ne ND (i := 0) (j := 10) rfl rfl (by decide)))).trans e_450
        have e_464 := (f_425 out_ (Ne.symm (nd_ne ND (i := 0) (j := 11) rfl rfl (by decide)))).trans e_421
        have e_465 := (f_425 top_ (Ne.symm (nd_ne ND (i := 0) (j := 12) rfl rfl (by decide)))).trans e_451
        have e_466 := (f_425 masks_ (Ne.symm (nd_ne ND (i := 0) (j := 13) rfl rfl (by decide)))).trans e_452
        have r_467 := r_453.up (by simp) f_425
        obtain ⟨fs_468, z_469⟩ : ∃ z, z = (fs_358.set 37 (.int ((nI o) + 1))).set 36 (.int ((nI g) + 1)) := ⟨_, rfl⟩
        rw [← z_469] at e_424
        have l_470 : fs_468.length = 62 := by rw [z_469]; simp only [List.length_set]; exact l_367
        have g_471 : fs_468[(4 : Nat)]? = some (.ref asked_) := by rw [z_469]; exact (xw_gn (by decide) (xw_gn (by decide) g_400))
        have g_472 : fs_468[(11 : Nat)]? = some (.int (nI asz)) := by rw [z_469]; exact (xw_gn (by decide) (xw_gn (by decide) g_399))
        have g_473 : fs_468[(28 : Nat)]? = some (.int (nI x_347)) := by rw [z_469]; exact (xw_gn (by decide) (xw_gn (by decide) g_369))
        have g_474 : fs_468[(29 : Nat)]? = some (.int kd_351) := by rw [z_469]; exact (xw_gn (by decide) (xw_gn (by decide) g_370))
        have g_475 : fs_468[(30 : Nat)]? = some (.int (nI x_347)) := by rw [z_469]; exact (xw_gn (by decide) (xw_gn (by decide) g_371))
        have g_476 : fs_468[(31 : Nat)]? = some (.int (nI y_348)) := by rw [z_469]; exact (xw_gn (by decide) (xw_gn (by decide) g_372))
        have g_477 : fs_468[(33 : Nat)]? = some (.int bd_352) := by rw [z_469]; exact (xw_gn (by decide) (xw_gn (by decide) g_373))
        have g_478 : fs_468[(34 : Nat)]? = some (.int (nI p_349)) := by rw [z_469]; exact (xw_gn (by decide) (xw_gn (by decide) g_374))
        have g_479 : fs_468[(35 : Nat)]? = some (.int (nI t_350)) := by rw [z_469]; exact (xw_gn (by decide) (xw_gn (by decide) g_375))
        have g_480 : fs_468[(36 : Nat)]? = some (.int ((nI g) + 1)) := by rw [z_469]; exact (xw_gs (by simp [l_367]))
        have g_481 : fs_468[(37 : Nat)]? = some (.int ((nI o) + 1)) := by rw [z_469]; exact (xw_gn (by decide) (xw_gs (by simp [l_367])))
        have g_482 : fs_468[(38 : Nat)]? = some (.int (nI n)) := by rw [z_469]; exact (xw_gn (by decide) (xw_gn (by decide) g_397))
        have g_483 : fs_468[(39 : Nat)]? = some (.int mk) := by rw [z_469]; exact (xw_gn (by decide) (xw_gn (by decide) g_398))
        have g_484 : fs_468[(41 : Nat)]? = some (.ref firstToken_) := by rw [z_469]; exact (xw_gn (by decide) (xw_gn (by decide) g_401))
        have g_485 : fs_468[(42 : Nat)]? = some (.ref starred_) := by rw [z_469]; exact (xw_gn (by decide) (xw_gn (by decide) g_402))
        have g_486 : fs_468[(43 : Nat)]? = some (.ref tokenAt_) := by rw [z_469]; exact (xw_gn (by decide) (xw_gn (by decide) g_403))
        have g_487 : fs_468[(44 : Nat)]? = some (.ref tokenSize_) := by rw [z_469]; exact (xw_gn (by decide) (xw_gn (by decide) g_404))
        have g_488 : fs_468[(45 : Nat)]? = some (.ref groupKind_) := by rw [z_469]; exact (xw_gn (by decide) (xw_gn (by decide) g_405))
        have g_489 : fs_468[(46 : Nat)]? = some (.ref groupPhrase_) := by rw [z_469]; exact (xw_gn (by decide) (xw_gn (by decide) g_406))
        have g_490 : fs_468[(47 : Nat)]? = some (.ref groupSize_) := by rw [z_469]; exact (xw_gn (by decide) (xw_gn (by decide) g_407))
        have g_491 : fs_468[(48 : Nat)]? = some (.ref groupMask_) := by rw [z_469]; exact (xw_gn (by decide) (xw_gn (by decide) g_408))
        have g_492 : fs_468[(49 : Nat)]? = some (.ref groupFar_) := by rw [z_469]; exact (xw_gn (by decide) (xw_gn (by decide) g_409))
        have g_493 : fs_468[(50 : Nat)]? = some (.ref out_) := by rw [z_469]; exact (xw_gn (by decide) (xw_gn (by decide) g_410))
        have g_494 : fs_468[(51 : Nat)]? = some (.ref top_) := by rw [z_469]; exact (xw_gn (by decide) (xw_gn (by decide) g_411))
        have g_495 : fs_468[(52 : Nat)]? = some (.ref masks_) := by rw [z_469]; exact (xw_gn (by decide) (xw_gn (by decide) g_412))
        have ga_496 : ∀ i : Nat, i ∉ [28, 29, 30, 31, 33, 34, 35, 36, 37, 38, 39] → fs_468[i]? = fs[i]? := fun i hi => by rw [z_469]; exact xw_gn (fun z => hi (by rw [z]; simp)) (xw_gn (fun z => hi (by rw [z]; simp)) (ga_413 i hi))
        clear z_469
        obtain ⟨u1, u2, u3⟩ := PHf z_415
        rw [nI_clamp (show g < 2 ^ 31 by omega), pk_us] at e_461
        rw [nI_clamp (show o < 2 ^ 31 by omega)] at e_464
        rw [nI_1] at g_480 g_481
        refine s_Model_group_170 ?_
        refine x_callV (As := []) (b := m) (rest := []) (F1 := 1) (L1 := 20) (mc := 0) (ms := 0) d_Model_group_171 cV_Model_275 (f_closesFilters l_470 e_424 g_482 g_483 g_494 e_465 g_495 e_466 (nd_ne ND (i := 12) (j := 13) rfl rfl (by decide)) (by omega) (by omega) (by omega)) e_424 ⟨by decide, rfl⟩ ⟨by omega, by show 8 + (1 + 11) + 20 ≤ _; omega⟩ ⟨by omega, by omega⟩ (Nat.le_of_ble_eq_true rfl) (fun v_510 h_509 p_511 => ?_)
        obtain ⟨rfl, n_497, mk_498, fs_499, hn_500, hJ_501, hD_502, l_503, e_504, g_505, g_506, ga_507, r_508⟩ := p_511
        have e_512 := r_508 asked_ _ (by simp only [List.mem_cons, List.not_mem_nil, or_false, not_or]; exact (Ne.symm (nd_ne ND (i := 0) (j := 1) rfl rfl (by decide)))) e_454
        have e_513 := r_508 firstToken_ _ (by simp only [List.mem_cons, List.not_mem_nil, or_false, not_or]; exact (Ne.symm (nd_ne ND (i := 0) (j := 2) rfl rfl (by decide)))) e_455
        have e_514 := r_508 starred_ _ (by simp only [List.mem_cons, List.not_mem_nil, or_false, not_or]; exact (Ne.symm (nd_ne ND (i := 0) (j := 3) rfl rfl (by decide)))) e_456
        have e_515 := r_508 tokenAt_ _ (by simp only [List.mem_cons, List.not_mem_nil, or_false, not_or]; exact (Ne.symm (nd_ne ND (i := 0) (j := 4) rfl rfl (by decide)))) e_457
        have e_516 := r_508 tokenSize_ _ (by simp only [List.mem_cons, List.not_mem_nil, or_false, not_or]; exact (Ne.symm (nd_ne ND (i := 0) (j := 5) rfl rfl (by decide)))) e_458
        have e_517 := r_508 groupKind_ _ (by simp only [List.mem_cons, List.not_mem_nil, or_false, not_or]; exact (Ne.symm (nd_ne ND (i := 0) (j := 6) rfl rfl (by decide)))) e_459
        have e_518 := r_508 groupPhrase_ _ (by simp only [List.mem_cons, List.not_mem_nil, or_false, not_or]; exact (Ne.symm (nd_ne ND (i := 0) (j := 7) rfl rfl (by decide)))) e_460
        have e_519 := r_508 groupSize_ _ (by simp only [List.mem_cons, List.not_mem_nil, or_false, not_or]; exact (Ne.symm (nd_ne ND (i := 0) (j := 8) rfl rfl (by decide)))) e_461
        have e_520 := r_508 groupMask_ _ (by simp only [List.mem_cons, List.not_mem_nil, or_false, not_or]; exact (Ne.symm (nd_ne ND (i := 0) (j := 9) rfl rfl (by decide)))) e_462
        have e_521 := r_508 groupFar_ _ (by simp only [List.mem_cons, List.not_mem_nil, or_false, not_or]; exact (Ne.symm (nd_ne ND (i := 0) (j := 10) rfl rfl (by decide)))) e_463
        have e_522 := r_508 out_ _ (by simp only [List.mem_cons, List.not_mem_nil, or_false, not_or]; exact (Ne.symm (nd_ne ND (i := 0) (j := 11) rfl rfl (by decide)))) e_464
        have e_523 := r_508 top_ _ (by simp only [List.mem_cons, List.not_mem_nil, or_false, not_or]; exact (Ne.symm (nd_ne ND (i := 0) (j := 12) rfl rfl (by decide)))) e_465
        have e_524 := r_508 masks_ _ (by simp only [List.mem_cons, List.not_mem_nil, or_false, not_or]; exact (Ne.symm (nd_ne ND (i := 0) (j := 13) rfl rfl (by decide)))) e_466
        have r_525 := r_467.trans (r_508.mono (by simp))
        have g_526 : fs_499[(4 : Nat)]? = some (.ref asked_) := (ga_507 4 (by decide)).trans g_471
        have g_527 : fs_499[(11 : Nat)]? = some (.int (nI asz)) := (ga_507 11 (by decide)).trans g_472
        have g_528 : fs_499[(28 : Nat)]? = some (.int (nI x_347)) := (ga_507 28 (by decide)).trans g_473
        have g_529 : fs_499[(29 : Nat)]? = some (.int kd_351) := (ga_507 29 (by decide)).trans g_474
        have g_530 : fs_499[(30 : Nat)]? = some (.int (nI x_347)) := (ga_507 30 (by decide)).trans g_475
        have g_531 : fs_499[(31 : Nat)]? = some (.int (nI y_348)) := (ga_507 31 (by decide)).trans g_476
        have g_532 : fs_499[(33 : Nat)]? = some (.int bd_352) := (ga_507 33 (by decide)).trans g_477
        have g_533 : fs_499[(34 : Nat)]? = some (.int (nI p_349)) := (ga_507 34 (by decide)).trans g_478
        have g_534 : fs_499[(35 : Nat)]? = some (.int (nI t_350)) := (ga_507 35 (by decide)).trans g_479
        have g_535 : fs_499[(36 : Nat)]? = some (.int (nI (g + 1))) := (ga_507 36 (by decide)).trans g_480
        have g_536 : fs_499[(37 : Nat)]? = some (.int (nI (o + 1))) := (ga_507 37 (by decide)).trans g_481
        have g_537 : fs_499[(41 : Nat)]? = some (.ref firstToken_) := (ga_507 41 (by decide)).trans g_484
        have g_538 : fs_499[(42 : Nat)]? = some (.ref starred_) := (ga_507 42 (by decide)).trans g_485
        have g_539 : fs_499[(43 : Nat)]? = some (.ref tokenAt_) := (ga_507 43 (by decide)).trans g_486
        have g_540 : fs_499[(44 : Nat)]? = some (.ref tokenSize_) := (ga_507 44 (by decide)).trans g_487
        have g_541 : fs_499[(45 : Nat)]? = some (.ref groupKind_) := (ga_507 45 (by decide)).trans g_488
        have g_542 : fs_499[(46 : Nat)]? = some (.ref groupPhrase_) := (ga_507 46 (by decide)).trans g_489
        have g_543 : fs_499[(47 : Nat)]? = some (.ref groupSize_) := (ga_507 47 (by decide)).trans g_490
        have g_544 : fs_499[(48 : Nat)]? = some (.ref groupMask_) := (ga_507 48 (by decide)).trans g_491
        have g_545 : fs_499[(49 : Nat)]? = some (.ref groupFar_) := (ga_507 49 (by decide)).trans g_492
        have g_546 : fs_499[(50 : Nat)]? = some (.ref out_) := (ga_507 50 (by decide)).trans g_493
        have g_547 : fs_499[(51 : Nat)]? = some (.ref top_) := (ga_507 51 (by decide)).trans g_494
        have g_548 : fs_499[(52 : Nat)]? = some (.ref masks_) := (ga_507 52 (by decide)).trans g_495
        have ga_549 : ∀ i : Nat, i ∉ [28, 29, 30, 31, 33, 34, 35, 36, 37, 38, 39] → fs_499[i]? = fs[i]? := fun i hi => (ga_507 i (fun z => hi (by simp only [List.mem_cons, List.not_mem_nil, or_false] at z ⊢; omega))).trans (ga_496 i hi)
        refine x_le (xw_le_n xw_le_e) ?_
        refine s_Model_group_174 ?_
        exact ⟨rfl, _, _, _, _, (g + 1), (o + 1), n_497, _, _, _, _, _, _, _, _, _, _, _, _, _, _, PT_359, J_360, TK_361, by omega, by omega, by omega, by omega, by omega, fun _ => ⟨u1, u3, rfl, GR.new u2, rfl, rfl, hn_500, hJ_501, hD_502⟩, fun q => absurd z_415 q, l_503, e_504, g_528, g_529, g_530, g_531, g_532, g_533, g_534, g_535, g_536, g_505, g_506, ga_549, e_513, e_514, e_515, e_516, e_517, e_518, e_519, e_520, e_521, e_522, r_525⟩
      · skip
        refine s_Model_group_113 ?_
        exact ⟨rfl, _, _, _, _, g, o, n, _, _, _, _, _, _, _, _, _, _, _, _, _, _, PT_359, J_360, TK_361, by omega, by omega, by omega, by omega, by omega, fun q => absurd q z_416, fun _ => ⟨rfl, rfl, rfl⟩, l_367, e_368, g_369, g_370, g_371, g_372, g_373, g_374, g_375, g_395, g_396, g_397, g_398, ga_413, e_377, e_378, e_379, e_380, e_387, e_388, e_389, e_390, e_381, e_391, r_394⟩
  · skip
    refine s_Model_group_17 ?_
    refine s_Model_group_35 e_groupKind (vp_in_nI (by omega) (by omega)) l e g_groupPhrase g_groups g_phrases e_groupPhrase (vp_in_nI (by omega) (by omega)) (Ne.symm (nd_ne ND (i := 6) (j := 7) rfl rfl (by decide))) g_groupMask g_mask e_groupMask (vp_in_nI (by omega) (by omega)) (Ne.symm (nd_ne ND (i := 7) (j := 9) rfl rfl (by decide))) (Ne.symm (nd_ne ND (i := 6) (j := 9) rfl rfl (by decide))) g_groupFar e_groupFar (vp_in_nI (by omega) (by omega)) (Ne.symm (nd_ne ND (i := 9) (j := 10) rfl rfl (by decide))) (Ne.symm (nd_ne ND (i := 7) (j := 10) rfl rfl (by decide))) (Ne.symm (nd_ne ND (i := 6) (j := 10) rfl rfl (by decide))) ?_
    refine x_u4 (fun h_550 e_551 f_552 h_553 e_554 f_555 h_556 e_557 f_558 h_559 e_560 f_561 => ?_)
    have e_562 := (f_552 m (nd_ne ND (i := 0) (j := 6) rfl rfl (by decide))).trans e
    have e_563 := (f_552 asked_ (nd_ne ND (i := 1) (j := 6) rfl rfl (by decide))).trans e_asked
    have e_564 := (f_552 firstToken_ (nd_ne ND (i := 2) (j := 6) rfl rfl (by decide))).trans e_firstToken
    have e_565 := (f_552 starred_ (nd_ne ND (i := 3) (j := 6) rfl rfl (by decide))).trans e_starred
    have e_566 := (f_552 tokenAt_ (nd_ne ND (i := 4) (j := 6) rfl rfl (by decide))).trans e_tokenAt
    have e_567 := (f_552 tokenSize_ (nd_ne ND (i := 5) (j := 6) rfl rfl (by decide))).trans e_tokenSize
    have e_568 := (f_552 groupPhrase_ (Ne.symm (nd_ne ND (i := 6) (j := 7) rfl rfl (by decide)))).trans e_groupPhrase
    have e_569 := (f_552 groupSize_ (Ne.symm (nd_ne ND (i := 6) (j := 8) rfl rfl (by decide)))).trans e_groupSize
    have e_570 := (f_552 groupMask_ (Ne.symm (nd_ne ND (i := 6) (j := 9) rfl rfl (by decide)))).trans e_groupMask
    have e_571 := (f_552 groupFar_ (Ne.symm (nd_ne ND (i := 6) (j := 10) rfl rfl (by decide)))).trans e_groupFar
    have e_572 := (f_552 out_ (Ne.symm (nd_ne ND (i := 6) (j := 11) rfl rfl (by decide)))).trans e_out
    have e_573 := (f_552 top_ (Ne.symm (nd_ne ND (i := 6) (j := 12) rfl rfl (by decide)))).trans e_top
    have e_574 := (f_552 masks_ (Ne.symm (nd_ne ND (i := 6) (j := 13) rfl rfl (by decide)))).trans e_masks
    have r_575 := r0.up (by simp) f_552
    have e_576 := (f_555 m (nd_ne ND (i := 0) (j := 7) rfl rfl (by decide))).trans e_562
    have e_577 := (f_555 asked_ (nd_ne ND (i := 1) (j := 7) rfl rfl (by decide))).trans e_563
    have e_578 := (f_555 firstToken_ (nd_ne ND (i := 2) (j := 7) rfl rfl (by decide))).trans e_564
    have e_579 := (f_555 starred_ (nd_ne ND (i := 3) (j := 7) rfl rfl (by decide))).trans e_565
    have e_580 := (f_555 tokenAt_ (nd_ne ND (i := 4) (j := 7) rfl rfl (by decide))).trans e_566
    have e_581 := (f_555 tokenSize_ (nd_ne ND (i := 5) (j := 7) rfl rfl (by decide))).trans e_567
    have e_582 := (f_555 groupKind_ (nd_ne ND (i := 6) (j := 7) rfl rfl (by decide))).trans e_551
    have e_583 := (f_555 groupSize_ (Ne.symm (nd_ne ND (i := 7) (j := 8) rfl rfl (by decide)))).trans e_569
    have e_584 := (f_555 groupMask_ (Ne.symm (nd_ne ND (i := 7) (j := 9) rfl rfl (by decide)))).trans e_570
    have e_585 := (f_555 groupFar_ (Ne.symm (nd_ne ND (i := 7) (j := 10) rfl rfl (by decide)))).trans e_571
    have e_586 := (f_555 out_ (Ne.symm (nd_ne ND (i := 7) (j := 11) rfl rfl (by decide)))).trans e_572
    have e_587 := (f_555 top_ (Ne.symm (nd_ne ND (i := 7) (j := 12) rfl rfl (by decide)))).trans e_573
    have e_588 := (f_555 masks_ (Ne.symm (nd_ne ND (i := 7) (j := 13) rfl rfl (by decide)))).trans e_574
    have r_589 := r_575.up (by simp) f_555
    have e_590 := (f_558 m (nd_ne ND (i := 0) (j := 9) rfl rfl (by decide))).trans e_576
    have e_591 := (f_558 asked_ (nd_ne ND (i := 1) (j := 9) rfl rfl (by decide))).trans e_577
    have e_592 := (f_558 firstToken_ (nd_ne ND (i := 2) (j := 9) rfl rfl (by decide))).trans e_578
    have e_593 := (f_558 starred_ (nd_ne ND (i := 3) (j := 9) rfl rfl (by decide))).trans e_579
    have e_594 := (f_558 tokenAt_ (nd_ne ND (i := 4) (j := 9) rfl rfl (by decide))).trans e_580
    have e_595 := (f_558 tokenSize_ (nd_ne ND (i := 5) (j := 9) rfl rfl (by decide))).trans e_581
    have e_596 := (f_558 groupKind_ (nd_ne ND (i := 6) (j := 9) rfl rfl (by decide))).trans e_582
    have e_597 := (f_558 groupPhrase_ (nd_ne ND (i := 7) (j := 9) rfl rfl (by decide))).trans e_554
    have e_598 := (f_558 groupSize_ (nd_ne ND (i := 8) (j := 9) rfl rfl (by decide))).trans e_583
    have e_599 := (f_558 groupFar_ (Ne.symm (nd_ne ND (i := 9) (j := 10) rfl rfl (by decide)))).trans e_585
    have e_600 := (f_558 out_ (Ne.symm (nd_ne ND (i := 9) (j := 11) rfl rfl (by decide)))).trans e_586
    have e_601 := (f_558 top_ (Ne.symm (nd_ne ND (i := 9) (j := 12) rfl rfl (by decide)))).trans e_587
    have e_602 := (f_558 masks_ (Ne.symm (nd_ne ND (i := 9) (j := 13) rfl rfl (by decide)))).trans e_588
    have r_603 := r_589.up (by simp) f_558
    have e_604 := (f_561 m (nd_ne ND (i := 0) (j := 10) rfl rfl (by decide))).trans e_590
    have e_605 := (f_561 asked_ (nd_ne ND (i := 1) (j := 10) rfl rfl (by decide))).trans e_591
    have e_606 := (f_561 firstToken_ (nd_ne ND (i := 2) (j := 10) rfl rfl (by decide))).trans e_592
    have e_607 := (f_561 starred_ (nd_ne ND (i := 3) (j := 10) rfl rfl (by decide))).trans e_593
    have e_608 := (f_561 tokenAt_ (nd_ne ND (i := 4) (j := 10) rfl rfl (by decide))).trans e_594
    have e_609 := (f_561 tokenSize_ (nd_ne ND (i := 5) (j := 10) rfl rfl (by decide))).trans e_595
    have e_610 := (f_561 groupKind_ (nd_ne ND (i := 6) (j := 10) rfl rfl (by decide))).trans e_596
    have e_611 := (f_561 groupPhrase_ (nd_ne ND (i := 7) (j := 10) rfl rfl (by decide))).trans e_597
    have e_612 := (f_561 groupSize_ (nd_ne ND (i := 8) (j := 10) rfl rfl (by decide))).trans e_598
    have e_613 := (f_561 groupMask_ (nd_ne ND (i := 9) (j := 10) rfl rfl (by decide))).trans e_557
    have e_614 := (f_561 out_ (Ne.symm (nd_ne ND (i := 10) (j := 11) rfl rfl (by decide)))).trans e_600
    have e_615 := (f_561 top_ (Ne.symm (nd_ne ND (i := 10) (j := 12) rfl rfl (by decide)))).trans e_601
    have e_616 := (f_561 masks_ (Ne.symm (nd_ne ND (i := 10) (j := 13) rfl rfl (by decide)))).trans e_602
    have r_617 := r_603.up (by simp) f_561
    rw [nI_clamp (show g < 2 ^ 31 by omega)] at e_611
    refine s_Model_group_73 l e_604 g_kind (fun z_618 => ?_) (fun z_619 => ?_)
    · skip
      refine s_Model_group_89 l e_604 g_kind (fun z => absurd z_2 z) (fun z_620 => ?_)
      refine s_Model_group_98 ?_
      refine x_callV (As := []) (b := m) (rest := []) (F1 := 4) (L1 := 87) (mc := 0) (ms := 0) d_Model_group_99 cV_Model_257 (f_next (x0 := y) l e_604 g_at g_kind g_from g_to g_askedSize g_asked e_605 PT.2.1 hasz (by omega) (by omega)) e_604 ⟨by decide, rfl⟩ ⟨by omega, by show 8 + (1 + 11) + 87 ≤ _; omega⟩ ⟨by omega, by omega⟩ (Nat.le_of_ble_eq_true rfl) (fun v_636 h_635 p_637 => ?_)
      obtain ⟨rfl, x_621, y_622, kd_623, fs_624, hx_625, PT_626, l_627, e_628, g_629, g_630, g_631, g_632, ga_633, r_634⟩ := p_637
      have e_638 := r_634 asked_ _ (by simp only [List.mem_cons, List.not_mem_nil, or_false, not_or]; exact (Ne.symm (nd_ne ND (i := 0) (j := 1) rfl rfl (by decide)))) e_605
      have e_639 := r_634 firstToken_ _ (by simp only [List.mem_cons, List.not_mem_nil, or_false, not_or]; exact (Ne.symm (nd_ne ND (i := 0) (j := 2) rfl rfl (by decide)))) e_606
      have e_640 := r_634 starred_ _ (by simp only [List.mem_cons, List.not_mem_nil, or_false, not_or]; exact (Ne.symm (nd_ne ND (i := 0) (j := 3) rfl rfl (by decide)))) e_607
      have e_641 := r_634 tokenAt_ _ (by simp only [List.mem_cons, List.not_mem_nil, or_false, not_or]; exact (Ne.symm (nd_ne ND (i := 0) (j := 4) rfl rfl (by decide)))) e_608
      have e_642 := r_634 tokenSize_ _ (by simp only [List.mem_cons, List.not_mem_nil, or_false, not_or]; exact (Ne.symm (nd_ne ND (i := 0) (j := 5) rfl rfl (by decide)))) e_609
      have e_643 := r_634 groupKind_ _ (by simp only [List.mem_cons, List.not_mem_nil, or_false, not_or]; exact (Ne.symm (nd_ne ND (i := 0) (j := 6) rfl rfl (by decide)))) e_610
      have e_644 := r_634 groupPhrase_ _ (by simp only [List.mem_cons, List.not_mem_nil, or_false, not_or]; exact (Ne.symm (nd_ne ND (i := 0) (j := 7) rfl rfl (by decide)))) e_611
      have e_645 := r_634 groupSize_ _ (by simp only [List.mem_cons, List.not_mem_nil, or_false, not_or]; exact (Ne.symm (nd_ne ND (i := 0) (j := 8) rfl rfl (by decide)))) e_612
      have e_646 := r_634 groupMask_ _ (by simp only [List.mem_cons, List.not_mem_nil, or_false, not_or]; exact (Ne.symm (nd_ne ND (i := 0) (j := 9) rfl rfl (by decide)))) e_613
      have e_647 := r_634 groupFar_ _ (by simp only [List.mem_cons, List.not_mem_nil, or_false, not_or]; exact (Ne.symm (nd_ne ND (i := 0) (j := 10) rfl rfl (by decide)))) e_560
      have e_648 := r_634 out_ _ (by simp only [List.mem_cons, List.not_mem_nil, or_false, not_or]; exact (Ne.symm (nd_ne ND (i := 0) (j := 11) rfl rfl (by decide)))) e_614
      have e_649 := r_634 top_ _ (by simp only [List.mem_cons, List.not_mem_nil, or_false, not_or]; exact (Ne.symm (nd_ne ND (i := 0) (j := 12) rfl rfl (by decide)))) e_615
      have e_650 := r_634 masks_ _ (by simp only [List.mem_cons, List.not_mem_nil, or_false, not_or]; exact (Ne.symm (nd_ne ND (i := 0) (j := 13) rfl rfl (by decide)))) e_616
      have r_651 := r_617.trans (r_634.mono (by simp))
      have g_652 : fs_624[(33 : Nat)]? = some (.int bd) := (ga_633 33 (by decide)).trans g_bad
      have g_653 : fs_624[(34 : Nat)]? = some (.int (nI p)) := (ga_633 34 (by decide)).trans g_phrases
      have g_654 : fs_624[(35 : Nat)]? = some (.int (nI t)) := (ga_633 35 (by decide)).trans g_tokens
      have g_655 : fs_624[(36 : Nat)]? = some (.int (nI g)) := (ga_633 36 (by decide)).trans g_groups
      have g_656 : fs_624[(37 : Nat)]? = some (.int (nI o)) := (ga_633 37 (by decide)).trans g_outs
      have g_657 : fs_624[(38 : Nat)]? = some (.int (nI n)) := (ga_633 38 (by decide)).trans g_tops
      have g_658 : fs_624[(39 : Nat)]? = some (.int mk) := (ga_633 39 (by decide)).trans g_mask
      have g_659 : fs_624[(11 : Nat)]? = some (.int (nI asz)) := (ga_633 11 (by decide)).trans g_askedSize
      have g_660 : fs_624[(4 : Nat)]? = some (.ref asked_) := (ga_633 4 (by decide)).trans g_asked
      have g_661 : fs_624[(41 : Nat)]? = some (.ref firstToken_) := (ga_633 41 (by decide)).trans g_firstToken
      have g_662 : fs_624[(42 : Nat)]? = some (.ref starred_) := (ga_633 42 (by decide)).trans g_starred
      have g_663 : fs_624[(43 : Nat)]? = some (.ref tokenAt_) := (ga_633 43 (by decide)).trans g_tokenAt
      have g_664 : fs_624[(44 : Nat)]? = some (.ref tokenSize_) := (ga_633 44 (by decide)).trans g_tokenSize
      have g_665 : fs_624[(45 : Nat)]? = some (.ref groupKind_) := (ga_633 45 (by decide)).trans g_groupKind
      have g_666 : fs_624[(46 : Nat)]? = some (.ref groupPhrase_) := (ga_633 46 (by decide)).trans g_groupPhrase
      have g_667 : fs_624[(47 : Nat)]? = some (.ref groupSize_) := (ga_633 47 (by decide)).trans g_groupSize
      have g_668 : fs_624[(48 : Nat)]? = some (.ref groupMask_) := (ga_633 48 (by decide)).trans g_groupMask
      have g_669 : fs_624[(49 : Nat)]? = some (.ref groupFar_) := (ga_633 49 (by decide)).trans g_groupFar
      have g_670 : fs_624[(50 : Nat)]? = some (.ref out_) := (ga_633 50 (by decide)).trans g_out
      have g_671 : fs_624[(51 : Nat)]? = some (.ref top_) := (ga_633 51 (by decide)).trans g_top
      have g_672 : fs_624[(52 : Nat)]? = some (.ref masks_) := (ga_633 52 (by decide)).trans g_masks
      have ga_673 : ∀ i : Nat, i ∉ [28, 29, 30, 31, 33, 34, 35, 36, 37, 38, 39] → fs_624[i]? = fs[i]? := fun i hi => (ga_633 i (fun z => hi (by simp only [List.mem_cons, List.not_mem_nil, or_false] at z ⊢; omega))).trans (ga0 i hi)
      have J_674 := J.mono (Nat.le_trans PT.1 hx_625)
      have TK_675 := TK.mono (Nat.le_trans PT.1 hx_625)
      have hm_676 := Nat.le_trans PT.1 hx_625
      have hb_677 := Nat.le_trans PT_626.1 PT_626.2.1
      refine s_Model_group_102 ?_
      refine x_callV (As := []) (b := m) (rest := []) (F1 := 5) (L1 := 107) (mc := 0) (ms := 0) d_Model_group_103 cV_Model_260 (f_phrase l_627 e_628 g_629 g_630 g_631 g_632 g_652 g_653 g_654 g_659 g_660 e_638 g_661 e_639 g_662 e_640 g_663 e_641 g_664 e_642 (nd_ne ND (i := 2) (j := 3) rfl rfl (by decide)) (nd_ne ND (i := 4) (j := 5) rfl rfl (by decide)) hasz PT_626 J_674 TK_675 hbd (by omega) (by omega) (by omega)) e_628 ⟨by decide, rfl⟩ ⟨by omega, by show 8 + (1 + 11) + 107 ≤ _; omega⟩ ⟨by omega, by omega⟩ (Nat.le_of_ble_eq_true rfl) (fun v_713 h_712 p_714 => ?_)
      obtain ⟨rfl, x_678, y_679, p_680, t_681, kd_682, bd_683, c1_684, c2_685, ca_686, cs_687, fs_688, PT_689, J_690, TK_691, hx_692, hp_693, hp12_694, ht_695, HB_696, l_697, e_698, g_699, g_700, g_701, g_702, g_703, g_704, g_705, ga_706, e_707, e_708, e_709, e_710, r_711⟩ := p_714
      have e_715 := r_711 asked_ _ (by simp only [List.mem_cons, List.not_mem_nil, or_false, not_or]; exact ⟨(Ne.symm (nd_ne ND (i := 0) (j := 1) rfl rfl (by decide))), (nd_ne ND (i := 1) (j := 2) rfl rfl (by decide)), (nd_ne ND (i := 1) (j := 3) rfl rfl (by decide)), (nd_ne ND (i := 1) (j := 4) rfl rfl (by decide)), (nd_ne ND (i := 1) (j := 5) rfl rfl (by decide))⟩) e_638
      have e_716 := r_711 groupKind_ _ (by simp only [List.mem_cons, List.not_mem_nil, or_false, not_or]; exact ⟨(Ne.symm (nd_ne ND (i := 0) (j := 6) rfl rfl (by decide))), (Ne.symm (nd_ne ND (i := 2) (j := 6) rfl rfl (by decide))), (Ne.symm (nd_ne ND (i := 3) (j := 6) rfl rfl (by decide))), (Ne.symm (nd_ne ND (i := 4) (j := 6) rfl rfl (by decide))), (Ne.symm (nd_ne ND (i := 5) (j := 6) rfl rfl (by decide)))⟩) e_643
      have e_717 := r_711 groupPhrase_ _ (by simp only [List.mem_cons, List.not_mem_nil, or_false, not_or]; exact ⟨(Ne.symm (nd_ne ND (i := 0) (j := 7) rfl rfl (by decide))), (Ne.symm (nd_ne ND (i := 2) (j := 7) rfl rfl (by decide))), (Ne.symm (nd_ne ND (i := 3) (j := 7) rfl rfl (by decide))), (Ne.symm (nd_ne ND (i := 4) (j := 7) rfl rfl (by decide))), (Ne.symm (nd_ne ND (i := 5) (j := 7) rfl rfl (by decide)))⟩) e_644
      have e_718 := r_711 groupSize_ _ (by simp only [List.mem_cons, List.not_mem_nil, or_false, not_or]; exact ⟨(Ne.symm (nd_ne ND (i := 0) (j := 8) rfl rfl (by decide))), (Ne.symm (nd_ne ND (i := 2) (j := 8) rfl rfl (by decide))), (Ne.symm (nd_ne ND (i := 3) (j := 8) rfl rfl (by decide))), (Ne.symm (nd_ne ND (i := 4) (j := 8) rfl rfl (by decide))), (Ne.symm (nd_ne ND (i := 5) (j := 8) rfl rfl (by decide)))⟩) e_645
      have e_719 := r_711 groupMask_ _ (by simp only [List.mem_cons, List.not_mem_nil, or_false, not_or]; exact ⟨(Ne.symm (nd_ne ND (i := 0) (j := 9) rfl rfl (by decide))), (Ne.symm (nd_ne ND (i := 2) (j := 9) rfl rfl (by decide))), (Ne.symm (nd_ne ND (i := 3) (j := 9) rfl rfl (by decide))), (Ne.symm (nd_ne ND (i := 4) (j := 9) rfl rfl (by decide))), (Ne.symm (nd_ne ND (i := 5) (j := 9) rfl rfl (by decide)))⟩) e_646
      have e_720 := r_711 groupFar_ _ (by simp only [List.mem_cons, List.not_mem_nil, or_false, not_or]; exact ⟨(Ne.symm (nd_ne ND (i := 0) (j := 10) rfl rfl (by decide))), (Ne.symm (nd_ne ND (i := 2) (j := 10) rfl rfl (by decide))), (Ne.symm (nd_ne ND (i := 3) (j := 10) rfl rfl (by decide))), (Ne.symm (nd_ne ND (i := 4) (j := 10) rfl rfl (by decide))), (Ne.symm (nd_ne ND (i := 5) (j := 10) rfl rfl (by decide)))⟩) e_647
      have e_721 := r_711 out_ _ (by simp only [List.mem_cons, List.not_mem_nil, or_false, not_or]; exact ⟨(Ne.symm (nd_ne ND (i := 0) (j := 11) rfl rfl (by decide))), (Ne.symm (nd_ne ND (i := 2) (j := 11) rfl rfl (by decide))), (Ne.symm (nd_ne ND (i := 3) (j := 11) rfl rfl (by decide))), (Ne.symm (nd_ne ND (i := 4) (j := 11) rfl rfl (by decide))), (Ne.symm (nd_ne ND (i := 5) (j := 11) rfl rfl (by decide)))⟩) e_648
      have e_722 := r_711 top_ _ (by simp only [List.mem_cons, List.not_mem_nil, or_false, not_or]; exact ⟨(Ne.symm (nd_ne ND (i := 0) (j := 12) rfl rfl (by decide))), (Ne.symm (nd_ne ND (i := 2) (j := 12) rfl rfl (by decide))), (Ne.symm (nd_ne ND (i := 3) (j := 12) rfl rfl (by decide))), (Ne.symm (nd_ne ND (i := 4) (j := 12) rfl rfl (by decide))), (Ne.symm (nd_ne ND (i := 5) (j := 12) rfl rfl (by decide)))⟩) e_649
      have e_723 := r_711 masks_ _ (by simp only [List.mem_cons, List.not_mem_nil, or_false, not_or]; exact ⟨(Ne.symm (nd_ne ND (i := 0) (j := 13) rfl rfl (by decide))), (Ne.symm (nd_ne ND (i := 2) (j := 13) rfl rfl (by decide))), (Ne.symm (nd_ne ND (i := 3) (j := 13) rfl rfl (by decide))), (Ne.symm (nd_ne ND (i := 4) (j := 13) rfl rfl (by decide))), (Ne.symm (nd_ne ND (i := 5) (j := 13) rfl rfl (by decide)))⟩) e_650
      have r_724 := r_651.trans (r_711.mono (by simp))
      have g_725 : fs_688[(36 : Nat)]? = some (.int (nI g)) := (ga_706 36 (by decide)).trans g_655
      have g_726 : fs_688[(37 : Nat)]? = some (.int (nI o)) := (ga_706 37 (by decide)).trans g_656
      have g_727 : fs_688[(38 : Nat)]? = some (.int (nI n)) := (ga_706 38 (by decide)).trans g_657
      have g_728 : fs_688[(39 : Nat)]? = some (.int mk) := (ga_706 39 (by decide)).trans g_658
      have g_729 : fs_688[(11 : Nat)]? = some (.int (nI asz)) := (ga_706 11 (by decide)).trans g_659
      have g_730 : fs_688[(4 : Nat)]? = some (.ref asked_) := (ga_706 4 (by decide)).trans g_660
      have g_731 : fs_688[(41 : Nat)]? = some (.ref firstToken_) := (ga_706 41 (by decide)).trans g_661
      have g_732 : fs_688[(42 : Nat)]? = some (.ref starred_) := (ga_706 42 (by decide)).trans g_662
      have g_733 : fs_688[(43 : Nat)]? = some (.ref tokenAt_) := (ga_706 43 (by decide)).trans g_663
      have g_734 : fs_688[(44 : Nat)]? = some (.ref tokenSize_) := (ga_706 44 (by decide)).trans g_664
      have g_735 : fs_688[(45 : Nat)]? = some (.ref groupKind_) := (ga_706 45 (by decide)).trans g_665
      have g_736 : fs_688[(46 : Nat)]? = some (.ref groupPhrase_) := (ga_706 46 (by decide)).trans g_666
      have g_737 : fs_688[(47 : Nat)]? = some (.ref groupSize_) := (ga_706 47 (by decide)).trans g_667
      have g_738 : fs_688[(48 : Nat)]? = some (.ref groupMask_) := (ga_706 48 (by decide)).trans g_668
      have g_739 : fs_688[(49 : Nat)]? = some (.ref groupFar_) := (ga_706 49 (by decide)).trans g_669
      have g_740 : fs_688[(50 : Nat)]? = some (.ref out_) := (ga_706 50 (by decide)).trans g_670
      have g_741 : fs_688[(51 : Nat)]? = some (.ref top_) := (ga_706 51 (by decide)).trans g_671
      have g_742 : fs_688[(52 : Nat)]? = some (.ref masks_) := (ga_706 52 (by decide)).trans g_672
      have ga_743 : ∀ i : Nat, i ∉ [28, 29, 30, 31, 33, 34, 35, 36, 37, 38, 39] → fs_688[i]? = fs[i]? := fun i hi => (ga_706 i (fun z => hi (by simp only [List.mem_cons, List.not_mem_nil, or_false] at z ⊢; omega))).trans (ga_673 i hi)
      have PH_744 : bd_683 < 0 → x_621 < x_678 ∧ p_680 = p + 1 ∧ PhO c1_684 p_680 t_681 := fun q => by obtain ⟨q1, q2, q3, q4, q5⟩ := HB_696 q; subst q2; exact ⟨q1, rfl, PhO.new PH ht_695 q3 q4 q5⟩
      have hb_745 := Nat.le_trans PT_689.1 PT_689.2.1
      have PHf : bd_683 < 0 → x < x_678 ∧ p < p_680 ∧ PhO c1_684 p_680 t_681 := fun q => by obtain ⟨q1, q2, q3⟩ := PH_744 q; exact ⟨by omega, by omega, q3⟩
      refine s_Model_group_106 l_697 e_698 g_703 (fun z_746 => ?_) (fun z_747 => ?_)
      · skip
        refine s_Model_group_114 l_697 e_698 g_737 g_725 g_704 g_736 e_717 (vp_in_nI (by omega) (by omega)) e_718 (vp_in_nI (by omega) (by omega)) g_740 g_726 e_721 (vp_in_nI (by omega) (by omega)) (Ne.symm (nd_ne ND (i := 8) (j := 11) rfl rfl (by decide))) ?_
        rw [xw_up_up]
        refine x_u3 (fun h_748 e_749 f_750 h_751 e_752 f_753 h_754 e_755 f_756 => ?_)
        have e_757 := (f_750 m (nd_ne ND (i := 0) (j := 8) rfl rfl (by decide))).trans e_698
        have e_758 := (f_750 asked_ (nd_ne ND (i := 1) (j := 8) rfl rfl (by decide))).trans e_715
        have e_759 := (f_750 firstToken_ (nd_ne ND (i := 2) (j := 8) rfl rfl (by decide))).trans e_707
        have e_760 := (f_750 starred_ (nd_ne ND (i := 3) (j := 8) rfl rfl (by decide))).trans e_708
        have e_761 := (f_750 tokenAt_ (nd_ne ND (i := 4) (j := 8) rfl rfl (by decide))).trans e_709
        have e_762 := (f_750 tokenSize_ (nd_ne ND (i := 5) (j := 8) rfl rfl (by decide))).trans e_710
        have e_763 := (f_750 groupKind_ (nd_ne ND (i := 6) (j := 8) rfl rfl (by decide))).trans e_716
        have e_764 := (f_750 groupPhrase_ (nd_ne ND (i := 7) (j := 8) rfl rfl (by decide))).trans e_717
        have e_765 := (f_750 groupMask_ (Ne.symm (nd_ne ND (i := 8) (j := 9) rfl rfl (by decide)))).trans e_719
        have e_766 := (f_750 groupFar_ (Ne.symm (nd_ne ND (i := 8) (j := 10) rfl rfl (by decide)))).trans e_720
        have e_767 := (f_750 out_ (Ne.symm (nd_ne ND (i := 8) (j := 11) rfl rfl (by decide)))).trans e_721
        have e_768 := (f_750 top_ (Ne.symm (nd_ne ND (i := 8) (j := 12) rfl rfl (by decide)))).trans e_722
        have e_769 := (f_750 masks_ (Ne.symm (nd_ne ND (i := 8) (j := 13) rfl rfl (by decide)))).trans e_723
        have r_770 := r_724.up (by simp) f_750
        have e_771 := (f_753 m (nd_ne ND (i := 0) (j := 11) rfl rfl (by decide))).trans e_757
        have e_772 := (f_753 asked_ (nd_ne ND (i := 1) (j := 11) rfl rfl (by decide))).trans e_758
        have e_773 := (f_753 firstToken_ (nd_ne ND (i := 2) (j := 11) rfl rfl (by decide))).trans e_759
        have e_774 := (f_753 starred_ (nd_ne ND (i := 3) (j := 11) rfl rfl (by decide))).trans e_760
        have e_775 := (f_753 tokenAt_ (nd_ne ND (i := 4) (j := 11) rfl rfl (by decide))).trans e_761
        have e_776 := (f_753 tokenSize_ (nd_ne ND (i := 5) (j := 11) rfl rfl (by decide))).trans e_762
        have e_777 := (f_753 groupKind_ (nd_ne ND (i := 6) (j := 11) rfl rfl (by decide))).trans e_763
        have e_778 := (f_753 groupPhrase_ (nd_ne ND (i := 7) (j := 11) rfl rfl (by decide))).trans e_764
        have e_779 := (f_753 groupSize_ (nd_ne ND (i := 8) (j := 11) rfl rfl (by decide))).trans e_749
        have e_780 := (f_753 groupMask_ (nd_ne ND (i := 9) (j := 11) rfl rfl (by decide))).trans e_765
        have e_781 := (f_753 groupFar_ (nd_ne ND (i := 10) (j := 11) rfl rfl (by decide))).trans e_766
        have e_782 := (f_753 top_ (Ne.symm (nd_ne ND (i := 11) (j := 12) rfl rfl (by decide)))).trans e_768
        have e_783 := (f_753 masks_ (Ne.symm (nd_ne ND (i := 11) (j := 13) rfl rfl (by decide)))).trans e_769
        have r_784 := r_770.up (by simp) f_753
        have e_785 := (f_756 asked_ (Ne.symm (nd_ne ND (i := 0) (j := 1) rfl rfl (by decide)))).trans e_772
        have e_786 := (f_756 firstToken_ (Ne.symm (nd_ne ND (i := 0) (j := 2) rfl rfl (by decide)))).trans e_773
        have e_787 := (f_756 starred_ (Ne.symm (nd_ne ND (i := 0) (j := 3) rfl rfl (by decide)))).trans e_774
        have e_788 := (f_756 tokenAt_ (Ne.symm (nd_ne ND (i := 0) (j := 4) rfl rfl (by decide)))).trans e_775
        have e_789 := (f_756 tokenSize_ (Ne.symm (nd_ne ND (i := 0) (j := 5) rfl rfl (by decide)))).trans e_776
        have e_790 := (f_756 groupKind_ (Ne.symm (nd_ne ND (i := 0) (j := 6) rfl rfl (by decide)))).trans e_777
        have e_791 := (f_756 groupPhrase_ (Ne.symm (nd_ne ND (i := 0) (j := 7) rfl rfl (by decide)))).trans e_778
        have e_792 := (f_756 groupSize_ (Ne.symm (nd_ne ND (i := 0) (j := 8) rfl rfl (by decide)))).trans e_779
        have e_793 := (f_756 groupMask_ (Ne.symm (nd_ne ND (i := 0) (j := 9) rfl rfl (by decide)))).trans e_780
        have e_794 := (f_756 groupFar_ (Ne.symm (nd_ne ND (i := 0) (j := 10) rfl rfl (by decide)))).trans e_781
        have e_795 := (f_756 out_ (Ne.symm (nd_ne ND (i := 0) (j := 11) rfl rfl (by decide)))).trans e_752
        have e_796 := (f_756 top_ (Ne.symm (nd_ne ND (i := 0) (j := 12) rfl rfl (by decide)))).trans e_782
        have e_797 := (f_756 masks_ (Ne.symm (nd_ne ND (i := 0) (j := 13) rfl rfl (by decide)))).trans e_783
        have r_798 := r_784.up (by simp) f_756
        obtain ⟨fs_799, z_800⟩ : ∃ z, z = (fs_688.set 37 (.int ((nI o) + 1))).set 36 (.int ((nI g) + 1)) := ⟨_, rfl⟩
        rw [← z_800] at e_755
        have l_801 : fs_799.length = 62 := by rw [z_800]; simp only [List.length_set]; exact l_697
        have g_802 : fs_799[(4 : Nat)]? = some (.ref asked_) := by rw [z_800]; exact (xw_gn (by decide) (xw_gn (by decide) g_730))
        have g_803 : fs_799[(11 : Nat)]? = some (.int (nI asz)) := by rw [z_800]; exact (xw_gn (by decide) (xw_gn (by decide) g_729))
        have g_804 : fs_799[(28 : Nat)]? = some (.int (nI x_678)) := by rw [z_800]; exact (xw_gn (by decide) (xw_gn (by decide) g_699))
        have g_805 : fs_799[(29 : Nat)]? = some (.int kd_682) := by rw [z_800]; exact (xw_gn (by decide) (xw_gn (by decide) g_700))
        have g_806 : fs_799[(30 : Nat)]? = some (.int (nI x_678)) := by rw [z_800]; exact (xw_gn (by decide) (xw_gn (by decide) g_701))
        have g_807 : fs_799[(31 : Nat)]? = some (.int (nI y_679)) := by rw [z_800]; exact (xw_gn (by decide) (xw_gn (by decide) g_702))
        have g_808 : fs_799[(33 : Nat)]? = some (.int bd_683) := by rw [z_800]; exact (xw_gn (by decide) (xw_gn (by decide) g_703))
        have g_809 : fs_799[(34 : Nat)]? = some (.int (nI p_680)) := by rw [z_800]; exact (xw_gn (by decide) (xw_gn (by decide) g_704))
        have g_810 : fs_799[(35 : Nat)]? = some (.int (nI t_681)) := by rw [z_800]; exact (xw_gn (by decide) (xw_gn (by decide) g_705))
        have g_811 : fs_799[(36 : Nat)]? = some (.int ((nI g) + 1)) := by rw [z_800]; exact (xw_gs (by simp [l_697]))
        have g_812 : fs_799[(37 : Nat)]? = some (.int ((nI o) + 1)) := by rw [z_800]; exact (xw_gn (by decide) (xw_gs (by simp [l_697])))
        have g_813 : fs_799[(38 : Nat)]? = some (.int (nI n)) := by rw [z_800]; exact (xw_gn (by decide) (xw_gn (by decide) g_727))
        have g_814 : fs_799[(39 : Nat)]? = some (.int mk) := by rw [z_800]; exact (xw_gn (by decide) (xw_gn (by decide) g_728))
        have g_815 : fs_799[(41 : Nat)]? = some (.ref firstToken_) := by rw [z_800]; exact (xw_gn (by decide) (xw_gn (by decide) g_731))
        have g_816 : fs_799[(42 : Nat)]? = some (.ref starred_) := by rw [z_800]; exact (xw_gn (by decide) (xw_gn (by decide) g_732))
        have g_817 : fs_799[(43 : Nat)]? = some (.ref tokenAt_) := by rw [z_800]; exact (xw_gn (by decide) (xw_gn (by decide) g_733))
        have g_818 : fs_799[(44 : Nat)]? = some (.ref tokenSize_) := by rw [z_800]; exact (xw_gn (by decide) (xw_gn (by decide) g_734))
        have g_819 : fs_799[(45 : Nat)]? = some (.ref groupKind_) := by rw [z_800]; exact (xw_gn (by decide) (xw_gn (by decide) g_735))
        have g_820 : fs_799[(46 : Nat)]? = some (.ref groupPhrase_) := by rw [z_800]; exact (xw_gn (by decide) (xw_gn (by decide) g_736))
        have g_821 : fs_799[(47 : Nat)]? = some (.ref groupSize_) := by rw [z_800]; exact (xw_gn (by decide) (xw_gn (by decide) g_737))
        have g_822 : fs_799[(48 : Nat)]? = some (.ref groupMask_) := by rw [z_800]; exact (xw_gn (by decide) (xw_gn (by decide) g_738))
        have g_823 : fs_799[(49 : Nat)]? = some (.ref groupFar_) := by rw [z_800]; exact (xw_gn (by decide) (xw_gn (by decide) g_739))
        have g_824 : fs_799[(50 : Nat)]? = some (.ref out_) := by rw [z_800]; exact (xw_gn (by decide) (xw_gn (by decide) g_740))
        have g_825 : fs_799[(51 : Nat)]? = some (.ref top_) := by rw [z_800]; exact (xw_gn (by decide) (xw_gn (by decide) g_741))
        have g_826 : fs_799[(52 : Nat)]? = some (.ref masks_) := by rw [z_800]; exact (xw_gn (by decide) (xw_gn (by decide) g_742))
        have ga_827 : ∀ i : Nat, i ∉ [28, 29, 30, 31, 33, 34, 35, 36, 37, 38, 39] → fs_799[i]? = fs[i]? := fun i hi => by rw [z_800]; exact xw_gn (fun z => hi (by rw [z]; simp)) (xw_gn (fun z => hi (by rw [z]; simp)) (ga_743 i hi))
        clear z_800
        obtain ⟨u1, u2, u3⟩ := PHf z_746
        rw [nI_clamp (show g < 2 ^ 31 by omega), pk_us] at e_792
        rw [nI_clamp (show o < 2 ^ 31 by omega)] at e_795
        rw [nI_1] at g_811 g_812
        refine s_Model_group_170 ?_
        refine x_callV (As := []) (b := m) (rest := []) (F1 := 1) (L1 := 20) (mc := 0) (ms := 0) d_Model_group_171 cV_Model_275 (f_closesFilters l_801 e_755 g_813 g_814 g_825 e_796 g_826 e_797 (nd_ne ND (i := 12) (j := 13) rfl rfl (by decide)) (by omega) (by omega) (by omega)) e_755 ⟨by decide, rfl⟩ ⟨by omega, by show 8 + (1 + 11) + 20 ≤ _; omega⟩ ⟨by omega, by omega⟩ (Nat.le_of_ble_eq_true rfl) (fun v_841 h_840 p_842 => ?_)
        obtain ⟨rfl, n_828, mk_829, fs_830, hn_831, hJ_832, hD_833, l_834, e_835, g_836, g_837, ga_838, r_839⟩ := p_842
        have e_843 := r_839 asked_ _ (by simp only [List.mem_cons, List.not_mem_nil, or_false, not_or]; exact (Ne.symm (nd_ne ND (i := 0) (j := 1) rfl rfl (by decide)))) e_785
        have e_844 := r_839 firstToken_ _ (by simp only [List.mem_cons, List.not_mem_nil, or_false, not_or]; exact (Ne.symm (nd_ne ND (i := 0) (j := 2) rfl rfl (by decide)))) e_786
        have e_845 := r_839 starred_ _ (by simp only [List.mem_cons, List.not_mem_nil, or_false, not_or]; exact (Ne.symm (nd_ne ND (i := 0) (j := 3) rfl rfl (by decide)))) e_787
        have e_846 := r_839 tokenAt_ _ (by simp only [List.mem_cons, List.not_mem_nil, or_false, not_or]; exact (Ne.symm (nd_ne ND (i := 0) (j := 4) rfl rfl (by decide)))) e_788
        have e_847 := r_839 tokenSize_ _ (by simp only [List.mem_cons, List.not_mem_nil, or_false, not_or]; exact (Ne.symm (nd_ne ND (i := 0) (j := 5) rfl rfl (by decide)))) e_789
        have e_848 := r_839 groupKind_ _ (by simp only [List.mem_cons, List.not_mem_nil, or_false, not_or]; exact (Ne.symm (nd_ne ND (i := 0) (j := 6) rfl rfl (by decide)))) e_790
        have e_849 := r_839 groupPhrase_ _ (by simp only [List.mem_cons, List.not_mem_nil, or_false, not_or]; exact (Ne.symm (nd_ne ND (i := 0) (j := 7) rfl rfl (by decide)))) e_791
        have e_850 := r_839 groupSize_ _ (by simp only [List.mem_cons, List.not_mem_nil, or_false, not_or]; exact (Ne.symm (nd_ne ND (i := 0) (j := 8) rfl rfl (by decide)))) e_792
        have e_851 := r_839 groupMask_ _ (by simp only [List.mem_cons, List.not_mem_nil, or_false, not_or]; exact (Ne.symm (nd_ne ND (i := 0) (j := 9) rfl rfl (by decide)))) e_793
        have e_852 := r_839 groupFar_ _ (by simp only [List.mem_cons, List.not_mem_nil, or_false, not_or]; exact (Ne.symm (nd_ne ND (i := 0) (j := 10) rfl rfl (by decide)))) e_794
        have e_853 := r_839 out_ _ (by simp only [List.mem_cons, List.not_mem_nil, or_false, not_or]; exact (Ne.symm (nd_ne ND (i := 0) (j := 11) rfl rfl (by decide)))) e_795
        have e_854 := r_839 top_ _ (by simp only [List.mem_cons, List.not_mem_nil, or_false, not_or]; exact (Ne.symm (nd_ne ND (i := 0) (j := 12) rfl rfl (by decide)))) e_796
        have e_855 := r_839 masks_ _ (by simp only [List.mem_cons, List.not_mem_nil, or_false, not_or]; exact (Ne.symm (nd_ne ND (i := 0) (j := 13) rfl rfl (by decide)))) e_797
        have r_856 := r_798.trans (r_839.mono (by simp))
        have g_857 : fs_830[(4 : Nat)]? = some (.ref asked_) := (ga_838 4 (by decide)).trans g_802
        have g_858 : fs_830[(11 : Nat)]? = some (.int (nI asz)) := (ga_838 11 (by decide)).trans g_803
        have g_859 : fs_830[(28 : Nat)]? = some (.int (nI x_678)) := (ga_838 28 (by decide)).trans g_804
        have g_860 : fs_830[(29 : Nat)]? = some (.int kd_682) := (ga_838 29 (by decide)).trans g_805
        have g_861 : fs_830[(30 : Nat)]? = some (.int (nI x_678)) := (ga_838 30 (by decide)).trans g_806
        have g_862 : fs_830[(31 : Nat)]? = some (.int (nI y_679)) := (ga_838 31 (by decide)).trans g_807
        have g_863 : fs_830[(33 : Nat)]? = some (.int bd_683) := (ga_838 33 (by decide)).trans g_808
        have g_864 : fs_830[(34 : Nat)]? = some (.int (nI p_680)) := (ga_838 34 (by decide)).trans g_809
        have g_865 : fs_830[(35 : Nat)]? = some (.int (nI t_681)) := (ga_838 35 (by decide)).trans g_810
        have g_866 : fs_830[(36 : Nat)]? = some (.int (nI (g + 1))) := (ga_838 36 (by decide)).trans g_811
        have g_867 : fs_830[(37 : Nat)]? = some (.int (nI (o + 1))) := (ga_838 37 (by decide)).trans g_812
        have g_868 : fs_830[(41 : Nat)]? = some (.ref firstToken_) := (ga_838 41 (by decide)).trans g_815
        have g_869 : fs_830[(42 : Nat)]? = some (.ref starred_) := (ga_838 42 (by decide)).trans g_816
        have g_870 : fs_830[(43 : Nat)]? = some (.ref tokenAt_) := (ga_838 43 (by decide)).trans g_817
        have g_871 : fs_830[(44 : Nat)]? = some (.ref tokenSize_) := (ga_838 44 (by decide)).trans g_818
        have g_872 : fs_830[(45 : Nat)]? = some (.ref groupKind_) := (ga_838 45 (by decide)).trans g_819
        have g_873 : fs_830[(46 : Nat)]? = some (.ref groupPhrase_) := (ga_838 46 (by decide)).trans g_820
        have g_874 : fs_830[(47 : Nat)]? = some (.ref groupSize_) := (ga_838 47 (by decide)).trans g_821
        have g_875 : fs_830[(48 : Nat)]? = some (.ref groupMask_) := (ga_838 48 (by decide)).trans g_822
        have g_876 : fs_830[(49 : Nat)]? = some (.ref groupFar_) := (ga_838 49 (by decide)).trans g_823
        have g_877 : fs_830[(50 : Nat)]? = some (.ref out_) := (ga_838 50 (by decide)).trans g_824
        have g_878 : fs_830[(51 : Nat)]? = some (.ref top_) := (ga_838 51 (by decide)).trans g_825
        have g_879 : fs_830[(52 : Nat)]? = some (.ref masks_) := (ga_838 52 (by decide)).trans g_826
        have ga_880 : ∀ i : Nat, i ∉ [28, 29, 30, 31, 33, 34, 35, 36, 37, 38, 39] → fs_830[i]? = fs[i]? := fun i hi => (ga_838 i (fun z => hi (by simp only [List.mem_cons, List.not_mem_nil, or_false] at z ⊢; omega))).trans (ga_827 i hi)
        refine x_le (xw_le_n xw_le_e) ?_
        refine s_Model_group_174 ?_
        exact ⟨rfl, _, _, _, _, (g + 1), (o + 1), n_828, _, _, _, _, _, _, _, _, _, _, _, _, _, _, PT_689, J_690, TK_691, by omega, by omega, by omega, by omega, by omega, fun _ => ⟨u1, u3, rfl, GR.new u2, rfl, rfl, hn_831, hJ_832, hD_833⟩, fun q => absurd z_746 q, l_834, e_835, g_859, g_860, g_861, g_862, g_863, g_864, g_865, g_866, g_867, g_836, g_837, ga_880, e_844, e_845, e_846, e_847, e_848, e_849, e_850, e_851, e_852, e_853, r_856⟩
      · skip
        refine s_Model_group_113 ?_
        exact ⟨rfl, _, _, _, _, g, o, n, _, _, _, _, _, _, _, _, _, _, _, _, _, _, PT_689, J_690, TK_691, by omega, by omega, by omega, by omega, by omega, fun q => absurd q z_747, fun _ => ⟨rfl, rfl, rfl⟩, l_697, e_698, g_699, g_700, g_701, g_702, g_703, g_704, g_705, g_725, g_726, g_727, g_728, ga_743, e_707, e_708, e_709, e_710, e_716, e_717, e_718, e_719, e_720, e_721, r_724⟩
    · skip
      refine s_Model_group_82 ?_
      refine x_callV (As := []) (b := m) (rest := []) (F1 := 6) (L1 := 127) (mc := 0) (ms := 0) d_Model_group_83 cV_Model_269 (f_near l e_604 g_at g_kind g_from g_to g_bad g_phrases g_tokens g_groups g_askedSize g_asked e_605 g_firstToken e_606 g_starred e_607 g_tokenAt e_608 g_tokenSize e_609 g_groupFar e_560 (nd_ne ND (i := 2) (j := 3) rfl rfl (by decide)) (nd_ne ND (i := 2) (j := 10) rfl rfl (by decide)) (nd_ne ND (i := 3) (j := 10) rfl rfl (by decide)) (nd_ne ND (i := 4) (j := 5) rfl rfl (by decide)) hasz PT J TK PH hbd (by omega) (by omega) hk0 (by omega) (by omega)) e_604 ⟨by decide, rfl⟩ ⟨by omega, by show 8 + (4 + 11) + 127 ≤ _; omega⟩ ⟨by omega, by omega⟩ (Nat.le_of_ble_eq_true rfl) (fun v_918 h_917 p_919 => ?_)
      obtain ⟨rfl, x_881, y_882, p_883, t_884, kd_885, bd_886, c1_887, c2_888, ca_889, cs_890, c9_891, fs_892, PT_893, J_894, TK_895, hx_896, hp_897, hp12_898, ht_899, HB_900, l_901, e_902, g_903, g_904, g_905, g_906, g_907, g_908, g_909, ga_910, e_911, e_912, e_913, e_914, e_915, r_916⟩ := p_919
      have e_920 := r_916 asked_ _ (by simp only [List.mem_cons, List.not_mem_nil, or_false, not_or]; exact ⟨(Ne.symm (nd_ne ND (i := 0) (j := 1) rfl rfl (by decide))), (nd_ne ND (i := 1) (j := 2) rfl rfl (by decide)), (nd_ne ND (i := 1) (j := 3) rfl rfl (by decide)), (nd_ne ND (i := 1) (j := 4) rfl rfl (by decide)), (nd_ne ND (i := 1) (j := 5) rfl rfl (by decide)), (nd_ne ND (i := 1) (j := 10) rfl rfl (by decide))⟩) e_605
      have e_921 := r_916 groupKind_ _ (by simp only [List.mem_cons, List.not_mem_nil, or_false, not_or]; exact ⟨(Ne.symm (nd_ne ND (i := 0) (j := 6) rfl rfl (by decide))), (Ne.symm (nd_ne ND (i := 2) (j := 6) rfl rfl (by decide))), (Ne.symm (nd_ne ND (i := 3) (j := 6) rfl rfl (by decide))), (Ne.symm (nd_ne ND (i := 4) (j := 6) rfl rfl (by decide))), (Ne.symm (nd_ne ND (i := 5) (j := 6) rfl rfl (by decide))), (nd_ne ND (i := 6) (j := 10) rfl rfl (by decide))⟩) e_610
      have e_922 := r_916 groupPhrase_ _ (by simp only [List.mem_cons, List.not_mem_nil, or_false, not_or]; exact ⟨(Ne.symm (nd_ne ND (i := 0) (j := 7) rfl rfl (by decide))), (Ne.symm (nd_ne ND (i := 2) (j := 7) rfl rfl (by decide))), (Ne.symm (nd_ne ND (i := 3) (j := 7) rfl rfl (by decide))), (Ne.symm (nd_ne ND (i := 4) (j := 7) rfl rfl (by decide))), (Ne.symm (nd_ne ND (i := 5) (j := 7) rfl rfl (by decide))), (nd_ne ND (i := 7) (j := 10) rfl rfl (by decide))⟩) e_611
      have e_923 := r_916 groupSize_ _ (by simp only [List.mem_cons, List.not_mem_nil, or_false, not_or]; exact ⟨(Ne.symm (nd_ne ND (i := 0) (j := 8) rfl rfl (by decide))), (Ne.symm (nd_ne ND (i := 2) (j := 8) rfl rfl (by decide))), (Ne.symm (nd_ne ND (i := 3) (j := 8) rfl rfl (by decide))), (Ne.symm (nd_ne ND (i := 4) (j := 8) rfl rfl (by decide))), (Ne.symm (nd_ne ND (i := 5) (j := 8) rfl rfl (by decide))), (nd_ne ND (i := 8) (j := 10) rfl rfl (by decide))⟩) e_612
      have e_924 := r_916 groupMask_ _ (by simp only [List.mem_cons, List.not_mem_nil, or_false, not_or]; exact ⟨(Ne.symm (nd_ne ND (i := 0) (j := 9) rfl rfl (by decide))), (Ne.symm (nd_ne ND (i := 2) (j := 9) rfl rfl (by decide))), (Ne.symm (nd_ne ND (i := 3) (j := 9) rfl rfl (by decide))), (Ne.symm (nd_ne ND (i := 4) (j := 9) rfl rfl (by decide))), (Ne.symm (nd_ne ND (i := 5) (j := 9) rfl rfl (by decide))), (nd_ne ND (i := 9) (j := 10) rfl rfl (by decide))⟩) e_613
      have e_925 := r_916 out_ _ (by simp only [List.mem_cons, List.not_mem_nil, or_false, not_or]; exact ⟨(Ne.symm (nd_ne ND (i := 0) (j := 11) rfl rfl (by decide))), (Ne.symm (nd_ne ND (i := 2) (j := 11) rfl rfl (by decide))), (Ne.symm (nd_ne ND (i := 3) (j := 11) rfl rfl (by decide))), (Ne.symm (nd_ne ND (i := 4) (j := 11) rfl rfl (by decide))), (Ne.symm (nd_ne ND (i := 5) (j := 11) rfl rfl (by decide))), (Ne.symm (nd_ne ND (i := 10) (j := 11) rfl rfl (by decide)))⟩) e_614
      have e_926 := r_916 top_ _ (by simp only [List.mem_cons, List.not_mem_nil, or_false, not_or]; exact ⟨(Ne.symm (nd_ne ND (i := 0) (j := 12) rfl rfl (by decide))), (Ne.symm (nd_ne ND (i := 2) (j := 12) rfl rfl (by decide))), (Ne.symm (nd_ne ND (i := 3) (j := 12) rfl rfl (by decide))), (Ne.symm (nd_ne ND (i := 4) (j := 12) rfl rfl (by decide))), (Ne.symm (nd_ne ND (i := 5) (j := 12) rfl rfl (by decide))), (Ne.symm (nd_ne ND (i := 10) (j := 12) rfl rfl (by decide)))⟩) e_615
      have e_927 := r_916 masks_ _ (by simp only [List.mem_cons, List.not_mem_nil, or_false, not_or]; exact ⟨(Ne.symm (nd_ne ND (i := 0) (j := 13) rfl rfl (by decide))), (Ne.symm (nd_ne ND (i := 2) (j := 13) rfl rfl (by decide))), (Ne.symm (nd_ne ND (i := 3) (j := 13) rfl rfl (by decide))), (Ne.symm (nd_ne ND (i := 4) (j := 13) rfl rfl (by decide))), (Ne.symm (nd_ne ND (i := 5) (j := 13) rfl rfl (by decide))), (Ne.symm (nd_ne ND (i := 10) (j := 13) rfl rfl (by decide)))⟩) e_616
      have r_928 := r_617.trans (r_916.mono (by simp))
      have g_929 : fs_892[(36 : Nat)]? = some (.int (nI g)) := (ga_910 36 (by decide)).trans g_groups
      have g_930 : fs_892[(37 : Nat)]? = some (.int (nI o)) := (ga_910 37 (by decide)).trans g_outs
      have g_931 : fs_892[(38 : Nat)]? = some (.int (nI n)) := (ga_910 38 (by decide)).trans g_tops
      have g_932 : fs_892[(39 : Nat)]? = some (.int mk) := (ga_910 39 (by decide)).trans g_mask
      have g_933 : fs_892[(11 : Nat)]? = some (.int (nI asz)) := (ga_910 11 (by decide)).trans g_askedSize
      have g_934 : fs_892[(4 : Nat)]? = some (.ref asked_) := (ga_910 4 (by decide)).trans g_asked
      have g_935 : fs_892[(41 : Nat)]? = some (.ref firstToken_) := (ga_910 41 (by decide)).trans g_firstToken
      have g_936 : fs_892[(42 : Nat)]? = some (.ref starred_) := (ga_910 42 (by decide)).trans g_starred
      have g_937 : fs_892[(43 : Nat)]? = some (.ref tokenAt_) := (ga_910 43 (by decide)).trans g_tokenAt
      have g_938 : fs_892[(44 : Nat)]? = some (.ref tokenSize_) := (ga_910 44 (by decide)).trans g_tokenSize
      have g_939 : fs_892[(45 : Nat)]? = some (.ref groupKind_) := (ga_910 45 (by decide)).trans g_groupKind
      have g_940 : fs_892[(46 : Nat)]? = some (.ref groupPhrase_) := (ga_910 46 (by decide)).trans g_groupPhrase
      have g_941 : fs_892[(47 : Nat)]? = some (.ref groupSize_) := (ga_910 47 (by decide)).trans g_groupSize
      have g_942 : fs_892[(48 : Nat)]? = some (.ref groupMask_) := (ga_910 48 (by decide)).trans g_groupMask
      have g_943 : fs_892[(49 : Nat)]? = some (.ref groupFar_) := (ga_910 49 (by decide)).trans g_groupFar
      have g_944 : fs_892[(50 : Nat)]? = some (.ref out_) := (ga_910 50 (by decide)).trans g_out
      have g_945 : fs_892[(51 : Nat)]? = some (.ref top_) := (ga_910 51 (by decide)).trans g_top
      have g_946 : fs_892[(52 : Nat)]? = some (.ref masks_) := (ga_910 52 (by decide)).trans g_masks
      have ga_947 : ∀ i : Nat, i ∉ [28, 29, 30, 31, 33, 34, 35, 36, 37, 38, 39] → fs_892[i]? = fs[i]? := fun i hi => (ga_910 i (fun z => hi (by simp only [List.mem_cons, List.not_mem_nil, or_false] at z ⊢; omega))).trans (ga0 i hi)
      have hb_948 := Nat.le_trans PT_893.1 PT_893.2.1
      refine s_Model_group_86 ?_
      have PHf := HB_900
      refine s_Model_group_106 l_901 e_902 g_907 (fun z_949 => ?_) (fun z_950 => ?_)
      · skip
        refine s_Model_group_114 l_901 e_902 g_941 g_929 g_908 g_940 e_922 (vp_in_nI (by omega) (by omega)) e_923 (vp_in_nI (by omega) (by omega)) g_944 g_930 e_925 (vp_in_nI (by omega) (by omega)) (Ne.symm (nd_ne ND (i := 8) (j := 11) rfl rfl (by decide))) ?_
        rw [xw_up_up]
        refine x_u3 (fun h_951 e_952 f_953 h_954 e_955 f_956 h_957 e_958 f_959 => ?_)
        have e_960 := (f_953 m (nd_ne ND (i := 0) (j := 8) rfl rfl (by decide))).trans e_902
        have e_961 := (f_953 asked_ (nd_ne ND (i := 1) (j := 8) rfl rfl (by decide))).trans e_920
        have e_962 := (f_953 firstToken_ (nd_ne ND (i := 2) (j := 8) rfl rfl (by decide))).trans e_911
        have e_963 := (f_953 starred_ (nd_ne ND (i := 3) (j := 8) rfl rfl (by decide))).trans e_912
        have e_964 := (f_953 tokenAt_ (nd_ne ND (i := 4) (j := 8) rfl rfl (by decide))).trans e_913
        have e_965 := (f_953 tokenSize_ (nd_ne ND (i := 5) (j := 8) rfl rfl (by decide))).trans e_914
        have e_966 := (f_953 groupKind_ (nd_ne ND (i := 6) (j := 8) rfl rfl (by decide))).trans e_921
        have e_967 := (f_953 groupPhrase_ (nd_ne ND (i := 7) (j := 8) rfl rfl (by decide))).trans e_922
        have e_968 := (f_953 groupMask_ (Ne.symm (nd_ne ND (i := 8) (j := 9) rfl rfl (by decide)))).trans e_924
        have e_969 := (f_953 groupFar_ (Ne.symm (nd_ne ND (i := 8) (j := 10) rfl rfl (by decide)))).trans e_915
        have e_970 := (f_953 out_ (Ne.symm (nd_ne ND (i := 8) (j := 11) rfl rfl (by decide)))).trans e_925
        have e_971 := (f_953 top_ (Ne.symm (nd_ne ND (i := 8) (j := 12) rfl rfl (by decide)))).trans e_926
        have e_972 := (f_953 masks_ (Ne.symm (nd_ne ND (i := 8) (j := 13) rfl rfl (by decide)))).trans e_927
        have r_973 := r_928.up (by simp) f_953
        have e_974 := (f_956 m (nd_ne ND (i := 0) (j := 11) rfl rfl (by decide))).trans e_960
        have e_975 := (f_956 asked_ (nd_ne ND (i := 1) (j := 11) rfl rfl (by decide))).trans e_961
        have e_976 := (f_956 firstToken_ (nd_ne ND (i := 2) (j := 11) rfl rfl (by decide))).trans e_962
        have e_977 := (f_956 starred_ (nd_ne ND (i := 3) (j := 11) rfl rfl (by decide))).trans e_963
        have e_978 := (f_956 tokenAt_ (nd_ne ND (i := 4) (j := 11) rfl rfl (by decide))).trans e_964
        have e_979 := (f_956 tokenSize_ (nd_ne ND (i := 5) (j := 11) rfl rfl (by decide))).trans e_965
        have e_980 := (f_956 groupKind_ (nd_ne ND (i := 6) (j := 11) rfl rfl (by decide))).trans e_966
        have e_981 := (f_956 groupPhrase_ (nd_ne ND (i := 7) (j := 11) rfl rfl (by decide))).trans e_967
        have e_982 := (f_956 groupSize_ (nd_ne ND (i := 8) (j := 11) rfl rfl (by decide))).trans e_952
        have e_983 := (f_956 groupMask_ (nd_ne ND (i := 9) (j := 11) rfl rfl (by decide))).trans e_968
        have e_984 := (f_956 groupFar_ (nd_ne ND (i := 10) (j := 11) rfl rfl (by decide))).trans e_969
        have e_985 := (f_956 top_ (Ne.symm (nd_ne ND (i := 11) (j := 12) rfl rfl (by decide)))).trans e_971
        have e_986 := (f_956 masks_ (Ne.symm (nd_ne ND (i := 11) (j := 13) rfl rfl (by decide)))).trans e_972
        have r_987 := r_973.up (by simp) f_956
        have e_988 := (f_959 asked_ (Ne.symm (nd_ne ND (i := 0) (j := 1) rfl rfl (by decide)))).trans e_975
        have e_989 := (f_959 firstToken_ (Ne.symm (nd_ne ND (i := 0) (j := 2) rfl rfl (by decide)))).trans e_976
        have e_990 := (f_959 starred_ (Ne.symm (nd_ne ND (i := 0) (j := 3) rfl rfl (by decide)))).trans e_977
        have e_991 := (f_959 tokenAt_ (Ne.symm (nd_ne ND (i := 0) (j := 4) rfl rfl (by decide)))).trans e_978
        have e_992 := (f_959 tokenSize_ (Ne.symm (nd_ne ND (i := 0) (j := 5) rfl rfl (by decide)))).trans e_979
        have e_993 := (f_959 groupKind_ (Ne.symm (nd_ne ND (i := 0) (j := 6) rfl rfl (by decide)))).trans e_980
        have e_994 := (f_959 groupPhrase_ (Ne.symm (nd_ne ND (i := 0) (j := 7) rfl rfl (by decide)))).trans e_981
        have e_995 := (f_959 groupSize_ (Ne.symm (nd_ne ND (i := 0) (j := 8) rfl rfl (by decide)))).trans e_982
        have e_996 := (f_959 groupMask_ (Ne.symm (nd_ne ND (i := 0) (j := 9) rfl rfl (by decide)))).trans e_983
        have e_997 := (f_959 groupFar_ (Ne.symm (nd_ne ND (i := 0) (j := 10) rfl rfl (by decide)))).trans e_984
        have e_998 := (f_959 out_ (Ne.symm (nd_ne ND (i := 0) (j := 11) rfl rfl (by decide)))).trans e_955
        have e_999 := (f_959 top_ (Ne.symm (nd_ne ND (i := 0) (j := 12) rfl rfl (by decide)))).trans e_985
        have e_1000 := (f_959 masks_ (Ne.symm (nd_ne ND (i := 0) (j := 13) rfl rfl (by decide)))).trans e_986
        have r_1001 := r_987.up (by simp) f_959
        obtain ⟨fs_1002, z_1003⟩ : ∃ z, z = (fs_892.set 37 (.int ((nI o) + 1))).set 36 (.int ((nI g) + 1)) := ⟨_, rfl⟩
        rw [← z_1003] at e_958
        have l_1004 : fs_1002.length = 62 := by rw [z_1003]; simp only [List.length_set]; exact l_901
        have g_1005 : fs_1002[(4 : Nat)]? = some (.ref asked_) := by rw [z_1003]; exact (xw_gn (by decide) (xw_gn (by decide) g_934))
        have g_1006 : fs_1002[(11 : Nat)]? = some (.int (nI asz)) := by rw [z_1003]; exact (xw_gn (by decide) (xw_gn (by decide) g_933))
        have g_1007 : fs_1002[(28 : Nat)]? = some (.int (nI x_881)) := by rw [z_1003]; exact (xw_gn (by decide) (xw_gn (by decide) g_903))
        have g_1008 : fs_1002[(29 : Nat)]? = some (.int kd_885) := by rw [z_1003]; exact (xw_gn (by decide) (xw_gn (by decide) g_904))
        have g_1009 : fs_1002[(30 : Nat)]? = some (.int (nI x_881)) := by rw [z_1003]; exact (xw_gn (by decide) (xw_gn (by decide) g_905))
        have g_1010 : fs_1002[(31 : Nat)]? = some (.int (nI y_882)) := by rw [z_1003]; exact (xw_gn (by decide) (xw_gn (by decide) g_906))
        have g_1011 : fs_1002[(33 : Nat)]? = some (.int bd_886) := by rw [z_1003]; exact (xw_gn (by decide) (xw_gn (by decide) g_907))
        have g_1012 : fs_1002[(34 : Nat)]? = some (.int (nI p_883)) := by rw [z_1003]; exact (xw_gn (by decide) (xw_gn (by decide) g_908))
        have g_1013 : fs_1002[(35 : Nat)]? = some (.int (nI t_884)) := by rw [z_1003]; exact (xw_gn (by decide) (xw_gn (by decide) g_909))
        have g_1014 : fs_1002[(36 : Nat)]? = some (.int ((nI g) + 1)) := by rw [z_1003]; exact (xw_gs (by simp [l_901]))
        have g_1015 : fs_1002[(37 : Nat)]? = some (.int ((nI o) + 1)) := by rw [z_1003]; exact (xw_gn (by decide) (xw_gs (by simp [l_901])))
        have g_1016 : fs_1002[(38 : Nat)]? = some (.int (nI n)) := by rw [z_1003]; exact (xw_gn (by decide) (xw_gn (by decide) g_931))
        have g_1017 : fs_1002[(39 : Nat)]? = some (.int mk) := by rw [z_1003]; exact (xw_gn (by decide) (xw_gn (by decide) g_932))
        have g_1018 : fs_1002[(41 : Nat)]? = some (.ref firstToken_) := by rw [z_1003]; exact (xw_gn (by decide) (xw_gn (by decide) g_935))
        have g_1019 : fs_1002[(42 : Nat)]? = some (.ref starred_) := by rw [z_1003]; exact (xw_gn (by decide) (xw_gn (by decide) g_936))
        have g_1020 : fs_1002[(43 : Nat)]? = some (.ref tokenAt_) := by rw [z_1003]; exact (xw_gn (by decide) (xw_gn (by decide) g_937))
        have g_1021 : fs_1002[(44 : Nat)]? = some (.ref tokenSize_) := by rw [z_1003]; exact (xw_gn (by decide) (xw_gn (by decide) g_938))
        have g_1022 : fs_1002[(45 : Nat)]? = some (.ref groupKind_) := by rw [z_1003]; exact (xw_gn (by decide) (xw_gn (by decide) g_939))
        have g_1023 : fs_1002[(46 : Nat)]? = some (.ref groupPhrase_) := by rw [z_1003]; exact (xw_gn (by decide) (xw_gn (by decide) g_940))
        have g_1024 : fs_1002[(47 : Nat)]? = some (.ref groupSize_) := by rw [z_1003]; exact (xw_gn (by decide) (xw_gn (by decide) g_941))
        have g_1025 : fs_1002[(48 : Nat)]? = some (.ref groupMask_) := by rw [z_1003]; exact (xw_gn (by decide) (xw_gn (by decide) g_942))
        have g_1026 : fs_1002[(49 : Nat)]? = some (.ref groupFar_) := by rw [z_1003]; exact (xw_gn (by decide) (xw_gn (by decide) g_943))
        have g_1027 : fs_1002[(50 : Nat)]? = some (.ref out_) := by rw [z_1003]; exact (xw_gn (by decide) (xw_gn (by decide) g_944))
        have g_1028 : fs_1002[(51 : Nat)]? = some (.ref top_) := by rw [z_1003]; exact (xw_gn (by decide) (xw_gn (by decide) g_945))
        have g_1029 : fs_1002[(52 : Nat)]? = some (.ref masks_) := by rw [z_1003]; exact (xw_gn (by decide) (xw_gn (by decide) g_946))
        have ga_1030 : ∀ i : Nat, i ∉ [28, 29, 30, 31, 33, 34, 35, 36, 37, 38, 39] → fs_1002[i]? = fs[i]? := fun i hi => by rw [z_1003]; exact xw_gn (fun z => hi (by rw [z]; simp)) (xw_gn (fun z => hi (by rw [z]; simp)) (ga_947 i hi))
        clear z_1003
        obtain ⟨u1, u2, u3⟩ := PHf z_949
        rw [nI_clamp (show g < 2 ^ 31 by omega), pk_us] at e_995
        rw [nI_clamp (show o < 2 ^ 31 by omega)] at e_998
        rw [nI_1] at g_1014 g_1015
        refine s_Model_group_170 ?_
        refine x_callV (As := []) (b := m) (rest := []) (F1 := 1) (L1 := 20) (mc := 0) (ms := 0) d_Model_group_171 cV_Model_275 (f_closesFilters l_1004 e_958 g_1016 g_1017 g_1028 e_999 g_1029 e_1000 (nd_ne ND (i := 12) (j := 13) rfl rfl (by decide)) (by omega) (by omega) (by omega)) e_958 ⟨by decide, rfl⟩ ⟨by omega, by show 8 + (1 + 11) + 20 ≤ _; omega⟩ ⟨by omega, by omega⟩ (Nat.le_of_ble_eq_true rfl) (fun v_1044 h_1043 p_1045 => ?_)
        obtain ⟨rfl, n_1031, mk_1032, fs_1033, hn_1034, hJ_1035, hD_1036, l_1037, e_1038, g_1039, g_1040, ga_1041, r_1042⟩ := p_1045
        have e_1046 := r_1042 asked_ _ (by simp only [List.mem_cons, List.not_mem_nil, or_false, not_or]; exact (Ne.symm (nd_ne ND (i := 0) (j := 1) rfl rfl (by decide)))) e_988
        have e_1047 := r_1042 firstToken_ _ (by simp only [List.mem_cons, List.not_mem_nil, or_false, not_or]; exact (Ne.symm (nd_ne ND (i := 0) (j := 2) rfl rfl (by decide)))) e_989
        have e_1048 := r_1042 starred_ _ (by simp only [List.mem_cons, List.not_mem_nil, or_false, not_or]; exact (Ne.symm (nd_ne ND (i := 0) (j := 3) rfl rfl (by decide)))) e_990
        have e_1049 := r_1042 tokenAt_ _ (by simp only [List.mem_cons, List.not_mem_nil, or_false, not_or]; exact (Ne.symm (nd_ne ND (i := 0) (j := 4) rfl rfl (by decide)))) e_991
        have e_1050 := r_1042 tokenSize_ _ (by simp only [List.mem_cons, List.not_mem_nil, or_false, not_or]; exact (Ne.symm (nd_ne ND (i := 0) (j := 5) rfl rfl (by decide)))) e_992
        have e_1051 := r_1042 groupKind_ _ (by simp only [List.mem_cons, List.not_mem_nil, or_false, not_or]; exact (Ne.symm (nd_ne ND (i := 0) (j := 6) rfl rfl (by decide)))) e_993
        have e_1052 := r_1042 groupPhrase_ _ (by simp only [List.mem_cons, List.not_mem_nil, or_false, not_or]; exact (Ne.symm (nd_ne ND (i := 0) (j := 7) rfl rfl (by decide)))) e_994
        have e_1053 := r_1042 groupSize_ _ (by simp only [List.mem_cons, List.not_mem_nil, or_false, not_or]; exact (Ne.symm (nd_ne ND (i := 0) (j := 8) rfl rfl (by decide)))) e_995
        have e_1054 := r_1042 groupMask_ _ (by simp only [List.mem_cons, List.not_mem_nil, or_false, not_or]; exact (Ne.symm (nd_ne ND (i := 0) (j := 9) rfl rfl (by decide)))) e_996
        have e_1055 := r_1042 groupFar_ _ (by simp only [List.mem_cons, List.not_mem_nil, or_false, not_or]; exact (Ne.symm (nd_ne ND (i := 0) (j := 10) rfl rfl (by decide)))) e_997
        have e_1056 := r_1042 out_ _ (by simp only [List.mem_cons, List.not_mem_nil, or_false, not_or]; exact (Ne.symm (nd_ne ND (i := 0) (j := 11) rfl rfl (by decide)))) e_998
        have e_1057 := r_1042 top_ _ (by simp only [List.mem_cons, List.not_mem_nil, or_false, not_or]; exact (Ne.symm (nd_ne ND (i := 0) (j := 12) rfl rfl (by decide)))) e_999
        have e_1058 := r_1042 masks_ _ (by simp only [List.mem_cons, List.not_mem_nil, or_false, not_or]; exact (Ne.symm (nd_ne ND (i := 0) (j := 13) rfl rfl (by decide)))) e_1000
        have r_1059 := r_1001.trans (r_1042.mono (by simp))
        have g_1060 : fs_1033[(4 : Nat)]? = some (.ref asked_) := (ga_1041 4 (by decide)).trans g_1005
        have g_1061 : fs_1033[(11 : Nat)]? = some (.int (nI asz)) := (ga_1041 11 (by decide)).trans g_1006
        have g_1062 : fs_1033[(28 : Nat)]? = some (.int (nI x_881)) := (ga_1041 28 (by decide)).trans g_1007
        have g_1063 : fs_1033[(29 : Nat)]? = some (.int kd_885) := (ga_1041 29 (by decide)).trans g_1008
        have g_1064 : fs_1033[(30 : Nat)]? = some (.int (nI x_881)) := (ga_1041 30 (by decide)).trans g_1009
        have g_1065 : fs_1033[(31 : Nat)]? = some (.int (nI y_882)) := (ga_1041 31 (by decide)).trans g_1010
        have g_1066 : fs_1033[(33 : Nat)]? = some (.int bd_886) := (ga_1041 33 (by decide)).trans g_1011
        have g_1067 : fs_1033[(34 : Nat)]? = some (.int (nI p_883)) := (ga_1041 34 (by decide)).trans g_1012
        have g_1068 : fs_1033[(35 : Nat)]? = some (.int (nI t_884)) := (ga_1041 35 (by decide)).trans g_1013
        have g_1069 : fs_1033[(36 : Nat)]? = some (.int (nI (g + 1))) := (ga_1041 36 (by decide)).trans g_1014
        have g_1070 : fs_1033[(37 : Nat)]? = some (.int (nI (o + 1))) := (ga_1041 37 (by decide)).trans g_1015
        have g_1071 : fs_1033[(41 : Nat)]? = some (.ref firstToken_) := (ga_1041 41 (by decide)).trans g_1018
        have g_1072 : fs_1033[(42 : Nat)]? = some (.ref starred_) := (ga_1041 42 (by decide)).trans g_1019
        have g_1073 : fs_1033[(43 : Nat)]? = some (.ref tokenAt_) := (ga_1041 43 (by decide)).trans g_1020
        have g_1074 : fs_1033[(44 : Nat)]? = some (.ref tokenSize_) := (ga_1041 44 (by decide)).trans g_1021
        have g_1075 : fs_1033[(45 : Nat)]? = some (.ref groupKind_) := (ga_1041 45 (by decide)).trans g_1022
        have g_1076 : fs_1033[(46 : Nat)]? = some (.ref groupPhrase_) := (ga_1041 46 (by decide)).trans g_1023
        have g_1077 : fs_1033[(47 : Nat)]? = some (.ref groupSize_) := (ga_1041 47 (by decide)).trans g_1024
        have g_1078 : fs_1033[(48 : Nat)]? = some (.ref groupMask_) := (ga_1041 48 (by decide)).trans g_1025
        have g_1079 : fs_1033[(49 : Nat)]? = some (.ref groupFar_) := (ga_1041 49 (by decide)).trans g_1026
        have g_1080 : fs_1033[(50 : Nat)]? = some (.ref out_) := (ga_1041 50 (by decide)).trans g_1027
        have g_1081 : fs_1033[(51 : Nat)]? = some (.ref top_) := (ga_1041 51 (by decide)).trans g_1028
        have g_1082 : fs_1033[(52 : Nat)]? = some (.ref masks_) := (ga_1041 52 (by decide)).trans g_1029
        have ga_1083 : ∀ i : Nat, i ∉ [28, 29, 30, 31, 33, 34, 35, 36, 37, 38, 39] → fs_1033[i]? = fs[i]? := fun i hi => (ga_1041 i (fun z => hi (by simp only [List.mem_cons, List.not_mem_nil, or_false] at z ⊢; omega))).trans (ga_1030 i hi)
        refine x_le (xw_le_n xw_le_e) ?_
        refine s_Model_group_174 ?_
        exact ⟨rfl, _, _, _, _, (g + 1), (o + 1), n_1031, _, _, _, _, _, _, _, _, _, _, _, _, _, _, PT_893, J_894, TK_895, by omega, by omega, by omega, by omega, by omega, fun _ => ⟨u1, u3, rfl, GR.new u2, rfl, rfl, hn_1034, hJ_1035, hD_1036⟩, fun q => absurd z_949 q, l_1037, e_1038, g_1062, g_1063, g_1064, g_1065, g_1066, g_1067, g_1068, g_1069, g_1070, g_1039, g_1040, ga_1083, e_1047, e_1048, e_1049, e_1050, e_1051, e_1052, e_1053, e_1054, e_1055, e_1056, r_1059⟩
      · skip
        refine s_Model_group_113 ?_
        exact ⟨rfl, _, _, _, _, g, o, n, _, _, _, _, _, _, _, _, _, _, _, _, _, _, PT_893, J_894, TK_895, by omega, by omega, by omega, by omega, by omega, fun q => absurd q z_950, fun _ => ⟨rfl, rfl, rfl⟩, l_901, e_902, g_903, g_904, g_905, g_906, g_907, g_908, g_909, g_929, g_930, g_931, g_932, ga_947, e_911, e_912, e_913, e_914, e_921, e_922, e_923, e_924, e_915, e_925, r_928⟩
