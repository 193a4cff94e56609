/-! ONE CALL ON A FRESH OBJECT: THE CLASS: by program (wip/tools/p1l.py) -/
theorem col2 {x : Int32} (h : 1 < x) : 2 ≤ x := by
  rw [Int32.lt_iff_toInt_lt] at h
  rw [Int32.le_iff_toInt_le]
  have h1 : (1 : Int32).toInt = 1 := rfl
  have h2 : (2 : Int32).toInt = 2 := rfl
  omega
theorem row_in {x : Int32} (h1 : ¬ x < 1) (h2 : ¬ 24 < x) : vp_in x 25 := by
  obtain ⟨j, a, b, rfl⟩ := ix_of (a := 1) (b := 24) (by decide) (by decide) h1 h2
  exact vp_in_nI (by omega) (by decide)
theorem FrO.newB {A : List Nat} {h h0 h1 h2 : xw_A} {a : Nat} (r0 : FrO A h h0) (hz : h0 a = none) (hn : a ∉ A) (r : FrO A h h1) (f : ∀ q, q ≠ a → h2 q = h1 q) : FrO A h h2 :=
  fun q e hq he => (f q (fun z => by have h9 := r0 q e hq he; rw [z, hz] at h9; cases h9)).trans (r q e hq he)
theorem FrO.over {A : List Nat} {h h0 h1 h2 : xw_A} {a : Nat} (r0 : FrO A h h0) (hz : h0 a = none) (hn : a ∉ A) (r : FrO A h h1) (r2 : FrO [a] h1 h2) : FrO A h h2 :=
  fun q e hq he => r2 q e (by
    simp only [List.mem_cons, List.not_mem_nil, or_false]
    intro z
    have h9 := r0 q e hq he
    rw [z, hz] at h9
    cases h9) (r q e hq he)
theorem thA_71 : xw_thA "PhraseShelf" 75 "java/lang/IllegalArgumentException" "java/lang/RuntimeException" 7 ⟨#[0x2a, 0x2b, 0xb7, 0, 7, 0xb1]⟩ ["java/lang/Exception"] := ⟨by decide +kernel, by decide +kernel, by decide +kernel, by decide +kernel, by decide +kernel⟩
theorem thA_81 : xw_thA "PhraseShelf" 85 "java/lang/IndexOutOfBoundsException" "java/lang/RuntimeException" 7 ⟨#[0x2a, 0x2b, 0xb7, 0, 7, 0xb1]⟩ ["java/lang/Exception"] := ⟨by decide +kernel, by decide +kernel, by decide +kernel, by decide +kernel, by decide +kernel⟩
theorem thA_119 : xw_thA "PhraseShelf" 123 "java/util/NoSuchElementException" "java/lang/RuntimeException" 13 ⟨#[0x2a, 0x2b, 0xb7, 0, 13, 0xb1]⟩ ["java/lang/Exception"] := ⟨by decide +kernel, by decide +kernel, by decide +kernel, by decide +kernel, by decide +kernel⟩
theorem thA_136 : xw_thA "PhraseShelf" 140 "java/lang/IllegalStateException" "java/lang/RuntimeException" 7 ⟨#[0x2a, 0x2b, 0xb7, 0, 7, 0xb1]⟩ ["java/lang/Exception"] := ⟨by decide +kernel, by decide +kernel, by decide +kernel, by decide +kernel, by decide +kernel⟩
theorem th_Shelf_81_198_85 : xw_th "PhraseShelf" 81 198 85 "java/lang/IndexOutOfBoundsException" "no such answer" "java/lang/RuntimeException" 7 ⟨#[0x2a, 0x2b, 0xb7, 0, 7, 0xb1]⟩ ["java/lang/Exception"] :=
  ⟨⟨by decide +kernel, by decide +kernel, by decide +kernel, by decide +kernel⟩, xw_in2 229 rfl rfl, xw_in1 15 rfl rfl, List.mem_of_getElem? (i := 1108) (by decide +kernel), by decide +kernel, ⟨by decide +kernel, by decide +kernel⟩, thA_81⟩
theorem th_Shelf_71_168_75 : xw_th "PhraseShelf" 71 168 75 "java/lang/IllegalArgumentException" "the draft is no question" "java/lang/RuntimeException" 7 ⟨#[0x2a, 0x2b, 0xb7, 0, 7, 0xb1]⟩ ["java/lang/Exception"] :=
  ⟨⟨by decide +kernel, by decide +kernel, by decide +kernel, by decide +kernel⟩, xw_in2 160 rfl rfl, xw_in1 14 rfl rfl, List.mem_of_getElem? (i := 992) (by decide +kernel), by decide +kernel, ⟨by decide +kernel, by decide +kernel⟩, thA_71⟩
theorem th_Shelf_136_138_140 : xw_th "PhraseShelf" 136 138 140 "java/lang/IllegalStateException" "a transaction is open" "java/lang/RuntimeException" 7 ⟨#[0x2a, 0x2b, 0xb7, 0, 7, 0xb1]⟩ ["java/lang/Exception"] :=
  ⟨⟨by decide +kernel, by decide +kernel, by decide +kernel, by decide +kernel⟩, xw_in3 142 rfl rfl, xw_in1 19 rfl rfl, List.mem_of_getElem? (i := 714) (by decide +kernel), by decide +kernel, ⟨by decide +kernel, by decide +kernel⟩, thA_136⟩
theorem th_Shelf_136_145_140 : xw_th "PhraseShelf" 136 145 140 "java/lang/IllegalStateException" "no transaction is open" "java/lang/RuntimeException" 7 ⟨#[0x2a, 0x2b, 0xb7, 0, 7, 0xb1]⟩ ["java/lang/Exception"] :=
  ⟨⟨by decide +kernel, by decide +kernel, by decide +kernel, by decide +kernel⟩, xw_in3 142 rfl rfl, xw_in1 19 rfl rfl, List.mem_of_getElem? (i := 732) (by decide +kernel), by decide +kernel, ⟨by decide +kernel, by decide +kernel⟩, thA_136⟩
theorem th_Shelf_71_250_75 : xw_th "PhraseShelf" 71 250 75 "java/lang/IllegalArgumentException" "nothing counted has that number" "java/lang/RuntimeException" 7 ⟨#[0x2a, 0x2b, 0xb7, 0, 7, 0xb1]⟩ ["java/lang/Exception"] :=
  ⟨⟨by decide +kernel, by decide +kernel, by decide +kernel, by decide +kernel⟩, xw_in2 160 rfl rfl, xw_in1 14 rfl rfl, List.mem_of_getElem? (i := 1144) (by decide +kernel), by decide +kernel, ⟨by decide +kernel, by decide +kernel⟩, thA_71⟩
theorem th_Shelf_119_121_123 : xw_th "PhraseShelf" 119 121 123 "java/util/NoSuchElementException" "no such row" "java/lang/RuntimeException" 13 ⟨#[0x2a, 0x2b, 0xb7, 0, 13, 0xb1]⟩ ["java/lang/Exception"] :=
  ⟨⟨by decide +kernel, by decide +kernel, by decide +kernel, by decide +kernel⟩, xw_in3 103 rfl rfl, xw_in1 18 rfl rfl, List.mem_of_getElem? (i := 675) (by decide +kernel), by decide +kernel, ⟨by decide +kernel, by decide +kernel⟩, thA_119⟩
theorem th_Shelf_81_109_85 : xw_th "PhraseShelf" 81 109 85 "java/lang/IndexOutOfBoundsException" "all rows are taken" "java/lang/RuntimeException" 7 ⟨#[0x2a, 0x2b, 0xb7, 0, 7, 0xb1]⟩ ["java/lang/Exception"] :=
  ⟨⟨by decide +kernel, by decide +kernel, by decide +kernel, by decide +kernel⟩, xw_in2 229 rfl rfl, xw_in1 15 rfl rfl, List.mem_of_getElem? (i := 602) (by decide +kernel), by decide +kernel, ⟨by decide +kernel, by decide +kernel⟩, thA_81⟩
theorem th_Shelf_71_73_75 : xw_th "PhraseShelf" 71 73 75 "java/lang/IllegalArgumentException" "no letter, or an octet that is none" "java/lang/RuntimeException" 7 ⟨#[0x2a, 0x2b, 0xb7, 0, 7, 0xb1]⟩ ["java/lang/Exception"] :=
  ⟨⟨by decide +kernel, by decide +kernel, by decide +kernel, by decide +kernel⟩, xw_in2 160 rfl rfl, xw_in1 14 rfl rfl, List.mem_of_getElem? (i := 525) (by decide +kernel), by decide +kernel, ⟨by decide +kernel, by decide +kernel⟩, thA_71⟩
theorem th_Shelf_81_83_85 : xw_th "PhraseShelf" 81 83 85 "java/lang/IndexOutOfBoundsException" "the draft is full" "java/lang/RuntimeException" 7 ⟨#[0x2a, 0x2b, 0xb7, 0, 7, 0xb1]⟩ ["java/lang/Exception"] :=
  ⟨⟨by decide +kernel, by decide +kernel, by decide +kernel, by decide +kernel⟩, xw_in2 229 rfl rfl, xw_in1 15 rfl rfl, List.mem_of_getElem? (i := 561) (by decide +kernel), by decide +kernel, ⟨by decide +kernel, by decide +kernel⟩, thA_81⟩
theorem th_Shelf_71_221_75 : xw_th "PhraseShelf" 71 221 75 "java/lang/IllegalArgumentException" "nothing of a row has that number" "java/lang/RuntimeException" 7 ⟨#[0x2a, 0x2b, 0xb7, 0, 7, 0xb1]⟩ ["java/lang/Exception"] :=
  ⟨⟨by decide +kernel, by decide +kernel, by decide +kernel, by decide +kernel⟩, xw_in2 160 rfl rfl, xw_in1 14 rfl rfl, List.mem_of_getElem? (i := 1127) (by decide +kernel), by decide +kernel, ⟨by decide +kernel, by decide +kernel⟩, thA_71⟩
theorem th_Shelf_81_223_85 : xw_th "PhraseShelf" 81 223 85 "java/lang/IndexOutOfBoundsException" "no such segment" "java/lang/RuntimeException" 7 ⟨#[0x2a, 0x2b, 0xb7, 0, 7, 0xb1]⟩ ["java/lang/Exception"] :=
  ⟨⟨by decide +kernel, by decide +kernel, by decide +kernel, by decide +kernel⟩, xw_in2 229 rfl rfl, xw_in1 15 rfl rfl, List.mem_of_getElem? (i := 1135) (by decide +kernel), by decide +kernel, ⟨by decide +kernel, by decide +kernel⟩, thA_81⟩
theorem th_Shelf_71_239_75 : xw_th "PhraseShelf" 71 239 75 "java/lang/IllegalArgumentException" "nothing of a segment has that number" "java/lang/RuntimeException" 7 ⟨#[0x2a, 0x2b, 0xb7, 0, 7, 0xb1]⟩ ["java/lang/Exception"] :=
  ⟨⟨by decide +kernel, by decide +kernel, by decide +kernel, by decide +kernel⟩, xw_in2 160 rfl rfl, xw_in1 14 rfl rfl, List.mem_of_getElem? (i := 1136) (by decide +kernel), by decide +kernel, ⟨by decide +kernel, by decide +kernel⟩, thA_71⟩
theorem th_Shelf_71_94_75 : xw_th "PhraseShelf" 71 94 75 "java/lang/IllegalArgumentException" "no such column" "java/lang/RuntimeException" 7 ⟨#[0x2a, 0x2b, 0xb7, 0, 7, 0xb1]⟩ ["java/lang/Exception"] :=
  ⟨⟨by decide +kernel, by decide +kernel, by decide +kernel, by decide +kernel⟩, xw_in2 160 rfl rfl, xw_in1 14 rfl rfl, List.mem_of_getElem? (i := 578) (by decide +kernel), by decide +kernel, ⟨by decide +kernel, by decide +kernel⟩, thA_71⟩
theorem th_Shelf_81_96_85 : xw_th "PhraseShelf" 81 96 85 "java/lang/IndexOutOfBoundsException" "the draft is too long for a text" "java/lang/RuntimeException" 7 ⟨#[0x2a, 0x2b, 0xb7, 0, 7, 0xb1]⟩ ["java/lang/Exception"] :=
  ⟨⟨by decide +kernel, by decide +kernel, by decide +kernel, by decide +kernel⟩, xw_in2 229 rfl rfl, xw_in1 15 rfl rfl, List.mem_of_getElem? (i := 579) (by decide +kernel), by decide +kernel, ⟨by decide +kernel, by decide +kernel⟩, thA_81⟩
theorem th_Shelf_71_159_75 : xw_th "PhraseShelf" 71 159 75 "java/lang/IllegalArgumentException" "most or limit is out of range" "java/lang/RuntimeException" 7 ⟨#[0x2a, 0x2b, 0xb7, 0, 7, 0xb1]⟩ ["java/lang/Exception"] :=
  ⟨⟨by decide +kernel, by decide +kernel, by decide +kernel, by decide +kernel⟩, xw_in2 160 rfl rfl, xw_in1 14 rfl rfl, List.mem_of_getElem? (i := 751) (by decide +kernel), by decide +kernel, ⟨by decide +kernel, by decide +kernel⟩, thA_71⟩
theorem th_Shelf_71_161_75 : xw_th "PhraseShelf" 71 161 75 "java/lang/IllegalArgumentException" "column or weight is out of range" "java/lang/RuntimeException" 7 ⟨#[0x2a, 0x2b, 0xb7, 0, 7, 0xb1]⟩ ["java/lang/Exception"] :=
  ⟨⟨by decide +kernel, by decide +kernel, by decide +kernel, by decide +kernel⟩, xw_in2 160 rfl rfl, xw_in1 14 rfl rfl, List.mem_of_getElem? (i := 759) (by decide +kernel), by decide +kernel, ⟨by decide +kernel, by decide +kernel⟩, thA_71⟩
set_option maxHeartbeats 1000000 in
theorem fc_isCol_no {G : xw_G} {F L : Nat} {h : xw_A} {x : Int32}  (hn : x < 0 ∨ 1 < x) (hF : 1 ≤ F) (hL : 20 ≤ L) :
    xw_Met G m_Shelf_isColumn F L 0 0 [.int x] h (fun v h' => v = some (.int 0) ∧ FrO [] h h') (fun _ _ => False) := by
  refine xw_Met.of rfl (by decide) (Nat.le_of_ble_eq_true rfl) ?_
  have r0 : FrO [] h h := FrO.rf
  refine s_Shelf_isColumn_0 (fun z_1 => ?_) (fun z_2 => ?_)
  · skip
    refine s_Shelf_isColumn_13 ?_
    refine s_Shelf_isColumn_14 rfl ?_
    exact ⟨rfl, r0⟩
  · skip
    refine s_Shelf_isColumn_4 (fun z_3 => ?_) (fun z => hn.elim (fun q => absurd q z_2) (fun q => absurd (col2 q) z))
    refine s_Shelf_isColumn_13 ?_
    refine s_Shelf_isColumn_14 rfl ?_
    exact ⟨rfl, r0⟩
set_option maxHeartbeats 1000000 in
theorem fc_isCol_0 {G : xw_G} {F L : Nat} {h : xw_A}  (hF : 1 ≤ F) (hL : 20 ≤ L) :
    xw_Met G m_Shelf_isColumn F L 0 0 [.int 0] h (fun v h' => v = some (.int 1) ∧ FrO [] h h') (fun _ _ => False) := by
  refine xw_Met.of rfl (by decide) (Nat.le_of_ble_eq_true rfl) ?_
  have r0 : FrO [] h h := FrO.rf
  refine s_Shelf_isColumn_0 (fun z => absurd z (by decide)) (fun z_1 => ?_)
  refine s_Shelf_isColumn_4 (fun z => absurd z (by decide)) (fun z_2 => ?_)
  refine s_Shelf_isColumn_9 ?_
  refine s_Shelf_isColumn_14 rfl ?_
  exact ⟨rfl, r0⟩
set_option maxHeartbeats 1000000 in
theorem fc_isCol_1 {G : xw_G} {F L : Nat} {h : xw_A}  (hF : 1 ≤ F) (hL : 20 ≤ L) :
    xw_Met G m_Shelf_isColumn F L 0 0 [.int 1] h (fun v h' => v = some (.int 1) ∧ FrO [] h h') (fun _ _ => False) := by
  refine xw_Met.of rfl (by decide) (Nat.le_of_ble_eq_true rfl) ?_
  have r0 : FrO [] h h := FrO.rf
  refine s_Shelf_isColumn_0 (fun z => absurd z (by decide)) (fun z_1 => ?_)
  refine s_Shelf_isColumn_4 (fun z => absurd z (by decide)) (fun z_2 => ?_)
  refine s_Shelf_isColumn_9 ?_
  refine s_Shelf_isColumn_14 rfl ?_
  exact ⟨rfl, r0⟩
set_option maxHeartbeats 1000000 in
theorem fc_drop {G : xw_G} {F L : Nat} {h : xw_A} {x d tx w st sv qo so ao : Nat} (e_x : h x = some (.inr (0, [.ref d, .ref tx, .ref w, .ref st, .ref sv, .ref qo, .ref so, .ref ao, .int 0, .int 3, .int 20, .int 0, .int (-1), .int 0]))) (hF : 1 ≤ F) (hL : 20 ≤ L) :
    xw_Met G m_Shelf_drop F L 0 0 [.ref x] h (fun v h' => v = some (.int 0) ∧ FrO [x] h h') (fun _ _ => False) := by
  refine xw_Met.of rfl (by decide) (Nat.le_of_ble_eq_true rfl) ?_
  have r0 : FrO [x] h h := FrO.rf
  refine s_Shelf_drop_0 (draft_a0 := some d) (texts_a0 := some tx) (weights_a0 := some w) (store_a0 := some st) (saved_a0 := some sv) (question_a0 := some qo) (standing_a0 := some so) (answers_a0 := some ao) e_x ?_
  obtain ⟨h_1, z_4⟩ : ∃ z, z = xw_up h x (.inr (0, [va_rf (some d), va_rf (some tx), va_rf (some w), va_rf (some st), va_rf (some sv), va_rf (some qo), va_rf (some so), va_rf (some ao), .int 0, .int 3, .int 20, .int 0, .int (-1), .int 0])) := ⟨_, rfl⟩
  rw [← z_4]
  have e_2 : h_1 x = some (.inr (0, [va_rf (some d), va_rf (some tx), va_rf (some w), va_rf (some st), va_rf (some sv), va_rf (some qo), va_rf (some so), va_rf (some ao), .int 0, .int 3, .int 20, .int 0, .int (-1), .int 0])) := by rw [z_4]; exact xw_up_s _ _ _
  have f_3 : ∀ q, q ≠ x → h_1 q = h q := fun q hq => by rw [z_4]; exact xw_up_n _ _ hq
  clear z_4
  have r_5 := r0.up (by simp) f_3
  exact ⟨rfl, r_5⟩
