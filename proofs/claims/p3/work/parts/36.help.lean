/-! rows that p1 had already -/
theorem f_in_yes {G : xw_G} {F L : Nat} {h : xw_A} {x lo hi : Int32} (h1 : ¬ x < lo) (h2 : ¬ hi < x) (hF : 1 ≤ F) (hL : 20 ≤ L) :
    xw_Met G m_Model_in F L 0 0 [.int x, .int lo, .int hi] h (fun v h' => v = some (.int 1) ∧ h = h') (fun _ _ => False) := by
  refine xw_Met.of rfl (by decide) (Nat.le_of_ble_eq_true rfl) ?_
  refine s_Model_in_0 (fun z => absurd z h1) (fun z_1 => ?_)
  refine s_Model_in_5 (fun z => absurd z h2) (fun z_2 => ?_)
  refine s_Model_in_10 ?_
  refine s_Model_in_15 rfl ?_
  exact ⟨rfl, rfl⟩
theorem f_in_no {G : xw_G} {F L : Nat} {h : xw_A} {x lo hi : Int32} (hn : x < lo ∨ hi < x) (hF : 1 ≤ F) (hL : 20 ≤ L) :
    xw_Met G m_Model_in F L 0 0 [.int x, .int lo, .int hi] h (fun v h' => v = some (.int 0) ∧ h = h') (fun _ _ => False) := by
  refine xw_Met.of rfl (by decide) (Nat.le_of_ble_eq_true rfl) ?_
  refine s_Model_in_0 (fun z_1 => ?_) (fun z_2 => ?_)
  · skip
    refine s_Model_in_14 ?_
    refine s_Model_in_15 rfl ?_
    exact ⟨rfl, rfl⟩
  · skip
    refine s_Model_in_5 (fun z_3 => ?_) (fun z => by rcases hn with q | q <;> contradiction)
    refine s_Model_in_14 ?_
    refine s_Model_in_15 rfl ?_
    exact ⟨rfl, rfl⟩
theorem f_fails_no {G : xw_G} {F L : Nat} {h : xw_A} {c : Int32} {m : Nat} {fs : List Value} (l : fs.length = 62) (e : h m = some (.inr (11, fs))) (g_err : fs[(0 : Nat)]? = some (.int 0)) (hF : 1 ≤ F) (hL : 20 ≤ L) :
    xw_Met G m_Model_fails F L 0 0 [.ref m, .int 0, .int c] h (fun v h' => v = some (.int 0) ∧ h = h') (fun _ _ => False) := by
  refine xw_Met.of rfl (by decide) (Nat.le_of_ble_eq_true rfl) ?_
  refine s_Model_fails_0 (fun z_1 => ?_) (fun z => absurd z (by decide))
  refine s_Model_fails_16 l e g_err (fun z_2 => ?_) (fun z => absurd z (by decide))
  refine s_Model_fails_27 ?_
  refine s_Model_fails_28 rfl ?_
  exact ⟨rfl, rfl⟩
theorem f_fails_yes {G : xw_G} {F L : Nat} {h : xw_A} {c : Int32} (hc : ¬ c = 0) {m : Nat} {fs : List Value} (l : fs.length = 62) (e : h m = some (.inr (11, fs))) (g_err : fs[(0 : Nat)]? = some (.int 0)) (hF : 1 ≤ F) (hL : 20 ≤ L) :
    xw_Met G m_Model_fails F L 0 0 [.ref m, .int 1, .int c] h (fun v h' => v = some (.int 1) ∧ h' = xw_up h m (.inr (11, fs.set 0 (.int c)))) (fun _ _ => False) := by
  refine xw_Met.of rfl (by decide) (Nat.le_of_ble_eq_true rfl) ?_
  refine s_Model_fails_0 (fun z => absurd z (by decide)) (fun _ => ?_)
  refine s_Model_fails_4 l e g_err (fun z => absurd rfl z) (fun _ => ?_)
  refine s_Model_fails_11 l e ?_
  refine s_Model_fails_16 (err_a0 := c) (by rw [List.length_set]; exact l) (xw_up_s _ _ _) (xw_gs (by rw [l]; decide)) (fun z => absurd z hc) (fun _ => ?_)
  refine s_Model_fails_23 ?_
  exact s_Model_fails_28 rfl ⟨rfl, rfl⟩
theorem i32_neg {x : Int32} {a : Nat} (ha : a < 2 ^ 31) (h : x < 0) : x < nI a := by
  rw [Int32.lt_iff_toInt_lt] at *
  rw [nI_toInt ha]
  have h0 : (0 : Int32).toInt = 0 := rfl
  omega
theorem ix_of {x : Int32} {a b : Nat} (ha : a < 2 ^ 31) (hb : b < 2 ^ 31) (h1 : ¬ x < nI a) (h2 : ¬ nI b < x) : ∃ j, a ≤ j ∧ j ≤ b ∧ x = nI j := by
  obtain ⟨j, hj, rfl⟩ := nI_of (fun z => h1 (i32_neg ha z))
  rw [nI_ltI hj ha] at h1
  rw [nI_ltI hb hj] at h2
  exact ⟨j, by omega, by omega, rfl⟩
theorem empty_in (x : Int32) : x < 0 ∨ (0 - 1 : Int32) < x := by
  by_cases h : x < 0
  · exact Or.inl h
  · refine Or.inr ?_
    rw [Int32.lt_iff_toInt_lt] at *
    have h0 : (0 : Int32).toInt = 0 := rfl
    have h1 : (0 - 1 : Int32).toInt = -1 := by decide
    omega
theorem ixa {a : Int32} {n i N : Nat} (ha : a = nI n) (h : n + i < N) (hN : N < 2 ^ 31) : vp_in (a + nI i) N := by
  rw [ha, nI_add]
  exact vp_in_nI h hN
theorem col2 {x : Int32} (h : 1 < x) : 2 ≤ x := by
  rw [Int32.lt_iff_toInt_lt] at h
  rw [Int32.le_iff_toInt_le]
  have h1 : (1 : Int32).toInt = 1 := rfl
  have h2 : (2 : Int32).toInt = 2 := rfl
  omega
theorem row_in {x : Int32} (h1 : ¬ x < 1) (h2 : ¬ 24 < x) : vp_in x 25 := by
  obtain ⟨j, a, b, rfl⟩ := ix_of (a := 1) (b := 24) (by decide) (by decide) h1 h2
  exact vp_in_nI (by omega) (by decide)
theorem FrO.newB {A : List Nat} {h h0 h1 h2 : xw_A} {a : Nat} (r0 : FrO A h h0) (hz : h0 a = none) (hn : a ∉ A) (r : FrO A h h1) (f : ∀ q, q ≠ a → h2 q = h1 q) : FrO A h h2 :=
  fun q e hq he => (f q (fun z => by have h9 := r0 q e hq he; rw [z, hz] at h9; cases h9)).trans (r q e hq he)
theorem FrO.over {A : List Nat} {h h0 h1 h2 : xw_A} {a : Nat} (r0 : FrO A h h0) (hz : h0 a = none) (hn : a ∉ A) (r : FrO A h h1) (r2 : FrO [a] h1 h2) : FrO A h h2 :=
  fun q e hq he => r2 q e (by
    simp only [List.mem_cons, List.not_mem_nil, or_false]
    intro z
    have h9 := r0 q e hq he
    rw [z, hz] at h9
    cases h9) (r q e hq he)
theorem thA_71 : xw_thA "PhraseShelf" 75 "java/lang/IllegalArgumentException" "java/lang/RuntimeException" 7 ⟨#[0x2a, 0x2b, 0xb7, 0, 7, 0xb1]⟩ ["java/lang/Exception"] := ⟨by decide +kernel, by decide +kernel, by decide +kernel, by decide +kernel, by decide +kernel⟩
theorem thA_81 : xw_thA "PhraseShelf" 85 "java/lang/IndexOutOfBoundsException" "java/lang/RuntimeException" 7 ⟨#[0x2a, 0x2b, 0xb7, 0, 7, 0xb1]⟩ ["java/lang/Exception"] := ⟨by decide +kernel, by decide +kernel, by decide +kernel, by decide +kernel, by decide +kernel⟩
theorem thA_119 : xw_thA "PhraseShelf" 123 "java/util/NoSuchElementException" "java/lang/RuntimeException" 13 ⟨#[0x2a, 0x2b, 0xb7, 0, 13, 0xb1]⟩ ["java/lang/Exception"] := ⟨by decide +kernel, by decide +kernel, by decide +kernel, by decide +kernel, by decide +kernel⟩
theorem thA_136 : xw_thA "PhraseShelf" 140 "java/lang/IllegalStateException" "java/lang/RuntimeException" 7 ⟨#[0x2a, 0x2b, 0xb7, 0, 7, 0xb1]⟩ ["java/lang/Exception"] := ⟨by decide +kernel, by decide +kernel, by decide +kernel, by decide +kernel, by decide +kernel⟩
theorem th_Shelf_81_198_85 : xw_th "PhraseShelf" 81 198 85 "java/lang/IndexOutOfBoundsException" "no such answer" "java/lang/RuntimeException" 7 ⟨#[0x2a, 0x2b, 0xb7, 0, 7, 0xb1]⟩ ["java/lang/Exception"] :=
  ⟨⟨by decide +kernel, by decide +kernel, by decide +kernel, by decide +kernel⟩, xw_in2 229 rfl rfl, xw_in1 15 rfl rfl, List.mem_of_getElem? (i := 1108) (by decide +kernel), by decide +kernel, ⟨by decide +kernel, by decide +kernel⟩, thA_81⟩
theorem th_Shelf_71_168_75 : xw_th "PhraseShelf" 71 168 75 "java/lang/IllegalArgumentException" "the draft is no question" "java/lang/RuntimeException" 7 ⟨#[0x2a, 0x2b, 0xb7, 0, 7, 0xb1]⟩ ["java/lang/Exception"] :=
  ⟨⟨by decide +kernel, by decide +kernel, by decide +kernel, by decide +kernel⟩, xw_in2 160 rfl rfl, xw_in1 14 rfl rfl, List.mem_of_getElem? (i := 992) (by decide +kernel), by decide +kernel, ⟨by decide +kernel, by decide +kernel⟩, thA_71⟩
theorem th_Shelf_136_138_140 : xw_th "PhraseShelf" 136 138 140 "java/lang/IllegalStateException" "a transaction is open" "java/lang/RuntimeException" 7 ⟨#[0x2a, 0x2b, 0xb7, 0, 7, 0xb1]⟩ ["java/lang/Exception"] :=
  ⟨⟨by decide +kernel, by decide +kernel, by decide +kernel, by decide +kernel⟩, xw_in3 142 rfl rfl, xw_in1 19 rfl rfl, List.mem_of_getElem? (i := 714) (by decide +kernel), by decide +kernel, ⟨by decide +kernel, by decide +kernel⟩, thA_136⟩
theorem th_Shelf_136_145_140 : xw_th "PhraseShelf" 136 145 140 "java/lang/IllegalStateException" "no transaction is open" "java/lang/RuntimeException" 7 ⟨#[0x2a, 0x2b, 0xb7, 0, 7, 0xb1]⟩ ["java/lang/Exception"] :=
  ⟨⟨by decide +kernel, by decide +kernel, by decide +kernel, by decide +kernel⟩, xw_in3 142 rfl rfl, xw_in1 19 rfl rfl, List.mem_of_getElem? (i := 732) (by decide +kernel), by decide +kernel, ⟨by decide +kernel, by decide +kernel⟩, thA_136⟩
theorem th_Shelf_71_250_75 : xw_th "PhraseShelf" 71 250 75 "java/lang/IllegalArgumentException" "nothing counted has that number" "java/lang/RuntimeException" 7 ⟨#[0x2a, 0x2b, 0xb7, 0, 7, 0xb1]⟩ ["java/lang/Exception"] :=
  ⟨⟨by decide +kernel, by decide +kernel, by decide +kernel, by decide +kernel⟩, xw_in2 160 rfl rfl, xw_in1 14 rfl rfl, List.mem_of_getElem? (i := 1144) (by decide +kernel), by decide +kernel, ⟨by decide +kernel, by decide +kernel⟩, thA_71⟩
theorem th_Shelf_119_121_123 : xw_th "PhraseShelf" 119 121 123 "java/util/NoSuchElementException" "no such row" "java/lang/RuntimeException" 13 ⟨#[0x2a, 0x2b, 0xb7, 0, 13, 0xb1]⟩ ["java/lang/Exception"] :=
  ⟨⟨by decide +kernel, by decide +kernel, by decide +kernel, by decide +kernel⟩, xw_in3 103 rfl rfl, xw_in1 18 rfl rfl, List.mem_of_getElem? (i := 675) (by decide +kernel), by decide +kernel, ⟨by decide +kernel, by decide +kernel⟩, thA_119⟩
theorem th_Shelf_81_109_85 : xw_th "PhraseShelf" 81 109 85 "java/lang/IndexOutOfBoundsException" "all rows are taken" "java/lang/RuntimeException" 7 ⟨#[0x2a, 0x2b, 0xb7, 0, 7, 0xb1]⟩ ["java/lang/Exception"] :=
  ⟨⟨by decide +kernel, by decide +kernel, by decide +kernel, by decide +kernel⟩, xw_in2 229 rfl rfl, xw_in1 15 rfl rfl, List.mem_of_getElem? (i := 602) (by decide +kernel), by decide +kernel, ⟨by decide +kernel, by decide +kernel⟩, thA_81⟩
theorem th_Shelf_71_73_75 : xw_th "PhraseShelf" 71 73 75 "java/lang/IllegalArgumentException" "no letter, or an octet that is none" "java/lang/RuntimeException" 7 ⟨#[0x2a, 0x2b, 0xb7, 0, 7, 0xb1]⟩ ["java/lang/Exception"] :=
  ⟨⟨by decide +kernel, by decide +kernel, by decide +kernel, by decide +kernel⟩, xw_in2 160 rfl rfl, xw_in1 14 rfl rfl, List.mem_of_getElem? (i := 525) (by decide +kernel), by decide +kernel, ⟨by decide +kernel, by decide +kernel⟩, thA_71⟩
theorem th_Shelf_81_83_85 : xw_th "PhraseShelf" 81 83 85 "java/lang/IndexOutOfBoundsException" "the draft is full" "java/lang/RuntimeException" 7 ⟨#[0x2a, 0x2b, 0xb7, 0, 7, 0xb1]⟩ ["java/lang/Exception"] :=
  ⟨⟨by decide +kernel, by decide +kernel, by decide +kernel, by decide +kernel⟩, xw_in2 229 rfl rfl, xw_in1 15 rfl rfl, List.mem_of_getElem? (i := 561) (by decide +kernel), by decide +kernel, ⟨by decide +kernel, by decide +kernel⟩, thA_81⟩
theorem th_Shelf_71_221_75 : xw_th "PhraseShelf" 71 221 75 "java/lang/IllegalArgumentException" "nothing of a row has that number" "java/lang/RuntimeException" 7 ⟨#[0x2a, 0x2b, 0xb7, 0, 7, 0xb1]⟩ ["java/lang/Exception"] :=
  ⟨⟨by decide +kernel, by decide +kernel, by decide +kernel, by decide +kernel⟩, xw_in2 160 rfl rfl, xw_in1 14 rfl rfl, List.mem_of_getElem? (i := 1127) (by decide +kernel), by decide +kernel, ⟨by decide +kernel, by decide +kernel⟩, thA_71⟩
theorem th_Shelf_81_223_85 : xw_th "PhraseShelf" 81 223 85 "java/lang/IndexOutOfBoundsException" "no such segment" "java/lang/RuntimeException" 7 ⟨#[0x2a, 0x2b, 0xb7, 0, 7, 0xb1]⟩ ["java/lang/Exception"] :=
  ⟨⟨by decide +kernel, by decide +kernel, by decide +kernel, by decide +kernel⟩, xw_in2 229 rfl rfl, xw_in1 15 rfl rfl, List.mem_of_getElem? (i := 1135) (by decide +kernel), by decide +kernel, ⟨by decide +kernel, by decide +kernel⟩, thA_81⟩
theorem th_Shelf_71_239_75 : xw_th "PhraseShelf" 71 239 75 "java/lang/IllegalArgumentException" "nothing of a segment has that number" "java/lang/RuntimeException" 7 ⟨#[0x2a, 0x2b, 0xb7, 0, 7, 0xb1]⟩ ["java/lang/Exception"] :=
  ⟨⟨by decide +kernel, by decide +kernel, by decide +kernel, by decide +kernel⟩, xw_in2 160 rfl rfl, xw_in1 14 rfl rfl, List.mem_of_getElem? (i := 1136) (by decide +kernel), by decide +kernel, ⟨by decide +kernel, by decide +kernel⟩, thA_71⟩
theorem th_Shelf_71_94_75 : xw_th "PhraseShelf" 71 94 75 "java/lang/IllegalArgumentException" "no such column" "java/lang/RuntimeException" 7 ⟨#[0x2a, 0x2b, 0xb7, 0, 7, 0xb1]⟩ ["java/lang/Exception"] :=
  ⟨⟨by decide +kernel, by decide +kernel, by decide +kernel, by decide +kernel⟩, xw_in2 160 rfl rfl, xw_in1 14 rfl rfl, List.mem_of_getElem? (i := 578) (by decide +kernel), by decide +kernel, ⟨by decide +kernel, by decide +kernel⟩, thA_71⟩
theorem th_Shelf_81_96_85 : xw_th "PhraseShelf" 81 96 85 "java/lang/IndexOutOfBoundsException" "the draft is too long for a text" "java/lang/RuntimeException" 7 ⟨#[0x2a, 0x2b, 0xb7, 0, 7, 0xb1]⟩ ["java/lang/Exception"] :=
  ⟨⟨by decide +kernel, by decide +kernel, by decide +kernel, by decide +kernel⟩, xw_in2 229 rfl rfl, xw_in1 15 rfl rfl, List.mem_of_getElem? (i := 579) (by decide +kernel), by decide +kernel, ⟨by decide +kernel, by decide +kernel⟩, thA_81⟩
theorem th_Shelf_71_159_75 : xw_th "PhraseShelf" 71 159 75 "java/lang/IllegalArgumentException" "most or limit is out of range" "java/lang/RuntimeException" 7 ⟨#[0x2a, 0x2b, 0xb7, 0, 7, 0xb1]⟩ ["java/lang/Exception"] :=
  ⟨⟨by decide +kernel, by decide +kernel, by decide +kernel, by decide +kernel⟩, xw_in2 160 rfl rfl, xw_in1 14 rfl rfl, List.mem_of_getElem? (i := 751) (by decide +kernel), by decide +kernel, ⟨by decide +kernel, by decide +kernel⟩, thA_71⟩
theorem th_Shelf_71_161_75 : xw_th "PhraseShelf" 71 161 75 "java/lang/IllegalArgumentException" "column or weight is out of range" "java/lang/RuntimeException" 7 ⟨#[0x2a, 0x2b, 0xb7, 0, 7, 0xb1]⟩ ["java/lang/Exception"] :=
  ⟨⟨by decide +kernel, by decide +kernel, by decide +kernel, by decide +kernel⟩, xw_in2 160 rfl rfl, xw_in1 14 rfl rfl, List.mem_of_getElem? (i := 759) (by decide +kernel), by decide +kernel, ⟨by decide +kernel, by decide +kernel⟩, thA_71⟩
theorem fc_isCol_no {G : xw_G} {F L : Nat} {h : xw_A} {x : Int32}  (hn : x < 0 ∨ 1 < x) (hF : 1 ≤ F) (hL : 20 ≤ L) :
    xw_Met G m_Shelf_isColumn F L 0 0 [.int x] h (fun v h' => v = some (.int 0) ∧ FrO [] h h') (fun _ _ => False) := by
  refine xw_Met.of rfl (by decide) (Nat.le_of_ble_eq_true rfl) ?_
  have r0 : FrO [] h h := FrO.rf
  refine s_Shelf_isColumn_0 (fun z_1 => ?_) (fun z_2 => ?_)
  · skip
    refine s_Shelf_isColumn_13 ?_
    refine s_Shelf_isColumn_14 rfl ?_
    exact ⟨rfl, r0⟩
  · skip
    refine s_Shelf_isColumn_4 (fun z_3 => ?_) (fun z => hn.elim (fun q => absurd q z_2) (fun q => absurd (col2 q) z))
    refine s_Shelf_isColumn_13 ?_
    refine s_Shelf_isColumn_14 rfl ?_
    exact ⟨rfl, r0⟩
theorem fc_isCol_0 {G : xw_G} {F L : Nat} {h : xw_A}  (hF : 1 ≤ F) (hL : 20 ≤ L) :
    xw_Met G m_Shelf_isColumn F L 0 0 [.int 0] h (fun v h' => v = some (.int 1) ∧ FrO [] h h') (fun _ _ => False) := by
  refine xw_Met.of rfl (by decide) (Nat.le_of_ble_eq_true rfl) ?_
  have r0 : FrO [] h h := FrO.rf
  refine s_Shelf_isColumn_0 (fun z => absurd z (by decide)) (fun z_1 => ?_)
  refine s_Shelf_isColumn_4 (fun z => absurd z (by decide)) (fun z_2 => ?_)
  refine s_Shelf_isColumn_9 ?_
  refine s_Shelf_isColumn_14 rfl ?_
  exact ⟨rfl, r0⟩
theorem fc_isCol_1 {G : xw_G} {F L : Nat} {h : xw_A}  (hF : 1 ≤ F) (hL : 20 ≤ L) :
    xw_Met G m_Shelf_isColumn F L 0 0 [.int 1] h (fun v h' => v = some (.int 1) ∧ FrO [] h h') (fun _ _ => False) := by
  refine xw_Met.of rfl (by decide) (Nat.le_of_ble_eq_true rfl) ?_
  have r0 : FrO [] h h := FrO.rf
  refine s_Shelf_isColumn_0 (fun z => absurd z (by decide)) (fun z_1 => ?_)
  refine s_Shelf_isColumn_4 (fun z => absurd z (by decide)) (fun z_2 => ?_)
  refine s_Shelf_isColumn_9 ?_
  refine s_Shelf_isColumn_14 rfl ?_
  exact ⟨rfl, r0⟩
theorem i32_nle {x y : Int32} (h : y < x) : ¬ x ≤ y := Int32.not_le.mpr h
theorem i32_le {x y : Int32} (h : ¬ y < x) : x ≤ y := Int32.not_lt.mp h
theorem s_Store_copyFrom_8n {G : xw_G} {F L bc bs : Nat} {pr : Option Value → xw_A → Prop} {px : String → xw_A → Prop} {h : xw_A} {a0 : Nat} {a1 : Nat} {x2 : Int32} {rows_a0 : Nat} {pending_a0 : Option Nat} {segments_a0 : Option Nat} {live_a0 : Option Nat} {pendingCount_a0 : Int32} {pendingEntries_a0 : Int32} {segmentCount_a0 : Int32} {versionsMade_a0 : Int32} {segmentsMade_a0 : Int32} {liveCount_a0 : Int32} {rows_a1 : Nat} {pending_a1 : Option Nat} {segments_a1 : Option Nat} {live_a1 : Option Nat} {pendingCount_a1 : Int32} {pendingEntries_a1 : Int32} {segmentCount_a1 : Int32} {versionsMade_a1 : Int32} {segmentsMade_a1 : Int32} {liveCount_a1 : Int32} {n_rows_a1 : Nat} {f_rows_a1 : Nat → Option Nat} {n_rows_a0 : Nat} {f_rows_a0 : Nat → Option Nat} (e_a0 : h a0 = some (.inr (8, [.ref rows_a0, va_rf pending_a0, va_rf segments_a0, va_rf live_a0, .int pendingCount_a0, .int pendingEntries_a0, .int segmentCount_a0, .int versionsMade_a0, .int segmentsMade_a0, .int liveCount_a0]))) (e_a1 : h a1 = some (.inr (8, [.ref rows_a1, va_rf pending_a1, va_rf segments_a1, va_rf live_a1, .int pendingCount_a1, .int pendingEntries_a1, .int segmentCount_a1, .int versionsMade_a1, .int segmentsMade_a1, .int liveCount_a1]))) (e_rows_a1 : h rows_a1 = some (.inl (10 + 6, n_rows_a1, .inr (.inr (.inr (.inr f_rows_a1)))))) (i_18 : vp_in x2 n_rows_a1) (g_18 : f_rows_a1 x2.toNatClampNeg = none) (e_rows_a0 : h rows_a0 = some (.inl (10 + 6, n_rows_a0, .inr (.inr (.inr (.inr f_rows_a0)))))) (i_19 : vp_in x2 n_rows_a0) (k : xw G m_Store_copyFrom F L bc bs pr px 2 [some (.ref a0), some (.ref a1), some (.int (x2 + 1))] [] (xw_up h rows_a0 (.inl (10 + 6, n_rows_a0, .inr (.inr (.inr (.inr (va_up f_rows_a0 x2.toNatClampNeg none)))))))) : xw G m_Store_copyFrom F L bc bs pr px 8 [some (.ref a0), some (.ref a1), some (.int x2)] [] h := by
  refine x_aload_n d_Store_copyFrom_8 rfl rfl ?_
  refine x_get d_Store_copyFrom_9 f_Store_11 e_a0 rfl ?_
  refine x_iload_n d_Store_copyFrom_12 rfl rfl ?_
  refine x_aload_n d_Store_copyFrom_13 rfl rfl ?_
  refine x_get d_Store_copyFrom_14 f_Store_11 e_a1 rfl ?_
  refine x_iload_n d_Store_copyFrom_17 rfl rfl ?_
  refine x_aald (v := .null) d_Store_copyFrom_18 e_rows_a1 i_18 (by rw [g_18]; rfl) ?_
  refine x_aastN d_Store_copyFrom_19 e_rows_a0 i_19 ?_
  refine x_iinc (v := x2 + 1) d_Store_copyFrom_20 rfl (by rfl) (by decide) rfl ?_
  show xw G m_Store_copyFrom F L bc bs pr px 23 [some (.ref a0), some (.ref a1), some (.int (x2 + 1))] [] (xw_up h rows_a0 (.inl (10 + 6, n_rows_a0, .inr (.inr (.inr (.inr (va_up f_rows_a0 x2.toNatClampNeg none)))))))
  refine x_goto (tgt := 2) d_Store_copyFrom_23 (by decide) ?_
  exact k
theorem s_Question_readPhrase_28n {G : xw_G} {F L bc bs : Nat} {pr : Option Value → xw_A → Prop} {px : String → xw_A → Prop} {h : xw_A}   (kr : pr (some (.int 0)) h) : xw G m_Question_readPhrase F L bc bs pr px 28 [none, none, none] [.null] h := by
  refine x_pop d_Question_readPhrase_28 rfl ?_
  refine x_iconst (v := 0) d_Question_readPhrase_29 (by decide) ?_
  exact x_zret d_Question_readPhrase_30 rfl rfl kr
theorem fc_octet {G : xw_G} {F L : Nat} {h : xw_A} {w : Int64} {i : Nat} (hF : 1 ≤ F) (hL : 20 ≤ L) :
    xw_Met G m_Shelf_octet F L 0 0 [.long w, .int (nI i)] h (fun v h' => v = some (.int (oct w i)) ∧ h = h') (fun _ _ => False) := by
  refine xw_Met.of rfl (by decide) (Nat.le_of_ble_eq_true rfl) ?_
  refine s_Shelf_octet_0 ?_
  exact ⟨rfl, rfl⟩
theorem lp_clet {G : xw_G} {F L bc bs : Nat} {pr : Option Value → xw_A → Prop} {px : String → xw_A → Prop} {h : xw_A} {w : Int64} (hF : 2 ≤ F) (hL : 60 ≤ L)
    (k : pr (some (.int (nI ((ltr (oct w) 8 0).getD 0)))) h) :
    ∀ d i : Nat, i + d = 8 → ltr (oct w) d i = ltr (oct w) 8 0 → xw G m_Shelf_lettersIn F L bc bs pr px 2 [some (.long w), none, some (.int (nI i)), none] [] h := by
  intro d
  induction d with
  | zero =>
    intro i hi hl
    obtain rfl : i = 8 := by omega
    refine s_Shelf_lettersIn_2 (fun _ => ?_) (fun z => absurd z (by decide))
    refine s_Shelf_lettersIn_40 ?_
    rw [← hl] at k
    exact k
  | succ d ih =>
    intro i hi hl
    refine s_Shelf_lettersIn_2 (fun z => absurd z (nI_ge (b := 8) (show i < 8 by omega) (by decide))) (fun _ => ?_)
    refine s_Shelf_lettersIn_8 ?_
    refine x_callS (As := [.long w, .int (nI i)]) (rest := []) (F1 := 1) (L1 := 20) (mc := 0) (ms := 0) d_Shelf_lettersIn_10 cS_Shelf_86 (fc_octet (by omega) (by omega)) ⟨by omega, by show 8 + (3 + 11) + 20 ≤ _; omega⟩ ⟨by omega, by omega⟩ (Nat.le_of_ble_eq_true rfl) (fun v h1 p => ?_)
    obtain ⟨rfl, rfl⟩ := p
    refine s_Shelf_lettersIn_13 (fun z0 => ?_) (fun z0 => ?_)
    · refine s_Shelf_lettersIn_20 (fun z1 => ?_) (fun z1 => ?_)
      · refine s_Shelf_lettersIn_32 ?_
        rw [← hl, ltr_n z0 (Or.inl z1)] at k
        exact k
      · refine s_Shelf_lettersIn_26 (fun z2 => ?_) (fun z2 => ?_)
        · refine s_Shelf_lettersIn_34 ?_
          rw [nI_1]
          refine ih (i + 1) (by omega) ?_
          rw [← hl]
          exact (ltr_s z0 (fun q => q.elim z1 (fun q => i32_nle q z2))).symm
        · refine s_Shelf_lettersIn_32 ?_
          rw [← hl, ltr_n z0 (Or.inr (Int32.not_le.mp z2))] at k
          exact k
    · refine s_Shelf_lettersIn_18 ?_
      rw [← hl, ltr_0 z0] at k
      exact k
theorem fc_lin {G : xw_G} {F L : Nat} {h : xw_A} {w : Int64} (hF : 2 ≤ F) (hL : 60 ≤ L) :
    xw_Met G m_Shelf_lettersIn F L 0 0 [.long w] h (fun v h' => v = some (.int (nI ((ltr (oct w) 8 0).getD 0))) ∧ h = h') (fun _ _ => False) := by
  refine xw_Met.of rfl (by decide) (Nat.le_of_ble_eq_true rfl) ?_
  refine s_Shelf_lettersIn_0 ?_
  exact lp_clet hF hL ⟨rfl, rfl⟩ 8 0 rfl rfl
