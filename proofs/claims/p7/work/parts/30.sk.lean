/-! THE SKELETON: the cells that are made once, as two lists: addresses and cells -/
def SL (as : List Nat) (cs : List xw_C) (h : xw_A) : Prop := as.length = cs.length ∧ (∀ i j a : Nat, as[i]? = some a → as[j]? = some a → i = j) ∧ ∀ (i a : Nat) (e : xw_C), as[i]? = some a → cs[i]? = some e → h a = some e
theorem SL.at {as : List Nat} {cs : List xw_C} {h : xw_A} (K : SL as cs h) (i : Nat) {a : Nat} {e : xw_C} (ha : as[i]? = some a) (he : cs[i]? = some e) : h a = some e := K.2.2 i a e ha he
theorem SL.ne {as : List Nat} {cs : List xw_C} {h : xw_A} (K : SL as cs h) (i j : Nat) {a b : Nat} (ha : as[i]? = some a) (hb : as[j]? = some b) (hij : i ≠ j) : a ≠ b := fun q => hij (K.2.1 i j a ha (by rw [q]; exact hb))
theorem SL.up {as : List Nat} {cs cs' : List xw_C} {h : xw_A} (K : SL as cs h) (i : Nat) {a : Nat} {e : xw_C} (ha : as[i]? = some a) (hc : cs.set i e = cs') : SL as cs' (xw_up h a e) := by
  subst hc
  refine ⟨by simp [K.1], K.2.1, fun j b x hb hx => ?_⟩
  by_cases hji : j = i
  · subst hji
    have hl : j < cs.length := by rw [← K.1]; exact (List.getElem?_eq_some_iff.mp ha).1
    rw [List.getElem?_set_self hl] at hx
    cases hx
    rw [ha] at hb
    cases hb
    exact xw_up_s _ _ _
  · rw [List.getElem?_set_ne (Ne.symm hji)] at hx
    rw [xw_up_n _ _ (K.ne j i hb ha hji)]
    exact K.2.2 j b x hb hx
theorem SL.new {as as' : List Nat} {cs cs' : List xw_C} {h : xw_A} (K : SL as cs h) {q : Nat} {e : xw_C} (hq : h q = none) (hA : as ++ [q] = as') (hC : cs ++ [e] = cs') : SL as' cs' (xw_up h q e) := by
  subst hA
  subst hC
  have hne : ∀ i a : Nat, as[i]? = some a → a ≠ q := fun i a ha => by
    have hl : i < cs.length := by rw [← K.1]; exact (List.getElem?_eq_some_iff.mp ha).1
    exact xw_neN (K.2.2 i a _ ha (List.getElem?_eq_getElem hl)) hq
  have key : ∀ i a : Nat, (as ++ [q])[i]? = some a → (as[i]? = some a ∧ i < as.length) ∨ (i = as.length ∧ a = q) := fun i a ha => by
    by_cases hl : i < as.length
    · rw [List.getElem?_append_left hl] at ha
      exact Or.inl ⟨ha, hl⟩
    · rw [List.getElem?_append_right (by omega)] at ha
      have hz : i - as.length < 1 := (List.getElem?_eq_some_iff.mp ha).1
      rw [show i - as.length = 0 by omega] at ha
      cases ha
      exact Or.inr ⟨by omega, rfl⟩
  refine ⟨by simp [K.1], fun i j a hi hj => ?_, fun i a x ha hx => ?_⟩
  · rcases key i a hi with ⟨h1, l1⟩ | ⟨h1, l1⟩ <;> rcases key j a hj with ⟨h2, l2⟩ | ⟨h2, l2⟩
    · exact K.2.1 i j a h1 h2
    · exact absurd l2 (hne i a h1)
    · exact absurd l1 (hne j a h2)
    · omega
  · rcases key i a ha with ⟨h1, l1⟩ | ⟨h1, l1⟩
    · rw [List.getElem?_append_left (by rw [← K.1]; exact l1)] at hx
      rw [xw_up_n _ _ (hne i a h1)]
      exact K.2.2 i a x h1 hx
    · subst h1
      rw [K.1, List.getElem?_append_right (Nat.le_refl _), Nat.sub_self] at hx
      cases hx
      rw [l1]
      exact xw_up_s _ _ _
/-- in the front part of the lists -/
theorem SL.upL {as bs : List Nat} {cs ds : List xw_C} {h : xw_A} (K : SL (as ++ bs) (cs ++ ds) h) (hl : as.length = cs.length) (i : Nat) {a : Nat} {e : xw_C} (ha : as[i]? = some a) : SL (as ++ bs) (cs.set i e ++ ds) (xw_up h a e) := by
  have hi := (List.getElem?_eq_some_iff.mp ha).1
  exact K.up i (by rw [List.getElem?_append_left hi]; exact ha) (List.set_append_left _ _ (by omega))
theorem SL.newR {as bs bs' : List Nat} {cs ds ds' : List xw_C} {h : xw_A} (K : SL (as ++ bs) (cs ++ ds) h) {q : Nat} {e : xw_C} (hq : h q = none) (hb : bs ++ [q] = bs') (hd : ds ++ [e] = ds') : SL (as ++ bs') (cs ++ ds') (xw_up h q e) :=
  K.new hq (by rw [← hb, List.append_assoc]) (by rw [← hd, List.append_assoc])
theorem SL.nil {as : List Nat} {cs : List xw_C} {h : xw_A} (K : SL as cs h) : SL (as ++ []) (cs ++ []) h := by rw [List.append_nil, List.append_nil]; exact K
abbrev qz (ci m : Nat) : xw_C := .inl (ci + 6, m, .inr (.inr (.inr (.inr (fun _ => none)))))
abbrev iz (m : Nat) : xw_C := .inl (0, m, .inl (fun _ => 0))
abbrev cz (m : Nat) : xw_C := .inl (1, m, .inl (fun _ => 0))
abbrev dz (m : Nat) : xw_C := .inl (3, m, .inr (.inr (.inr (.inl (fun _ => 0)))))
abbrev store0 (a b c d : Value) : xw_C := .inr (8, [a, b, c, d, .int 0, .int 0, .int 0, .int 0, .int 0, .int 0])
section Ctors
variable {G : xw_G} {F L i a : Nat} {as : List Nat} {cs : List xw_C} {h : xw_A}
set_option maxHeartbeats 1000000 in
/-- Store(): rows, pending, segments, live come -/
theorem c_Store_init (hF : 1 ≤ F) (hL : 12 ≤ L) (K : SL as cs h) (ha : as[i]? = some a) (hc : cs[i]? = some (store0 .null .null .null .null)) :
    xw_Met G m_Store_init F L 4 762 [.ref a] h (fun v h' => v = none ∧ ∃ q1 q2 q3 q4 : Nat, SL (as ++ [q1, q2, q3, q4]) (cs.set i (store0 (.ref q1) (.ref q2) (.ref q3) (.ref q4)) ++ [qz 10 25, qz 10 201, qz 6 512, qz 10 24]) h') (fun _ _ => False) := by
  refine xw_Met.of rfl (by decide) (Nat.le_of_ble_eq_true rfl) ?_
  refine s_Store_init_0 (rows_a0 := none) (pending_a0 := none) (segments_a0 := none) (live_a0 := none) (pendingCount_a0 := 0) (pendingEntries_a0 := 0) (segmentCount_a0 := 0) (versionsMade_a0 := 0) (segmentsMade_a0 := 0) (liveCount_a0 := 0) ⟨hF, by omega⟩ (by omega) (K.at i ha hc) (by omega) (fun q7 h7 q17 h17 => ?_)
  have K4 := (((K.nil.newR (e := qz 10 25) h7 rfl rfl).upL K.1 i (e := store0 (.ref q7) .null .null .null) ha).newR (e := qz 10 201) h17 rfl rfl).upL (by simp [K.1]) i (e := store0 (.ref q7) (.ref q17) .null .null) ha
  refine s_Store_init_23 (rows_a0 := some q7) (pending_a0 := some q17) (segments_a0 := none) (live_a0 := none) (pendingCount_a0 := 0) (pendingEntries_a0 := 0) (segmentCount_a0 := 0) (versionsMade_a0 := 0) (segmentsMade_a0 := 0) (liveCount_a0 := 0) (by omega) (xw_up_s _ _ _) (by omega) (fun q27 h27 q36 h36 => ?_)
  have K8 := (((K4.newR (e := qz 6 512) h27 rfl rfl).upL (by simp [K.1]) i (e := store0 (.ref q7) (.ref q17) (.ref q27) .null) ha).newR (e := qz 10 24) h36 rfl rfl).upL (by simp [K.1]) i (e := store0 (.ref q7) (.ref q17) (.ref q27) (.ref q36)) ha
  simp only [List.set_set] at K8
  exact s_Store_init_42 ⟨rfl, q7, q17, q27, q36, K8⟩
set_option maxHeartbeats 1000000 in
/-- Parts(): kinds, starts, ends come -/
theorem c_Parts_init (hF : 1 ≤ F) (hL : 12 ≤ L) (K : SL as cs h) (ha : as[i]? = some a) (hc : cs[i]? = some (.inr (3, [.null, .null, .null, .null, .int 0]))) :
    xw_Met G m_Parts_init F L 3 291 [.ref a] h (fun v h' => v = none ∧ ∃ q1 q2 q3 : Nat, SL (as ++ [q1, q2, q3]) (cs.set i (.inr (3, [.ref q1, .ref q2, .ref q3, .null, .int 0])) ++ [iz 97, iz 97, iz 97]) h') (fun _ _ => False) := by
  refine xw_Met.of rfl (by decide) (Nat.le_of_ble_eq_true rfl) ?_
  refine s_Parts_init_0 (kinds_a0 := none) (starts_a0 := none) (ends_a0 := none) (letters_a0 := none) (length_a0 := 0) ⟨hF, by omega⟩ (by omega) (K.at i ha hc) (by omega) (fun q7 h7 q15 h15 => ?_)
  have K4 := (((K.nil.newR (e := iz 97) h7 rfl rfl).upL K.1 i (e := .inr (3, [.ref q7, .null, .null, .null, .int 0])) ha).newR (e := iz 97) h15 rfl rfl).upL (by simp [K.1]) i (e := .inr (3, [.ref q7, .ref q15, .null, .null, .int 0])) ha
  refine s_Parts_init_20 (kinds_a0 := some q7) (starts_a0 := some q15) (ends_a0 := none) (letters_a0 := none) (length_a0 := 0) (by omega) (xw_up_s _ _ _) (fun q23 h23 => ?_)
  have K6 := (K4.newR (e := iz 97) h23 rfl rfl).upL (by simp [K.1]) i (e := .inr (3, [.ref q7, .ref q15, .ref q23, .null, .int 0])) ha
  simp only [List.set_set] at K6
  exact ⟨rfl, q7, q15, q23, K6⟩
/-- Phrase(), Node(): nothing -/
theorem c_Phrase_init (hF : 1 ≤ F) (hL : 12 ≤ L) : xw_Met G m_Phrase_init F L 0 0 [.ref a] h (fun v h' => v = none ∧ h' = h) (fun _ _ => False) :=
  xw_Met.of rfl (by decide) (Nat.le_of_ble_eq_true rfl) (s_Phrase_init_0 ⟨hF, by omega⟩ ⟨rfl, rfl⟩)
theorem c_Node_init (hF : 1 ≤ F) (hL : 12 ≤ L) : xw_Met G m_Node_init F L 0 0 [.ref a] h (fun v h' => v = none ∧ h' = h) (fun _ _ => False) :=
  xw_Met.of rfl (by decide) (Nat.le_of_ble_eq_true rfl) (s_Node_init_0 ⟨hF, by omega⟩ ⟨rfl, rfl⟩)
/-- Standing(): places comes -/
theorem c_Standing_init (hF : 1 ≤ F) (hL : 12 ≤ L) (K : SL as cs h) (ha : as[i]? = some a) (hc : cs[i]? = some (.inr (7, [.null, .null]))) :
    xw_Met G m_Standing_init F L 1 576 [.ref a] h (fun v h' => v = none ∧ ∃ q1 : Nat, SL (as ++ [q1]) (cs.set i (.inr (7, [.ref q1, .null])) ++ [iz 576]) h') (fun _ _ => False) := by
  refine xw_Met.of rfl (by decide) (Nat.le_of_ble_eq_true rfl) ?_
  refine s_Standing_init_0 (places_a0 := none) (question_a0 := none) ⟨hF, by omega⟩ (by omega) (K.at i ha hc) (fun q8 h8 => ?_)
  exact ⟨rfl, q8, (K.nil.newR (e := iz 576) h8 rfl rfl).upL K.1 i (e := .inr (7, [.ref q8, .null])) ha⟩
set_option maxHeartbeats 1000000 in
/-- Answers(): rows, scores, lengths, order come -/
theorem c_Answers_init (hF : 1 ≤ F) (hL : 12 ≤ L) (K : SL as cs h) (ha : as[i]? = some a) (hc : cs[i]? = some (.inr (1, [.null, .null, .int 0, .null, .null]))) :
    xw_Met G m_Answers_init F L 4 96 [.ref a] h (fun v h' => v = none ∧ ∃ q1 q2 q3 q4 : Nat, SL (as ++ [q1, q2, q3, q4]) (cs.set i (.inr (1, [.ref q1, .ref q2, .int 0, .ref q3, .ref q4])) ++ [iz 24, dz 24, iz 24, iz 24]) h') (fun _ _ => False) := by
  refine xw_Met.of rfl (by decide) (Nat.le_of_ble_eq_true rfl) ?_
  refine s_Answers_init_0 (rows_a0 := none) (scores_a0 := none) (size_a0 := 0) (lengths_a0 := none) (order_a0 := none) ⟨hF, by omega⟩ (by omega) (K.at i ha hc) (by omega) (fun q7 h7 q15 h15 => ?_)
  have K4 := (((K.nil.newR (e := iz 24) h7 rfl rfl).upL K.1 i (e := .inr (1, [.ref q7, .null, .int 0, .null, .null])) ha).newR (e := dz 24) h15 rfl rfl).upL (by simp [K.1]) i (e := .inr (1, [.ref q7, .ref q15, .int 0, .null, .null])) ha
  refine s_Answers_init_20 (rows_a0 := some q7) (scores_a0 := some q15) (size_a0 := 0) (lengths_a0 := none) (order_a0 := none) (by omega) (xw_up_s _ _ _) (by omega) (fun q23 h23 q31 h31 => ?_)
  have K8 := (((K4.newR (e := iz 24) h23 rfl rfl).upL (by simp [K.1]) i (e := .inr (1, [.ref q7, .ref q15, .int 0, .ref q23, .null])) ha).newR (e := iz 24) h31 rfl rfl).upL (by simp [K.1]) i (e := .inr (1, [.ref q7, .ref q15, .int 0, .ref q23, .ref q31])) ha
  simp only [List.set_set] at K8
  exact s_Answers_init_36 ⟨rfl, q7, q15, q23, q31, K8⟩
end Ctors
section Ctors2
variable {G : xw_G} {F L i a : Nat} {as : List Nat} {cs : List xw_C} {h : xw_A}
set_option maxHeartbeats 1000000 in
/-- Tokens(m): letters and starts come -/
theorem c_Tokens_init {m : Nat} (hm : m ≤ 96) (hF : 1 ≤ F) (hL : 12 ≤ L) (K : SL as cs h) (ha : as[i]? = some a) (hc : cs[i]? = some (.inr (9, [.null, .null, .int 0]))) :
    xw_Met G m_Tokens_init F L 2 (m + ((m + 1) / 2 + 1)) [.ref a, .int (nI m)] h (fun v h' => v = none ∧ ∃ q1 q2 : Nat, SL (as ++ [q1, q2]) (cs.set i (.inr (9, [.ref q1, .ref q2, .int 0])) ++ [cz m, iz ((m + 1) / 2 + 1)]) h') (fun _ _ => False) := by
  have e1 : (nI m).toNatClampNeg = m := nI_clamp (by omega)
  have e2 : (nI m + 1) / 2 + 1 = nI ((m + 1) / 2 + 1) := by
    rw [nI_1, show (2 : Int32) = nI 2 from rfl, pk_div (by omega) (by omega) (by omega), nI_1]
  have e3 : ((nI m + 1) / 2 + 1).toNatClampNeg = (m + 1) / 2 + 1 := by rw [e2]; exact nI_clamp (by omega)
  refine xw_Met.of rfl (by decide) (Nat.le_of_ble_eq_true rfl) ?_
  refine s_Tokens_init_0 (letters_a0 := none) (starts_a0 := none) (count_a0 := 0) ⟨hF, by omega⟩ (nI_pos (by omega)) (by rw [e1]; omega) (by rw [e1]; show m * 2 ≤ _; omega) (K.at i ha hc) (by rw [e2]; exact nI_pos (by omega)) (by rw [e1, e3]; omega) (by rw [e3]; show _ * 4 ≤ _; omega) (fun q6 h6 q19 h19 => ?_)
  have K4 := (((K.nil.newR (e := cz (nI m).toNatClampNeg) h6 rfl rfl).upL K.1 i (e := .inr (9, [.ref q6, .null, .int 0])) ha).newR (e := iz ((nI m + 1) / 2 + 1).toNatClampNeg) h19 rfl rfl).upL (by simp [K.1]) i (e := .inr (9, [.ref q6, .ref q19, .int 0])) ha
  simp only [List.set_set] at K4
  refine s_Tokens_init_24 ⟨rfl, q6, q19, ?_⟩
  have K5 := K4
  rw [e1, e3] at K5
  rw [e1, e3]
  exact K5
end Ctors2
