/-! the class in general states: by program (wip/tools/gen2.py) -/
set_option maxHeartbeats 4000000 in
theorem g_ask {G : xw_G} {F L : Nat} {h : xw_A} {B : List Nat} {x d tx w st sv qo so ao dl : Nat} {mo li op wp gp : Int32} (e_x : h x = some (.inr (0, [.ref d, .ref tx, .ref w, .ref st, .ref sv, .ref qo, .ref so, .ref ao, .int (nI dl), .int mo, .int li, .int op, .int wp, .int gp]))) (hdl : dl ≤ 96) {fd : Nat → Int32} (e_d : h d = some (.inl (1, 96, .inl fd))) {tk tl tz ph nd po k1 k2 k3 : Nat} {fp fn : Nat → Option Nat} (A : QuA B qo tk tl tz ph nd po k1 k2 k3 d fp fn) (QE : QuE B qo tk tl tz fp fn) (QI : QuI qo tk tl tz ph nd po k1 k2 k3 fp fn h) (nk : k1 ≠ k2 ∧ k1 ≠ k3 ∧ k2 ≠ k3) {sp : Nat} {qq : Option Nat} {pf : Nat → Int32} (e_so : h so = some (.inr (7, [.ref sp, va_rf qq]))) (e_sp : h sp = some (.inl (0, 576, .inl pf))) {o1 o2 o3 o4 sz : Nat} {f1 f3 f4 : Nat → Int32} {f2 : Nat → UInt64} (N : AnsC ao o1 o2 o3 o4 sz f1 f2 f3 f4 h) (n13 : o1 ≠ o3) (n14 : o1 ≠ o4) (n34 : o3 ≠ o4) {wf : Nat → Int32} {w0 w1 : Nat} (e_w : h w = some (.inl (0, 2, .inl wf))) (hw0 : wf 0 = nI w0 ∧ w0 ≤ 9) (hw1 : wf 1 = nI w1 ∧ w1 ≤ 9) {AL : List Nat} {s1 s2 s3 s4 : Nat} {er ep es el : Nat → Option Nat} {pc sc lc : Nat} {pe vm sm : Int32} (KS : StoC AL st s1 s2 s3 s4 er ep es el pc sc lc pe vm sm h) (hxA : x ∈ AL) (hBA : ∀ a ∈ (po :: k1 :: k2 :: k3 :: B), a ∈ AL) (hsA : so ∈ AL ∧ sp ∈ AL) (hoA : ao ∈ AL ∧ o1 ∈ AL ∧ o2 ∈ AL ∧ o3 ∈ AL) (DB : ∀ a ∈ [x, so, sp, ao, o1, o2, o3, o4, w, st, s1, s2, s3, s4, d], a ∉ (po :: k1 :: k2 :: k3 :: B)) (hF : 96 ≤ F) (hL : 3703 ≤ L) :
    xw_Met G m_Shelf_ask F L 1 6 [.ref x] h (fun v h' => (∃ y : Int32, v = some (.int y)) ∧ ((∃ (wp' gp' : Int32), h' x = some (.inr (0, [.ref d, .ref tx, .ref w, .ref st, .ref sv, .ref qo, .ref so, .ref ao, .int (0), .int mo, .int li, .int op, .int wp', .int gp']))) ∧ QuI qo tk tl tz ph nd po k1 k2 k3 fp fn h' ∧ (∃ (qq' : Option Nat) (pf' : Nat → Int32), h' so = some (.inr (7, [.ref sp, va_rf qq'])) ∧ h' sp = some (.inl (0, 576, .inl pf'))) ∧ (∃ (sz' : Nat) (f1' f3' f4' : Nat → Int32) (f2' : Nat → UInt64), AnsC ao o1 o2 o3 o4 sz' f1' f2' f3' f4' h')) ∧ FrO (x :: so :: sp :: ao :: o1 :: o2 :: o3 :: o4 :: po :: k1 :: k2 :: k3 :: B) h h') (fun E h' => E = "java/lang/IllegalArgumentException" ∧ ((∃ (wp' gp' : Int32), h' x = some (.inr (0, [.ref d, .ref tx, .ref w, .ref st, .ref sv, .ref qo, .ref so, .ref ao, .int (0), .int mo, .int li, .int op, .int wp', .int gp']))) ∧ QuI qo tk tl tz ph nd po k1 k2 k3 fp fn h' ∧ (∃ (qq' : Option Nat) (pf' : Nat → Int32), h' so = some (.inr (7, [.ref sp, va_rf qq'])) ∧ h' sp = some (.inl (0, 576, .inl pf'))) ∧ (∃ (sz' : Nat) (f1' f3' f4' : Nat → Int32) (f2' : Nat → UInt64), AnsC ao o1 o2 o3 o4 sz' f1' f2' f3' f4' h')) ∧ FrO (x :: so :: sp :: ao :: o1 :: o2 :: o3 :: o4 :: po :: k1 :: k2 :: k3 :: B) h h') := by
  refine xw_Met.of rfl (by decide) (Nat.le_of_ble_eq_true rfl) ?_
  obtain ⟨e_ao, e_o1, e_o2, e_o3, e_o4, hsz, hord⟩ := id N
  have M8 : ∀ a ∈ (po :: k1 :: k2 :: k3 :: B), a ∈ (x :: so :: sp :: ao :: o1 :: o2 :: o3 :: o4 :: po :: k1 :: k2 :: k3 :: B) := fun a ha => List.mem_cons_of_mem _ (List.mem_cons_of_mem _ (List.mem_cons_of_mem _ (List.mem_cons_of_mem _ (List.mem_cons_of_mem _ (List.mem_cons_of_mem _ (List.mem_cons_of_mem _ (List.mem_cons_of_mem _ (ha))))))))
  have M9 : ∀ a ∈ x :: po :: k1 :: k2 :: k3 :: B, a ∈ (x :: so :: sp :: ao :: o1 :: o2 :: o3 :: o4 :: po :: k1 :: k2 :: k3 :: B) := fun a ha => (List.mem_cons.mp ha).elim (fun z => by rw [z]; exact List.mem_cons_self) (M8 a)
  have nx : ∀ a, a ∈ (po :: k1 :: k2 :: k3 :: B) → a ∉ [x] := fun a ha => nm1 (fun z => DB x (by simp) (by rw [← z]; exact ha))
  refine s_Shelf_ask_0 (draft_a0 := some d) (texts_a0 := some tx) (weights_a0 := some w) (store_a0 := some st) (saved_a0 := some sv) (question_a0 := some qo) (standing_a0 := some so) (answers_a0 := some ao) e_x ?_
  refine x_u1 (fun h1 e1 t1 => ?_)
  have r1 : FrO [x] h h1 := FrO.rf.up (by simp) t1
  have nq : ∀ a, a ∈ B → a ∉ [x] := fun a ha => nx a ((fun a ha => List.mem_cons_of_mem _ (List.mem_cons_of_mem _ (List.mem_cons_of_mem _ (List.mem_cons_of_mem _ ha)))) a ha)
  have QI1 : QuI qo tk tl tz ph nd po k1 k2 k3 fp fn h1 := by
    obtain ⟨pA, nA, wA, tA, x0, dq, dq2, n0, f, g, fk, fs, fe, q0, T, q1, q2, -⟩ := id QI
    exact QI.fr r1 ⟨nq _ A.1.1, nm1 (xw_neC q1 e_x (by simp)), nm1 (xw_neC q2 e_x (by simp)), nx _ (by simp), nx _ (by simp), nx _ (by simp), nx _ (by simp)⟩ ⟨nq _ A.1.2.1, nq _ A.1.2.2.1, nq _ A.1.2.2.2⟩ (fun i a hi ha => nq _ (A.2.1 i a hi ha)) (fun i a hi ha => nq _ (A.2.2.1 i a hi ha))
  have a_d := (t1 _ (xw_neC e_d e_x (by simp))).trans e_d
  obtain ⟨pA, nA, wA, tA, x0, dq, dq2, n0, f0, g0, fk0, fs0, fe0, a_qo, -⟩ := id QI1
  refine x_callV (As := [.ref d, .int (nI dl)]) (b := qo) (rest := []) (F1 := 95) (L1 := 3680) (mc := 0) (ms := 0) d_Shelf_ask_19 cV_Shelf_163 (g_read A QI1 a_d hdl nk (by omega) (by omega)) a_qo ⟨by decide, rfl⟩ ⟨by omega, by show 8 + (4 + 11) + 3680 ≤ _; omega⟩ ⟨by omega, by omega⟩ (Nat.le_of_ble_eq_true rfl) (fun v h2 q => ?_)
  obtain ⟨b, p, nn, n, c, fk, fs, fe, rfl, S2, r2⟩ := q
  have e2 := r2 x _ (DB x (by simp)) e1
  obtain ⟨t, wp2, f, g, K2⟩ := id S2
  refine x_le (xw_le_s (xw_le_n (xw_le_n xw_le_e))) ?_
  refine s_Shelf_ask_22 (draft_a0 := some d) (texts_a0 := some tx) (weights_a0 := some w) (store_a0 := some st) (saved_a0 := some sv) (standing_a0 := some so) (answers_a0 := some ao) (tokens_question_a0 := some tk) (phrases_question_a0 := some ph) (nodes_question_a0 := some nd) (parts_question_a0 := some po) (letters_question_a0 := some d) e2 K2.1 (fun _ => ?_) (fun _ => ?_)
  · refine x_u1 (fun h3 e3 t3 => ?_)
    have K3 := K2.frx (FrO.rf.up (by simp) t3) e2 (by simp) (by simp) (by simp) (by simp) (by simp) (by simp) (by simp) (by simp) (by simp) (by simp)
    refine s_Shelf_ask_48 (draft_a0 := some d) (texts_a0 := some tx) (weights_a0 := some w) (store_a0 := some st) (saved_a0 := some sv) (standing_a0 := some so) (answers_a0 := some ao) (tokens_question_a0 := some tk) (phrases_question_a0 := some ph) (nodes_question_a0 := some nd) (parts_question_a0 := some po) (letters_question_a0 := some d) e3 K3.1 ?_
    refine x_u1 (fun h4 e4 t4 => ?_)
    have K4 := K3.frx (FrO.rf.up (by simp) t4) e3 (by simp) (by simp) (by simp) (by simp) (by simp) (by simp) (by simp) (by simp) (by simp) (by simp)
    have sA4 : FrO (x :: po :: k1 :: k2 :: k3 :: B) h h4 := (((r1.mono (by simp)).trans (r2.mono (fun a ha => List.mem_cons_of_mem _ ha))).up (by simp) t3).up (by simp) t4
    have no : ∀ a ∈ [x, so, sp, ao, o1, o2, o3, o4, w, st, s1, s2, s3, s4, d], a ≠ x → a ∉ x :: po :: k1 :: k2 :: k3 :: B := fun a ha hn hz => (List.mem_cons.mp hz).elim hn (DB a ha)
    have g_so := sA4 so _ (no so (by simp) (xw_neC e_so e_x (by simp))) e_so
    have g_sp := sA4 sp _ (no sp (by simp) (xw_neC e_sp e_x (by simp))) e_sp
    have g_ao := sA4 ao _ (no ao (by simp) (xw_neC e_ao e_x (by simp))) e_ao
    have g_o1 := sA4 o1 _ (no o1 (by simp) (xw_neC e_o1 e_x (by simp))) e_o1
    have g_o2 := sA4 o2 _ (no o2 (by simp) (xw_neC e_o2 e_x (by simp))) e_o2
    have g_o3 := sA4 o3 _ (no o3 (by simp) (xw_neC e_o3 e_x (by simp))) e_o3
    have g_o4 := sA4 o4 _ (no o4 (by simp) (xw_neC e_o4 e_x (by simp))) e_o4
    have g_w := sA4 w _ (no w (by simp) (xw_neC e_w e_x (by simp))) e_w
    have KS4 := KS.fr sA4 (suC hxA hBA) ⟨no st (by simp) (xw_neC KS.1 e_x (by simp)), no s1 (by simp) (xw_neC KS.2.1 e_x (by simp)), no s2 (by simp) (xw_neC KS.2.2.1 e_x (by simp)), no s3 (by simp) (xw_neC KS.2.2.2.1 e_x (by simp)), no s4 (by simp) (xw_neC KS.2.2.2.2.1 e_x (by simp))⟩ (exC e4 (QuI.ex K4.s.i QE))
    refine x_callV (As := [.ref qo, .ref st]) (b := so) (rest := []) (F1 := 5) (L1 := 117) (mc := 0) (ms := 0) d_Shelf_ask_71 cV_Shelf_176 (g_fill K4 g_so g_sp KS4 hsA (by omega) (by omega)) g_so ⟨by decide, rfl⟩ ⟨by omega, by show 8 + (8 + 11) + 117 ≤ _; omega⟩ ⟨by omega, by omega⟩ (Nat.le_of_ble_eq_true rfl) (fun v h5 q => ?_)
    obtain ⟨rfl, i_so, ⟨pf5, i_sp⟩, r5⟩ := q
    have np5 : ∀ {a : Nat} {e : xw_C}, h4 a = some e → (∀ vs, e ≠ .inr (7, vs)) → (∀ f, e ≠ .inl (0, 576, f)) → a ∉ [so, sp] := fun ha m1 m2 => by
      simp only [List.mem_cons, List.not_mem_nil, or_false, not_or]
      exact ⟨xw_neC ha g_so (m1 _), xw_neC ha g_sp (m2 _)⟩
    have K5 : QuC qo tk tl tz ph nd po k1 k2 k3 d dl c fk fs fe fd fp fn p nn n t wp2 f g h5 := by
      obtain ⟨q0, T, q1, q2, P, m1, m2, m3, Fq, Nq⟩ := K4
      exact ⟨r5 _ _ (np5 q0 (by simp) (by simp)) q0, T.frq r5 ⟨np5 T.1 (by simp) (by simp), np5 T.2.1 (by simp) (by simp), np5 T.2.2.1 (by simp) (by simp)⟩, r5 _ _ (np5 q1 (by simp) (by simp)) q1, r5 _ _ (np5 q2 (by simp) (by simp)) q2, P.fr r5 ⟨np5 P.1 (by simp) (by simp), np5 P.2.1 (by simp) (by simp), np5 P.2.2.1 (by simp) (by simp), np5 P.2.2.2.1 (by simp) (by simp), np5 P.2.2.2.2.1 (by simp) (by simp)⟩, m1, m2, m3, Fq.fr r5 (fun a x y b ha => np5 ha (by simp) (by simp)) (Nat.le_refl _), Nq.fr r5 (fun a vs ha => np5 ha (by simp) (by simp)) (Nat.le_refl _)⟩
    have e5 := r5 x _ (np5 e4 (by simp) (by simp)) e4
    have j_ao := r5 ao _ (np5 g_ao (by simp) (by simp)) g_ao
    have j_o1 := r5 o1 _ (np5 g_o1 (by simp) (by simp)) g_o1
    have j_o2 := r5 o2 _ (np5 g_o2 (by simp) (by simp)) g_o2
    have j_o3 := r5 o3 _ (np5 g_o3 (by simp) (by simp)) g_o3
    have j_o4 := r5 o4 _ (np5 g_o4 (by simp) (by simp)) g_o4
    have j_w := r5 w _ (np5 g_w (by simp) (by simp)) g_w
    have KS5 := KS4.fr r5 (suC hsA.1 (suC hsA.2 suN)) ⟨np5 KS4.1 (by simp) (by simp), np5 KS4.2.1 (by simp) (by simp), np5 KS4.2.2.1 (by simp) (by simp), np5 KS4.2.2.2.1 (by simp) (by simp), np5 KS4.2.2.2.2.1 (by simp) (by simp)⟩ (exC i_so (exC i_sp exN))
    refine s_Shelf_ask_74 (draft_a0 := some d) (texts_a0 := some tx) (weights_a0 := some w) (store_a0 := some st) (saved_a0 := some sv) (question_a0 := some qo) (standing_a0 := some so) (answers_a0 := some ao) e5 ?_
    refine x_callV (As := [.ref qo]) (b := so) (rest := [.ref ao]) (F1 := 7) (L1 := 165) (mc := 0) (ms := 0) d_Shelf_ask_86 cV_Shelf_180 (g_rowsFound K5 A i_so i_sp (by omega) (by omega)) i_so ⟨by decide, rfl⟩ ⟨by omega, by show 8 + (5 + 11) + 165 ≤ _; omega⟩ ⟨by omega, by omega⟩ (Nat.le_of_ble_eq_true rfl) (fun v h6 q => ?_)
    obtain ⟨⟨m6, rfl⟩, K6, r6⟩ := q
    have r6' : FrO (po :: k1 :: k2 :: k3 :: B) h5 h6 := r6.mono (fun a ha => List.mem_cons_of_mem _ (List.mem_cons_of_mem _ (List.mem_cons_of_mem _ (List.mem_cons_of_mem _ ha))))
    have nb : ∀ a ∈ [x, so, sp, ao, o1, o2, o3, o4, w, st, s1, s2, s3, s4, d], a ∉ (po :: k1 :: k2 :: k3 :: B) := DB
    have e6 := r6' x _ (DB x (by simp)) e5
    have l_so := r6' so _ (DB so (by simp)) i_so
    have l_sp := r6' sp _ (DB sp (by simp)) i_sp
    have l_ao := r6' ao _ (DB ao (by simp)) j_ao
    have l_o1 := r6' o1 _ (DB o1 (by simp)) j_o1
    have l_o2 := r6' o2 _ (DB o2 (by simp)) j_o2
    have l_o3 := r6' o3 _ (DB o3 (by simp)) j_o3
    have l_o4 := r6' o4 _ (DB o4 (by simp)) j_o4
    have l_w := r6' w _ (DB w (by simp)) j_w
    have KS6 := KS5.fr r6' hBA ⟨DB st (by simp), DB s1 (by simp), DB s2 (by simp), DB s3 (by simp), DB s4 (by simp)⟩ (QuI.ex K6.s.i QE)
    refine s_Shelf_ask_89 (draft_a0 := some d) (texts_a0 := some tx) (weights_a0 := some w) (store_a0 := some st) (saved_a0 := some sv) (question_a0 := some qo) (standing_a0 := some so) (answers_a0 := some ao) e6 ?_
    refine x_callV (As := [.int m6, .ref st]) (b := ao) (rest := []) (F1 := 2) (L1 := 41) (mc := 0) (ms := 0) d_Shelf_ask_93 cV_Shelf_184 (g_take l_ao l_o1 l_o2 l_o3 l_o4 n13 n14 n34 KS6 hoA (by omega) (by omega)) l_ao ⟨by decide, rfl⟩ ⟨by omega, by show 8 + (5 + 11) + 41 ≤ _; omega⟩ ⟨by omega, by omega⟩ (Nat.le_of_ble_eq_true rfl) (fun v h7 q => ?_)
    obtain ⟨rfl, ⟨sz7, f17, f27, f37, R7⟩, r7⟩ := q
    have n7 : ∀ {a : Nat} {e : xw_C}, h6 a = some e → (∀ vs, e ≠ .inr (1, vs)) → (∀ f, e ≠ .inl (0, 24, f)) → (∀ f, e ≠ .inl (3, 24, f)) → a ∉ [ao, o1, o2, o3] := fun ha m1 m2 m3 => by
      simp only [List.mem_cons, List.not_mem_nil, or_false, not_or]
      exact ⟨xw_neC ha l_ao (m1 _), xw_neC ha l_o1 (m2 _), xw_neC ha l_o2 (m3 _), xw_neC ha l_o3 (m2 _)⟩
    have e7 := r7 x _ (n7 e6 (by simp) (by simp) (by simp)) e6
    have m_so := r7 so _ (n7 l_so (by simp) (by simp) (by simp)) l_so
    have m_sp := r7 sp _ (n7 l_sp (by simp) (by simp) (by simp)) l_sp
    have m_w := r7 w _ (n7 l_w (by simp) (by simp) (by simp)) l_w
    have K7 : QuC qo tk tl tz ph nd po k1 k2 k3 d dl c fk fs fe fd fp fn p nn n t wp2 f g h7 := by
      obtain ⟨q0, T, q1, q2, P, m1, m2, m3, Fq, Nq⟩ := K6
      exact ⟨r7 _ _ (n7 q0 (by simp) (by simp) (by simp)) q0, T.frq r7 ⟨n7 T.1 (by simp) (by simp) (by simp), n7 T.2.1 (by simp) (by simp) (by simp), n7 T.2.2.1 (by simp) (by simp) (by simp)⟩, r7 _ _ (n7 q1 (by simp) (by simp) (by simp)) q1, r7 _ _ (n7 q2 (by simp) (by simp) (by simp)) q2, P.fr r7 ⟨n7 P.1 (by simp) (by simp) (by simp), n7 P.2.1 (by simp) (by simp) (by simp), n7 P.2.2.1 (by simp) (by simp) (by simp), n7 P.2.2.2.1 (by simp) (by simp) (by simp), n7 P.2.2.2.2.1 (by simp) (by simp) (by simp)⟩, m1, m2, m3, Fq.fr r7 (fun a x y b ha => n7 ha (by simp) (by simp) (by simp)) (Nat.le_refl _), Nq.fr r7 (fun a vs ha => n7 ha (by simp) (by simp) (by simp)) (Nat.le_refl _)⟩
    have KS7 := KS6.fr r7 (suC hoA.1 (suC hoA.2.1 (suC hoA.2.2.1 (suC hoA.2.2.2 suN)))) ⟨n7 KS6.1 (by simp) (by simp) (by simp), n7 KS6.2.1 (by simp) (by simp) (by simp), n7 KS6.2.2.1 (by simp) (by simp) (by simp), n7 KS6.2.2.2.1 (by simp) (by simp) (by simp), n7 KS6.2.2.2.2.1 (by simp) (by simp) (by simp)⟩ (exC R7.1 (exC R7.2.1 (exC R7.2.2.1 (exC R7.2.2.2.1 exN))))
    refine s_Shelf_ask_96 (draft_a0 := some d) (texts_a0 := some tx) (weights_a0 := some w) (store_a0 := some st) (saved_a0 := some sv) (question_a0 := some qo) (standing_a0 := some so) (answers_a0 := some ao) e7 ?_
    refine x_callV (As := [.ref so, .int (nI p), .ref w, .ref st]) (b := ao) (rest := []) (F1 := 5) (L1 := 110) (mc := 0) (ms := 0) d_Shelf_ask_116 cV_Shelf_188 (g_rank R7 m_so m_sp m_w hw0 hw1 K7.2.2.2.2.2.1 n14 n34 KS7 (by omega) (by omega)) R7.1 ⟨by decide, rfl⟩ ⟨by omega, by show 8 + (10 + 11) + 110 ≤ _; omega⟩ ⟨by omega, by omega⟩ (Nat.le_of_ble_eq_true rfl) (fun v h8 q => ?_)
    obtain ⟨rfl, ⟨f28, f48, N8⟩, r8⟩ := q
    have n8 : ∀ {a : Nat} {e : xw_C}, h7 a = some e → (∀ f, e ≠ .inl (0, 24, f)) → (∀ f, e ≠ .inl (3, 24, f)) → a ∉ [o2, o4] := fun ha m2 m3 => by
      simp only [List.mem_cons, List.not_mem_nil, or_false, not_or]
      exact ⟨xw_neC ha R7.2.2.1 (m3 _), xw_neC ha R7.2.2.2.2.1 (m2 _)⟩
    have e8 := r8 x _ (n8 e7 (by simp) (by simp)) e7
    have K8 : QuC qo tk tl tz ph nd po k1 k2 k3 d dl c fk fs fe fd fp fn p nn n t wp2 f g h8 := by
      obtain ⟨q0, T, q1, q2, P, m1, m2, m3, Fq, Nq⟩ := K7
      exact ⟨r8 _ _ (n8 q0 (by simp) (by simp)) q0, T.frq r8 ⟨n8 T.1 (by simp) (by simp), n8 T.2.1 (by simp) (by simp), n8 T.2.2.1 (by simp) (by simp)⟩, r8 _ _ (n8 q1 (by simp) (by simp)) q1, r8 _ _ (n8 q2 (by simp) (by simp)) q2, P.fr r8 ⟨n8 P.1 (by simp) (by simp), n8 P.2.1 (by simp) (by simp), n8 P.2.2.1 (by simp) (by simp), n8 P.2.2.2.1 (by simp) (by simp), n8 P.2.2.2.2.1 (by simp) (by simp)⟩, m1, m2, m3, Fq.fr r8 (fun a x y b ha => n8 ha (by simp) (by simp)) (Nat.le_refl _), Nq.fr r8 (fun a vs ha => n8 ha (by simp) (by simp)) (Nat.le_refl _)⟩
    refine s_Shelf_ask_119 (draft_a0 := some d) (texts_a0 := some tx) (weights_a0 := some w) (store_a0 := some st) (saved_a0 := some sv) (question_a0 := some qo) (standing_a0 := some so)  (rows_answers_a0 := some o1) (scores_answers_a0 := some o2) (lengths_answers_a0 := some o3) (order_answers_a0 := some o4) e8 N8.1 ?_
    exact ⟨⟨_, rfl⟩, ⟨⟨_, _, e8⟩, K8.s.i, ⟨some qo, pf5, r8 so _ (n8 m_so (by simp) (by simp)) m_so, r8 sp _ (n8 m_sp (by simp) (by simp)) m_sp⟩, ⟨_, _, _, _, _, N8⟩⟩, ((((sA4.mono M9).trans (r5.mono (by simp))).trans (r6'.mono M8)).trans (r7.mono (by simp))).trans (r8.mono (by simp))⟩
  · refine x_u1 (fun h3 e3 t3 => ?_)
    have K3 := K2.frx (FrO.rf.up (by simp) t3) e2 (by simp) (by simp) (by simp) (by simp) (by simp) (by simp) (by simp) (by simp) (by simp) (by simp)
    have sA3 : FrO (x :: po :: k1 :: k2 :: k3 :: B) h h3 := ((r1.mono (by simp)).trans (r2.mono (fun a ha => List.mem_cons_of_mem _ ha))).up (by simp) t3
    have no : ∀ a ∈ [x, so, sp, ao, o1, o2, o3, o4, w, st, s1, s2, s3, s4, d], a ≠ x → a ∉ x :: po :: k1 :: k2 :: k3 :: B := fun a ha hn hz => (List.mem_cons.mp hz).elim hn (DB a ha)
    refine x_throw rfl th_Shelf_71_168_75 d_Shelf_ask_38 d_Shelf_ask_41 d_Shelf_ask_42 d_Shelf_ask_44 d_Shelf_ask_47 ⟨by show 1 + 4 < _; omega, by show 0 + (13 * (1 + 2) + 43) ≤ _; omega⟩ ⟨by omega, by omega⟩ ?_
    exact ⟨rfl, ⟨⟨_, _, e3⟩, K3.s.i, ⟨qq, pf, sA3 so _ (no so (by simp) (xw_neC e_so e_x (by simp))) e_so, sA3 sp _ (no sp (by simp) (xw_neC e_sp e_x (by simp))) e_sp⟩, ⟨sz, f1, f3, f4, f2, sA3 ao _ (no ao (by simp) (xw_neC e_ao e_x (by simp))) e_ao, sA3 o1 _ (no o1 (by simp) (xw_neC e_o1 e_x (by simp))) e_o1, sA3 o2 _ (no o2 (by simp) (xw_neC e_o2 e_x (by simp))) e_o2, sA3 o3 _ (no o3 (by simp) (xw_neC e_o3 e_x (by simp))) e_o3, sA3 o4 _ (no o4 (by simp) (xw_neC e_o4 e_x (by simp))) e_o4, hsz, hord⟩⟩, sA3.mono M9⟩
