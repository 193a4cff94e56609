/-! the class in general states: by program (wip/tools/gen.py) -/
theorem g_gather {G : xw_G} {F L : Nat} {h : xw_A} {q N b e : Nat} {fq : Nat → Int32} {a l z m k n : Nat} {f g : Nat → Int32} (K : TokC a l z m k n f g h) (e_q : h q = some (.inl (1, N, .inl fq))) (n_l_q : l ≠ q) (hbe : b ≤ e) (he : e ≤ N) (hN : N < 2 ^ 31) (hF : 2 ≤ F) (hL : 42 ≤ L) :
    xw_Met G m_Tokens_gather F L 0 0 [.ref a, .ref q, .int (nI b), .int (nI e)] h (fun v h' => v = none ∧ (∃ (n' : Nat) (f' g' : Nat → Int32), n ≤ n' ∧ (n + tokN (fun j => fq (b + j)) (e - b) < k → n' = n + tokN (fun j => fq (b + j)) (e - b)) ∧ (∃ w0, w0 ≤ m ∧ g n = nI w0 ∧ GaX fq b e k m n w0 f g e n' f' g') ∧ TokC a l z m k n' f' g' h') ∧ FrO [a, l, z] h h') (fun _ _ => False) := by
  refine xw_Met.of rfl (by decide) (Nat.le_of_ble_eq_true rfl) ?_
  refine s_Tokens_gather_0 ?_
  obtain ⟨Gs, hG1, hG2⟩ := K.2.2.2.2.2.2
  exact lp_gather n_l_q he hN hF hL (fun h2 n2 f2 g2 hn hc2 hx2 K2 r2 => ⟨rfl, ⟨n2, f2, g2, hn, hc2, ⟨Gs n, (hG1 n (Nat.le_refl _)).2, (hG1 n (Nat.le_refl _)).1, hx2⟩, K2⟩, r2⟩) (e - b) b h n f g 0 (by omega) (Nat.le_refl _) GaT.zero (GaX.zero (fun s hs => (hG1 s hs).1) hG2 rfl) (Or.inl rfl) K e_q FrO.rf (Nat.le_refl _)
set_option maxHeartbeats 4000000 in
theorem g_set_0 {G : xw_G} {F L : Nat} {h : xw_A} {A : List Nat} {fx : Nat → Option Nat} {fd : Nat → Int32} {x d tx w st sv qo so ao dl : Nat} {mo li op wp gp : Int32} (e_x : h x = some (.inr (0, [.ref d, .ref tx, .ref w, .ref st, .ref sv, .ref qo, .ref so, .ref ao, .int (nI dl), .int mo, .int li, .int op, .int wp, .int gp]))) (e_tx : h tx = some (oa 2 9 fx)) (e_d : h d = some (.inl (1, 96, .inl fd))) (hAO : AOK A h) (hdl : dl ≤ 48) (hF : 3 ≤ F) (hL : 120 ≤ L) :
    xw_Met G m_Shelf_set F L 3 76 [.ref x, .int 0] h (fun v h' => v = some (.int (nI (tokN fd dl))) ∧ h' x = some (.inr (0, [.ref d, .ref tx, .ref w, .ref st, .ref sv, .ref qo, .ref so, .ref ao, .int (0), .int mo, .int li, .int op, .int wp, .int gp])) ∧ (∃ p : Nat, h' tx = some (oa 2 9 (va_up fx 0 (some p))) ∧ ((x ∈ A ∧ tx ∈ A) → TokOK A h' p) ∧ (∃ l z : Nat, h' p = some (.inr (9, [.ref l, .ref z, .int (nI (tokN fd dl))]))) ∧ ((∀ j, j < dl → ∃ c, c < 128 ∧ fd j = nI c) → DiA A h' p (tkD fd dl (tokN fd dl)))) ∧ FrO [x, tx] h h') (fun _ _ => False) := by
  refine xw_Met.of rfl (by decide) (Nat.le_of_ble_eq_true rfl) ?_
  refine s_Shelf_set_0 ?_
  refine x_callS (As := [.int 0]) (rest := []) (F1 := 1) (L1 := 20) (mc := 0) (ms := 0) d_Shelf_set_1 cS_Shelf_90 (fc_isCol_0 (by omega) (by omega)) ⟨by omega, by show 8 + (1 + 11) + 20 ≤ _; omega⟩ ⟨by omega, by omega⟩ (Nat.le_of_ble_eq_true rfl) (fun v h1 p => ?_)
  obtain ⟨rfl, fr1⟩ := p
  have a_x := fr1 x _ (by simp) e_x
  have a_tx := fr1 tx _ (by simp) e_tx
  have a_d := fr1 d _ (by simp) e_d
  refine s_Shelf_set_4 (fun _ => ?_) (fun z => absurd z (by decide))
  refine s_Shelf_set_17 (draft_a0 := some d) (texts_a0 := some tx) (weights_a0 := some w) (store_a0 := some st) (saved_a0 := some sv) (question_a0 := some qo) (standing_a0 := some so) (answers_a0 := some ao) a_x (fun _ => ?_) (fun z => absurd (nI_le (b := 48) hdl (by decide)) z)
  refine s_Shelf_set_36 (draft_a0 := some d) (texts_a0 := some tx) (weights_a0 := some w) (store_a0 := some st) (saved_a0 := some sv) (question_a0 := some qo) (standing_a0 := some so) (answers_a0 := some ao) ⟨by omega, by omega⟩ a_x (fun q hq => ?_)
  refine x_callI (As := [.int (nI dl)]) (b := q) (rest := [.ref q]) (F1 := 1) (L1 := 20) (mc := 2) (ms := dl + ((dl + 1) / 2 + 1)) d_Shelf_set_44 cI_Shelf_54 (g_tokInit (by omega) (xw_up_s _ _ _) (by omega) (by omega)) ⟨by omega, by show 8 + (2 + 11) + 20 ≤ _; omega⟩ ⟨by omega, by omega⟩ (Nat.le_of_ble_eq_true rfl) (fun v h2 p => ?_)
  obtain ⟨rfl, l, z, K2, yl, yz, fr2⟩ := p
  obtain ⟨nlq, yl⟩ := xw_upN yl
  obtain ⟨nzq, yz⟩ := xw_upN yz
  have F2 : FrO [] h1 h2 := fun p e _ he => fr2 p e (by simp only [List.mem_cons, List.not_mem_nil, or_false]; exact xw_neN he hq) ((xw_up_n _ _ (xw_neN he hq)).trans he)
  have b_x := F2 x _ (by simp) a_x
  have b_tx := F2 tx _ (by simp) a_tx
  have b_d := F2 d _ (by simp) a_d
  refine s_Shelf_set_47 (draft_a0 := some d) (texts_a0 := some tx) (weights_a0 := some w) (store_a0 := some st) (saved_a0 := some sv) (question_a0 := some qo) (standing_a0 := some so) (answers_a0 := some ao) b_x ?_
  have nld : l ≠ d := Ne.symm (xw_neN a_d yl)
  refine x_callV (As := [.ref d, .int (nI 0), .int (nI dl)]) (b := q) (rest := []) (F1 := 2) (L1 := 42) (mc := 0) (ms := 0) d_Shelf_set_58 cV_Shelf_98 (g_gather K2 b_d nld (Nat.zero_le _) (show dl ≤ 96 by omega) (by decide) (by omega) (by omega)) K2.1 ⟨by decide, rfl⟩ ⟨by omega, by show 8 + (7 + 11) + 42 ≤ _; omega⟩ ⟨by omega, by omega⟩ (Nat.le_of_ble_eq_true rfl) (fun v h3 p => ?_)
  obtain ⟨rfl, ⟨n3, f3, g3, -, hT3, ⟨w3, hw3, hw0, hX3⟩, K3⟩, fr3⟩ := p
  obtain rfl : 0 = w3 := (nI_eq (by decide) (by omega)).mp (show nI 0 = nI w3 from hw0)
  obtain rfl : n3 = tokN fd dl := by
    have q9 := (tokN_half fd dl).1
    have e9 : (fun j => fd (0 + j)) = fd := funext (fun j => by rw [Nat.zero_add])
    rw [e9, Nat.sub_zero, Nat.zero_add] at hT3
    exact hT3 (by omega)
  have hk3 : tokN fd dl < (dl + 1) / 2 + 1 := by have q9 := (tokN_half fd dl).1; omega
  have new3 : ∀ p e, h1 p = some e → h3 p = some e := fun p e he => fr3 p e (by simp only [List.mem_cons, List.not_mem_nil, or_false, not_or]; exact ⟨xw_neN he hq, xw_neN he yl, xw_neN he yz⟩) (F2 p e (by simp) he)
  have c_x := new3 _ _ a_x
  have c_tx := new3 _ _ a_tx
  have ntx : tx ≠ x := xw_neC a_tx a_x (by simp)
  refine s_Shelf_set_61 (draft_a0 := some d) (weights_a0 := some w) (store_a0 := some st) (saved_a0 := some sv) (question_a0 := some qo) (standing_a0 := some so) (answers_a0 := some ao) (letters_a2 := some l) (starts_a2 := some z) c_x c_tx (by unfold vp_in; decide) K3.1 ?_
  have FA : ∀ {c e : xw_C}, FrO [x, tx] h (xw_up (xw_up h3 tx c) x e) := fun p e hp he => by
    simp only [List.mem_cons, List.not_mem_nil, or_false, not_or] at hp
    rw [xw_up_n _ _ hp.1, xw_up_n _ _ hp.2]
    exact new3 _ _ (fr1 p e (by simp) he)
  have un : ∀ p, h1 p = none → h p = none := fun p hp => by
    cases he : h p with
    | none => rfl
    | some e => rw [fr1 p e (by simp) he] at hp; cases hp
  have up : ∀ {p : Nat}, h1 p = none → ∀ {c e : xw_C}, xw_up (xw_up h3 tx c) x e p = h3 p := fun hp => by
    intro c e
    rw [xw_up_n _ _ (Ne.symm (xw_neN a_x hp)), xw_up_n _ _ (Ne.symm (xw_neN a_tx hp))]
  refine ⟨rfl, xw_up_s _ _ _, ⟨q, ?_, fun _ => ⟨hAO.new (un _ hq), l, z, _, _, _, f3, g3, hAO.new (un _ yl), hAO.new (un _ yz), ?_, ?_, ?_, K3.2.2.2⟩, ⟨l, z, ?_⟩, fun hl9 => ⟨hAO.new (un _ hq), l, z, _, _, _, f3, g3, hAO.new (un _ yl), hAO.new (un _ yz), ⟨?_, ?_, ?_, K3.2.2.2⟩, hX3.dif rfl hk3 (Nat.le_refl _) (by omega) hl9⟩⟩, FA⟩
  · rw [xw_up_n _ _ ntx]
    exact xw_up_s _ _ _
  · rw [up hq]; exact K3.1
  · rw [up yl]; exact K3.2.1
  · rw [up yz]; exact K3.2.2.1
  · rw [up hq]; exact K3.1
  · rw [up hq]; exact K3.1
  · rw [up yl]; exact K3.2.1
  · rw [up yz]; exact K3.2.2.1
set_option maxHeartbeats 4000000 in
theorem g_set_1 {G : xw_G} {F L : Nat} {h : xw_A} {A : List Nat} {fx : Nat → Option Nat} {fd : Nat → Int32} {x d tx w st sv qo so ao dl : Nat} {mo li op wp gp : Int32} (e_x : h x = some (.inr (0, [.ref d, .ref tx, .ref w, .ref st, .ref sv, .ref qo, .ref so, .ref ao, .int (nI dl), .int mo, .int li, .int op, .int wp, .int gp]))) (e_tx : h tx = some (oa 2 9 fx)) (e_d : h d = some (.inl (1, 96, .inl fd))) (hAO : AOK A h) (hdl : dl ≤ 48) (hF : 3 ≤ F) (hL : 120 ≤ L) :
    xw_Met G m_Shelf_set F L 3 76 [.ref x, .int 1] h (fun v h' => v = some (.int (nI (tokN fd dl))) ∧ h' x = some (.inr (0, [.ref d, .ref tx, .ref w, .ref st, .ref sv, .ref qo, .ref so, .ref ao, .int (0), .int mo, .int li, .int op, .int wp, .int gp])) ∧ (∃ p : Nat, h' tx = some (oa 2 9 (va_up fx 1 (some p))) ∧ ((x ∈ A ∧ tx ∈ A) → TokOK A h' p) ∧ (∃ l z : Nat, h' p = some (.inr (9, [.ref l, .ref z, .int (nI (tokN fd dl))]))) ∧ ((∀ j, j < dl → ∃ c, c < 128 ∧ fd j = nI c) → DiA A h' p (tkD fd dl (tokN fd dl)))) ∧ FrO [x, tx] h h') (fun _ _ => False) := by
  refine xw_Met.of rfl (by decide) (Nat.le_of_ble_eq_true rfl) ?_
  refine s_Shelf_set_0 ?_
  refine x_callS (As := [.int 1]) (rest := []) (F1 := 1) (L1 := 20) (mc := 0) (ms := 0) d_Shelf_set_1 cS_Shelf_90 (fc_isCol_1 (by omega) (by omega)) ⟨by omega, by show 8 + (1 + 11) + 20 ≤ _; omega⟩ ⟨by omega, by omega⟩ (Nat.le_of_ble_eq_true rfl) (fun v h1 p => ?_)
  obtain ⟨rfl, fr1⟩ := p
  have a_x := fr1 x _ (by simp) e_x
  have a_tx := fr1 tx _ (by simp) e_tx
  have a_d := fr1 d _ (by simp) e_d
  refine s_Shelf_set_4 (fun _ => ?_) (fun z => absurd z (by decide))
  refine s_Shelf_set_17 (draft_a0 := some d) (texts_a0 := some tx) (weights_a0 := some w) (store_a0 := some st) (saved_a0 := some sv) (question_a0 := some qo) (standing_a0 := some so) (answers_a0 := some ao) a_x (fun _ => ?_) (fun z => absurd (nI_le (b := 48) hdl (by decide)) z)
  refine s_Shelf_set_36 (draft_a0 := some d) (texts_a0 := some tx) (weights_a0 := some w) (store_a0 := some st) (saved_a0 := some sv) (question_a0 := some qo) (standing_a0 := some so) (answers_a0 := some ao) ⟨by omega, by omega⟩ a_x (fun q hq => ?_)
  refine x_callI (As := [.int (nI dl)]) (b := q) (rest := [.ref q]) (F1 := 1) (L1 := 20) (mc := 2) (ms := dl + ((dl + 1) / 2 + 1)) d_Shelf_set_44 cI_Shelf_54 (g_tokInit (by omega) (xw_up_s _ _ _) (by omega) (by omega)) ⟨by omega, by show 8 + (2 + 11) + 20 ≤ _; omega⟩ ⟨by omega, by omega⟩ (Nat.le_of_ble_eq_true rfl) (fun v h2 p => ?_)
  obtain ⟨rfl, l, z, K2, yl, yz, fr2⟩ := p
  obtain ⟨nlq, yl⟩ := xw_upN yl
  obtain ⟨nzq, yz⟩ := xw_upN yz
  have F2 : FrO [] h1 h2 := fun p e _ he => fr2 p e (by simp only [List.mem_cons, List.not_mem_nil, or_false]; exact xw_neN he hq) ((xw_up_n _ _ (xw_neN he hq)).trans he)
  have b_x := F2 x _ (by simp) a_x
  have b_tx := F2 tx _ (by simp) a_tx
  have b_d := F2 d _ (by simp) a_d
  refine s_Shelf_set_47 (draft_a0 := some d) (texts_a0 := some tx) (weights_a0 := some w) (store_a0 := some st) (saved_a0 := some sv) (question_a0 := some qo) (standing_a0 := some so) (answers_a0 := some ao) b_x ?_
  have nld : l ≠ d := Ne.symm (xw_neN a_d yl)
  refine x_callV (As := [.ref d, .int (nI 0), .int (nI dl)]) (b := q) (rest := []) (F1 := 2) (L1 := 42) (mc := 0) (ms := 0) d_Shelf_set_58 cV_Shelf_98 (g_gather K2 b_d nld (Nat.zero_le _) (show dl ≤ 96 by omega) (by decide) (by omega) (by omega)) K2.1 ⟨by decide, rfl⟩ ⟨by omega, by show 8 + (7 + 11) + 42 ≤ _; omega⟩ ⟨by omega, by omega⟩ (Nat.le_of_ble_eq_true rfl) (fun v h3 p => ?_)
  obtain ⟨rfl, ⟨n3, f3, g3, -, hT3, ⟨w3, hw3, hw0, hX3⟩, K3⟩, fr3⟩ := p
  obtain rfl : 0 = w3 := (nI_eq (by decide) (by omega)).mp (show nI 0 = nI w3 from hw0)
  obtain rfl : n3 = tokN fd dl := by
    have q9 := (tokN_half fd dl).1
    have e9 : (fun j => fd (0 + j)) = fd := funext (fun j => by rw [Nat.zero_add])
    rw [e9, Nat.sub_zero, Nat.zero_add] at hT3
    exact hT3 (by omega)
  have hk3 : tokN fd dl < (dl + 1) / 2 + 1 := by have q9 := (tokN_half fd dl).1; omega
  have new3 : ∀ p e, h1 p = some e → h3 p = some e := fun p e he => fr3 p e (by simp only [List.mem_cons, List.not_mem_nil, or_false, not_or]; exact ⟨xw_neN he hq, xw_neN he yl, xw_neN he yz⟩) (F2 p e (by simp) he)
  have c_x := new3 _ _ a_x
  have c_tx := new3 _ _ a_tx
  have ntx : tx ≠ x := xw_neC a_tx a_x (by simp)
  refine s_Shelf_set_61 (draft_a0 := some d) (weights_a0 := some w) (store_a0 := some st) (saved_a0 := some sv) (question_a0 := some qo) (standing_a0 := some so) (answers_a0 := some ao) (letters_a2 := some l) (starts_a2 := some z) c_x c_tx (by unfold vp_in; decide) K3.1 ?_
  have FA : ∀ {c e : xw_C}, FrO [x, tx] h (xw_up (xw_up h3 tx c) x e) := fun p e hp he => by
    simp only [List.mem_cons, List.not_mem_nil, or_false, not_or] at hp
    rw [xw_up_n _ _ hp.1, xw_up_n _ _ hp.2]
    exact new3 _ _ (fr1 p e (by simp) he)
  have un : ∀ p, h1 p = none → h p = none := fun p hp => by
    cases he : h p with
    | none => rfl
    | some e => rw [fr1 p e (by simp) he] at hp; cases hp
  have up : ∀ {p : Nat}, h1 p = none → ∀ {c e : xw_C}, xw_up (xw_up h3 tx c) x e p = h3 p := fun hp => by
    intro c e
    rw [xw_up_n _ _ (Ne.symm (xw_neN a_x hp)), xw_up_n _ _ (Ne.symm (xw_neN a_tx hp))]
  refine ⟨rfl, xw_up_s _ _ _, ⟨q, ?_, fun _ => ⟨hAO.new (un _ hq), l, z, _, _, _, f3, g3, hAO.new (un _ yl), hAO.new (un _ yz), ?_, ?_, ?_, K3.2.2.2⟩, ⟨l, z, ?_⟩, fun hl9 => ⟨hAO.new (un _ hq), l, z, _, _, _, f3, g3, hAO.new (un _ yl), hAO.new (un _ yz), ⟨?_, ?_, ?_, K3.2.2.2⟩, hX3.dif rfl hk3 (Nat.le_refl _) (by omega) hl9⟩⟩, FA⟩
  · rw [xw_up_n _ _ ntx]
    exact xw_up_s _ _ _
  · rw [up hq]; exact K3.1
  · rw [up yl]; exact K3.2.1
  · rw [up yz]; exact K3.2.2.1
  · rw [up hq]; exact K3.1
  · rw [up hq]; exact K3.1
  · rw [up yl]; exact K3.2.1
  · rw [up yz]; exact K3.2.2.1
set_option maxHeartbeats 400000 in
theorem g_look {G : xw_G} {F L : Nat} {h : xw_A} {r y : Int32} {x d tx w st sv qo so ao dl : Nat} {mo li op wp gp : Int32} (e_x : h x = some (.inr (0, [.ref d, .ref tx, .ref w, .ref st, .ref sv, .ref qo, .ref so, .ref ao, .int (nI dl), .int mo, .int li, .int op, .int wp, .int gp]))) {A : List Nat} {s1 s2 s3 s4 : Nat} {fr fp fs fl : Nat → Option Nat} {pc sc lc : Nat} {pe vm sm : Int32} (K : StoC A st s1 s2 s3 s4 fr fp fs fl pc sc lc pe vm sm h) (SA : StA A st s1 s2 s3 s4) (hF : 6 ≤ F) (hL : 90 ≤ L) :
    xw_Met G m_Shelf_look F L 1 6 [.ref x, .int r, .int y] h (fun v h' => (∃ (j a p q l z n l2 z2 n2 vr : Nat) (vn ve : Int32), 1 ≤ j ∧ j ≤ 24 ∧ r = nI j ∧ fr j = some a ∧ (h a = some (.inr (10, [.int vn, .int (nI vr), .ref p, .ref q, .int ve])) ∧ h p = some (.inr (9, [.ref l, .ref z, .int (nI n)])) ∧ h q = some (.inr (9, [.ref l2, .ref z2, .int (nI n2)]))) ∧ ((y = nI 0 ∧ v = some (.int (nI n))) ∨ (y = nI 1 ∧ v = some (.int (nI n2))) ∨ (y = nI 2 ∧ v = some (.int ve)))) ∧ h = h') (fun E h' => ((E = "java/util/NoSuchElementException" ∧ ∀ j, 1 ≤ j → j ≤ 24 → r = nI j → fr j = none) ∨ (E = "java/lang/IllegalArgumentException" ∧ (y < 0 ∨ 2 < y) ∧ ∃ j a : Nat, 1 ≤ j ∧ j ≤ 24 ∧ r = nI j ∧ fr j = some a)) ∧ h = h') := by
  refine xw_Met.of rfl (by decide) (Nat.le_of_ble_eq_true rfl) ?_
  have K0 := K
  obtain ⟨e_st, e_s1, e_s2, e_s3, e_s4, hpc, hsc, hlc, hR, hP, hS, hV, hAO⟩ := K
  refine s_Shelf_look_0 (draft_a0 := some d) (texts_a0 := some tx) (weights_a0 := some w) (store_a0 := some st) (saved_a0 := some sv) (question_a0 := some qo) (standing_a0 := some so) (answers_a0 := some ao) e_x ?_
  refine x_callV (As := [.int r]) (b := st) (rest := []) (F1 := 1) (L1 := 20) (mc := 0) (ms := 0) d_Shelf_look_5 cV_Shelf_115 (g_versionOf K0 (by omega) (by omega)) e_st ⟨by decide, rfl⟩ ⟨by omega, by show 8 + (2 + 11) + 20 ≤ _; omega⟩ ⟨by omega, by omega⟩ (Nat.le_of_ble_eq_true rfl) (fun v_5 h_4 p_6 => ?_)
  obtain ⟨⟨o_1, rfl, ho_2, ho_3⟩, rfl⟩ := p_6
  refine x_le (xw_le_n (xw_le_n (xw_le_s (xw_le_n xw_le_e)))) ?_
  refine s_Shelf_look_8 (s0 := o_1) (fun z_7 => ?_) (fun a_8 z_9 => ?_)
  · skip
    refine x_throw rfl th_Shelf_119_121_123 d_Shelf_look_13 d_Shelf_look_16 d_Shelf_look_17 d_Shelf_look_19 d_Shelf_look_22 ⟨by show 1 + 4 < _; omega, by show 0 + (13 * (1 + 2) + 43) ≤ _; omega⟩ ⟨by omega, by omega⟩ ?_
    exact ⟨Or.inl ⟨rfl, fun j9 h91 h92 e9 => (ho_3 j9 h91 h92 e9).symm.trans z_7⟩, rfl⟩
  · skip
    obtain ⟨vn, ve, vr, vp, vq, vl, vz, vj, vl2, vz2, vj2, ev1, ev2, ev3, hj1, hj2⟩ := (ho_2 _ z_9).1.tokens
    rw [z_9]
    obtain ⟨-, j9, ja9, jb9, je9⟩ := ho_2 _ z_9
    have hj9 := (ho_3 j9 ja9 jb9 je9).symm.trans z_9
    refine s_Shelf_look_23 (r3 := some a_8) ?_
    by_cases ht : y < 0 ∨ 2 < y
    · skip
      refine x_tableOut (dt := 73) d_Shelf_look_24 (ht.elim (fun q => Or.inl (Int32.lt_iff_toInt_lt.mp q)) (fun q => Or.inr (Int32.lt_iff_toInt_lt.mp q))) (by decide) ?_
      refine x_throw rfl th_Shelf_71_221_75 d_Shelf_look_73 d_Shelf_look_76 d_Shelf_look_77 d_Shelf_look_79 d_Shelf_look_82 ⟨by show 1 + 4 < _; omega, by show 0 + (13 * (1 + 2) + 43) ≤ _; omega⟩ ⟨by omega, by omega⟩ ?_
      exact ⟨Or.inr ⟨rfl, ht, j9, a_8, ja9, jb9, je9, hj9⟩, rfl⟩
    · skip
      rw [not_or] at ht
      obtain ⟨jt, j1, j2, rfl⟩ := ix_of (a := 0) (b := 2) (by decide) (by decide) ht.1 ht.2
      obtain rfl | rfl | rfl : jt = 0 ∨ jt = 1 ∨ jt = 2 := by omega
      · skip
        refine x_tableAt (tgt := 52) d_Shelf_look_24 (by decide) (by decide) (show _ = some 28 by decide) (by decide) ⟨73, by decide⟩ ?_
        refine x_le (xw_le_n (xw_le_n (xw_le_n (xw_le_s xw_le_e)))) ?_
        refine s_Shelf_look_52 (second_a3 := some vq) (letters_first_a3 := some vl) (starts_first_a3 := some vz) ev1 ev2 ?_
        exact ⟨⟨j9, a_8, vp, vq, vl, vz, vj, vl2, vz2, vj2, vr, vn, ve, ja9, jb9, je9, hj9, ⟨ev1, ev2, ev3⟩, Or.inl ⟨rfl, rfl⟩⟩, rfl⟩
      · skip
        refine x_tableAt (tgt := 60) d_Shelf_look_24 (by decide) (by decide) (show _ = some 36 by decide) (by decide) ⟨73, by decide⟩ ?_
        refine x_le (xw_le_n (xw_le_n (xw_le_n (xw_le_s xw_le_e)))) ?_
        refine s_Shelf_look_60 (first_a3 := some vp) (letters_second_a3 := some vl2) (starts_second_a3 := some vz2) ev1 ev3 ?_
        exact ⟨⟨j9, a_8, vp, vq, vl, vz, vj, vl2, vz2, vj2, vr, vn, ve, ja9, jb9, je9, hj9, ⟨ev1, ev2, ev3⟩, Or.inr (Or.inl ⟨rfl, rfl⟩)⟩, rfl⟩
      · skip
        refine x_tableAt (tgt := 68) d_Shelf_look_24 (by decide) (by decide) (show _ = some 44 by decide) (by decide) ⟨73, by decide⟩ ?_
        refine x_le (xw_le_n (xw_le_n (xw_le_n (xw_le_s xw_le_e)))) ?_
        refine s_Shelf_look_68 (first_a3 := some vp) (second_a3 := some vq) ev1 ?_
        exact ⟨⟨j9, a_8, vp, vq, vl, vz, vj, vl2, vz2, vj2, vr, vn, ve, ja9, jb9, je9, hj9, ⟨ev1, ev2, ev3⟩, Or.inr (Or.inr ⟨rfl, rfl⟩)⟩, rfl⟩
theorem seg_ix {k : Int32} {sc : Nat} (h1 : ¬ k < 0) (h2 : k < nI sc) (hs : sc < 2 ^ 31) : ∃ j, 0 ≤ j ∧ j < sc ∧ k = nI j := by
  obtain ⟨j, hj, rfl⟩ := nI_of h1
  exact ⟨j, Nat.zero_le _, (nI_ltI hj hs).mp h2, rfl⟩
set_option maxHeartbeats 400000 in
theorem g_segment {G : xw_G} {F L : Nat} {h : xw_A} {k y : Int32} {x d tx w st sv qo so ao dl : Nat} {mo li op wp gp : Int32} (e_x : h x = some (.inr (0, [.ref d, .ref tx, .ref w, .ref st, .ref sv, .ref qo, .ref so, .ref ao, .int (nI dl), .int mo, .int li, .int op, .int wp, .int gp]))) {A : List Nat} {s1 s2 s3 s4 : Nat} {fr fp fs fl : Nat → Option Nat} {pc sc lc nv ns : Nat} {R : Nat → Option VT} {P : List VT} {S : List SG} {Lv : List VT} (K : StoC A st s1 s2 s3 s4 fr fp fs fl pc sc lc (nI (sumE P)) (nI nv) (nI ns) h) (V : StV A h fr fp fs fl pc sc lc R P S Lv) (SA : StA A st s1 s2 s3 s4) (hF : 6 ≤ F) (hL : 90 ≤ L) :
    xw_Met G m_Shelf_segment F L 1 6 [.ref x, .int k, .int y] h (fun v h' => (∃ (j : Nat) (s : SG), S[j]? = some s ∧ k = nI j ∧ ((y = nI 0 ∧ v = some (.int (nI s.1))) ∨ (y = nI 1 ∧ v = some (.int (nI s.2.length))) ∨ (y = nI 2 ∧ v = some (.int (nI (sumE s.2)))))) ∧ h = h') (fun E h' => ((E = "java/lang/IndexOutOfBoundsException" ∧ ∀ j, j < S.length → ¬ k = nI j) ∨ (E = "java/lang/IllegalArgumentException" ∧ (y < 0 ∨ 2 < y) ∧ ∃ j, j < S.length ∧ k = nI j)) ∧ h = h') := by
  refine xw_Met.of rfl (by decide) (Nat.le_of_ble_eq_true rfl) ?_
  have K0 := K
  obtain ⟨e_st, e_s1, e_s2, e_s3, e_s4, hpc, hsc, hlc, hR, hP, hS, hV, hAO⟩ := K
  refine s_Shelf_segment_0 (fun z_1 => ?_) (fun z_2 => ?_)
  · skip
    refine x_throw rfl th_Shelf_81_223_85 d_Shelf_segment_15 d_Shelf_segment_18 d_Shelf_segment_19 d_Shelf_segment_21 d_Shelf_segment_24 ⟨by show 1 + 4 < _; omega, by show 0 + (13 * (1 + 2) + 43) ≤ _; omega⟩ ⟨by omega, by omega⟩ ?_
    exact ⟨Or.inl ⟨rfl, fun j hj q => absurd z_1 (by rw [q]; exact nI_pos (by have := V.2.2.1.1; omega))⟩, rfl⟩
  · skip
    refine s_Shelf_segment_4 (draft_a0 := some d) (texts_a0 := some tx) (weights_a0 := some w) (saved_a0 := some sv) (question_a0 := some qo) (standing_a0 := some so) (answers_a0 := some ao) (rows_store_a0 := some s1) (pending_store_a0 := some s2) (segments_store_a0 := some s3) (live_store_a0 := some s4) e_x e_st (fun z_3 => ?_) (fun z_4 => ?_)
    · skip
      obtain ⟨kk, hk1, hk2, rfl⟩ : ∃ kk, 0 ≤ kk ∧ kk < sc ∧ k = nI kk := seg_ix z_2 z_3 (by omega)
      obtain ⟨ss, hss⟩ : ∃ ss, S[kk]? = some ss := ⟨_, List.getElem?_eq_getElem (by have := V.2.2.1.1; omega)⟩
      obtain ⟨b, hb, -, hl5, hvn, vs, vf, -, eb, evs, -⟩ := V.2.2.1.2 kk ss hss
      refine s_Shelf_segment_25 (draft_a0 := some d) (texts_a0 := some tx) (weights_a0 := some w) (saved_a0 := some sv) (question_a0 := some qo) (standing_a0 := some so) (answers_a0 := some ao) (rows_store_a0 := some s1) (pending_store_a0 := some s2) (live_store_a0 := some s4) e_x e_st e_s3 (vp_in_nI (by omega) (by decide)) ?_
      rw [nI_clamp (by omega), hb]
      by_cases ht : y < 0 ∨ 2 < y
      · skip
        refine x_tableOut (dt := 80) d_Shelf_segment_36 (ht.elim (fun q => Or.inl (Int32.lt_iff_toInt_lt.mp q)) (fun q => Or.inr (Int32.lt_iff_toInt_lt.mp q))) (by decide) ?_
        refine x_throw rfl th_Shelf_71_239_75 d_Shelf_segment_80 d_Shelf_segment_83 d_Shelf_segment_84 d_Shelf_segment_86 d_Shelf_segment_89 ⟨by show 1 + 4 < _; omega, by show 0 + (13 * (1 + 2) + 43) ≤ _; omega⟩ ⟨by omega, by omega⟩ ?_
        exact ⟨Or.inr ⟨rfl, ht, kk, (List.getElem?_eq_some_iff.mp hss).1, rfl⟩, rfl⟩
      · skip
        rw [not_or] at ht
        obtain ⟨jt, j1, j2, rfl⟩ := ix_of (a := 0) (b := 2) (by decide) (by decide) ht.1 ht.2
        obtain rfl | rfl | rfl : jt = 0 ∨ jt = 1 ∨ jt = 2 := by omega
        · skip
          refine x_tableAt (tgt := 64) d_Shelf_segment_36 (by decide) (by decide) (show _ = some 28 by decide) (by decide) ⟨80, by decide⟩ ?_
          refine x_le (xw_le_n (xw_le_n (xw_le_n (xw_le_s xw_le_e)))) ?_
          refine s_Shelf_segment_64 (versions_a3 := some vs) eb ?_
          exact ⟨⟨kk, ss, hss, rfl, Or.inl ⟨rfl, rfl⟩⟩, rfl⟩
        · skip
          refine x_tableAt (tgt := 69) d_Shelf_segment_36 (by decide) (by decide) (show _ = some 33 by decide) (by decide) ⟨80, by decide⟩ ?_
          refine x_le (xw_le_n (xw_le_n (xw_le_n (xw_le_s xw_le_e)))) ?_
          refine s_Shelf_segment_69 eb evs ?_
          exact ⟨⟨kk, ss, hss, rfl, Or.inr (Or.inl ⟨rfl, rfl⟩)⟩, rfl⟩
        · skip
          refine x_tableAt (tgt := 75) d_Shelf_segment_36 (by decide) (by decide) (show _ = some 39 by decide) (by decide) ⟨80, by decide⟩ ?_
          refine x_le (xw_le_n (xw_le_n (xw_le_n (xw_le_s xw_le_e)))) ?_
          refine s_Shelf_segment_75 (versions_a3 := some vs) eb ?_
          exact ⟨⟨kk, ss, hss, rfl, Or.inr (Or.inr ⟨rfl, rfl⟩)⟩, rfl⟩
    · skip
      refine x_throw rfl th_Shelf_81_223_85 d_Shelf_segment_15 d_Shelf_segment_18 d_Shelf_segment_19 d_Shelf_segment_21 d_Shelf_segment_24 ⟨by show 1 + 4 < _; omega, by show 0 + (13 * (1 + 2) + 43) ≤ _; omega⟩ ⟨by omega, by omega⟩ ?_
      exact ⟨Or.inl ⟨rfl, fun j hj q => absurd (by rw [q]; exact nI_lt (by have := V.2.2.1.1; omega) (by omega)) z_4⟩, rfl⟩
set_option maxHeartbeats 400000 in
theorem g_count_no {G : xw_G} {F L : Nat} {h : xw_A} {a : Int32} {x d tx w st sv qo so ao dl : Nat} {mo li op wp gp : Int32} (e_x : h x = some (.inr (0, [.ref d, .ref tx, .ref w, .ref st, .ref sv, .ref qo, .ref so, .ref ao, .int (nI dl), .int mo, .int li, .int op, .int wp, .int gp]))) (hn : a < 0 ∨ 8 < a) (hF : 6 ≤ F) (hL : 90 ≤ L) :
    xw_Met G m_Shelf_count F L 1 6 [.ref x, .int a] h (fun v h' => False) (fun E h' => E = "java/lang/IllegalArgumentException" ∧ h = h') := by
  refine xw_Met.of rfl (by decide) (Nat.le_of_ble_eq_true rfl) ?_
  refine s_Shelf_count_0 ?_
  refine x_tableOut (dt := 123) d_Shelf_count_1 (hn.elim (fun q => Or.inl (Int32.lt_iff_toInt_lt.mp q)) (fun q => Or.inr (Int32.lt_iff_toInt_lt.mp q))) (by decide) ?_
  refine x_throw rfl th_Shelf_71_250_75 d_Shelf_count_123 d_Shelf_count_126 d_Shelf_count_127 d_Shelf_count_129 d_Shelf_count_132 ⟨by show 1 + 4 < _; omega, by show 0 + (13 * (1 + 2) + 43) ≤ _; omega⟩ ⟨by omega, by omega⟩ ?_
  exact ⟨rfl, rfl⟩
set_option maxHeartbeats 400000 in
theorem g_count_0 {G : xw_G} {F L : Nat} {h : xw_A} {x d tx w st sv qo so ao dl : Nat} {mo li op wp gp : Int32} (e_x : h x = some (.inr (0, [.ref d, .ref tx, .ref w, .ref st, .ref sv, .ref qo, .ref so, .ref ao, .int (nI dl), .int mo, .int li, .int op, .int wp, .int gp]))) {A : List Nat} {s1 s2 s3 s4 : Nat} {fr fp fs fl : Nat → Option Nat} {pc sc lc : Nat} {pe vm sm : Int32} (K : StoC A st s1 s2 s3 s4 fr fp fs fl pc sc lc pe vm sm h) {o1 o2 o3 o4 sz : Nat} {f1 f3 f4 : Nat → Int32} {f2 : Nat → UInt64} (N : AnsC ao o1 o2 o3 o4 sz f1 f2 f3 f4 h) (hF : 2 ≤ F) (hL : 42 ≤ L) :
    xw_Met G m_Shelf_count F L 0 0 [.ref x, .int 0] h (fun v h' => (∃ y : Int32, v = some (.int y)) ∧ h = h') (fun _ _ => False) := by
  refine xw_Met.of rfl (by decide) (Nat.le_of_ble_eq_true rfl) ?_
  have K0 := K
  obtain ⟨e_st, e_s1, e_s2, e_s3, e_s4, hpc, hsc, hlc, hR, hP, hS, hV, hAO⟩ := K
  obtain ⟨e_ao, e_o1, e_o2, e_o3, e_o4, hsz, hord⟩ := N
  refine s_Shelf_count_0 ?_
  refine x_tableAt (tgt := 52) d_Shelf_count_1 (by decide) (by decide) (show _ = some 51 by decide) (by decide) ⟨123, by decide⟩ ?_
  refine x_le (xw_le_s (xw_le_n xw_le_e)) ?_
  refine s_Shelf_count_52 (draft_a0 := some d) (texts_a0 := some tx) (weights_a0 := some w) (store_a0 := some st) (saved_a0 := some sv) (question_a0 := some qo) (standing_a0 := some so) (answers_a0 := some ao) e_x ?_
  refine x_callV (As := []) (b := st) (rest := []) (F1 := 1) (L1 := 20) (mc := 0) (ms := 0) d_Shelf_count_56 cV_Shelf_153 (g_rowCount K0 (by omega) (by omega)) e_st ⟨by decide, rfl⟩ ⟨by omega, by show 8 + (3 + 11) + 20 ≤ _; omega⟩ ⟨by omega, by omega⟩ (Nat.le_of_ble_eq_true rfl) (fun v_4 h_3 p_5 => ?_)
  obtain ⟨⟨c_1, rfl, hc_2, -⟩, rfl⟩ := p_5
  refine x_le (xw_le_n (xw_le_n xw_le_e)) ?_
  refine s_Shelf_count_59 ?_
  exact ⟨⟨_, rfl⟩, rfl⟩
set_option maxHeartbeats 400000 in
theorem g_count_1 {G : xw_G} {F L : Nat} {h : xw_A} {x d tx w st sv qo so ao dl : Nat} {mo li op wp gp : Int32} (e_x : h x = some (.inr (0, [.ref d, .ref tx, .ref w, .ref st, .ref sv, .ref qo, .ref so, .ref ao, .int (nI dl), .int mo, .int li, .int op, .int wp, .int gp]))) {A : List Nat} {s1 s2 s3 s4 : Nat} {fr fp fs fl : Nat → Option Nat} {pc sc lc : Nat} {pe vm sm : Int32} (K : StoC A st s1 s2 s3 s4 fr fp fs fl pc sc lc pe vm sm h) {o1 o2 o3 o4 sz : Nat} {f1 f3 f4 : Nat → Int32} {f2 : Nat → UInt64} (N : AnsC ao o1 o2 o3 o4 sz f1 f2 f3 f4 h) (hF : 1 ≤ F) (hL : 20 ≤ L) :
    xw_Met G m_Shelf_count F L 0 0 [.ref x, .int 1] h (fun v h' => (∃ y : Int32, v = some (.int y)) ∧ h = h') (fun _ _ => False) := by
  refine xw_Met.of rfl (by decide) (Nat.le_of_ble_eq_true rfl) ?_
  have K0 := K
  obtain ⟨e_st, e_s1, e_s2, e_s3, e_s4, hpc, hsc, hlc, hR, hP, hS, hV, hAO⟩ := K
  obtain ⟨e_ao, e_o1, e_o2, e_o3, e_o4, hsz, hord⟩ := N
  refine s_Shelf_count_0 ?_
  refine x_tableAt (tgt := 60) d_Shelf_count_1 (by decide) (by decide) (show _ = some 59 by decide) (by decide) ⟨123, by decide⟩ ?_
  refine x_le (xw_le_s (xw_le_n xw_le_e)) ?_
  refine s_Shelf_count_60 (draft_a0 := some d) (texts_a0 := some tx) (weights_a0 := some w) (saved_a0 := some sv) (question_a0 := some qo) (standing_a0 := some so) (answers_a0 := some ao) (rows_store_a0 := some s1) (pending_store_a0 := some s2) (segments_store_a0 := some s3) (live_store_a0 := some s4) e_x e_st ?_
  exact ⟨⟨_, rfl⟩, rfl⟩
set_option maxHeartbeats 400000 in
theorem g_count_2 {G : xw_G} {F L : Nat} {h : xw_A} {x d tx w st sv qo so ao dl : Nat} {mo li op wp gp : Int32} (e_x : h x = some (.inr (0, [.ref d, .ref tx, .ref w, .ref st, .ref sv, .ref qo, .ref so, .ref ao, .int (nI dl), .int mo, .int li, .int op, .int wp, .int gp]))) {A : List Nat} {s1 s2 s3 s4 : Nat} {fr fp fs fl : Nat → Option Nat} {pc sc lc : Nat} {pe vm sm : Int32} (K : StoC A st s1 s2 s3 s4 fr fp fs fl pc sc lc pe vm sm h) {o1 o2 o3 o4 sz : Nat} {f1 f3 f4 : Nat → Int32} {f2 : Nat → UInt64} (N : AnsC ao o1 o2 o3 o4 sz f1 f2 f3 f4 h) (hF : 1 ≤ F) (hL : 20 ≤ L) :
    xw_Met G m_Shelf_count F L 0 0 [.ref x, .int 2] h (fun v h' => (∃ y : Int32, v = some (.int y)) ∧ h = h') (fun _ _ => False) := by
  refine xw_Met.of rfl (by decide) (Nat.le_of_ble_eq_true rfl) ?_
  have K0 := K
  obtain ⟨e_st, e_s1, e_s2, e_s3, e_s4, hpc, hsc, hlc, hR, hP, hS, hV, hAO⟩ := K
  obtain ⟨e_ao, e_o1, e_o2, e_o3, e_o4, hsz, hord⟩ := N
  refine s_Shelf_count_0 ?_
  refine x_tableAt (tgt := 68) d_Shelf_count_1 (by decide) (by decide) (show _ = some 67 by decide) (by decide) ⟨123, by decide⟩ ?_
  refine x_le (xw_le_s (xw_le_n xw_le_e)) ?_
  refine s_Shelf_count_68 (draft_a0 := some d) (texts_a0 := some tx) (weights_a0 := some w) (saved_a0 := some sv) (question_a0 := some qo) (standing_a0 := some so) (answers_a0 := some ao) (rows_store_a0 := some s1) (pending_store_a0 := some s2) (segments_store_a0 := some s3) (live_store_a0 := some s4) e_x e_st ?_
  exact ⟨⟨_, rfl⟩, rfl⟩
set_option maxHeartbeats 400000 in
theorem g_count_3 {G : xw_G} {F L : Nat} {h : xw_A} {x d tx w st sv qo so ao dl : Nat} {mo li op wp gp : Int32} (e_x : h x = some (.inr (0, [.ref d, .ref tx, .ref w, .ref st, .ref sv, .ref qo, .ref so, .ref ao, .int (nI dl), .int mo, .int li, .int op, .int wp, .int gp]))) {A : List Nat} {s1 s2 s3 s4 : Nat} {fr fp fs fl : Nat → Option Nat} {pc sc lc : Nat} {pe vm sm : Int32} (K : StoC A st s1 s2 s3 s4 fr fp fs fl pc sc lc pe vm sm h) {o1 o2 o3 o4 sz : Nat} {f1 f3 f4 : Nat → Int32} {f2 : Nat → UInt64} (N : AnsC ao o1 o2 o3 o4 sz f1 f2 f3 f4 h) (hF : 1 ≤ F) (hL : 20 ≤ L) :
    xw_Met G m_Shelf_count F L 0 0 [.ref x, .int 3] h (fun v h' => (∃ y : Int32, v = some (.int y)) ∧ h = h') (fun _ _ => False) := by
  refine xw_Met.of rfl (by decide) (Nat.le_of_ble_eq_true rfl) ?_
  have K0 := K
  obtain ⟨e_st, e_s1, e_s2, e_s3, e_s4, hpc, hsc, hlc, hR, hP, hS, hV, hAO⟩ := K
  obtain ⟨e_ao, e_o1, e_o2, e_o3, e_o4, hsz, hord⟩ := N
  refine s_Shelf_count_0 ?_
  refine x_tableAt (tgt := 76) d_Shelf_count_1 (by decide) (by decide) (show _ = some 75 by decide) (by decide) ⟨123, by decide⟩ ?_
  refine x_le (xw_le_s (xw_le_n xw_le_e)) ?_
  refine s_Shelf_count_76 (draft_a0 := some d) (texts_a0 := some tx) (weights_a0 := some w) (saved_a0 := some sv) (question_a0 := some qo) (standing_a0 := some so) (answers_a0 := some ao) (rows_store_a0 := some s1) (pending_store_a0 := some s2) (segments_store_a0 := some s3) (live_store_a0 := some s4) e_x e_st ?_
  exact ⟨⟨_, rfl⟩, rfl⟩
set_option maxHeartbeats 400000 in
theorem g_count_4 {G : xw_G} {F L : Nat} {h : xw_A} {x d tx w st sv qo so ao dl : Nat} {mo li op wp gp : Int32} (e_x : h x = some (.inr (0, [.ref d, .ref tx, .ref w, .ref st, .ref sv, .ref qo, .ref so, .ref ao, .int (nI dl), .int mo, .int li, .int op, .int wp, .int gp]))) {A : List Nat} {s1 s2 s3 s4 : Nat} {fr fp fs fl : Nat → Option Nat} {pc sc lc : Nat} {pe vm sm : Int32} (K : StoC A st s1 s2 s3 s4 fr fp fs fl pc sc lc pe vm sm h) {o1 o2 o3 o4 sz : Nat} {f1 f3 f4 : Nat → Int32} {f2 : Nat → UInt64} (N : AnsC ao o1 o2 o3 o4 sz f1 f2 f3 f4 h) (hF : 1 ≤ F) (hL : 20 ≤ L) :
    xw_Met G m_Shelf_count F L 0 0 [.ref x, .int 4] h (fun v h' => (∃ y : Int32, v = some (.int y)) ∧ h = h') (fun _ _ => False) := by
  refine xw_Met.of rfl (by decide) (Nat.le_of_ble_eq_true rfl) ?_
  have K0 := K
  obtain ⟨e_st, e_s1, e_s2, e_s3, e_s4, hpc, hsc, hlc, hR, hP, hS, hV, hAO⟩ := K
  obtain ⟨e_ao, e_o1, e_o2, e_o3, e_o4, hsz, hord⟩ := N
  refine s_Shelf_count_0 ?_
  refine x_tableAt (tgt := 84) d_Shelf_count_1 (by decide) (by decide) (show _ = some 83 by decide) (by decide) ⟨123, by decide⟩ ?_
  refine x_le (xw_le_s (xw_le_n xw_le_e)) ?_
  refine s_Shelf_count_84 (draft_a0 := some d) (texts_a0 := some tx) (weights_a0 := some w) (saved_a0 := some sv) (question_a0 := some qo) (standing_a0 := some so) (answers_a0 := some ao) (rows_store_a0 := some s1) (pending_store_a0 := some s2) (segments_store_a0 := some s3) (live_store_a0 := some s4) e_x e_st ?_
  exact ⟨⟨_, rfl⟩, rfl⟩
set_option maxHeartbeats 400000 in
theorem g_count_5 {G : xw_G} {F L : Nat} {h : xw_A} {x d tx w st sv qo so ao dl : Nat} {mo li op wp gp : Int32} (e_x : h x = some (.inr (0, [.ref d, .ref tx, .ref w, .ref st, .ref sv, .ref qo, .ref so, .ref ao, .int (nI dl), .int mo, .int li, .int op, .int wp, .int gp]))) {A : List Nat} {s1 s2 s3 s4 : Nat} {fr fp fs fl : Nat → Option Nat} {pc sc lc : Nat} {pe vm sm : Int32} (K : StoC A st s1 s2 s3 s4 fr fp fs fl pc sc lc pe vm sm h) {o1 o2 o3 o4 sz : Nat} {f1 f3 f4 : Nat → Int32} {f2 : Nat → UInt64} (N : AnsC ao o1 o2 o3 o4 sz f1 f2 f3 f4 h) (hF : 1 ≤ F) (hL : 20 ≤ L) :
    xw_Met G m_Shelf_count F L 0 0 [.ref x, .int 5] h (fun v h' => (∃ y : Int32, v = some (.int y)) ∧ h = h') (fun _ _ => False) := by
  refine xw_Met.of rfl (by decide) (Nat.le_of_ble_eq_true rfl) ?_
  have K0 := K
  obtain ⟨e_st, e_s1, e_s2, e_s3, e_s4, hpc, hsc, hlc, hR, hP, hS, hV, hAO⟩ := K
  obtain ⟨e_ao, e_o1, e_o2, e_o3, e_o4, hsz, hord⟩ := N
  refine s_Shelf_count_0 ?_
  refine x_tableAt (tgt := 92) d_Shelf_count_1 (by decide) (by decide) (show _ = some 91 by decide) (by decide) ⟨123, by decide⟩ ?_
  refine x_le (xw_le_s (xw_le_n xw_le_e)) ?_
  refine s_Shelf_count_92 (draft_a0 := some d) (texts_a0 := some tx) (weights_a0 := some w) (store_a0 := some st) (saved_a0 := some sv) (question_a0 := some qo) (standing_a0 := some so) (rows_answers_a0 := some o1) (scores_answers_a0 := some o2) (lengths_answers_a0 := some o3) (order_answers_a0 := some o4) e_x e_ao ?_
  exact ⟨⟨_, rfl⟩, rfl⟩
set_option maxHeartbeats 400000 in
theorem g_count_6 {G : xw_G} {F L : Nat} {h : xw_A} {x d tx w st sv qo so ao dl : Nat} {mo li op wp gp : Int32} (e_x : h x = some (.inr (0, [.ref d, .ref tx, .ref w, .ref st, .ref sv, .ref qo, .ref so, .ref ao, .int (nI dl), .int mo, .int li, .int op, .int wp, .int gp]))) {A : List Nat} {s1 s2 s3 s4 : Nat} {fr fp fs fl : Nat → Option Nat} {pc sc lc : Nat} {pe vm sm : Int32} (K : StoC A st s1 s2 s3 s4 fr fp fs fl pc sc lc pe vm sm h) {o1 o2 o3 o4 sz : Nat} {f1 f3 f4 : Nat → Int32} {f2 : Nat → UInt64} (N : AnsC ao o1 o2 o3 o4 sz f1 f2 f3 f4 h) (hF : 1 ≤ F) (hL : 20 ≤ L) :
    xw_Met G m_Shelf_count F L 0 0 [.ref x, .int 6] h (fun v h' => (∃ y : Int32, v = some (.int y)) ∧ h = h') (fun _ _ => False) := by
  refine xw_Met.of rfl (by decide) (Nat.le_of_ble_eq_true rfl) ?_
  have K0 := K
  obtain ⟨e_st, e_s1, e_s2, e_s3, e_s4, hpc, hsc, hlc, hR, hP, hS, hV, hAO⟩ := K
  obtain ⟨e_ao, e_o1, e_o2, e_o3, e_o4, hsz, hord⟩ := N
  refine s_Shelf_count_0 ?_
  refine x_tableAt (tgt := 100) d_Shelf_count_1 (by decide) (by decide) (show _ = some 99 by decide) (by decide) ⟨123, by decide⟩ ?_
  refine x_le (xw_le_s (xw_le_n xw_le_e)) ?_
  refine s_Shelf_count_100 (draft_a0 := some d) (texts_a0 := some tx) (weights_a0 := some w) (store_a0 := some st) (saved_a0 := some sv) (question_a0 := some qo) (standing_a0 := some so) (answers_a0 := some ao) e_x ?_
  exact ⟨⟨_, rfl⟩, rfl⟩
set_option maxHeartbeats 400000 in
theorem g_count_7 {G : xw_G} {F L : Nat} {h : xw_A} {x d tx w st sv qo so ao dl : Nat} {mo li op wp gp : Int32} (e_x : h x = some (.inr (0, [.ref d, .ref tx, .ref w, .ref st, .ref sv, .ref qo, .ref so, .ref ao, .int (nI dl), .int mo, .int li, .int op, .int wp, .int gp]))) {A : List Nat} {s1 s2 s3 s4 : Nat} {fr fp fs fl : Nat → Option Nat} {pc sc lc : Nat} {pe vm sm : Int32} (K : StoC A st s1 s2 s3 s4 fr fp fs fl pc sc lc pe vm sm h) {o1 o2 o3 o4 sz : Nat} {f1 f3 f4 : Nat → Int32} {f2 : Nat → UInt64} (N : AnsC ao o1 o2 o3 o4 sz f1 f2 f3 f4 h) (hF : 1 ≤ F) (hL : 20 ≤ L) :
    xw_Met G m_Shelf_count F L 0 0 [.ref x, .int 7] h (fun v h' => (∃ y : Int32, v = some (.int y)) ∧ h = h') (fun _ _ => False) := by
  refine xw_Met.of rfl (by decide) (Nat.le_of_ble_eq_true rfl) ?_
  have K0 := K
  obtain ⟨e_st, e_s1, e_s2, e_s3, e_s4, hpc, hsc, hlc, hR, hP, hS, hV, hAO⟩ := K
  obtain ⟨e_ao, e_o1, e_o2, e_o3, e_o4, hsz, hord⟩ := N
  refine s_Shelf_count_0 ?_
  refine x_tableAt (tgt := 105) d_Shelf_count_1 (by decide) (by decide) (show _ = some 104 by decide) (by decide) ⟨123, by decide⟩ ?_
  refine x_le (xw_le_s (xw_le_n xw_le_e)) ?_
  refine s_Shelf_count_105 (draft_a0 := some d) (texts_a0 := some tx) (weights_a0 := some w) (store_a0 := some st) (saved_a0 := some sv) (question_a0 := some qo) (standing_a0 := some so) (answers_a0 := some ao) e_x (fun z_1 => ?_) (fun z_2 => ?_)
  · skip
    refine s_Shelf_count_116 ?_
    refine s_Shelf_count_117 ?_
    exact ⟨⟨_, rfl⟩, rfl⟩
  · skip
    refine s_Shelf_count_112 ?_
    refine s_Shelf_count_117 ?_
    exact ⟨⟨_, rfl⟩, rfl⟩
set_option maxHeartbeats 400000 in
theorem g_count_8 {G : xw_G} {F L : Nat} {h : xw_A} {x d tx w st sv qo so ao dl : Nat} {mo li op wp gp : Int32} (e_x : h x = some (.inr (0, [.ref d, .ref tx, .ref w, .ref st, .ref sv, .ref qo, .ref so, .ref ao, .int (nI dl), .int mo, .int li, .int op, .int wp, .int gp]))) {A : List Nat} {s1 s2 s3 s4 : Nat} {fr fp fs fl : Nat → Option Nat} {pc sc lc : Nat} {pe vm sm : Int32} (K : StoC A st s1 s2 s3 s4 fr fp fs fl pc sc lc pe vm sm h) {o1 o2 o3 o4 sz : Nat} {f1 f3 f4 : Nat → Int32} {f2 : Nat → UInt64} (N : AnsC ao o1 o2 o3 o4 sz f1 f2 f3 f4 h) (hF : 1 ≤ F) (hL : 20 ≤ L) :
    xw_Met G m_Shelf_count F L 0 0 [.ref x, .int 8] h (fun v h' => (∃ y : Int32, v = some (.int y)) ∧ h = h') (fun _ _ => False) := by
  refine xw_Met.of rfl (by decide) (Nat.le_of_ble_eq_true rfl) ?_
  have K0 := K
  obtain ⟨e_st, e_s1, e_s2, e_s3, e_s4, hpc, hsc, hlc, hR, hP, hS, hV, hAO⟩ := K
  obtain ⟨e_ao, e_o1, e_o2, e_o3, e_o4, hsz, hord⟩ := N
  refine s_Shelf_count_0 ?_
  refine x_tableAt (tgt := 118) d_Shelf_count_1 (by decide) (by decide) (show _ = some 117 by decide) (by decide) ⟨123, by decide⟩ ?_
  refine x_le (xw_le_s (xw_le_n xw_le_e)) ?_
  refine s_Shelf_count_118 (draft_a0 := some d) (texts_a0 := some tx) (weights_a0 := some w) (store_a0 := some st) (saved_a0 := some sv) (question_a0 := some qo) (standing_a0 := some so) (answers_a0 := some ao) e_x ?_
  exact ⟨⟨_, rfl⟩, rfl⟩
set_option maxHeartbeats 400000 in
theorem g_has_no {G : xw_G} {F L : Nat} {h : xw_A} {k : Int32} {ao : Nat} {o1 o2 o3 o4 sz : Nat} {f1 f3 f4 : Nat → Int32} {f2 : Nat → UInt64} (N : AnsC ao o1 o2 o3 o4 sz f1 f2 f3 f4 h) (hn : k < 0 ∨ nI sz ≤ k) (hF : 1 ≤ F) (hL : 20 ≤ L) :
    xw_Met G m_Answers_has F L 0 0 [.ref ao, .int k] h (fun v h' => v = some (.int 0) ∧ h = h') (fun _ _ => False) := by
  refine xw_Met.of rfl (by decide) (Nat.le_of_ble_eq_true rfl) ?_
  obtain ⟨e_ao, e_o1, e_o2, e_o3, e_o4, hsz, hord⟩ := N
  refine s_Answers_has_0 (fun z_1 => ?_) (fun z_2 => ?_)
  · skip
    refine s_Answers_has_16 ?_
    refine s_Answers_has_17 rfl ?_
    exact ⟨rfl, rfl⟩
  · skip
    refine s_Answers_has_4 (rows_a0 := some o1) (scores_a0 := some o2) (lengths_a0 := some o3) (order_a0 := some o4) e_ao (fun z_3 => ?_) (fun z => hn.elim (fun q => absurd q z_2) (fun q => absurd q z))
    refine s_Answers_has_16 ?_
    refine s_Answers_has_17 rfl ?_
    exact ⟨rfl, rfl⟩
set_option maxHeartbeats 400000 in
theorem g_has_yes {G : xw_G} {F L : Nat} {h : xw_A} {k : Nat} {ao : Nat} {o1 o2 o3 o4 sz : Nat} {f1 f3 f4 : Nat → Int32} {f2 : Nat → UInt64} (N : AnsC ao o1 o2 o3 o4 sz f1 f2 f3 f4 h) (hk : k < sz) (hF : 1 ≤ F) (hL : 20 ≤ L) :
    xw_Met G m_Answers_has F L 0 0 [.ref ao, .int (nI k)] h (fun v h' => v = some (.int 1) ∧ h = h') (fun _ _ => False) := by
  refine xw_Met.of rfl (by decide) (Nat.le_of_ble_eq_true rfl) ?_
  obtain ⟨e_ao, e_o1, e_o2, e_o3, e_o4, hsz, hord⟩ := N
  refine s_Answers_has_0 (fun z => absurd z (nI_pos (by omega))) (fun z_1 => ?_)
  refine s_Answers_has_4 (rows_a0 := some o1) (scores_a0 := some o2) (lengths_a0 := some o3) (order_a0 := some o4) e_ao (fun z => absurd z (nI_ge hk (by omega))) (fun z_2 => ?_)
  refine s_Answers_has_12 ?_
  refine s_Answers_has_17 rfl ?_
  exact ⟨rfl, rfl⟩
set_option maxHeartbeats 400000 in
theorem g_place {G : xw_G} {F L : Nat} {h : xw_A} {k : Nat} {b : Int32} {ao : Nat} {o1 o2 o3 o4 sz : Nat} {f1 f3 f4 : Nat → Int32} {f2 : Nat → UInt64} (N : AnsC ao o1 o2 o3 o4 sz f1 f2 f3 f4 h) (hk : k < sz) (hF : 1 ≤ F) (hL : 20 ≤ L) :
    xw_Met G m_Answers_place F L 0 0 [.ref ao, .int (nI k), .int b] h (fun v h' => (∃ j : Nat, v = some (.int (nI j)) ∧ j < sz) ∧ h = h') (fun _ _ => False) := by
  refine xw_Met.of rfl (by decide) (Nat.le_of_ble_eq_true rfl) ?_
  obtain ⟨e_ao, e_o1, e_o2, e_o3, e_o4, hsz, hord⟩ := N
  refine s_Answers_place_0 (fun z_1 => ?_) (fun z_2 => ?_)
  · skip
    refine s_Answers_place_13 ?_
    refine s_Answers_place_14 ?_
    exact ⟨⟨k, rfl, hk⟩, rfl⟩
  · skip
    refine s_Answers_place_4 (rows_a0 := some o1) (scores_a0 := some o2) (lengths_a0 := some o3) e_ao e_o4 (vp_in_nI (by omega) (by omega)) ?_
    refine s_Answers_place_14 ?_
    obtain ⟨j, hj, hjs⟩ := hord k hk
    exact ⟨⟨j, by rw [nI_clamp (by omega), hj], hjs⟩, rfl⟩
set_option maxHeartbeats 400000 in
theorem g_answer_no {G : xw_G} {F L : Nat} {h : xw_A} {k b : Int32} {x d tx w st sv qo so ao dl : Nat} {mo li op wp gp : Int32} (e_x : h x = some (.inr (0, [.ref d, .ref tx, .ref w, .ref st, .ref sv, .ref qo, .ref so, .ref ao, .int (nI dl), .int mo, .int li, .int op, .int wp, .int gp]))) {o1 o2 o3 o4 sz : Nat} {f1 f3 f4 : Nat → Int32} {f2 : Nat → UInt64} (N : AnsC ao o1 o2 o3 o4 sz f1 f2 f3 f4 h) (hn : k < 0 ∨ nI sz ≤ k) (hF : 6 ≤ F) (hL : 90 ≤ L) :
    xw_Met G m_Shelf_answer F L 1 6 [.ref x, .int k, .int b] h (fun v h' => False) (fun E h' => E = "java/lang/IndexOutOfBoundsException" ∧ h = h') := by
  refine xw_Met.of rfl (by decide) (Nat.le_of_ble_eq_true rfl) ?_
  have N0 := N
  obtain ⟨e_ao, e_o1, e_o2, e_o3, e_o4, hsz, hord⟩ := N
  refine s_Shelf_answer_0 (draft_a0 := some d) (texts_a0 := some tx) (weights_a0 := some w) (store_a0 := some st) (saved_a0 := some sv) (question_a0 := some qo) (standing_a0 := some so) (answers_a0 := some ao) e_x ?_
  refine x_callV (As := [.int k]) (b := ao) (rest := []) (F1 := 1) (L1 := 20) (mc := 0) (ms := 0) d_Shelf_answer_5 cV_Shelf_195 (g_has_no N0 hn (by omega) (by omega)) e_ao ⟨by decide, rfl⟩ ⟨by omega, by show 8 + (2 + 11) + 20 ≤ _; omega⟩ ⟨by omega, by omega⟩ (Nat.le_of_ble_eq_true rfl) (fun v_2 h_1 p_3 => ?_)
  obtain ⟨rfl, rfl⟩ := p_3
  refine s_Shelf_answer_8 (fun z => absurd z (by decide)) (fun z_4 => ?_)
  refine x_throw rfl th_Shelf_81_198_85 d_Shelf_answer_11 d_Shelf_answer_14 d_Shelf_answer_15 d_Shelf_answer_17 d_Shelf_answer_20 ⟨by show 1 + 4 < _; omega, by show 0 + (13 * (1 + 2) + 43) ≤ _; omega⟩ ⟨by omega, by omega⟩ ?_
  exact ⟨rfl, rfl⟩
set_option maxHeartbeats 400000 in
theorem g_answer_yes {G : xw_G} {F L : Nat} {h : xw_A} {k : Nat} {b : Int32} {x d tx w st sv qo so ao dl : Nat} {mo li op wp gp : Int32} (e_x : h x = some (.inr (0, [.ref d, .ref tx, .ref w, .ref st, .ref sv, .ref qo, .ref so, .ref ao, .int (nI dl), .int mo, .int li, .int op, .int wp, .int gp]))) {o1 o2 o3 o4 sz : Nat} {f1 f3 f4 : Nat → Int32} {f2 : Nat → UInt64} (N : AnsC ao o1 o2 o3 o4 sz f1 f2 f3 f4 h) (hk : k < sz) (hF : 2 ≤ F) (hL : 42 ≤ L) :
    xw_Met G m_Shelf_answer F L 0 0 [.ref x, .int (nI k), .int b] h (fun v h' => (∃ y : Int32, v = some (.int y)) ∧ h = h') (fun _ _ => False) := by
  refine xw_Met.of rfl (by decide) (Nat.le_of_ble_eq_true rfl) ?_
  have N0 := N
  obtain ⟨e_ao, e_o1, e_o2, e_o3, e_o4, hsz, hord⟩ := N
  refine s_Shelf_answer_0 (draft_a0 := some d) (texts_a0 := some tx) (weights_a0 := some w) (store_a0 := some st) (saved_a0 := some sv) (question_a0 := some qo) (standing_a0 := some so) (answers_a0 := some ao) e_x ?_
  refine x_callV (As := [.int (nI k)]) (b := ao) (rest := []) (F1 := 1) (L1 := 20) (mc := 0) (ms := 0) d_Shelf_answer_5 cV_Shelf_195 (g_has_yes N0 hk (by omega) (by omega)) e_ao ⟨by decide, rfl⟩ ⟨by omega, by show 8 + (2 + 11) + 20 ≤ _; omega⟩ ⟨by omega, by omega⟩ (Nat.le_of_ble_eq_true rfl) (fun v_2 h_1 p_3 => ?_)
  obtain ⟨rfl, rfl⟩ := p_3
  refine s_Shelf_answer_8 (fun z_4 => ?_) (fun z => absurd z (by decide))
  refine s_Shelf_answer_21 (draft_a0 := some d) (texts_a0 := some tx) (weights_a0 := some w) (store_a0 := some st) (saved_a0 := some sv) (question_a0 := some qo) (standing_a0 := some so) (rows_answers_a0 := some o1) (scores_answers_a0 := some o2) (lengths_answers_a0 := some o3) (order_answers_a0 := some o4) e_x e_ao ?_
  refine x_callV (As := [.int (nI k), .int b]) (b := ao) (rest := [.ref o1]) (F1 := 1) (L1 := 20) (mc := 0) (ms := 0) d_Shelf_answer_34 cV_Shelf_203 (g_place N0 hk (by omega) (by omega)) e_ao ⟨by decide, rfl⟩ ⟨by omega, by show 8 + (3 + 11) + 20 ≤ _; omega⟩ ⟨by omega, by omega⟩ (Nat.le_of_ble_eq_true rfl) (fun v_8 h_7 p_9 => ?_)
  obtain ⟨⟨j_5, rfl, hj_6⟩, rfl⟩ := p_9
  refine x_le (xw_le_n (xw_le_n (xw_le_n xw_le_e))) ?_
  refine s_Shelf_answer_37 e_o1 (vp_in_nI (by omega) (by decide)) ?_
  exact ⟨⟨_, rfl⟩, rfl⟩
set_option maxHeartbeats 400000 in
theorem g_score_no {G : xw_G} {F L : Nat} {h : xw_A} {k b : Int32} {x d tx w st sv qo so ao dl : Nat} {mo li op wp gp : Int32} (e_x : h x = some (.inr (0, [.ref d, .ref tx, .ref w, .ref st, .ref sv, .ref qo, .ref so, .ref ao, .int (nI dl), .int mo, .int li, .int op, .int wp, .int gp]))) {o1 o2 o3 o4 sz : Nat} {f1 f3 f4 : Nat → Int32} {f2 : Nat → UInt64} (N : AnsC ao o1 o2 o3 o4 sz f1 f2 f3 f4 h) (hn : k < 0 ∨ nI sz ≤ k) (hF : 6 ≤ F) (hL : 90 ≤ L) :
    xw_Met G m_Shelf_score F L 1 6 [.ref x, .int k, .int b] h (fun v h' => False) (fun E h' => E = "java/lang/IndexOutOfBoundsException" ∧ h = h') := by
  refine xw_Met.of rfl (by decide) (Nat.le_of_ble_eq_true rfl) ?_
  have N0 := N
  obtain ⟨e_ao, e_o1, e_o2, e_o3, e_o4, hsz, hord⟩ := N
  refine s_Shelf_score_0 (draft_a0 := some d) (texts_a0 := some tx) (weights_a0 := some w) (store_a0 := some st) (saved_a0 := some sv) (question_a0 := some qo) (standing_a0 := some so) (answers_a0 := some ao) e_x ?_
  refine x_callV (As := [.int k]) (b := ao) (rest := []) (F1 := 1) (L1 := 20) (mc := 0) (ms := 0) d_Shelf_score_5 cV_Shelf_195 (g_has_no N0 hn (by omega) (by omega)) e_ao ⟨by decide, rfl⟩ ⟨by omega, by show 8 + (2 + 11) + 20 ≤ _; omega⟩ ⟨by omega, by omega⟩ (Nat.le_of_ble_eq_true rfl) (fun v_2 h_1 p_3 => ?_)
  obtain ⟨rfl, rfl⟩ := p_3
  refine s_Shelf_score_8 (fun z => absurd z (by decide)) (fun z_4 => ?_)
  refine x_throw rfl th_Shelf_81_198_85 d_Shelf_score_11 d_Shelf_score_14 d_Shelf_score_15 d_Shelf_score_17 d_Shelf_score_20 ⟨by show 1 + 4 < _; omega, by show 0 + (13 * (1 + 2) + 43) ≤ _; omega⟩ ⟨by omega, by omega⟩ ?_
  exact ⟨rfl, rfl⟩
set_option maxHeartbeats 400000 in
theorem g_score_yes {G : xw_G} {F L : Nat} {h : xw_A} {k : Nat} {b : Int32} {x d tx w st sv qo so ao dl : Nat} {mo li op wp gp : Int32} (e_x : h x = some (.inr (0, [.ref d, .ref tx, .ref w, .ref st, .ref sv, .ref qo, .ref so, .ref ao, .int (nI dl), .int mo, .int li, .int op, .int wp, .int gp]))) {o1 o2 o3 o4 sz : Nat} {f1 f3 f4 : Nat → Int32} {f2 : Nat → UInt64} (N : AnsC ao o1 o2 o3 o4 sz f1 f2 f3 f4 h) (hk : k < sz) (hF : 2 ≤ F) (hL : 42 ≤ L) :
    xw_Met G m_Shelf_score F L 0 0 [.ref x, .int (nI k), .int b] h (fun v h' => (∃ y : UInt64, v = some (.double y)) ∧ h = h') (fun _ _ => False) := by
  refine xw_Met.of rfl (by decide) (Nat.le_of_ble_eq_true rfl) ?_
  have N0 := N
  obtain ⟨e_ao, e_o1, e_o2, e_o3, e_o4, hsz, hord⟩ := N
  refine s_Shelf_score_0 (draft_a0 := some d) (texts_a0 := some tx) (weights_a0 := some w) (store_a0 := some st) (saved_a0 := some sv) (question_a0 := some qo) (standing_a0 := some so) (answers_a0 := some ao) e_x ?_
  refine x_callV (As := [.int (nI k)]) (b := ao) (rest := []) (F1 := 1) (L1 := 20) (mc := 0) (ms := 0) d_Shelf_score_5 cV_Shelf_195 (g_has_yes N0 hk (by omega) (by omega)) e_ao ⟨by decide, rfl⟩ ⟨by omega, by show 8 + (2 + 11) + 20 ≤ _; omega⟩ ⟨by omega, by omega⟩ (Nat.le_of_ble_eq_true rfl) (fun v_2 h_1 p_3 => ?_)
  obtain ⟨rfl, rfl⟩ := p_3
  refine s_Shelf_score_8 (fun z_4 => ?_) (fun z => absurd z (by decide))
  refine s_Shelf_score_21 (draft_a0 := some d) (texts_a0 := some tx) (weights_a0 := some w) (store_a0 := some st) (saved_a0 := some sv) (question_a0 := some qo) (standing_a0 := some so) (rows_answers_a0 := some o1) (scores_answers_a0 := some o2) (lengths_answers_a0 := some o3) (order_answers_a0 := some o4) e_x e_ao ?_
  refine x_callV (As := [.int (nI k), .int b]) (b := ao) (rest := [.ref o2]) (F1 := 1) (L1 := 20) (mc := 0) (ms := 0) d_Shelf_score_34 cV_Shelf_203 (g_place N0 hk (by omega) (by omega)) e_ao ⟨by decide, rfl⟩ ⟨by omega, by show 8 + (3 + 11) + 20 ≤ _; omega⟩ ⟨by omega, by omega⟩ (Nat.le_of_ble_eq_true rfl) (fun v_8 h_7 p_9 => ?_)
  obtain ⟨⟨j_5, rfl, hj_6⟩, rfl⟩ := p_9
  refine x_le (xw_le_n (xw_le_n (xw_le_n xw_le_e))) ?_
  refine s_Shelf_score_37 e_o2 (vp_in_nI (by omega) (by decide)) ?_
  exact ⟨⟨_, rfl⟩, rfl⟩
set_option maxHeartbeats 1000000 in
theorem lp_blanks {G : xw_G} {F L bc bs : Nat} {pr : Option Value → xw_A → Prop} {px : String → xw_A → Prop} {h : xw_A} {a : Nat} {po k1 k2 k3 d ln : Nat} {fd : Nat → Int32} (e_po : h po = some (.inr (3, [.ref k1, .ref k2, .ref k3, .ref d, .int (nI ln)]))) (e_d : h d = some (.inl (1, 96, .inl fd))) (hln : ln ≤ 96) (kk : ∀ b : Nat, a ≤ b → b ≤ ln → (b = a ∨ fd a = 32) → pr (some (.int (nI b))) h) :
    ∀ (dd i : Nat) , i + dd = ln → (a ≤ i ∧ (i = a ∨ fd a = 32)) → xw G m_Parts_blanksEnd F L bc bs pr px 2 [some (.ref po), none, some (.int (nI i))] [] h := by
  intro dd
  induction dd with
  | zero =>
    intro i  hi hp
    obtain rfl : i = ln := by omega
    refine s_Parts_blanksEnd_2 (kinds_a0 := some k1) (starts_a0 := some k2) (ends_a0 := some k3) (letters_a0 := some d) e_po (fun z_1 => ?_) (fun z => absurd (nI_le (Nat.le_refl _) (by omega)) z)
    refine s_Parts_blanksEnd_27 ?_
    exact kk _ (by omega) (by omega) hp.2
  | succ dd ih =>
    intro i  hi hp
    refine s_Parts_blanksEnd_2 (kinds_a0 := some k1) (starts_a0 := some k2) (ends_a0 := some k3) (letters_a0 := some d) e_po (fun z => absurd z (nI_ge (b := ln) (show i < ln by omega) (by omega))) (fun z_1 => ?_)
    refine s_Parts_blanksEnd_10 (kinds_a0 := some k1) (starts_a0 := some k2) (ends_a0 := some k3) e_po e_d (vp_in_nI (by omega) (by omega)) (fun z_2 => ?_) (fun z_3 => ?_)
    · skip
      refine s_Parts_blanksEnd_27 ?_
      exact kk _ (by omega) (by omega) hp.2
    · skip
      refine s_Parts_blanksEnd_21 ?_
      simp only [nI_1]
      exact ih (i + 1) (by omega) ⟨by omega, hp.2.elim (fun q => Or.inr (by subst q; rw [nI_clamp (by omega)] at z_3; exact z_3)) Or.inr⟩
set_option maxHeartbeats 400000 in
theorem g_blanks {G : xw_G} {F L : Nat} {h : xw_A} {a : Nat} {po k1 k2 k3 d ln : Nat} {fd : Nat → Int32} (e_po : h po = some (.inr (3, [.ref k1, .ref k2, .ref k3, .ref d, .int (nI ln)]))) (e_d : h d = some (.inl (1, 96, .inl fd))) (hln : ln ≤ 96) (ha : a ≤ ln) (hF : 1 ≤ F) (hL : 20 ≤ L) :
    xw_Met G m_Parts_blanksEnd F L 0 0 [.ref po, .int (nI a)] h (fun v h' => (∃ b : Nat, v = some (.int (nI b)) ∧ a ≤ b ∧ b ≤ ln ∧ (b = a ∨ fd a = 32)) ∧ h = h') (fun _ _ => False) := by
  refine xw_Met.of rfl (by decide) (Nat.le_of_ble_eq_true rfl) ?_
  refine s_Parts_blanksEnd_0 ?_
  exact lp_blanks e_po e_d hln (fun b h1 h2 h3 => ⟨⟨b, rfl, h1, h2, h3⟩, rfl⟩) (ln - a) a (by omega) ⟨Nat.le_refl _, Or.inl rfl⟩
set_option maxHeartbeats 1000000 in
theorem lp_wordEnd {G : xw_G} {F L bc bs : Nat} {pr : Option Value → xw_A → Prop} {px : String → xw_A → Prop} {h : xw_A} {a : Nat} {po k1 k2 k3 d ln : Nat} {fd : Nat → Int32} (e_po : h po = some (.inr (3, [.ref k1, .ref k2, .ref k3, .ref d, .int (nI ln)]))) (e_d : h d = some (.inl (1, 96, .inl fd))) (hln : ln ≤ 96) (ha : a < ln) (hw : isW (fd a) = true) (hF : 2 ≤ F) (hL : 40 ≤ L) (kk : ∀ b : Nat, a < b → b ≤ ln → pr (some (.int (nI b))) h) :
    ∀ (dd i : Nat) , i + dd = ln → a ≤ i → xw G m_Parts_wordEnd F L bc bs pr px 2 [some (.ref po), none, some (.int (nI i))] [] h := by
  intro dd
  induction dd with
  | zero =>
    intro i  hi hp
    obtain rfl : i = ln := by omega
    refine s_Parts_wordEnd_2 (kinds_a0 := some k1) (starts_a0 := some k2) (ends_a0 := some k3) (letters_a0 := some d) e_po (fun z_1 => ?_) (fun z => absurd (nI_le (Nat.le_refl _) (by omega)) z)
    refine s_Parts_wordEnd_28 ?_
    exact kk _ (by omega) (by omega)
  | succ dd ih =>
    intro i  hi hp
    refine s_Parts_wordEnd_2 (kinds_a0 := some k1) (starts_a0 := some k2) (ends_a0 := some k3) (letters_a0 := some d) e_po (fun z => absurd z (nI_ge (b := ln) (show i < ln by omega) (by omega))) (fun z_1 => ?_)
    refine s_Parts_wordEnd_10 (kinds_a0 := some k1) (starts_a0 := some k2) (ends_a0 := some k3) e_po e_d (vp_in_nI (by omega) (by omega)) ?_
    refine x_callSN (As := [.int (fd (nI i).toNatClampNeg)]) (rest := []) (F1 := 1) (L1 := 20) (mc := 0) (ms := 0) d_Parts_wordEnd_16 cN_Parts_37 (g_isWord (by omega) (by omega)) ⟨by omega, by show 8 + (1 + 11) + 20 ≤ _; omega⟩ ⟨by omega, by omega⟩ (Nat.le_of_ble_eq_true rfl) (fun v_3 h_2 p_4 => ?_)
    obtain ⟨rfl, rfl⟩ := p_4
    refine s_Parts_wordEnd_19 (fun z_5 => ?_) (fun z_6 => ?_)
    · skip
      refine s_Parts_wordEnd_28 ?_
      by_cases ea : i = a
      · rw [nI_clamp (by omega), ea, hw] at z_5
        exact absurd z_5 (by decide)
      · exact kk _ (by omega) (by omega)
    · skip
      refine s_Parts_wordEnd_22 ?_
      simp only [nI_1]
      exact ih (i + 1) (by omega) (by omega)
set_option maxHeartbeats 400000 in
theorem g_wordEnd {G : xw_G} {F L : Nat} {h : xw_A} {a : Nat} {po k1 k2 k3 d ln : Nat} {fd : Nat → Int32} (e_po : h po = some (.inr (3, [.ref k1, .ref k2, .ref k3, .ref d, .int (nI ln)]))) (e_d : h d = some (.inl (1, 96, .inl fd))) (hln : ln ≤ 96) (ha : a < ln) (hw : isW (fd a) = true) (hF : 2 ≤ F) (hL : 40 ≤ L) :
    xw_Met G m_Parts_wordEnd F L 0 0 [.ref po, .int (nI a)] h (fun v h' => (∃ b : Nat, v = some (.int (nI b)) ∧ a < b ∧ b ≤ ln) ∧ h = h') (fun _ _ => False) := by
  refine xw_Met.of rfl (by decide) (Nat.le_of_ble_eq_true rfl) ?_
  refine s_Parts_wordEnd_0 ?_
  exact lp_wordEnd e_po e_d hln ha hw (by omega) (by omega) (fun b h1 h2 => ⟨⟨b, rfl, h1, h2⟩, rfl⟩) (ln - a) a (by omega) (Nat.le_refl _)
set_option maxHeartbeats 1000000 in
theorem lp_quote {G : xw_G} {F L bc bs : Nat} {pr : Option Value → xw_A → Prop} {px : String → xw_A → Prop} {h : xw_A} {a : Nat} {po k1 k2 k3 d ln : Nat} {fd : Nat → Int32} (e_po : h po = some (.inr (3, [.ref k1, .ref k2, .ref k3, .ref d, .int (nI ln)]))) (e_d : h d = some (.inl (1, 96, .inl fd))) (hln : ln ≤ 96) (ha : a < ln) (kk : ∀ b : Nat, (b = a ∨ a + 1 < b) → b ≤ ln → pr (some (.int (nI b))) h) :
    ∀ (dd i : Nat) , i + dd = ln → a + 1 ≤ i → xw G m_Parts_quoteEnd F L bc bs pr px 4 [some (.ref po), some (.int (nI a)), some (.int (nI i))] [] h := by
  intro dd
  induction dd with
  | zero =>
    intro i  hi hp
    obtain rfl : i = ln := by omega
    refine s_Parts_quoteEnd_4 (kinds_a0 := some k1) (starts_a0 := some k2) (ends_a0 := some k3) (letters_a0 := some d) e_po (fun z_1 => ?_) (fun z => absurd (nI_le (Nat.le_refl _) (by omega)) z)
    refine s_Parts_quoteEnd_33 ?_
    exact kk _ (Or.inl rfl) (by omega)
  | succ dd ih =>
    intro i  hi hp
    refine s_Parts_quoteEnd_4 (kinds_a0 := some k1) (starts_a0 := some k2) (ends_a0 := some k3) (letters_a0 := some d) e_po (fun z => absurd z (nI_ge (b := ln) (show i < ln by omega) (by omega))) (fun z_1 => ?_)
    refine s_Parts_quoteEnd_12 (kinds_a0 := some k1) (starts_a0 := some k2) (ends_a0 := some k3) e_po e_d (vp_in_nI (by omega) (by omega)) (fun z_2 => ?_) (fun z_3 => ?_)
    · skip
      refine s_Parts_quoteEnd_27 ?_
      simp only [nI_1]
      exact ih (i + 1) (by omega) (by omega)
    · skip
      refine s_Parts_quoteEnd_23 ?_
      rw [nI_1]
      exact kk _ (Or.inr (by omega)) (by omega)
set_option maxHeartbeats 400000 in
theorem g_quote {G : xw_G} {F L : Nat} {h : xw_A} {a : Nat} {po k1 k2 k3 d ln : Nat} {fd : Nat → Int32} (e_po : h po = some (.inr (3, [.ref k1, .ref k2, .ref k3, .ref d, .int (nI ln)]))) (e_d : h d = some (.inl (1, 96, .inl fd))) (hln : ln ≤ 96) (ha : a < ln) (hF : 1 ≤ F) (hL : 20 ≤ L) :
    xw_Met G m_Parts_quoteEnd F L 0 0 [.ref po, .int (nI a)] h (fun v h' => (∃ b : Nat, v = some (.int (nI b)) ∧ (b = a ∨ a + 1 < b) ∧ b ≤ ln) ∧ h = h') (fun _ _ => False) := by
  refine xw_Met.of rfl (by decide) (Nat.le_of_ble_eq_true rfl) ?_
  refine s_Parts_quoteEnd_0 ?_
  rw [nI_1]
  exact lp_quote e_po e_d hln ha (fun b h1 h2 => ⟨⟨b, rfl, h1, h2⟩, rfl⟩) (ln - (a + 1)) (a + 1) (by omega) (Nat.le_refl _)
set_option maxHeartbeats 400000 in
theorem g_isColumn {G : xw_G} {F L : Nat} {h : xw_A} {c : Int32} (hF : 1 ≤ F) (hL : 20 ≤ L) :
    xw_Met G m_Shelf_isColumn F L 0 0 [.int c] h (fun v h' => (∃ b : Int32, v = some (.int b)) ∧ h = h') (fun _ _ => False) := by
  refine xw_Met.of rfl (by decide) (Nat.le_of_ble_eq_true rfl) ?_
  refine s_Shelf_isColumn_0 (fun z_1 => ?_) (fun z_2 => ?_)
  · skip
    refine s_Shelf_isColumn_13 ?_
    refine s_Shelf_isColumn_14 rfl ?_
    exact ⟨⟨_, rfl⟩, rfl⟩
  · skip
    refine s_Shelf_isColumn_4 (fun z_3 => ?_) (fun z_4 => ?_)
    · skip
      refine s_Shelf_isColumn_13 ?_
      refine s_Shelf_isColumn_14 rfl ?_
      exact ⟨⟨_, rfl⟩, rfl⟩
    · skip
      refine s_Shelf_isColumn_9 ?_
      refine s_Shelf_isColumn_14 rfl ?_
      exact ⟨⟨_, rfl⟩, rfl⟩
set_option maxHeartbeats 400000 in
theorem g_columnNamed {G : xw_G} {F L : Nat} {h : xw_A} {po k1 k2 k3 d ln : Nat} {fd : Nat → Int32} (e_po : h po = some (.inr (3, [.ref k1, .ref k2, .ref k3, .ref d, .int (nI ln)]))) (e_d : h d = some (.inl (1, 96, .inl fd))) (hln : ln ≤ 96) {fk fs fe : Nat → Int32} (e_k1 : h k1 = some (.inl (0, 97, .inl fk))) (e_k2 : h k2 = some (.inl (0, 97, .inl fs))) (e_k3 : h k3 = some (.inl (0, 97, .inl fe))) {i a b : Nat} (hi : i < 97) (ha : fs i = nI a) (hb : fe i = nI b) (hab : a ≤ b) (hbl : b ≤ ln) (hF : 2 ≤ F) (hL : 40 ≤ L) :
    xw_Met G m_Parts_columnNamed F L 0 0 [.ref po, .int (nI i)] h (fun v h' => (∃ y : Int32, v = some (.int y)) ∧ h = h') (fun _ _ => False) := by
  refine xw_Met.of rfl (by decide) (Nat.le_of_ble_eq_true rfl) ?_
  refine s_Parts_columnNamed_0 (kinds_a0 := some k1) (letters_a0 := some d) e_po e_k3 (vp_in_nI (by omega) (by omega)) e_k2 (vp_in_nI (by omega) (by omega)) (fun z_1 => ?_) (fun z_2 => ?_)
  · skip
    have hab1 : a < b := by rw [nI_clamp (by omega), ha, hb, pk_sub hab] at z_1; exact Nat.lt_of_not_le (fun q => absurd ((nI_eq (by omega) (by decide)).mp (z_1.trans (show (1 : Int32) = nI 1 from rfl))) (by omega))
    refine s_Parts_columnNamed_19 (kinds_a0 := some k1) (ends_a0 := some k3) e_po e_k2 (vp_in_nI (by omega) (by omega)) e_d (by rw [nI_clamp (by omega), ha]; exact vp_in_nI (by omega) (by decide)) ?_
    refine x_callSN (As := [.int ((fd (fs (nI i).toNatClampNeg).toNatClampNeg) - 97)]) (rest := []) (F1 := 1) (L1 := 20) (mc := 0) (ms := 0) d_Parts_columnNamed_35 cN_Parts_77 (g_isColumn (by omega) (by omega)) ⟨by omega, by show 8 + (1 + 11) + 20 ≤ _; omega⟩ ⟨by omega, by omega⟩ (Nat.le_of_ble_eq_true rfl) (fun v_5 h_4 p_6 => ?_)
    obtain ⟨⟨b_3, rfl⟩, rfl⟩ := p_6
    refine x_le (xw_le_n (xw_le_n (xw_le_s xw_le_e))) ?_
    refine s_Parts_columnNamed_38 (fun z_7 => ?_) (fun z_8 => ?_)
    · skip
      refine s_Parts_columnNamed_45 ?_
      refine s_Parts_columnNamed_46 ?_
      exact ⟨⟨_, rfl⟩, rfl⟩
    · skip
      refine s_Parts_columnNamed_41 ?_
      refine s_Parts_columnNamed_46 ?_
      exact ⟨⟨_, rfl⟩, rfl⟩
  · skip
    refine s_Parts_columnNamed_17 ?_
    exact ⟨⟨_, rfl⟩, rfl⟩
set_option maxHeartbeats 1000000 in
theorem lp_number {G : xw_G} {F L bc bs : Nat} {pr : Option Value → xw_A → Prop} {px : String → xw_A → Prop} {h : xw_A} {po k1 k2 k3 d ln : Nat} {fd : Nat → Int32} (e_po : h po = some (.inr (3, [.ref k1, .ref k2, .ref k3, .ref d, .int (nI ln)]))) (e_d : h d = some (.inl (1, 96, .inl fd))) (hln : ln ≤ 96) {fk fs fe : Nat → Int32} (e_k1 : h k1 = some (.inl (0, 97, .inl fk))) (e_k2 : h k2 = some (.inl (0, 97, .inl fs))) (e_k3 : h k3 = some (.inl (0, 97, .inl fe))) {t a b : Nat} (hi : t < 97) (ha : fs t = nI a) (hb : fe t = nI b) (hab : a ≤ b) (hbl : b ≤ ln) (kk : ∀ r : Int32, pr (some (.int r)) h) :
    ∀ (dd i : Nat) (r : Int32), i + dd = b → xw G m_Parts_number F L bc bs pr px 48 [some (.ref po), some (.int (nI t)), some (.int r), some (.int (nI i))] [] h := by
  intro dd
  induction dd with
  | zero =>
    intro i r hi
    obtain rfl : i = b := by omega
    refine s_Parts_number_48 (kinds_a0 := some k1) (starts_a0 := some k2) (letters_a0 := some d) e_po e_k3 (vp_in_nI (by omega) (by omega)) (fun z_1 => ?_) (fun z => absurd (by rw [nI_clamp (by omega), hb]; exact nI_le (Nat.le_refl _) (by omega)) z)
    refine s_Parts_number_92 ?_
    exact kk _
  | succ dd ih =>
    intro i r hi
    refine s_Parts_number_48 (kinds_a0 := some k1) (starts_a0 := some k2) (letters_a0 := some d) e_po e_k3 (vp_in_nI (by omega) (by omega)) (fun z => absurd z (by rw [nI_clamp (by omega), hb]; exact nI_ge (show i < b by omega) (by omega))) (fun z_1 => ?_)
    refine s_Parts_number_58 (kinds_a0 := some k1) (starts_a0 := some k2) (ends_a0 := some k3) e_po e_d (vp_in_nI (by omega) (by omega)) (fun z_2 => ?_) (fun z_3 => ?_)
    · skip
      refine s_Parts_number_71 (kinds_a0 := some k1) (starts_a0 := some k2) (ends_a0 := some k3) e_po e_d (vp_in_nI (by omega) (by omega)) ?_
      rw [nI_1]
      exact ih (i + 1) _ (by omega)
    · skip
      refine s_Parts_number_69 ?_
      exact kk _
set_option maxHeartbeats 400000 in
theorem g_number {G : xw_G} {F L : Nat} {h : xw_A} {po k1 k2 k3 d ln : Nat} {fd : Nat → Int32} (e_po : h po = some (.inr (3, [.ref k1, .ref k2, .ref k3, .ref d, .int (nI ln)]))) (e_d : h d = some (.inl (1, 96, .inl fd))) (hln : ln ≤ 96) {fk fs fe : Nat → Int32} (e_k1 : h k1 = some (.inl (0, 97, .inl fk))) (e_k2 : h k2 = some (.inl (0, 97, .inl fs))) (e_k3 : h k3 = some (.inl (0, 97, .inl fe))) {t a b : Nat} (hi : t < 97) (ha : fs t = nI a) (hb : fe t = nI b) (hab : a ≤ b) (hbl : b ≤ ln) (hF : 1 ≤ F) (hL : 20 ≤ L) :
    xw_Met G m_Parts_number F L 0 0 [.ref po, .int (nI t)] h (fun v h' => (∃ y : Int32, v = some (.int y) ∧ (y < 0 ∨ fk t = 2 ∨ fk t = 3)) ∧ h = h') (fun _ _ => False) := by
  refine xw_Met.of rfl (by decide) (Nat.le_of_ble_eq_true rfl) ?_
  refine s_Parts_number_0 (starts_a0 := some k2) (ends_a0 := some k3) (letters_a0 := some d) e_po e_k1 (vp_in_nI (by omega) (by omega)) (fun z_1 => ?_) (fun z_2 => ?_)
  · skip
    refine s_Parts_number_20 (kinds_a0 := some k1) (letters_a0 := some d) e_po e_k3 (vp_in_nI (by omega) (by omega)) e_k2 (vp_in_nI (by omega) (by omega)) (fun z_3 => ?_) (fun z_4 => ?_)
    · skip
      refine s_Parts_number_39 (kinds_a0 := some k1) (ends_a0 := some k3) (letters_a0 := some d) e_po e_k2 (vp_in_nI (by omega) (by omega)) ?_
      have hkd : fk t = 2 ∨ fk t = 3 := by rw [nI_clamp (by omega)] at z_1; exact Or.inl z_1
      rw [nI_clamp (by omega), ha]
      exact lp_number e_po e_d hln e_k1 e_k2 e_k3 hi ha hb hab hbl (fun r => ⟨⟨r, rfl, Or.inr hkd⟩, rfl⟩) (b - a) a 0 (by omega)
    · skip
      refine s_Parts_number_37 ?_
      exact ⟨⟨_, rfl, Or.inl (by decide)⟩, rfl⟩
  · skip
    refine s_Parts_number_10 (starts_a0 := some k2) (ends_a0 := some k3) (letters_a0 := some d) e_po e_k1 (vp_in_nI (by omega) (by omega)) (fun z_5 => ?_) (fun z_6 => ?_)
    · skip
      refine s_Parts_number_37 ?_
      exact ⟨⟨_, rfl, Or.inl (by decide)⟩, rfl⟩
    · skip
      refine s_Parts_number_20 (kinds_a0 := some k1) (letters_a0 := some d) e_po e_k3 (vp_in_nI (by omega) (by omega)) e_k2 (vp_in_nI (by omega) (by omega)) (fun z_7 => ?_) (fun z_8 => ?_)
      · skip
        refine s_Parts_number_39 (kinds_a0 := some k1) (ends_a0 := some k3) (letters_a0 := some d) e_po e_k2 (vp_in_nI (by omega) (by omega)) ?_
        have hkd : fk t = 2 ∨ fk t = 3 := by rw [nI_clamp (by omega)] at z_6; exact Or.inr z_6
        rw [nI_clamp (by omega), ha]
        exact lp_number e_po e_d hln e_k1 e_k2 e_k3 hi ha hb hab hbl (fun r => ⟨⟨r, rfl, Or.inr hkd⟩, rfl⟩) (b - a) a 0 (by omega)
      · skip
        refine s_Parts_number_37 ?_
        exact ⟨⟨_, rfl, Or.inl (by decide)⟩, rfl⟩
set_option maxHeartbeats 1000000 in
theorem lp_sort1 {G : xw_G} {F L bc bs : Nat} {pr : Option Value → xw_A → Prop} {px : String → xw_A → Prop} {h0 : xw_A} {ao o1 o2 o3 o4 sz : Nat} {f2 : Nat → UInt64} {k : Nat} (hk : k < sz) (hsz : sz ≤ 24)
    (kk : ∀ (h : xw_A) (f : Nat → Int32) (t : Nat), t ≤ k → (∀ i, i < k + 1 → i ≠ t → ∃ j, f i = nI j ∧ j < k + 1) → h ao = some (.inr (1, [.ref o1, .ref o2, .int (nI sz), .ref o3, .ref o4])) → h o2 = some (.inl (3, 24, .inr (.inr (.inr (.inl f2))))) → h o4 = some (.inl (0, 24, .inl f)) → FrO [o4] h0 h → xw G m_Answers_sort F L bc bs pr px 59 [some (.ref ao), some (.int (nI k)), some (.int (nI t))] [] h) :
    ∀ (t : Nat) (h : xw_A) (f : Nat → Int32), t ≤ k → (∀ i, i < k + 1 → i ≠ t → ∃ j, f i = nI j ∧ j < k + 1) → h ao = some (.inr (1, [.ref o1, .ref o2, .int (nI sz), .ref o3, .ref o4])) → h o2 = some (.inl (3, 24, .inr (.inr (.inr (.inl f2))))) → h o4 = some (.inl (0, 24, .inl f)) → FrO [o4] h0 h → xw G m_Answers_sort F L bc bs pr px 12 [some (.ref ao), some (.int (nI k)), some (.int (nI t))] [] h := by
  intro t
  induction t with
  | zero =>
    intro h f ht hf e_ao e_2 e_4 r0
    refine s_Answers_sort_12 (fun _ => ?_) (fun z => absurd z (by decide))
    exact kk _ _ 0 ht hf e_ao e_2 e_4 r0
  | succ t ih =>
    intro h f ht hf e_ao e_2 e_4 r0
    obtain ⟨j, hj, hjk⟩ := hf t (by omega) (by omega)
    have ei : (nI (t + 1) - 1).toNatClampNeg = t := by rw [nI_pred]; exact nI_clamp (by omega)
    have eq : f (nI (t + 1) - 1).toNatClampNeg = nI j := by rw [ei]; exact hj
    refine s_Answers_sort_12 (fun z => absurd z (nI_nle (by omega) (by omega))) (fun _ => ?_)
    have go := kk h f (t + 1) ht hf e_ao e_2 e_4 r0
    refine s_Answers_sort_16 (rows_a0 := some o1) (lengths_a0 := some o3) e_ao e_4 (by rw [nI_pred]; exact vp_in_nI (by omega) (by decide)) e_2 (by rw [eq]; exact vp_in_nI (by omega) (by decide)) (vp_in_nI (by omega) (by decide)) (fun _ => go) (fun _ => ?_)
    refine s_Answers_sort_39 (scores_a0 := some o2) (rows_a0 := some o1) (lengths_a0 := some o3) e_ao e_4 (by rw [nI_pred]; exact vp_in_nI (by omega) (by decide)) (vp_in_nI (by omega) (by decide)) ?_
    refine x_u1 (fun h1 e1 f1 => ?_)
    rw [pk_m1]
    rw [eq, nI_clamp (by omega)] at e1
    refine ih _ _ (by omega) (fun i hi hit => ?_) ((f1 _ (xw_neC e_ao e_4 (by simp))).trans e_ao) ((f1 _ (xw_neC e_2 e_4 (by simp))).trans e_2) e1 (r0.up (by simp) f1)
    by_cases e : i = t + 1
    · subst e
      exact ⟨j, pk_us, hjk⟩
    · rw [pk_un e]
      exact hf i hi e
set_option maxHeartbeats 1000000 in
theorem lp_sort2 {G : xw_G} {F L bc bs : Nat} {pr : Option Value → xw_A → Prop} {px : String → xw_A → Prop} {h0 : xw_A} {ao o1 o2 o3 o4 sz : Nat} {f2 : Nat → UInt64} (hsz : sz ≤ 24)
    (kk : ∀ (h : xw_A) (f : Nat → Int32), (∀ i, i < sz → ∃ j, f i = nI j ∧ j < sz) → h o4 = some (.inl (0, 24, .inl f)) → FrO [o4] h0 h → pr none h) :
    ∀ (dd k : Nat) (h : xw_A) (f : Nat → Int32), k + dd = sz → (∀ i, i < k → ∃ j, f i = nI j ∧ j < k) → h ao = some (.inr (1, [.ref o1, .ref o2, .int (nI sz), .ref o3, .ref o4])) → h o2 = some (.inl (3, 24, .inr (.inr (.inr (.inl f2))))) → h o4 = some (.inl (0, 24, .inl f)) → FrO [o4] h0 h → xw G m_Answers_sort F L bc bs pr px 2 [some (.ref ao), some (.int (nI k)), none] [] h := by
  intro dd
  induction dd with
  | zero =>
    intro k h f hi hf e_ao e_2 e_4 r0
    obtain rfl : k = sz := by omega
    refine s_Answers_sort_2 (scores_a0 := some o2) (rows_a0 := some o1) (lengths_a0 := some o3) (order_a0 := some o4) e_ao (fun _ => s_Answers_sort_72 (kk _ _ hf e_4 r0)) (fun z => absurd (nI_le (Nat.le_refl _) (by omega)) z)
  | succ dd ih =>
    intro k h f hi hf e_ao e_2 e_4 r0
    refine s_Answers_sort_2 (scores_a0 := some o2) (rows_a0 := some o1) (lengths_a0 := some o3) (order_a0 := some o4) e_ao (fun z => absurd z (nI_ge (b := sz) (show k < sz by omega) (by omega))) (fun _ => ?_)
    refine s_Answers_sort_10 ?_
    refine lp_sort1 (h0 := h0) (show k < sz by omega) hsz (fun h2 g t ht hg g_ao g_2 g_4 r2 => ?_) k _ _ (Nat.le_refl _) (fun i hi hik => ?_) e_ao e_2 e_4 r0
    · refine s_Answers_sort_59 (scores_a0 := some o2) (rows_a0 := some o1) (lengths_a0 := some o3) g_ao g_4 (vp_in_nI (by omega) (by decide)) ?_
      refine x_u1 (fun h3 e3 f3 => ?_)
      rw [nI_1]
      rw [nI_clamp (by omega)] at e3
      refine ih (k + 1) _ _ (by omega) (fun i hi => ?_) ((f3 _ (xw_neC g_ao g_4 (by simp))).trans g_ao) ((f3 _ (xw_neC g_2 g_4 (by simp))).trans g_2) e3 (r2.up (by simp) f3)
      by_cases e : i = t
      · subst e
        exact ⟨k, pk_us, by omega⟩
      · rw [pk_un e]
        exact hg i hi e
    · obtain ⟨j, hj, hjk⟩ := hf i (by omega)
      exact ⟨j, hj, by omega⟩
theorem g_sort {G : xw_G} {F L : Nat} {h : xw_A} {ao o1 o2 o3 o4 sz : Nat} {f2 : Nat → UInt64} {f : Nat → Int32} (e_ao : h ao = some (.inr (1, [.ref o1, .ref o2, .int (nI sz), .ref o3, .ref o4]))) (e_2 : h o2 = some (.inl (3, 24, .inr (.inr (.inr (.inl f2)))))) (e_4 : h o4 = some (.inl (0, 24, .inl f))) (hsz : sz ≤ 24) (hF : 1 ≤ F) (hL : 20 ≤ L) :
    xw_Met G m_Answers_sort F L 0 0 [.ref ao] h (fun v h' => v = none ∧ (∃ f' : Nat → Int32, h' o4 = some (.inl (0, 24, .inl f')) ∧ ∀ i, i < sz → ∃ j, f' i = nI j ∧ j < sz) ∧ FrO [o4] h h') (fun _ _ => False) := by
  refine xw_Met.of rfl (by decide) (Nat.le_of_ble_eq_true rfl) ?_
  refine s_Answers_sort_0 ?_
  exact lp_sort2 (h0 := h) hsz (fun h2 f2 hf e4 r2 => ⟨rfl, ⟨f2, e4, hf⟩, r2⟩) sz 0 _ _ (Nat.zero_add _) (fun i hi => absurd hi (Nat.not_lt_zero _)) e_ao e_2 e_4 FrO.rf
