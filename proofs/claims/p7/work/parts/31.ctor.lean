/-! THE CONSTRUCTOR OF Question -/
theorem gA {α : Type} {as bs : List α} (k : Nat) : (as ++ bs)[as.length + k]? = bs[k]? := by
  rw [List.getElem?_append_right (by omega), Nat.add_sub_cancel_left]
theorem sA {α β : Type} {as : List β} {cs ds : List α} (hl : as.length = cs.length) (k : Nat) (e : α) : (cs ++ ds).set (as.length + k) e = cs ++ ds.set k e := by
  rw [hl, List.set_append_right _ _ (by omega), Nat.add_sub_cancel_left]
theorem SL.atL {as bs : List Nat} {cs ds : List xw_C} {h : xw_A} (K : SL (as ++ bs) (cs ++ ds) h) (i : Nat) {a : Nat} {e : xw_C} (ha : as[i]? = some a) (hc : cs[i]? = some e) : h a = some e :=
  K.at i (by rw [List.getElem?_append_left (List.getElem?_eq_some_iff.mp ha).1]; exact ha) (by rw [List.getElem?_append_left (List.getElem?_eq_some_iff.mp hc).1]; exact hc)
theorem SL.atR {as bs : List Nat} {cs ds : List xw_C} {h : xw_A} (K : SL (as ++ bs) (cs ++ ds) h) (hl : as.length = cs.length) (k : Nat) {b : Nat} {e : xw_C} (hb : bs[k]? = some b) (hd : ds[k]? = some e) : h b = some e :=
  K.at (as.length + k) (by rw [gA]; exact hb) (by rw [hl, gA]; exact hd)
theorem SL.upR {as bs : List Nat} {cs ds ds' : List xw_C} {h : xw_A} (K : SL (as ++ bs) (cs ++ ds) h) (hl : as.length = cs.length) (k : Nat) {b : Nat} {e : xw_C} (hb : bs[k]? = some b) (hd : ds.set k e = ds') : SL (as ++ bs) (cs ++ ds') (xw_up h b e) :=
  K.up (as.length + k) (by rw [gA]; exact hb) (by rw [sA hl, hd])
theorem SL.re {as bs qs bs' : List Nat} {cs ds es ds' : List xw_C} {h : xw_A} {k : Nat} {e : xw_C} (hl : as.length = cs.length) (K : SL ((as ++ bs) ++ qs) ((cs ++ ds).set (as.length + k) e ++ es) h) (hb : bs ++ qs = bs') (hd : ds.set k e ++ es = ds') : SL (as ++ bs') (cs ++ ds') h := by
  rw [sA hl, List.append_assoc, List.append_assoc, hb, hd] at K
  exact K
/-- an array of references with these, in their order, from the front -/
abbrev qa (ci m : Nat) (ps : List Nat) : xw_C := .inl (ci + 6, m, .inr (.inr (.inr (.inr (fun j => ps[j]?)))))
theorem qa_nil (ci m : Nat) : qz ci m = qa ci m [] := by simp
theorem qa_up (ps : List Nat) (q : Nat) : va_up (fun j => ps[j]?) ps.length (some q) = fun j => (ps ++ [q])[j]? := by
  funext j
  by_cases hj : j = ps.length
  · subst hj
    simp [va_up]
  · rw [va_up_ne _ _ hj]
    by_cases hl : j < ps.length
    · rw [List.getElem?_append_left hl]
    · rw [List.getElem?_eq_none (by omega), List.getElem?_eq_none (by simp; omega)]
abbrev phrase0 : xw_C := .inr (4, [.int 0, .int 0, .int 0])
abbrev node0 : xw_C := .inr (2, [.int 0, .null, .null, .int 0, .int 0, .int 0, .int 0, .int 0, .int 0])
abbrev quest (t p n ps l : Value) : xw_C := .inr (5, [t, p, n, .int 0, .int 0, .int 0, ps, l, .int 0])
section CtorQ
variable {G : xw_G} {F L i a : Nat} {as : List Nat} {cs : List xw_C} {h : xw_A}
/-- the cells of a question but its phrases and nodes -/
abbrev qcells (t tl ts pa na po k1 k2 k3 : Nat) (ps ns : List Nat) : List xw_C := [.inr (9, [.ref tl, .ref ts, .int 0]), cz 96, iz 49, qa 4 12 ps, qa 2 24 ns, .inr (3, [.ref k1, .ref k2, .ref k3, .null, .int 0]), iz 97, iz 97, iz 97]
set_option maxHeartbeats 2000000 in
theorem q_loop2 {pr : Option Value → xw_A → Prop} {t tl ts pa na po k1 k2 k3 : Nat} {ps : List Nat} (hF : 2 ≤ F) (hL : 40 ≤ L) (hl : as.length = cs.length) (ha : as[i]? = some a) (hc : cs[i]? = some (quest (.ref t) (.ref pa) (.ref na) (.ref po) .null)) (hps : ps.length = 12)
    (hk : ∀ (ns : List Nat) (h' : xw_A), ns.length = 24 → SL (as ++ ([t, tl, ts, pa, na, po, k1, k2, k3] ++ (ps ++ ns))) (cs ++ (qcells t tl ts pa na po k1 k2 k3 ps ns ++ (List.replicate 12 phrase0 ++ List.replicate 24 node0))) h' → pr none h') :
    ∀ (r : Nat) (ns : List Nat) (bc bs : Nat) (h : xw_A), ns.length + r = 24 → r ≤ bc → 9 * r ≤ bs → SL (as ++ ([t, tl, ts, pa, na, po, k1, k2, k3] ++ (ps ++ ns))) (cs ++ (qcells t tl ts pa na po k1 k2 k3 ps ns ++ (List.replicate 12 phrase0 ++ List.replicate ns.length node0))) h →
      xw G m_Question_init F L bc bs pr (fun _ _ => False) 75 [some (.ref a), some (.int (nI ns.length))] [] h
  | 0, ns, bc, bs, h, hn, _, _, K => by
    refine s_Question_init_75 (fun _ => s_Question_init_100 (hk ns h (by omega) (by rw [show ns.length = 24 by omega] at K; exact K))) (fun hc9 => absurd (nI_le (a := 24) (b := ns.length) (by omega) (by omega)) hc9)
  | r + 1, ns, bc, bs, h, hn, h1, h2, K => by
    refine s_Question_init_75 (fun hc9 => absurd hc9 (nI_ge (a := ns.length) (b := 24) (by omega) (by omega))) (fun _ => ?_)
    refine s_Question_init_81 (tokens_a0 := some t) (phrases_a0 := some pa) (nodes_a0 := some na) (phraseCount_a0 := 0) (nodeCount_a0 := 0) (wrongPlace_a0 := 0) (parts_a0 := some po) (letters_a0 := none) (at_a0 := 0) (K.atL i ha hc) (by omega) (fun q hq => ?_)
    refine x_callIN (As := []) (b := q) (rest := [.ref q, .int (nI ns.length), .ref na]) d_Question_init_90 cN_Question_40 (c_Node_init (F := 1) (L := 12) (by omega) (by omega)) ⟨by omega, by show 8 + (1 + 11) + 12 ≤ L; omega⟩ ⟨Nat.zero_le _, Nat.zero_le _⟩ (Nat.le_of_ble_eq_true rfl) (fun v h1' hp => ?_)
    obtain ⟨rfl, rfl⟩ := hp
    have K2 := K.newR (e := node0) hq rfl rfl
    have hna : (xw_up h q node0) na = some (qa 2 24 ns) := K2.atR hl 4 rfl rfl
    refine s_Question_init_93 (kind_b0 := 0) (left_b0 := none) (right_b0 := none) (firstPhrase_b0 := 0) (phraseEnd_b0 := 0) (reach_b0 := 0) (columns_b0 := 0) (places_b0 := 0) (rows_b0 := 0) hna (vp_in_nI (by omega) (by omega)) (xw_up_s _ _ _) ?_
    have K3 := K2.upR hl 4 (b := na) (e := qa 2 24 (ns ++ [q])) rfl rfl
    have e1 : (nI ns.length).toNatClampNeg = ns.length := nI_clamp (by omega)
    have e2 : nI ns.length + 1 = nI (ns ++ [q]).length := by rw [nI_1]; simp
    rw [e1, qa_up, e2]
    refine q_loop2 hF hL hl ha hc hps hk r (ns ++ [q]) _ _ _ (by simp; omega) (by omega) (by omega) ?_
    have e3 : List.replicate (ns ++ [q]).length node0 = List.replicate ns.length node0 ++ [node0] := by simp [List.replicate_succ']
    rw [e3]
    simpa [List.append_assoc] using K3
set_option maxHeartbeats 2000000 in
theorem q_loop1 {pr : Option Value → xw_A → Prop} {t tl ts pa na po k1 k2 k3 : Nat} (hF : 2 ≤ F) (hL : 40 ≤ L) (hl : as.length = cs.length) (ha : as[i]? = some a) (hc : cs[i]? = some (quest (.ref t) (.ref pa) (.ref na) (.ref po) .null))
    (hk : ∀ (ps ns : List Nat) (h' : xw_A), ps.length = 12 → ns.length = 24 → SL (as ++ ([t, tl, ts, pa, na, po, k1, k2, k3] ++ (ps ++ ns))) (cs ++ (qcells t tl ts pa na po k1 k2 k3 ps ns ++ (List.replicate 12 phrase0 ++ List.replicate 24 node0))) h' → pr none h') :
    ∀ (r : Nat) (ps : List Nat) (bc bs : Nat) (h : xw_A), ps.length + r = 12 → r + 24 ≤ bc → 3 * r + 216 ≤ bs → SL (as ++ ([t, tl, ts, pa, na, po, k1, k2, k3] ++ ps)) (cs ++ (qcells t tl ts pa na po k1 k2 k3 ps [] ++ List.replicate ps.length phrase0)) h →
      xw G m_Question_init F L bc bs pr (fun _ _ => False) 48 [some (.ref a), some (.int (nI ps.length))] [] h
  | 0, ps, bc, bs, h, hn, h1, h2, K => by
    refine s_Question_init_48 (fun _ => s_Question_init_73 ?_) (fun hc9 => absurd (nI_le (a := 12) (b := ps.length) (by omega) (by omega)) hc9)
    have hps : ps.length = 12 := by omega
    refine q_loop2 hF hL hl ha hc hps (fun ns h' hn' K' => hk ps ns h' hps hn' K') 24 [] bc bs h rfl (by omega) (by omega) ?_
    rw [hps] at K
    simpa using K
  | r + 1, ps, bc, bs, h, hn, h1, h2, K => by
    refine s_Question_init_48 (fun hc9 => absurd hc9 (nI_ge (a := ps.length) (b := 12) (by omega) (by omega))) (fun _ => ?_)
    refine s_Question_init_54 (tokens_a0 := some t) (phrases_a0 := some pa) (nodes_a0 := some na) (phraseCount_a0 := 0) (nodeCount_a0 := 0) (wrongPlace_a0 := 0) (parts_a0 := some po) (letters_a0 := none) (at_a0 := 0) (K.atL i ha hc) (by omega) (fun q hq => ?_)
    refine x_callIN (As := []) (b := q) (rest := [.ref q, .int (nI ps.length), .ref pa]) d_Question_init_63 cN_Question_39 (c_Phrase_init (F := 1) (L := 12) (by omega) (by omega)) ⟨by omega, by show 8 + (1 + 11) + 12 ≤ L; omega⟩ ⟨Nat.zero_le _, Nat.zero_le _⟩ (Nat.le_of_ble_eq_true rfl) (fun v h1' hp => ?_)
    obtain ⟨rfl, rfl⟩ := hp
    have K2 := K.newR (e := phrase0) hq rfl rfl
    have hpa : (xw_up h q phrase0) pa = some (qa 4 12 ps) := K2.atR hl 3 rfl rfl
    refine s_Question_init_66 (first_b0 := 0) (size_b0 := 0) (beginning_b0 := 0) hpa (vp_in_nI (by omega) (by omega)) (xw_up_s _ _ _) ?_
    have K3 := K2.upR hl 3 (b := pa) (e := qa 4 12 (ps ++ [q])) rfl rfl
    have e1 : (nI ps.length).toNatClampNeg = ps.length := nI_clamp (by omega)
    have e2 : nI ps.length + 1 = nI (ps ++ [q]).length := by rw [nI_1]; simp
    rw [e1, qa_up, e2]
    refine q_loop1 hF hL hl ha hc hk r (ps ++ [q]) _ _ _ (by simp; omega) (by omega) (by omega) ?_
    have e3 : List.replicate (ps ++ [q]).length phrase0 = List.replicate ps.length phrase0 ++ [phrase0] := by simp [List.replicate_succ']
    rw [e3]
    simpa [List.append_assoc] using K3
set_option maxHeartbeats 2000000 in
/-- Question() -/
theorem c_Question_init (hF : 2 ≤ F) (hL : 60 ≤ L) (K : SL as cs h) (ha : as[i]? = some a) (hc : cs[i]? = some (quest .null .null .null .null .null)) :
    xw_Met G m_Question_init F L 45 732 [.ref a] h (fun v h' => v = none ∧ ∃ (t tl ts pa na po k1 k2 k3 : Nat) (ps ns : List Nat), ps.length = 12 ∧ ns.length = 24 ∧
      SL (as ++ ([t, tl, ts, pa, na, po, k1, k2, k3] ++ (ps ++ ns))) (cs.set i (quest (.ref t) (.ref pa) (.ref na) (.ref po) .null) ++ (qcells t tl ts pa na po k1 k2 k3 ps ns ++ (List.replicate 12 phrase0 ++ List.replicate 24 node0))) h') (fun _ _ => False) := by
  have hi : i < cs.length := (List.getElem?_eq_some_iff.mp hc).1
  refine xw_Met.of rfl (by decide) (Nat.le_of_ble_eq_true rfl) ?_
  refine s_Question_init_0 ⟨by omega, by omega⟩ (by omega) (fun t ht => ?_)
  have K1 := K.nil.newR (e := .inr (9, [.null, .null, .int 0])) ht rfl rfl
  refine x_callI (As := [.int 96]) (b := t) (rest := [.ref t, .ref a]) d_Question_init_11 cI_Question_13 (c_Tokens_init (m := 96) (F := 1) (L := 12) (i := as.length + 0) (Nat.le_refl _) (by omega) (by omega) K1 (by rw [gA]; rfl) (by rw [K.1, gA]; rfl)) ⟨by omega, by show 8 + (2 + 11) + 12 ≤ L; omega⟩ ⟨by omega, by omega⟩ (Nat.le_of_ble_eq_true rfl) (fun v h2 hp => ?_)
  obtain ⟨rfl, tl, ts, K2⟩ := hp
  have K3 := SL.re K.1 K2 rfl rfl
  refine s_Question_init_14 (tokens_a0 := none) (phrases_a0 := none) (nodes_a0 := none) (phraseCount_a0 := 0) (nodeCount_a0 := 0) (wrongPlace_a0 := 0) (parts_a0 := none) (letters_a0 := none) (at_a0 := 0) (K3.atL i ha hc) (by omega) (by omega) (fun pa hpa na hna => ?_)
  have K4 := ((((K3.upL K.1 i (e := quest (.ref t) .null .null .null .null) ha).newR (e := qz 4 12) hpa rfl rfl).upL (by simp [K.1]) i (e := quest (.ref t) (.ref pa) .null .null .null) ha).newR (e := qz 2 24) hna rfl rfl).upL (by simp [K.1]) i (e := quest (.ref t) (.ref pa) (.ref na) .null .null) ha
  simp only [List.set_set] at K4
  refine s_Question_init_35 (by omega) (fun po hpo => ?_)
  have hl4 : as.length = (cs.set i (quest (.ref t) (.ref pa) (.ref na) .null .null)).length := by simp [K.1]
  have K5 := K4.newR (e := .inr (3, [.null, .null, .null, .null, .int 0])) hpo rfl rfl
  refine x_callIN (As := []) (b := po) (rest := [.ref po, .ref a]) d_Question_init_40 cN_Question_34 (c_Parts_init (F := 1) (L := 12) (i := as.length + 5) (by omega) (by omega) K5 (by rw [gA]; rfl) (by rw [hl4, gA]; rfl)) ⟨by omega, by show 8 + (1 + 11) + 12 ≤ L; omega⟩ ⟨by omega, by omega⟩ (Nat.le_of_ble_eq_true rfl) (fun v h6 hp => ?_)
  obtain ⟨rfl, k1, k2, k3, K6⟩ := hp
  have K7 := SL.re hl4 K6 rfl rfl
  refine s_Question_init_43 (tokens_a0 := some t) (phrases_a0 := some pa) (nodes_a0 := some na) (phraseCount_a0 := 0) (nodeCount_a0 := 0) (wrongPlace_a0 := 0) (parts_a0 := none) (letters_a0 := none) (at_a0 := 0) (K7.atL i ha (by rw [List.getElem?_set_self hi]; rfl)) ?_
  have K8 := K7.upL hl4 i (e := quest (.ref t) (.ref pa) (.ref na) (.ref po) .null) ha
  simp only [List.set_set] at K8
  have hl8 : as.length = (cs.set i (quest (.ref t) (.ref pa) (.ref na) (.ref po) .null)).length := by simp [K.1]
  refine q_loop1 (t := t) (tl := tl) (ts := ts) (pa := pa) (na := na) (po := po) (k1 := k1) (k2 := k2) (k3 := k3) hF (by omega) hl8 ha (by rw [List.getElem?_set_self hi]) (fun ps ns h' hp hn K' => ⟨rfl, t, tl, ts, pa, na, po, k1, k2, k3, ps, ns, hp, hn, K'⟩) 12 [] _ _ _ rfl (by omega) (by omega) ?_
  exact K8
end CtorQ
