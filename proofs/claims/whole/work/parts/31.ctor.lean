/-! THE CONSTRUCTOR OF Question -/
theorem gA {α : Type} {as bs : List α} (k : Nat) : (as ++ bs)[as.length + k]? = bs[k]? := by
  rw [List.getElem?_append_right (by omega), Nat.add_sub_cancel_left]
theorem sA {α β : Type} {as : List β} {cs ds : List α} (hl : as.length = cs.length) (k : Nat) (e : α) : (cs ++ ds).set (as.length + k) e = cs ++ ds.set k e := by
  rw [hl, List.set_append_right _ _ (by omega), Nat.add_sub_cancel_left]
theorem SL.atL {as bs : List Nat} {cs ds : List xw_C} {h : xw_A} (K : SL (as ++ bs) (cs ++ ds) h) (i : Nat) {a : Nat} {e : xw_C} (ha : as[i]? = some a) (hc : cs[i]? = some e) : h a = some e :=
  K.at i (by rw [List.getElem?_append_left (List.getElem?_eq_some_iff.mp ha).1]; exact ha) (by rw [List.getElem?_append_left (List.getElem?_eq_some_iff.mp hc).1]; exact hc)
theorem SL.atR {as bs : List Nat} {cs ds : List xw_C} {h : xw_A} (K : SL (as ++ bs) (cs ++ ds) h) (hl : as.length = cs.length) (k : Nat) {b : Nat} {e : xw_C} (hb : bs[k]? = some b) (hd : ds[k]? = some e) : h b = some e :=
  K.at (as.length + k) (by rw [gA]; exact hb) (by rw [hl, gA]; exact hd)
theorem SL.upR {as bs : List Nat} {cs ds ds' : List xw_C} {h : xw_A} (K : SL (as ++ bs) (cs ++ ds) h) (hl : as.length = cs.length) (k : Nat) {b : Nat} {e : xw_C} (hb : bs[k]? = some b) (hd : ds.set k e = ds') : SL (as ++ bs) (cs ++ ds') (xw_up h b e) :=
  K.up (as.length + k) (by rw [gA]; exact hb) (by rw [sA hl, hd])
theorem SL.re {as bs qs bs' : List Nat} {cs ds es ds' : List xw_C} {h : xw_A} {k : Nat} {e : xw_C} (hl : as.length = cs.length) (K : SL ((as ++ bs) ++ qs) ((cs ++ ds).set (as.length + k) e ++ es) h) (hb : bs ++ qs = bs') (hd : ds.set k e ++ es = ds') : SL (as ++ bs') (cs ++ ds') h := by
  rw [sA hl, List.append_assoc, List.append_assoc, hb, hd] at K
  exact K
/-- an array of references with these, in their order, from the front -/
abbrev qa (ci m : Nat) (ps : List Nat) : xw_C := .inl (ci + 6, m, .inr (.inr (.inr (.inr (fun j => ps[j]?)))))
theorem qa_nil (ci m : Nat) : qz ci m = qa ci m [] := by simp
theorem qa_up (ps : List Nat) (q : Nat) : va_up (fun j => ps[j]?) ps.length (some q) = fun j => (ps ++ [q])[j]? := by
  funext j
  by_cases hj : j = ps.length
  · subst hj
    simp [va_up]
  · rw [va_up_ne _ _ hj]
    by_cases hl : j < ps.length
    · rw [List.getElem?_append_left hl]
    · rw [List.getElem?_eq_none (by omega), List.getElem?_eq_none (by simp; omega)]
abbrev phrase0 : xw_C := .inr (4, [.int 0, .int 0, .int 0])
abbrev node0 : xw_C := .inr (2, [.int 0, .null, .null, .int 0, .int 0, .int 0, .int 0, .int 0, .int 0])
abbrev quest (t p n ps l : Value) : xw_C := .inr (5, [t, p, n, .int 0, .int 0, .int 0, ps, l, .int 0])
section CtorQ
variable {G : xw_G} {F L i a : Nat} {as : List Nat} {cs : List xw_C} {h : xw_A}
/-- the cells of a question but its phrases and nodes -/
abbrev qcells (t tl ts pa na po k1 k2 k3 : Nat) (ps ns : List Nat) : List xw_C := [.inr (9, [.ref tl, .ref ts, .int 0]), cz 96, iz 49, qa 4 12 ps, qa 2 24 ns, .inr (3, [.ref k1, .ref k2, .ref k3, .null, .int 0]), iz 97, iz 97, iz 97]
set_option maxHeartbeats 2000000 in
theorem q_loop2 {pr : Option Value → xw_A → Prop} {t tl ts pa na po k1 k2 k3 : Nat} {ps : List Nat} (hF : 2 ≤ F) (hL : 40 ≤ L) (hl : as.length = cs.length) (ha : as[i]? = some a) (hc : cs[i]? = some (quest (.ref t) (.ref pa) (.ref na) (.ref po) .null)) (hps : ps.length = 12)
    (hk : ∀ (ns : List Nat) (h' : xw_A), ns.length = 24 → SL (as ++ ([t, tl, ts, pa, na, po, k1, k2, k3] ++ (ps ++ ns))) (cs ++ (qcells t tl ts pa na po k1 k2 k3 ps ns ++ (List.replicate 12 phrase0 ++ List.replicate 24 node0))) h' → pr none h') :
    ∀ (r : Nat) (ns : List Nat) (bc bs : Nat) (h : xw_A), ns.length + r = 24 → r ≤ bc → 9 * r ≤ bs → SL (as ++ ([t, tl, ts, pa, na, po, k1, k2, k3] ++ (ps ++ ns))) (cs ++ (qcells t tl ts pa na po k1 k2 k3 ps ns ++ (List.replicate 12 phrase0 ++ List.replicate ns.length node0))) h →
      xw G m_Question_init F L bc bs pr (fun _ _ => False) 75 [some (.ref a), some (.int (nI ns.length))] [] h
  | 0, ns, bc, bs, h, hn, _, _, K => by
    refine s_Question_init_75 (fun _ => s_Question_init_100 (hk ns h (by omega) (by rw [show ns.length = 24 by omega] at K; exact K))) (fun hc9 => absurd (nI_le (a := 24) (b := ns.length) (by omega) (by omega)) hc9)
  | r + 1, ns, bc, bs, h, hn, h1, h2, K => by
    refine s_Question_init_75 (fun hc9 => absurd hc9 (nI_ge (a := ns.length) (b := 24) (by omega) (by omega))) (fun _ => ?_)
    refine s_Question_init_81 (tokens_a0 := some t) (phrases_a0 := some pa) (nodes_a0 := some na) (phraseCount_a0 := 0) (nodeCount_a0 := 0) (wrongPlace_a0 := 0) (parts_a0 := some po) (letters_a0 := none) (at_a0 := 0) (K.atL i ha hc) (by omega) (fun q hq => ?_)
    refine x_callIN (As := []) (b := q) (rest := [.ref q, .int (nI ns.length), .ref na]) d_Question_init_90 cN_Question_40 (c_Node_init (F := 1) (L := 12) (by omega) (by omega)) ⟨by omega, by show 8 + (1 + 11) + 12 ≤ L; omega⟩ ⟨Nat.zero_le _, Nat.zero_le _⟩ (Nat.le_of_ble_eq_true rfl) (fun v h1' hp => ?_)
    obtain ⟨rfl, rfl⟩ := hp
    have K2 := K.newR (e := node0) hq rfl rfl
    have hna : (xw_up h q node0) na = some (qa 2 24 ns) := K2.atR hl 4 rfl rfl
    refine s_Question_init_93 (kind_b0 := 0) (left_b0 := none) (right_b0 := none) (firstPhrase_b0 := 0) (phraseEnd_b0 := 0) (reach_b0 := 0) (columns_b0 := 0) (places_b0 := 0) (rows_b0 := 0) hna (vp_in_nI (by omega) (by omega)) (xw_up_s _ _ _) ?_
    have K3 := K2.upR hl 4 (b := na) (e := qa 2 24 (ns ++ [q])) rfl rfl
    have e1 : (nI ns.length).toNatClampNeg = ns.length := nI_clamp (by omega)
    have e2 : nI ns.length + 1 = nI (ns ++ [q]).length := by rw [nI_1]; simp
    rw [e1, qa_up, e2]
    refine q_loop2 hF hL hl ha hc hps hk r (ns ++ [q]) _ _ _ (by simp; omega) (by omega) (by omega) ?_
    have e3 : List.replicate (ns ++ [q]).length node0 = List.replicate ns.length node0 ++ [node0] := by simp [List.replicate_succ']
    rw [e3]
    simpa [List.append_assoc] using K3
end CtorQ
