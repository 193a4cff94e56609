/-! THE CONSTRUCTOR OF PhraseShelf -/
theorem SL.haN {as bs : List Nat} {q : Nat} : (as ++ (bs ++ [q]))[as.length + bs.length]? = some q := by rw [gA]; simp
theorem SL.hcN {as bs : List Nat} {cs ds : List xw_C} {e : xw_C} (hl : as.length = cs.length) (hb : bs.length = ds.length) : (cs ++ (ds ++ [e]))[as.length + bs.length]? = some e := by rw [hl, gA, hb]; simp
theorem SL.reN {as bs qs bs' : List Nat} {cs ds es ds' : List xw_C} {h : xw_A} {q : Nat} {e e' : xw_C} (hl : as.length = cs.length) (hb : bs.length = ds.length) (K : SL ((as ++ (bs ++ [q])) ++ qs) ((cs ++ (ds ++ [e])).set (as.length + bs.length) e' ++ es) h) (h1 : bs ++ (q :: qs) = bs') (h2 : ds ++ (e' :: es) = ds') : SL (as ++ bs') (cs ++ ds') h := by
  rw [sA hl, hb] at K
  have e1 : (ds ++ [e]).set ds.length e' = ds ++ [e'] := by simp
  rw [e1] at K
  rw [← h1, ← h2]
  simpa [List.append_assoc] using K
abbrev shelf (d t w s v q n a : Value) (m l g : Int32) : xw_C := .inr (0, [d, t, w, s, v, q, n, a, .int 0, .int m, .int l, .int 0, .int g, .int 0])
/-- the cells of a new shelf, but the shelf's own -/
abbrev bsS (d tx w st s1 s2 s3 s4 sv v1 v2 v3 v4 qo t tl ts pa na po k1 k2 k3 : Nat) (ps ns : List Nat) (so sp ao o1 o2 o3 o4 : Nat) (xs : List Nat) : List Nat :=
  ((([d, tx, w, st, s1, s2, s3, s4, sv, v1, v2, v3, v4] ++ (qo :: ([t, tl, ts, pa, na, po, k1, k2, k3] ++ (ps ++ ns)))) ++ [so, sp]) ++ [ao, o1, o2, o3, o4]) ++ xs
abbrev dsS (s1 s2 s3 s4 v1 v2 v3 v4 t tl ts pa na po k1 k2 k3 : Nat) (ps ns : List Nat) (sp o1 o2 o3 o4 : Nat) (tx : List Nat) (wf : Nat → Int32) (es : List xw_C) : List xw_C :=
  ((([cz 96, qa 9 2 tx, .inl (0, 2, .inl wf), store0 (.ref s1) (.ref s2) (.ref s3) (.ref s4), qz 10 25, qz 10 201, qz 6 512, qz 10 24, store0 (.ref v1) (.ref v2) (.ref v3) (.ref v4), qz 10 25, qz 10 201, qz 6 512, qz 10 24] ++
    (quest (.ref t) (.ref pa) (.ref na) (.ref po) .null :: (qcells t tl ts pa na po k1 k2 k3 ps ns ++ (List.replicate 12 phrase0 ++ List.replicate 24 node0)))) ++ [.inr (7, [.ref sp, .null]), iz 576]) ++ [.inr (1, [.ref o1, .ref o2, .int 0, .ref o3, .ref o4]), iz 24, dz 24, iz 24, iz 24]) ++ es
section CtorS
variable {G : xw_G} {F L i a : Nat} {as : List Nat} {cs : List xw_C} {h : xw_A}
set_option maxHeartbeats 4000000 in
theorem c_Shelf_init (hF : 3 ≤ F) (hL : 100 ≤ L) (K : SL as cs h) (ha : as[i]? = some a) (hc : cs[i]? = some (shelf .null .null .null .null .null .null .null .null 0 0 0)) :
    xw_Met G m_Shelf_init F L 72 3072 [.ref a] h (fun v h' => v = none ∧ ∃ (d tx w st s1 s2 s3 s4 sv v1 v2 v3 v4 qo t tl ts pa na po k1 k2 k3 : Nat) (ps ns : List Nat) (so sp ao o1 o2 o3 o4 x0 l0 z0 x1 l1 z1 : Nat) (wf : Nat → Int32), ps.length = 12 ∧ ns.length = 24 ∧ wf 0 = 1 ∧ wf 1 = 1 ∧
      SL (as ++ bsS d tx w st s1 s2 s3 s4 sv v1 v2 v3 v4 qo t tl ts pa na po k1 k2 k3 ps ns so sp ao o1 o2 o3 o4 [x0, l0, z0, x1, l1, z1])
        (cs.set i (shelf (.ref d) (.ref tx) (.ref w) (.ref st) (.ref sv) (.ref qo) (.ref so) (.ref ao) 3 20 (-1)) ++ dsS s1 s2 s3 s4 v1 v2 v3 v4 t tl ts pa na po k1 k2 k3 ps ns sp o1 o2 o3 o4 [x0, x1] wf [.inr (9, [.ref l0, .ref z0, .int 0]), cz 0, iz 1, .inr (9, [.ref l1, .ref z1, .int 0]), cz 0, iz 1]) h') (fun _ _ => False) := by
  have hi : i < cs.length := (List.getElem?_eq_some_iff.mp hc).1
  have hlS : ∀ e : xw_C, as.length = (cs.set i e).length := fun e => by simp [K.1]
  have hgS : ∀ e : xw_C, (cs.set i e)[i]? = some e := fun e => List.getElem?_set_self hi
  refine xw_Met.of rfl (by decide) (Nat.le_of_ble_eq_true rfl) ?_
  refine s_Shelf_init_0 (draft_a0 := none) (texts_a0 := none) (weights_a0 := none) (store_a0 := none) (saved_a0 := none) (question_a0 := none) (standing_a0 := none) (answers_a0 := none) (draftLength_a0 := 0) (most_a0 := 0) (limit_a0 := 0) (open_a0 := 0) (wrongPlace_a0 := 0) (goodPhrases_a0 := 0) ⟨by omega, by omega⟩ (by omega) (K.at i ha hc) (by omega) (fun d hd tx htx => ?_)
  have K1 := (((K.nil.newR (e := cz 96) hd rfl rfl).upL K.1 i (e := shelf (.ref d) .null .null .null .null .null .null .null 0 0 0) ha).newR (e := qz 9 2) htx rfl rfl).upL (hlS _) i (e := shelf (.ref d) (.ref tx) .null .null .null .null .null .null 0 0 0) ha
  simp only [List.set_set] at K1
  refine s_Shelf_init_20 (draft_a0 := some d) (texts_a0 := some tx) (weights_a0 := none) (store_a0 := none) (saved_a0 := none) (question_a0 := none) (standing_a0 := none) (answers_a0 := none) (draftLength_a0 := 0) (most_a0 := 0) (limit_a0 := 0) (open_a0 := 0) (wrongPlace_a0 := 0) (goodPhrases_a0 := 0) (by omega) (xw_up_s _ _ _) (by omega) (fun w hw st hst => ?_)
  have K2 := ((K1.newR (e := iz 2) hw rfl rfl).upL (hlS _) i (e := shelf (.ref d) (.ref tx) (.ref w) .null .null .null .null .null 0 0 0) ha).newR (e := store0 .null .null .null .null) hst rfl rfl
  simp only [List.set_set] at K2
  refine x_callIN (As := []) (b := st) (rest := [.ref st, .ref a]) d_Shelf_init_32 cN_Shelf_25 (c_Store_init (F := 1) (L := 12) (i := as.length + 3) (by omega) (by omega) K2 (SL.haN (bs := [d, tx, w])) (SL.hcN (bs := [d, tx, w]) (ds := [cz 96, qz 9 2, iz 2]) (hlS _) rfl)) ⟨by omega, by show 8 + (1 + 11) + 12 ≤ L; omega⟩ ⟨by omega, by omega⟩ (Nat.le_of_ble_eq_true rfl) (fun v h3 hp => ?_)
  obtain ⟨rfl, s1, s2, s3, s4, K3'⟩ := hp
  have K3 := SL.reN (bs := [d, tx, w]) (ds := [cz 96, qz 9 2, iz 2]) (hlS _) rfl K3' rfl rfl
  refine s_Shelf_init_35 (draft_a0 := some d) (texts_a0 := some tx) (weights_a0 := some w) (store_a0 := none) (saved_a0 := none) (question_a0 := none) (standing_a0 := none) (answers_a0 := none) (draftLength_a0 := 0) (most_a0 := 0) (limit_a0 := 0) (open_a0 := 0) (wrongPlace_a0 := 0) (goodPhrases_a0 := 0) (K3.atL i ha (hgS _)) (by omega) (fun sv hsv => ?_)
  have K4 := (K3.upL (hlS _) i (e := shelf (.ref d) (.ref tx) (.ref w) (.ref st) .null .null .null .null 0 0 0) ha).newR (e := store0 .null .null .null .null) hsv rfl rfl
  simp only [List.set_set] at K4
  refine x_callIN (As := []) (b := sv) (rest := [.ref sv, .ref a]) d_Shelf_init_43 cN_Shelf_25 (c_Store_init (F := 1) (L := 12) (i := as.length + 8) (by omega) (by omega) K4 (SL.haN (bs := [d, tx, w, st, s1, s2, s3, s4])) (SL.hcN (bs := [d, tx, w, st, s1, s2, s3, s4]) (ds := [cz 96, qz 9 2, iz 2, store0 (.ref s1) (.ref s2) (.ref s3) (.ref s4), qz 10 25, qz 10 201, qz 6 512, qz 10 24]) (hlS _) rfl)) ⟨by omega, by show 8 + (1 + 11) + 12 ≤ L; omega⟩ ⟨by omega, by omega⟩ (Nat.le_of_ble_eq_true rfl) (fun v h5 hp => ?_)
  obtain ⟨rfl, v1, v2, v3, v4, K5'⟩ := hp
  have K5 := SL.reN (bs := [d, tx, w, st, s1, s2, s3, s4]) (ds := [cz 96, qz 9 2, iz 2, store0 (.ref s1) (.ref s2) (.ref s3) (.ref s4), qz 10 25, qz 10 201, qz 6 512, qz 10 24]) (hlS _) rfl K5' rfl rfl
  refine s_Shelf_init_46 (draft_a0 := some d) (texts_a0 := some tx) (weights_a0 := some w) (store_a0 := some st) (saved_a0 := none) (question_a0 := none) (standing_a0 := none) (answers_a0 := none) (draftLength_a0 := 0) (most_a0 := 0) (limit_a0 := 0) (open_a0 := 0) (wrongPlace_a0 := 0) (goodPhrases_a0 := 0) (K5.atL i ha (hgS _)) (by omega) (fun qo hqo => ?_)
  have K6 := (K5.upL (hlS _) i (e := shelf (.ref d) (.ref tx) (.ref w) (.ref st) (.ref sv) .null .null .null 0 0 0) ha).newR (e := quest .null .null .null .null .null) hqo rfl rfl
  simp only [List.set_set] at K6
  sorry
end CtorS
