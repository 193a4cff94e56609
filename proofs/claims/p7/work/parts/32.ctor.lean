/-! THE CONSTRUCTOR OF PhraseShelf -/
theorem SL.haN {as bs : List Nat} {q : Nat} : (as ++ (bs ++ [q]))[as.length + bs.length]? = some q := by rw [gA]; simp
theorem SL.hcN {as bs : List Nat} {cs ds : List xw_C} {e : xw_C} (hl : as.length = cs.length) (hb : bs.length = ds.length) : (cs ++ (ds ++ [e]))[as.length + bs.length]? = some e := by rw [hl, gA, hb]; simp
theorem SL.reN {as bs qs bs' : List Nat} {cs ds es ds' : List xw_C} {h : xw_A} {q : Nat} {e e' : xw_C} (hl : as.length = cs.length) (hb : bs.length = ds.length) (K : SL ((as ++ (bs ++ [q])) ++ qs) ((cs ++ (ds ++ [e])).set (as.length + bs.length) e' ++ es) h) (h1 : bs ++ (q :: qs) = bs') (h2 : ds ++ (e' :: es) = ds') : SL (as ++ bs') (cs ++ ds') h := by
  rw [sA hl, hb] at K
  have e1 : (ds ++ [e]).set ds.length e' = ds ++ [e'] := by simp
  rw [e1] at K
  rw [← h1, ← h2]
  simpa [List.append_assoc] using K
theorem SL.cast {A A' : List Nat} {C C' : List xw_C} {h : xw_A} (e1 : A' = A) (e2 : C' = C) (K : SL A C h) : SL A' C' h := by subst e1 e2; exact K
abbrev shelf (d t w s v q n a : Value) (m l g : Int32) : xw_C := .inr (0, [d, t, w, s, v, q, n, a, .int 0, .int m, .int l, .int 0, .int g, .int 0])
/-- the cells of a new shelf, but the shelf's own -/
abbrev bsS (d tx w st s1 s2 s3 s4 sv v1 v2 v3 v4 qo t tl ts pa na po k1 k2 k3 : Nat) (ps ns : List Nat) (so sp ao o1 o2 o3 o4 : Nat) (xs : List Nat) : List Nat :=
  ((([d, tx, w, st, s1, s2, s3, s4, sv, v1, v2, v3, v4] ++ (qo :: ([t, tl, ts, pa, na, po, k1, k2, k3] ++ (ps ++ ns)))) ++ [so, sp]) ++ [ao, o1, o2, o3, o4]) ++ xs
abbrev dsS (s1 s2 s3 s4 v1 v2 v3 v4 t tl ts pa na po k1 k2 k3 : Nat) (ps ns : List Nat) (sp o1 o2 o3 o4 : Nat) (tx : List Nat) (wf : Nat → Int32) (es : List xw_C) : List xw_C :=
  ((([cz 96, qa 9 2 tx, .inl (0, 2, .inl wf), store0 (.ref s1) (.ref s2) (.ref s3) (.ref s4), qz 10 25, qz 10 201, qz 6 512, qz 10 24, store0 (.ref v1) (.ref v2) (.ref v3) (.ref v4), qz 10 25, qz 10 201, qz 6 512, qz 10 24] ++
    (quest (.ref t) (.ref pa) (.ref na) (.ref po) .null :: (qcells t tl ts pa na po k1 k2 k3 ps ns ++ (List.replicate 12 phrase0 ++ List.replicate 24 node0)))) ++ [.inr (7, [.ref sp, .null]), iz 576]) ++ [.inr (1, [.ref o1, .ref o2, .int 0, .ref o3, .ref o4]), iz 24, dz 24, iz 24, iz 24]) ++ es
section CtorS
variable {G : xw_G} {F L i a : Nat} {as : List Nat} {cs : List xw_C} {h : xw_A}
set_option maxHeartbeats 2000000 in
/-- one turn of the loop that makes the texts -/
theorem sh_turn {pr : Option Value → xw_A → Prop} {bc bs d tx w st sv qo so ao : Nat} {B ts : List Nat} {D : List xw_C} {wf : Nat → Int32} (hF : 2 ≤ F) (hL : 40 ≤ L) (hu : 3 ≤ bc ∧ 4 ≤ bs) (hl : as.length = cs.length) (hb : B.length = D.length) (ht : ts.length < 2) (ha : as[i]? = some a)
    (hc : cs[i]? = some (shelf (.ref d) (.ref tx) (.ref w) (.ref st) (.ref sv) (.ref qo) (.ref so) (.ref ao) 0 0 0)) (K : SL (as ++ (d :: tx :: w :: B)) (cs ++ (cz 96 :: qa 9 2 ts :: .inl (0, 2, .inl wf) :: D)) h)
    (k : ∀ (x l z : Nat) (h' : xw_A), SL (as ++ (d :: tx :: w :: (B ++ [x, l, z]))) (cs ++ (cz 96 :: qa 9 2 (ts ++ [x]) :: .inl (0, 2, .inl (upd wf ts.length 1)) :: (D ++ [.inr (9, [.ref l, .ref z, .int 0]), cz 0, iz 1]))) h' →
      xw G m_Shelf_init F L (bc - 3) (bs - 4) pr (fun _ _ => False) 84 [some (.ref a), some (.int (nI (ts.length + 1)))] [] h') :
    xw G m_Shelf_init F L bc bs pr (fun _ _ => False) 84 [some (.ref a), some (.int (nI ts.length))] [] h := by
  refine s_Shelf_init_84 (fun hc9 => absurd hc9 (nI_ge (a := ts.length) (b := 2) (by omega) (by omega))) (fun _ => ?_)
  refine s_Shelf_init_89 (draft_a0 := some d) (texts_a0 := some tx) (weights_a0 := some w) (store_a0 := some st) (saved_a0 := some sv) (question_a0 := some qo) (standing_a0 := some so) (answers_a0 := some ao) (draftLength_a0 := 0) (most_a0 := 0) (limit_a0 := 0) (open_a0 := 0) (wrongPlace_a0 := 0) (goodPhrases_a0 := 0) (K.atL i ha hc) (by omega) (fun x hx => ?_)
  have K1 := K.newR (e := .inr (9, [.null, .null, .int 0])) hx rfl rfl
  refine x_callI (As := [.int 0]) (b := x) (rest := [.ref x, .int (nI ts.length), .ref tx]) d_Shelf_init_99 cI_Shelf_54 (c_Tokens_init (m := 0) (F := 1) (L := 12) (i := as.length + (d :: tx :: w :: B).length) (Nat.zero_le _) (by omega) (by omega) K1 (SL.haN (bs := d :: tx :: w :: B)) (SL.hcN (bs := d :: tx :: w :: B) hl (by simp [hb]))) ⟨by omega, by show 8 + (2 + 11) + 12 ≤ L; omega⟩ ⟨by omega, by omega⟩ (Nat.le_of_ble_eq_true rfl) (fun v h2 hp => ?_)
  obtain ⟨rfl, l, z, K2'⟩ := hp
  have K2 := SL.reN (bs := d :: tx :: w :: B) hl (by simp [hb]) K2' rfl rfl
  refine s_Shelf_init_102 (letters_b0 := some l) (starts_b0 := some z) (count_b0 := 0) (draft_a0 := some d) (texts_a0 := some tx) (weights_a0 := w) (store_a0 := some st) (saved_a0 := some sv) (question_a0 := some qo) (standing_a0 := some so) (answers_a0 := some ao) (draftLength_a0 := 0) (most_a0 := 0) (limit_a0 := 0) (open_a0 := 0) (wrongPlace_a0 := 0) (goodPhrases_a0 := 0)
    (K2.atR hl 1 rfl rfl) (vp_in_nI (by omega) (by omega)) (K2.atR hl (B.length + 1 + 1 + 1) (by simp) (by simp [hb, va_rf])) (K2.atL i ha hc) (K2.atR hl 2 rfl rfl) (vp_in_nI (by omega) (by omega)) ?_
  have e1 : (nI ts.length).toNatClampNeg = ts.length := nI_clamp (by omega)
  rw [e1, qa_up, nI_1]
  exact k x l z _ ((K2.upR hl 1 (e := qa 9 2 (ts ++ [x])) rfl rfl).upR hl 2 (e := .inl (0, 2, .inl (upd wf ts.length 1))) rfl rfl)
set_option maxHeartbeats 4000000 in
theorem c_Shelf_init (hF : 3 ≤ F) (hL : 100 ≤ L) (K : SL as cs h) (ha : as[i]? = some a) (hc : cs[i]? = some (shelf .null .null .null .null .null .null .null .null 0 0 0)) :
    xw_Met G m_Shelf_init F L 72 3072 [.ref a] h (fun v h' => v = none ∧ ∃ (d tx w st s1 s2 s3 s4 sv v1 v2 v3 v4 qo t tl ts pa na po k1 k2 k3 : Nat) (ps ns : List Nat) (so sp ao o1 o2 o3 o4 x0 l0 z0 x1 l1 z1 : Nat) (wf : Nat → Int32), ps.length = 12 ∧ ns.length = 24 ∧ wf 0 = 1 ∧ wf 1 = 1 ∧
      SL (as ++ bsS d tx w st s1 s2 s3 s4 sv v1 v2 v3 v4 qo t tl ts pa na po k1 k2 k3 ps ns so sp ao o1 o2 o3 o4 [x0, l0, z0, x1, l1, z1])
        (cs.set i (shelf (.ref d) (.ref tx) (.ref w) (.ref st) (.ref sv) (.ref qo) (.ref so) (.ref ao) 3 20 (-1)) ++ dsS s1 s2 s3 s4 v1 v2 v3 v4 t tl ts pa na po k1 k2 k3 ps ns sp o1 o2 o3 o4 [x0, x1] wf [.inr (9, [.ref l0, .ref z0, .int 0]), cz 0, iz 1, .inr (9, [.ref l1, .ref z1, .int 0]), cz 0, iz 1]) h') (fun _ _ => False) := by
  have hi : i < cs.length := (List.getElem?_eq_some_iff.mp hc).1
  have hlS : ∀ e : xw_C, as.length = (cs.set i e).length := fun e => by simp [K.1]
  have hgS : ∀ e : xw_C, (cs.set i e)[i]? = some e := fun e => List.getElem?_set_self hi
  refine xw_Met.of rfl (by decide) (Nat.le_of_ble_eq_true rfl) ?_
  refine s_Shelf_init_0 (draft_a0 := none) (texts_a0 := none) (weights_a0 := none) (store_a0 := none) (saved_a0 := none) (question_a0 := none) (standing_a0 := none) (answers_a0 := none) (draftLength_a0 := 0) (most_a0 := 0) (limit_a0 := 0) (open_a0 := 0) (wrongPlace_a0 := 0) (goodPhrases_a0 := 0) ⟨by omega, by omega⟩ (by omega) (K.at i ha hc) (by omega) (fun d hd tx htx => ?_)
  have K1 := (((K.nil.newR (e := cz 96) hd rfl rfl).upL K.1 i (e := shelf (.ref d) .null .null .null .null .null .null .null 0 0 0) ha).newR (e := qz 9 2) htx rfl rfl).upL (hlS _) i (e := shelf (.ref d) (.ref tx) .null .null .null .null .null .null 0 0 0) ha
  simp only [List.set_set] at K1
  refine s_Shelf_init_20 (draft_a0 := some d) (texts_a0 := some tx) (weights_a0 := none) (store_a0 := none) (saved_a0 := none) (question_a0 := none) (standing_a0 := none) (answers_a0 := none) (draftLength_a0 := 0) (most_a0 := 0) (limit_a0 := 0) (open_a0 := 0) (wrongPlace_a0 := 0) (goodPhrases_a0 := 0) (by omega) (xw_up_s _ _ _) (by omega) (fun w hw st hst => ?_)
  have K2 := ((K1.newR (e := iz 2) hw rfl rfl).upL (hlS _) i (e := shelf (.ref d) (.ref tx) (.ref w) .null .null .null .null .null 0 0 0) ha).newR (e := store0 .null .null .null .null) hst rfl rfl
  simp only [List.set_set] at K2
  refine x_callIN (As := []) (b := st) (rest := [.ref st, .ref a]) d_Shelf_init_32 cN_Shelf_25 (c_Store_init (F := 1) (L := 12) (i := as.length + 3) (by omega) (by omega) K2 (SL.haN (bs := [d, tx, w])) (SL.hcN (bs := [d, tx, w]) (ds := [cz 96, qz 9 2, iz 2]) (hlS _) rfl)) ⟨by omega, by show 8 + (1 + 11) + 12 ≤ L; omega⟩ ⟨by omega, by omega⟩ (Nat.le_of_ble_eq_true rfl) (fun v h3 hp => ?_)
  obtain ⟨rfl, s1, s2, s3, s4, K3'⟩ := hp
  have K3 := SL.reN (bs := [d, tx, w]) (ds := [cz 96, qz 9 2, iz 2]) (hlS _) rfl K3' rfl rfl
  refine s_Shelf_init_35 (draft_a0 := some d) (texts_a0 := some tx) (weights_a0 := some w) (store_a0 := none) (saved_a0 := none) (question_a0 := none) (standing_a0 := none) (answers_a0 := none) (draftLength_a0 := 0) (most_a0 := 0) (limit_a0 := 0) (open_a0 := 0) (wrongPlace_a0 := 0) (goodPhrases_a0 := 0) (K3.atL i ha (hgS _)) (by omega) (fun sv hsv => ?_)
  have K4 := (K3.upL (hlS _) i (e := shelf (.ref d) (.ref tx) (.ref w) (.ref st) .null .null .null .null 0 0 0) ha).newR (e := store0 .null .null .null .null) hsv rfl rfl
  simp only [List.set_set] at K4
  refine x_callIN (As := []) (b := sv) (rest := [.ref sv, .ref a]) d_Shelf_init_43 cN_Shelf_25 (c_Store_init (F := 1) (L := 12) (i := as.length + 8) (by omega) (by omega) K4 (SL.haN (bs := [d, tx, w, st, s1, s2, s3, s4])) (SL.hcN (bs := [d, tx, w, st, s1, s2, s3, s4]) (ds := [cz 96, qz 9 2, iz 2, store0 (.ref s1) (.ref s2) (.ref s3) (.ref s4), qz 10 25, qz 10 201, qz 6 512, qz 10 24]) (hlS _) rfl)) ⟨by omega, by show 8 + (1 + 11) + 12 ≤ L; omega⟩ ⟨by omega, by omega⟩ (Nat.le_of_ble_eq_true rfl) (fun v h5 hp => ?_)
  obtain ⟨rfl, v1, v2, v3, v4, K5'⟩ := hp
  have K5 := SL.reN (bs := [d, tx, w, st, s1, s2, s3, s4]) (ds := [cz 96, qz 9 2, iz 2, store0 (.ref s1) (.ref s2) (.ref s3) (.ref s4), qz 10 25, qz 10 201, qz 6 512, qz 10 24]) (hlS _) rfl K5' rfl rfl
  refine s_Shelf_init_46 (draft_a0 := some d) (texts_a0 := some tx) (weights_a0 := some w) (store_a0 := some st) (saved_a0 := none) (question_a0 := none) (standing_a0 := none) (answers_a0 := none) (draftLength_a0 := 0) (most_a0 := 0) (limit_a0 := 0) (open_a0 := 0) (wrongPlace_a0 := 0) (goodPhrases_a0 := 0) (K5.atL i ha (hgS _)) (by omega) (fun qo hqo => ?_)
  have K6 := (K5.upL (hlS _) i (e := shelf (.ref d) (.ref tx) (.ref w) (.ref st) (.ref sv) .null .null .null 0 0 0) ha).newR (e := quest .null .null .null .null .null) hqo rfl rfl
  simp only [List.set_set] at K6
  refine x_callI (As := []) (b := qo) (rest := [.ref qo, .ref a]) d_Shelf_init_54 cI_Shelf_35 (c_Question_init (F := 2) (L := 60) (i := as.length + 13) (by omega) (by omega) K6 (SL.haN (bs := [d, tx, w, st, s1, s2, s3, s4, sv, v1, v2, v3, v4])) (SL.hcN (bs := [d, tx, w, st, s1, s2, s3, s4, sv, v1, v2, v3, v4]) (ds := [cz 96, qz 9 2, iz 2, store0 (.ref s1) (.ref s2) (.ref s3) (.ref s4), qz 10 25, qz 10 201, qz 6 512, qz 10 24, store0 (.ref v1) (.ref v2) (.ref v3) (.ref v4), qz 10 25, qz 10 201, qz 6 512, qz 10 24]) (hlS _) rfl)) ⟨by omega, by show 8 + (2 + 11) + 60 ≤ L; omega⟩ ⟨by omega, by omega⟩ (Nat.le_of_ble_eq_true rfl) (fun v h7 hp => ?_)
  obtain ⟨rfl, t, tl, ts, pa, na, po, k1, k2, k3, ps, ns, hps, hns, K7'⟩ := hp
  have K7 := SL.reN (bs := [d, tx, w, st, s1, s2, s3, s4, sv, v1, v2, v3, v4]) (ds := [cz 96, qz 9 2, iz 2, store0 (.ref s1) (.ref s2) (.ref s3) (.ref s4), qz 10 25, qz 10 201, qz 6 512, qz 10 24, store0 (.ref v1) (.ref v2) (.ref v3) (.ref v4), qz 10 25, qz 10 201, qz 6 512, qz 10 24]) (hlS _) rfl K7' rfl rfl
  refine s_Shelf_init_57 (draft_a0 := some d) (texts_a0 := some tx) (weights_a0 := some w) (store_a0 := some st) (saved_a0 := some sv) (question_a0 := none) (standing_a0 := none) (answers_a0 := none) (draftLength_a0 := 0) (most_a0 := 0) (limit_a0 := 0) (open_a0 := 0) (wrongPlace_a0 := 0) (goodPhrases_a0 := 0) (K7.atL i ha (hgS _)) (by omega) (fun so hso => ?_)
  have K8 := (K7.upL (hlS _) i (e := shelf (.ref d) (.ref tx) (.ref w) (.ref st) (.ref sv) (.ref qo) .null .null 0 0 0) ha).newR (e := .inr (7, [.null, .null])) hso rfl rfl
  simp only [List.set_set] at K8
  have hb8 : ([d, tx, w, st, s1, s2, s3, s4, sv, v1, v2, v3, v4] ++ (qo :: ([t, tl, ts, pa, na, po, k1, k2, k3] ++ (ps ++ ns)))).length = ([cz 96, qz 9 2, iz 2, store0 (.ref s1) (.ref s2) (.ref s3) (.ref s4), qz 10 25, qz 10 201, qz 6 512, qz 10 24, store0 (.ref v1) (.ref v2) (.ref v3) (.ref v4), qz 10 25, qz 10 201, qz 6 512, qz 10 24] ++ (quest (.ref t) (.ref pa) (.ref na) (.ref po) .null :: (qcells t tl ts pa na po k1 k2 k3 ps ns ++ (List.replicate 12 phrase0 ++ List.replicate 24 node0)))).length := by simp [hps, hns]
  refine x_callIN (As := []) (b := so) (rest := [.ref so, .ref a]) d_Shelf_init_65 cN_Shelf_42 (c_Standing_init (F := 1) (L := 12) (i := as.length + ([d, tx, w, st, s1, s2, s3, s4, sv, v1, v2, v3, v4] ++ (qo :: ([t, tl, ts, pa, na, po, k1, k2, k3] ++ (ps ++ ns)))).length) (by omega) (by omega) K8 (SL.haN (bs := ([d, tx, w, st, s1, s2, s3, s4, sv, v1, v2, v3, v4] ++ (qo :: ([t, tl, ts, pa, na, po, k1, k2, k3] ++ (ps ++ ns)))))) (SL.hcN (bs := ([d, tx, w, st, s1, s2, s3, s4, sv, v1, v2, v3, v4] ++ (qo :: ([t, tl, ts, pa, na, po, k1, k2, k3] ++ (ps ++ ns))))) (hlS _) hb8)) ⟨by omega, by show 8 + (1 + 11) + 12 ≤ L; omega⟩ ⟨by omega, by omega⟩ (Nat.le_of_ble_eq_true rfl) (fun v h9 hp => ?_)
  obtain ⟨rfl, sp, K9'⟩ := hp
  have K9 := SL.reN (bs := ([d, tx, w, st, s1, s2, s3, s4, sv, v1, v2, v3, v4] ++ (qo :: ([t, tl, ts, pa, na, po, k1, k2, k3] ++ (ps ++ ns))))) (hlS _) hb8 K9' rfl rfl
  refine s_Shelf_init_68 (draft_a0 := some d) (texts_a0 := some tx) (weights_a0 := some w) (store_a0 := some st) (saved_a0 := some sv) (question_a0 := some qo) (standing_a0 := none) (answers_a0 := none) (draftLength_a0 := 0) (most_a0 := 0) (limit_a0 := 0) (open_a0 := 0) (wrongPlace_a0 := 0) (goodPhrases_a0 := 0) (K9.atL i ha (hgS _)) (by omega) (fun ao hao => ?_)
  have K10 := (K9.upL (hlS _) i (e := shelf (.ref d) (.ref tx) (.ref w) (.ref st) (.ref sv) (.ref qo) (.ref so) .null 0 0 0) ha).newR (e := .inr (1, [.null, .null, .int 0, .null, .null])) hao rfl rfl
  simp only [List.set_set] at K10
  have hb9 : (([d, tx, w, st, s1, s2, s3, s4, sv, v1, v2, v3, v4] ++ (qo :: ([t, tl, ts, pa, na, po, k1, k2, k3] ++ (ps ++ ns)))) ++ [so, sp]).length = (([cz 96, qz 9 2, iz 2, store0 (.ref s1) (.ref s2) (.ref s3) (.ref s4), qz 10 25, qz 10 201, qz 6 512, qz 10 24, store0 (.ref v1) (.ref v2) (.ref v3) (.ref v4), qz 10 25, qz 10 201, qz 6 512, qz 10 24] ++ (quest (.ref t) (.ref pa) (.ref na) (.ref po) .null :: (qcells t tl ts pa na po k1 k2 k3 ps ns ++ (List.replicate 12 phrase0 ++ List.replicate 24 node0)))) ++ [.inr (7, [.ref sp, .null]), iz 576]).length := by simp [hps, hns]
  refine x_callIN (As := []) (b := ao) (rest := [.ref ao, .ref a]) d_Shelf_init_76 cN_Shelf_49 (c_Answers_init (F := 1) (L := 12) (i := as.length + (([d, tx, w, st, s1, s2, s3, s4, sv, v1, v2, v3, v4] ++ (qo :: ([t, tl, ts, pa, na, po, k1, k2, k3] ++ (ps ++ ns)))) ++ [so, sp]).length) (by omega) (by omega) K10 (SL.haN (bs := (([d, tx, w, st, s1, s2, s3, s4, sv, v1, v2, v3, v4] ++ (qo :: ([t, tl, ts, pa, na, po, k1, k2, k3] ++ (ps ++ ns)))) ++ [so, sp]))) (SL.hcN (bs := (([d, tx, w, st, s1, s2, s3, s4, sv, v1, v2, v3, v4] ++ (qo :: ([t, tl, ts, pa, na, po, k1, k2, k3] ++ (ps ++ ns)))) ++ [so, sp])) (hlS _) hb9)) ⟨by omega, by show 8 + (1 + 11) + 12 ≤ L; omega⟩ ⟨by omega, by omega⟩ (Nat.le_of_ble_eq_true rfl) (fun v h11 hp => ?_)
  obtain ⟨rfl, o1, o2, o3, o4, K11'⟩ := hp
  have K11 := SL.reN (bs := (([d, tx, w, st, s1, s2, s3, s4, sv, v1, v2, v3, v4] ++ (qo :: ([t, tl, ts, pa, na, po, k1, k2, k3] ++ (ps ++ ns)))) ++ [so, sp])) (hlS _) hb9 K11' rfl rfl
  refine s_Shelf_init_79 (draft_a0 := some d) (texts_a0 := some tx) (weights_a0 := some w) (store_a0 := some st) (saved_a0 := some sv) (question_a0 := some qo) (standing_a0 := some so) (answers_a0 := none) (draftLength_a0 := 0) (most_a0 := 0) (limit_a0 := 0) (open_a0 := 0) (wrongPlace_a0 := 0) (goodPhrases_a0 := 0) (K11.atL i ha (hgS _)) ?_
  have K12 := K11.upL (hlS _) i (e := shelf (.ref d) (.ref tx) (.ref w) (.ref st) (.ref sv) (.ref qo) (.ref so) (.ref ao) 0 0 0) ha
  simp only [List.set_set] at K12
  have hb12 : ((([st, s1, s2, s3, s4, sv, v1, v2, v3, v4] ++ (qo :: ([t, tl, ts, pa, na, po, k1, k2, k3] ++ (ps ++ ns)))) ++ [so, sp]) ++ [ao, o1, o2, o3, o4]).length = ((([store0 (.ref s1) (.ref s2) (.ref s3) (.ref s4), qz 10 25, qz 10 201, qz 6 512, qz 10 24, store0 (.ref v1) (.ref v2) (.ref v3) (.ref v4), qz 10 25, qz 10 201, qz 6 512, qz 10 24] ++ (quest (.ref t) (.ref pa) (.ref na) (.ref po) .null :: (qcells t tl ts pa na po k1 k2 k3 ps ns ++ (List.replicate 12 phrase0 ++ List.replicate 24 node0)))) ++ [.inr (7, [.ref sp, .null]), iz 576]) ++ [.inr (1, [.ref o1, .ref o2, .int 0, .ref o3, .ref o4]), iz 24, dz 24, iz 24, iz 24]).length := by simp [hps, hns]
  refine sh_turn (bc := _) (bs := _) (ts := []) (wf := fun _ => 0) (B := (([st, s1, s2, s3, s4, sv, v1, v2, v3, v4] ++ (qo :: ([t, tl, ts, pa, na, po, k1, k2, k3] ++ (ps ++ ns)))) ++ [so, sp]) ++ [ao, o1, o2, o3, o4]) (D := (([store0 (.ref s1) (.ref s2) (.ref s3) (.ref s4), qz 10 25, qz 10 201, qz 6 512, qz 10 24, store0 (.ref v1) (.ref v2) (.ref v3) (.ref v4), qz 10 25, qz 10 201, qz 6 512, qz 10 24] ++ (quest (.ref t) (.ref pa) (.ref na) (.ref po) .null :: (qcells t tl ts pa na po k1 k2 k3 ps ns ++ (List.replicate 12 phrase0 ++ List.replicate 24 node0)))) ++ [.inr (7, [.ref sp, .null]), iz 576]) ++ [.inr (1, [.ref o1, .ref o2, .int 0, .ref o3, .ref o4]), iz 24, dz 24, iz 24, iz 24]) (by omega) (by omega) (by omega) (hlS _) hb12 (by decide) ha (hgS _) K12 (fun x0 l0 z0 h13 K13 => ?_)
  refine sh_turn (bc := _) (bs := _) (ts := [x0]) (by omega) (by omega) (by omega) (hlS _) (by simp [hps, hns]) (by show 1 < 2; decide) ha (hgS _) K13 (fun x1 l1 z1 h14 K14 => ?_)
  refine s_Shelf_init_84 (fun _ => ?_) (fun hc9 => absurd (show (2 : Int32) ≤ nI 2 by decide) hc9)
  refine s_Shelf_init_116 (draft_a0 := some d) (texts_a0 := some tx) (weights_a0 := some w) (store_a0 := some st) (saved_a0 := some sv) (question_a0 := some qo) (standing_a0 := some so) (answers_a0 := some ao) (draftLength_a0 := 0) (most_a0 := 0) (limit_a0 := 0) (open_a0 := 0) (wrongPlace_a0 := 0) (goodPhrases_a0 := 0) (K14.atL i ha (hgS _)) ?_
  have K15 := ((K14.upL (hlS _) i (e := shelf (.ref d) (.ref tx) (.ref w) (.ref st) (.ref sv) (.ref qo) (.ref so) (.ref ao) 3 0 0) ha).upL (by simp [K.1]) i (e := shelf (.ref d) (.ref tx) (.ref w) (.ref st) (.ref sv) (.ref qo) (.ref so) (.ref ao) 3 20 0) ha).upL (by simp [K.1]) i (e := shelf (.ref d) (.ref tx) (.ref w) (.ref st) (.ref sv) (.ref qo) (.ref so) (.ref ao) 3 20 (-1)) ha
  simp only [List.set_set] at K15
  refine ⟨rfl, d, tx, w, st, s1, s2, s3, s4, sv, v1, v2, v3, v4, qo, t, tl, ts, pa, na, po, k1, k2, k3, ps, ns, so, sp, ao, o1, o2, o3, o4, x0, l0, z0, x1, l1, z1, upd (upd (fun _ => 0) 0 1) 1 1, hps, hns, by rfl, by rfl, ?_⟩
  exact SL.cast (by simp) (by simp) K15
end CtorS
