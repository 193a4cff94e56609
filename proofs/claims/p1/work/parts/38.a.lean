/-! THE LAW'S HELPERS ON FRESH OBJECTS: by program (wip/tools/p1l.py) -/
theorem xc_letters : xw_catch m_Law_letters 4 "java/lang/IllegalArgumentException" 12 := ⟨[], _, _, rfl, (fun z hz => nomatch hz), by decide, by decide, rfl, xw_in2 148 rfl rfl, List.mem_of_getElem? (i := 485) (by decide +kernel)⟩
set_option maxHeartbeats 1000000 in
theorem hl_letters_no {G : xw_G} {F L : Nat} {h : xw_A} {w : Int64} {x d tx w_ st sv qo so ao : Nat} (e_x : h x = some (.inr (0, [.ref d, .ref tx, .ref w_, .ref st, .ref sv, .ref qo, .ref so, .ref ao, .int 0, .int 3, .int 20, .int 0, .int (-1), .int 0]))) (hN : (ltr (oct w) 8 0).getD 0 = 0) {o : Nat} (hF : 7 ≤ F) (hL : 114 ≤ L) :
    xw_MetH G m_Law_letters F L 1 6 [.ref x, .long w, .ref o] h (fun v h' => v = some (.int 1) ∧ FrO [x] h h') := by
  refine xw_MetH.of (by decide) (Nat.le_of_ble_eq_true rfl) ?_
  refine s_Law_letters_0 ?_
  refine x_callVX (As := [.long w]) (b := x) (rest := [.int 0, .ref o]) (F1 := 6) (L1 := 90) (mc := 1) (ms := 6) d_Law_letters_4 cV_Law_7 (fc_letters_no e_x hN (by omega) (by omega)) e_x ⟨by decide, rfl⟩ ⟨by omega, by show 8 + (5 + 11) + 90 ≤ _; omega⟩ ⟨by omega, by omega⟩ (Nat.le_of_ble_eq_true rfl) (fun E h1 p => ?_) (fun v h1 p => p.elim)
  obtain ⟨rfl, fr⟩ := p
  exact ⟨12, xc_letters, fun q => x_le (xw_le_n (xw_le_n (xw_le_n (xw_le_n (xw_le_n xw_le_e))))) (s_Law_letters_12 ⟨rfl, fr⟩)⟩
set_option maxHeartbeats 1000000 in
theorem hl_letters_yes {G : xw_G} {F L : Nat} {h : xw_A} {w : Int64} {n : Nat} {x d tx w_ st sv qo so ao : Nat} (e_x : h x = some (.inr (0, [.ref d, .ref tx, .ref w_, .ref st, .ref sv, .ref qo, .ref so, .ref ao, .int 0, .int 3, .int 20, .int 0, .int (-1), .int 0]))) (e_d : h d = some (.inl (1, 96, .inl (fun _ => 0)))) (hN : (ltr (oct w) 8 0).getD 0 = n + 1) (hn : n < 8) {o : Nat} {fo : Nat → Int64} (eo : h o = some (.inl (2, 1, .inr (.inl fo)))) (no : o ∉ [x, d]) (hF : 4 ≤ F) (hL : 107 ≤ L) :
    xw_MetH G m_Law_letters F L 0 0 [.ref x, .long w, .ref o] h (fun v h' => v = some (.int 0) ∧ FrO [o, x, d] h h' ∧ ∃ f : Nat → Int64, f 0 = (0 + nI (n + 1) : Int32).toInt64 ∧ h' o = some (.inl (2, 1, .inr (.inl f)))) := by
  refine xw_MetH.of (by decide) (Nat.le_of_ble_eq_true rfl) ?_
  refine s_Law_letters_0 ?_
  refine x_callVX (As := [.long w]) (b := x) (rest := [.int 0, .ref o]) (F1 := 3) (L1 := 83) (mc := 0) (ms := 0) d_Law_letters_4 cV_Law_7 (fc_letters_yes e_x e_d hN hn (by omega) (by omega)) e_x ⟨by decide, rfl⟩ ⟨by omega, by show 8 + (5 + 11) + 83 ≤ _; omega⟩ ⟨by omega, by omega⟩ (Nat.le_of_ble_eq_true rfl) (fun E h1 p => p.elim) (fun v h1 p => ?_)
  obtain ⟨rfl, fr⟩ := p
  have eo1 := fr o _ no eo
  refine x_le (xw_le_n (xw_le_n (xw_le_n (xw_le_n (xw_le_n xw_le_e))))) ?_
  refine s_Law_letters_7 eo1 (by unfold vp_in; decide) ?_
  exact s_Law_letters_20 ⟨rfl, (fr.mono (fun a ha => List.mem_cons_of_mem _ ha)).up (List.mem_cons_self) (fun q hq => xw_up_n _ _ hq), _, pk_uLs, xw_up_s _ _ _⟩
theorem xc_set : xw_catch m_Law_set 4 "java/lang/IllegalArgumentException" 12 := ⟨[], _, _, rfl, (fun z hz => nomatch hz), by decide, by decide, rfl, xw_in2 148 rfl rfl, List.mem_of_getElem? (i := 485) (by decide +kernel)⟩
set_option maxHeartbeats 1000000 in
theorem hl_set_no {G : xw_G} {F L : Nat} {h : xw_A} {c : Int32} {x d tx w st sv qo so ao : Nat} (e_x : h x = some (.inr (0, [.ref d, .ref tx, .ref w, .ref st, .ref sv, .ref qo, .ref so, .ref ao, .int 0, .int 3, .int 20, .int 0, .int (-1), .int 0]))) (hn : c < 0 ∨ 1 < c) {o : Nat} (hF : 7 ≤ F) (hL : 112 ≤ L) :
    xw_MetH G m_Law_set F L 1 6 [.ref x, .int c, .ref o] h (fun v h' => v = some (.int 1) ∧ FrO [x] h h') := by
  refine xw_MetH.of (by decide) (Nat.le_of_ble_eq_true rfl) ?_
  refine s_Law_set_0 ?_
  refine x_callVX (As := [.int c]) (b := x) (rest := [.int 0, .ref o]) (F1 := 6) (L1 := 90) (mc := 1) (ms := 6) d_Law_set_4 cV_Law_17 (fc_set_no e_x hn (by omega) (by omega)) e_x ⟨by decide, rfl⟩ ⟨by omega, by show 8 + (3 + 11) + 90 ≤ _; omega⟩ ⟨by omega, by omega⟩ (Nat.le_of_ble_eq_true rfl) (fun E h1 p => ?_) (fun v h1 p => p.elim)
  obtain ⟨rfl, fr⟩ := p
  exact ⟨12, xc_set, fun q => x_le (xw_le_n (xw_le_n (xw_le_n (xw_le_n xw_le_e)))) (s_Law_set_12 ⟨rfl, fr⟩)⟩
set_option maxHeartbeats 1000000 in
theorem hl_set_0 {G : xw_G} {F L : Nat} {h : xw_A} {x d tx w st sv qo so ao : Nat} {fx : Nat → Option Nat} (e_x : h x = some (.inr (0, [.ref d, .ref tx, .ref w, .ref st, .ref sv, .ref qo, .ref so, .ref ao, .int 0, .int 3, .int 20, .int 0, .int (-1), .int 0]))) (e_tx : h tx = some (.inl (9 + 6, 2, .inr (.inr (.inr (.inr fx)))))) {o : Nat} {fo : Nat → Int64} (eo : h o = some (.inl (2, 1, .inr (.inl fo)))) (no : o ∉ [x, tx]) (hF : 3 ≤ F) (hL : 68 ≤ L) :
    xw_MetH G m_Law_set F L 3 4 [.ref x, .int 0, .ref o] h (fun v h' => v = some (.int 0) ∧ FrO [o, x, tx] h h' ∧ ∃ f : Nat → Int64, f 0 = (0 : Int32).toInt64 ∧ h' o = some (.inl (2, 1, .inr (.inl f)))) := by
  refine xw_MetH.of (by decide) (Nat.le_of_ble_eq_true rfl) ?_
  refine s_Law_set_0 ?_
  refine x_callVX (As := [.int 0]) (b := x) (rest := [.int 0, .ref o]) (F1 := 2) (L1 := 46) (mc := 3) (ms := 4) d_Law_set_4 cV_Law_17 (fc_set_0 e_x e_tx (by omega) (by omega)) e_x ⟨by decide, rfl⟩ ⟨by omega, by show 8 + (3 + 11) + 46 ≤ _; omega⟩ ⟨by omega, by omega⟩ (Nat.le_of_ble_eq_true rfl) (fun E h1 p => p.elim) (fun v h1 p => ?_)
  obtain ⟨rfl, fr⟩ := p
  have eo1 := fr o _ no eo
  refine x_le (xw_le_n (xw_le_n (xw_le_n (xw_le_n xw_le_e)))) ?_
  refine s_Law_set_7 eo1 (by unfold vp_in; decide) ?_
  exact s_Law_set_18 ⟨rfl, (fr.mono (fun a ha => List.mem_cons_of_mem _ ha)).up (List.mem_cons_self) (fun q hq => xw_up_n _ _ hq), _, pk_uLs, xw_up_s _ _ _⟩
set_option maxHeartbeats 1000000 in
theorem hl_set_1 {G : xw_G} {F L : Nat} {h : xw_A} {x d tx w st sv qo so ao : Nat} {fx : Nat → Option Nat} (e_x : h x = some (.inr (0, [.ref d, .ref tx, .ref w, .ref st, .ref sv, .ref qo, .ref so, .ref ao, .int 0, .int 3, .int 20, .int 0, .int (-1), .int 0]))) (e_tx : h tx = some (.inl (9 + 6, 2, .inr (.inr (.inr (.inr fx)))))) {o : Nat} {fo : Nat → Int64} (eo : h o = some (.inl (2, 1, .inr (.inl fo)))) (no : o ∉ [x, tx]) (hF : 3 ≤ F) (hL : 68 ≤ L) :
    xw_MetH G m_Law_set F L 3 4 [.ref x, .int 1, .ref o] h (fun v h' => v = some (.int 0) ∧ FrO [o, x, tx] h h' ∧ ∃ f : Nat → Int64, f 0 = (0 : Int32).toInt64 ∧ h' o = some (.inl (2, 1, .inr (.inl f)))) := by
  refine xw_MetH.of (by decide) (Nat.le_of_ble_eq_true rfl) ?_
  refine s_Law_set_0 ?_
  refine x_callVX (As := [.int 1]) (b := x) (rest := [.int 0, .ref o]) (F1 := 2) (L1 := 46) (mc := 3) (ms := 4) d_Law_set_4 cV_Law_17 (fc_set_1 e_x e_tx (by omega) (by omega)) e_x ⟨by decide, rfl⟩ ⟨by omega, by show 8 + (3 + 11) + 46 ≤ _; omega⟩ ⟨by omega, by omega⟩ (Nat.le_of_ble_eq_true rfl) (fun E h1 p => p.elim) (fun v h1 p => ?_)
  obtain ⟨rfl, fr⟩ := p
  have eo1 := fr o _ no eo
  refine x_le (xw_le_n (xw_le_n (xw_le_n (xw_le_n xw_le_e)))) ?_
  refine s_Law_set_7 eo1 (by unfold vp_in; decide) ?_
  exact s_Law_set_18 ⟨rfl, (fr.mono (fun a ha => List.mem_cons_of_mem _ ha)).up (List.mem_cons_self) (fun q hq => xw_up_n _ _ hq), _, pk_uLs, xw_up_s _ _ _⟩
set_option maxHeartbeats 1000000 in
theorem hl_insert {G : xw_G} {F L : Nat} {h : xw_A} {x d tx w st sv qo so ao s1 s2 s3 s4 x0 l0 z0 x1 l1 z1 : Nat} {fx : Nat → Option Nat} (e_x : h x = some (.inr (0, [.ref d, .ref tx, .ref w, .ref st, .ref sv, .ref qo, .ref so, .ref ao, .int 0, .int 3, .int 20, .int 0, .int (-1), .int 0]))) (e_tx : h tx = some (.inl (9 + 6, 2, .inr (.inr (.inr (.inr fx)))))) (e_st : h st = some (.inr (8, [.ref s1, .ref s2, .ref s3, .ref s4, .int 0, .int 0, .int 0, .int 0, .int 0, .int 0]))) (e_s1 : h s1 = some (.inl (10 + 6, 25, .inr (.inr (.inr (.inr (fun _ => none))))))) (e_x0 : h x0 = some (.inr (9, [.ref l0, .ref z0, .int 0]))) (e_x1 : h x1 = some (.inr (9, [.ref l1, .ref z1, .int 0]))) (n_x0_x1 : x0 ≠ x1) (h0 : fx 0 = some x0) (h1 : fx 1 = some x1) {o : Nat} {fo : Nat → Int64} (eo : h o = some (.inl (2, 1, .inr (.inl fo)))) (no : o ∉ [st, s1]) (hF : 5 ≤ F) (hL : 113 ≤ L) :
    xw_MetH G m_Law_insert F L 1 5 [.ref x, .ref o] h (fun v h' => v = some (.int 0) ∧ FrO [o, st, s1] h h' ∧ ∃ f : Nat → Int64, f 0 = (1 : Int32).toInt64 ∧ h' o = some (.inl (2, 1, .inr (.inl f)))) := by
  refine xw_MetH.of (by decide) (Nat.le_of_ble_eq_true rfl) ?_
  refine s_Law_insert_0 ?_
  refine x_callVX (As := []) (b := x) (rest := [.int 0, .ref o]) (F1 := 4) (L1 := 92) (mc := 1) (ms := 5) d_Law_insert_3 cV_Law_21 (fc_insert e_x e_tx e_st e_s1 e_x0 e_x1 n_x0_x1 h0 h1 (by omega) (by omega)) e_x ⟨by decide, rfl⟩ ⟨by omega, by show 8 + (2 + 11) + 92 ≤ _; omega⟩ ⟨by omega, by omega⟩ (Nat.le_of_ble_eq_true rfl) (fun E h1 p => p.elim) (fun v h1 p => ?_)
  obtain ⟨rfl, fr⟩ := p
  have eo1 := fr o _ no eo
  refine x_le (xw_le_n (xw_le_n (xw_le_n xw_le_e))) ?_
  refine s_Law_insert_6 eo1 (by unfold vp_in; decide) ?_
  exact s_Law_insert_14 ⟨rfl, (fr.mono (fun a ha => List.mem_cons_of_mem _ ha)).up (List.mem_cons_self) (fun q hq => xw_up_n _ _ hq), _, pk_uLs, xw_up_s _ _ _⟩
theorem xc_replace : xw_catch m_Law_replace 4 "java/util/NoSuchElementException" 12 := ⟨[], _, _, rfl, (fun z hz => nomatch hz), by decide, by decide, rfl, xw_in3 94 rfl rfl, List.mem_of_getElem? (i := 668) (by decide +kernel)⟩
set_option maxHeartbeats 1000000 in
theorem hl_replace {G : xw_G} {F L : Nat} {h : xw_A} {r : Int32} {x d tx w st sv qo so ao s1 s2 s3 s4 : Nat} (e_x : h x = some (.inr (0, [.ref d, .ref tx, .ref w, .ref st, .ref sv, .ref qo, .ref so, .ref ao, .int 0, .int 3, .int 20, .int 0, .int (-1), .int 0]))) (e_st : h st = some (.inr (8, [.ref s1, .ref s2, .ref s3, .ref s4, .int 0, .int 0, .int 0, .int 0, .int 0, .int 0]))) (e_s1 : h s1 = some (.inl (10 + 6, 25, .inr (.inr (.inr (.inr (fun _ => none))))))) {o : Nat} (hF : 7 ≤ F) (hL : 111 ≤ L) :
    xw_MetH G m_Law_replace F L 1 6 [.ref x, .int r, .ref o] h (fun v h' => v = some (.int 1) ∧ FrO [x] h h') := by
  refine xw_MetH.of (by decide) (Nat.le_of_ble_eq_true rfl) ?_
  refine s_Law_replace_0 ?_
  refine x_callVX (As := [.int r]) (b := x) (rest := [.int 0, .ref o]) (F1 := 6) (L1 := 90) (mc := 1) (ms := 6) d_Law_replace_4 cV_Law_25 (fc_replace e_x e_st e_s1 (by omega) (by omega)) e_x ⟨by decide, rfl⟩ ⟨by omega, by show 8 + (2 + 11) + 90 ≤ _; omega⟩ ⟨by omega, by omega⟩ (Nat.le_of_ble_eq_true rfl) (fun E h1 p => ?_) (fun v h1 p => p.elim)
  obtain ⟨rfl, fr⟩ := p
  exact ⟨12, xc_replace, fun q => x_le (xw_le_n (xw_le_n (xw_le_n (xw_le_n xw_le_e)))) (s_Law_replace_12 ⟨rfl, fr⟩)⟩
theorem xc_delete : xw_catch m_Law_delete 4 "java/util/NoSuchElementException" 12 := ⟨[], _, _, rfl, (fun z hz => nomatch hz), by decide, by decide, rfl, xw_in3 94 rfl rfl, List.mem_of_getElem? (i := 668) (by decide +kernel)⟩
set_option maxHeartbeats 1000000 in
theorem hl_delete {G : xw_G} {F L : Nat} {h : xw_A} {r : Int32} {x d tx w st sv qo so ao s1 s2 s3 s4 : Nat} (e_x : h x = some (.inr (0, [.ref d, .ref tx, .ref w, .ref st, .ref sv, .ref qo, .ref so, .ref ao, .int 0, .int 3, .int 20, .int 0, .int (-1), .int 0]))) (e_st : h st = some (.inr (8, [.ref s1, .ref s2, .ref s3, .ref s4, .int 0, .int 0, .int 0, .int 0, .int 0, .int 0]))) (e_s1 : h s1 = some (.inl (10 + 6, 25, .inr (.inr (.inr (.inr (fun _ => none))))))) {o : Nat} (hF : 7 ≤ F) (hL : 112 ≤ L) :
    xw_MetH G m_Law_delete F L 1 6 [.ref x, .int r, .ref o] h (fun v h' => v = some (.int 1) ∧ FrO [x] h h') := by
  refine xw_MetH.of (by decide) (Nat.le_of_ble_eq_true rfl) ?_
  refine s_Law_delete_0 ?_
  refine x_callVX (As := [.int r]) (b := x) (rest := [.int 0, .ref o]) (F1 := 6) (L1 := 90) (mc := 1) (ms := 6) d_Law_delete_4 cV_Law_30 (fc_delete e_x e_st e_s1 (by omega) (by omega)) e_x ⟨by decide, rfl⟩ ⟨by omega, by show 8 + (3 + 11) + 90 ≤ _; omega⟩ ⟨by omega, by omega⟩ (Nat.le_of_ble_eq_true rfl) (fun E h1 p => ?_) (fun v h1 p => p.elim)
  obtain ⟨rfl, fr⟩ := p
  exact ⟨12, xc_delete, fun q => x_le (xw_le_n (xw_le_n (xw_le_n (xw_le_n xw_le_e)))) (s_Law_delete_12 ⟨rfl, fr⟩)⟩
set_option maxHeartbeats 1000000 in
theorem hl_begin {G : xw_G} {F L : Nat} {h : xw_A} {x d tx w st sv qo so ao v1 v2 v3 v4 s1 s2 s3 s4 : Nat} (e_x : h x = some (.inr (0, [.ref d, .ref tx, .ref w, .ref st, .ref sv, .ref qo, .ref so, .ref ao, .int 0, .int 3, .int 20, .int 0, .int (-1), .int 0]))) (e_sv : h sv = some (.inr (8, [.ref v1, .ref v2, .ref v3, .ref v4, .int 0, .int 0, .int 0, .int 0, .int 0, .int 0]))) (e_v1 : h v1 = some (.inl (10 + 6, 25, .inr (.inr (.inr (.inr (fun _ => none))))))) (e_st : h st = some (.inr (8, [.ref s1, .ref s2, .ref s3, .ref s4, .int 0, .int 0, .int 0, .int 0, .int 0, .int 0]))) (e_s1 : h s1 = some (.inl (10 + 6, 25, .inr (.inr (.inr (.inr (fun _ => none))))))) (n_sv_st : sv ≠ st) (n_v1_s1 : v1 ≠ s1)  (hF : 3 ≤ F) (hL : 62 ≤ L) :
    xw_MetH G m_Law_begin F L 0 0 [.ref x] h (fun v h' => v = some (.int 0) ∧ FrO [x, sv, v1] h h') := by
  refine xw_MetH.of (by decide) (Nat.le_of_ble_eq_true rfl) ?_
  refine s_Law_begin_0 ?_
  refine x_callVX (As := []) (b := x) (rest := []) (F1 := 2) (L1 := 42) (mc := 0) (ms := 0) d_Law_begin_1 cV_Law_33 (fc_begin e_x e_sv e_v1 e_st e_s1 n_sv_st n_v1_s1 (by omega) (by omega)) e_x ⟨by decide, rfl⟩ ⟨by omega, by show 8 + (1 + 11) + 42 ≤ _; omega⟩ ⟨by omega, by omega⟩ (Nat.le_of_ble_eq_true rfl) (fun E h1 p => p.elim) (fun v h1 p => ?_)
  obtain ⟨rfl, fr⟩ := p
  refine x_le (xw_le_n (xw_le_n xw_le_e)) ?_
  refine s_Law_begin_4 ?_
  exact s_Law_begin_10 ⟨rfl, fr⟩
theorem xc_commit : xw_catch m_Law_commit 3 "java/lang/IllegalStateException" 11 := ⟨[], _, _, rfl, (fun z hz => nomatch hz), by decide, by decide, rfl, xw_in3 137 rfl rfl, List.mem_of_getElem? (i := 707) (by decide +kernel)⟩
set_option maxHeartbeats 1000000 in
theorem hl_commit {G : xw_G} {F L : Nat} {h : xw_A} {x d tx w st sv qo so ao : Nat} (e_x : h x = some (.inr (0, [.ref d, .ref tx, .ref w, .ref st, .ref sv, .ref qo, .ref so, .ref ao, .int 0, .int 3, .int 20, .int 0, .int (-1), .int 0]))) {o : Nat} (hF : 7 ≤ F) (hL : 110 ≤ L) :
    xw_MetH G m_Law_commit F L 1 6 [.ref x, .ref o] h (fun v h' => v = some (.int 1) ∧ FrO [x] h h') := by
  refine xw_MetH.of (by decide) (Nat.le_of_ble_eq_true rfl) ?_
  refine s_Law_commit_0 ?_
  refine x_callVX (As := []) (b := x) (rest := [.int 0, .ref o]) (F1 := 6) (L1 := 90) (mc := 1) (ms := 6) d_Law_commit_3 cV_Law_38 (fc_commit e_x (by omega) (by omega)) e_x ⟨by decide, rfl⟩ ⟨by omega, by show 8 + (1 + 11) + 90 ≤ _; omega⟩ ⟨by omega, by omega⟩ (Nat.le_of_ble_eq_true rfl) (fun E h1 p => ?_) (fun v h1 p => p.elim)
  obtain ⟨rfl, fr⟩ := p
  exact ⟨11, xc_commit, fun q => x_le (xw_le_n (xw_le_n (xw_le_n xw_le_e))) (s_Law_commit_11 ⟨rfl, fr⟩)⟩
theorem xc_rollback : xw_catch m_Law_rollback 3 "java/lang/IllegalStateException" 11 := ⟨[], _, _, rfl, (fun z hz => nomatch hz), by decide, by decide, rfl, xw_in3 137 rfl rfl, List.mem_of_getElem? (i := 707) (by decide +kernel)⟩
set_option maxHeartbeats 1000000 in
theorem hl_rollback {G : xw_G} {F L : Nat} {h : xw_A} {x d tx w st sv qo so ao : Nat} (e_x : h x = some (.inr (0, [.ref d, .ref tx, .ref w, .ref st, .ref sv, .ref qo, .ref so, .ref ao, .int 0, .int 3, .int 20, .int 0, .int (-1), .int 0]))) {o : Nat} (hF : 7 ≤ F) (hL : 110 ≤ L) :
    xw_MetH G m_Law_rollback F L 1 6 [.ref x, .ref o] h (fun v h' => v = some (.int 1) ∧ FrO [x] h h') := by
  refine xw_MetH.of (by decide) (Nat.le_of_ble_eq_true rfl) ?_
  refine s_Law_rollback_0 ?_
  refine x_callVX (As := []) (b := x) (rest := [.int 0, .ref o]) (F1 := 6) (L1 := 90) (mc := 1) (ms := 6) d_Law_rollback_3 cV_Law_41 (fc_rollback e_x (by omega) (by omega)) e_x ⟨by decide, rfl⟩ ⟨by omega, by show 8 + (1 + 11) + 90 ≤ _; omega⟩ ⟨by omega, by omega⟩ (Nat.le_of_ble_eq_true rfl) (fun E h1 p => ?_) (fun v h1 p => p.elim)
  obtain ⟨rfl, fr⟩ := p
  exact ⟨11, xc_rollback, fun q => x_le (xw_le_n (xw_le_n (xw_le_n xw_le_e))) (s_Law_rollback_11 ⟨rfl, fr⟩)⟩
theorem xc_ways : xw_catch m_Law_ways 3 "java/lang/IllegalArgumentException" 9 := ⟨[], _, _, rfl, (fun z hz => nomatch hz), by decide, by decide, rfl, xw_in2 148 rfl rfl, List.mem_of_getElem? (i := 485) (by decide +kernel)⟩
set_option maxHeartbeats 1000000 in
theorem hl_ways_no {G : xw_G} {F L : Nat} {h : xw_A} {a b : Int32} {x d tx w st sv qo so ao : Nat} (e_x : h x = some (.inr (0, [.ref d, .ref tx, .ref w, .ref st, .ref sv, .ref qo, .ref so, .ref ao, .int 0, .int 3, .int 20, .int 0, .int (-1), .int 0]))) (hn : a < 1 ∨ 9 < a ∨ b < 0 ∨ 200 < b)  (hF : 7 ≤ F) (hL : 112 ≤ L) :
    xw_MetH G m_Law_ways F L 1 6 [.ref x, .int a, .int b] h (fun v h' => v = some (.int 1) ∧ FrO [x] h h') := by
  refine xw_MetH.of (by decide) (Nat.le_of_ble_eq_true rfl) ?_
  refine s_Law_ways_0 ?_
  refine x_callVX (As := [.int a, .int b]) (b := x) (rest := []) (F1 := 6) (L1 := 90) (mc := 1) (ms := 6) d_Law_ways_3 cV_Law_44 (fc_ways_no e_x hn (by omega) (by omega)) e_x ⟨by decide, rfl⟩ ⟨by omega, by show 8 + (3 + 11) + 90 ≤ _; omega⟩ ⟨by omega, by omega⟩ (Nat.le_of_ble_eq_true rfl) (fun E h1 p => ?_) (fun v h1 p => p.elim)
  obtain ⟨rfl, fr⟩ := p
  exact ⟨9, xc_ways, fun q => x_le (xw_le_n (xw_le_n (xw_le_n (xw_le_n xw_le_e)))) (s_Law_ways_9 ⟨rfl, fr⟩)⟩
set_option maxHeartbeats 1000000 in
theorem hl_ways_yes {G : xw_G} {F L : Nat} {h : xw_A} {a b : Int32} {x d tx w st sv qo so ao : Nat} (e_x : h x = some (.inr (0, [.ref d, .ref tx, .ref w, .ref st, .ref sv, .ref qo, .ref so, .ref ao, .int 0, .int 3, .int 20, .int 0, .int (-1), .int 0]))) (h1 : ¬ a < 1) (h2 : ¬ 9 < a) (h3 : ¬ b < 0) (h4 : ¬ 200 < b)  (hF : 2 ≤ F) (hL : 42 ≤ L) :
    xw_MetH G m_Law_ways F L 0 0 [.ref x, .int a, .int b] h (fun v h' => v = some (.int 0) ∧ FrO [x] h h') := by
  refine xw_MetH.of (by decide) (Nat.le_of_ble_eq_true rfl) ?_
  refine s_Law_ways_0 ?_
  refine x_callVX (As := [.int a, .int b]) (b := x) (rest := []) (F1 := 1) (L1 := 20) (mc := 0) (ms := 0) d_Law_ways_3 cV_Law_44 (fc_ways_yes e_x h1 h2 h3 h4 (by omega) (by omega)) e_x ⟨by decide, rfl⟩ ⟨by omega, by show 8 + (3 + 11) + 20 ≤ _; omega⟩ ⟨by omega, by omega⟩ (Nat.le_of_ble_eq_true rfl) (fun E h1 p => p.elim) (fun v h1 p => ?_)
  obtain ⟨rfl, fr⟩ := p
  refine x_le (xw_le_n (xw_le_n (xw_le_n (xw_le_n xw_le_e)))) ?_
  refine s_Law_ways_6 ?_
  exact s_Law_ways_12 ⟨rfl, fr⟩
theorem xc_weight : xw_catch m_Law_weight 5 "java/lang/IllegalArgumentException" 13 := ⟨[], _, _, rfl, (fun z hz => nomatch hz), by decide, by decide, rfl, xw_in2 148 rfl rfl, List.mem_of_getElem? (i := 485) (by decide +kernel)⟩
set_option maxHeartbeats 1000000 in
theorem hl_weight_no1 {G : xw_G} {F L : Nat} {h : xw_A} {a b : Int32} {x d tx w st sv qo so ao : Nat} (e_x : h x = some (.inr (0, [.ref d, .ref tx, .ref w, .ref st, .ref sv, .ref qo, .ref so, .ref ao, .int 0, .int 3, .int 20, .int 0, .int (-1), .int 0]))) (hn : a < 0 ∨ 1 < a) {o : Nat} (hF : 7 ≤ F) (hL : 113 ≤ L) :
    xw_MetH G m_Law_weight F L 1 6 [.ref x, .int a, .int b, .ref o] h (fun v h' => v = some (.int 1) ∧ FrO [x] h h') := by
  refine xw_MetH.of (by decide) (Nat.le_of_ble_eq_true rfl) ?_
  refine s_Law_weight_0 ?_
  refine x_callVX (As := [.int a, .int b]) (b := x) (rest := [.int 0, .ref o]) (F1 := 6) (L1 := 90) (mc := 1) (ms := 6) d_Law_weight_5 cV_Law_48 (fc_weight_no1 e_x hn (by omega) (by omega)) e_x ⟨by decide, rfl⟩ ⟨by omega, by show 8 + (4 + 11) + 90 ≤ _; omega⟩ ⟨by omega, by omega⟩ (Nat.le_of_ble_eq_true rfl) (fun E h1 p => ?_) (fun v h1 p => p.elim)
  obtain ⟨rfl, fr⟩ := p
  exact ⟨13, xc_weight, fun q => x_le (xw_le_n (xw_le_n (xw_le_n (xw_le_n (xw_le_n xw_le_e))))) (s_Law_weight_13 ⟨rfl, fr⟩)⟩
set_option maxHeartbeats 1000000 in
theorem hl_weight_no2_0 {G : xw_G} {F L : Nat} {h : xw_A} {b : Int32} {x d tx w st sv qo so ao : Nat} (e_x : h x = some (.inr (0, [.ref d, .ref tx, .ref w, .ref st, .ref sv, .ref qo, .ref so, .ref ao, .int 0, .int 3, .int 20, .int 0, .int (-1), .int 0]))) (hn : b < 0 ∨ 9 < b) {o : Nat} (hF : 7 ≤ F) (hL : 113 ≤ L) :
    xw_MetH G m_Law_weight F L 1 6 [.ref x, .int 0, .int b, .ref o] h (fun v h' => v = some (.int 1) ∧ FrO [x] h h') := by
  refine xw_MetH.of (by decide) (Nat.le_of_ble_eq_true rfl) ?_
  refine s_Law_weight_0 ?_
  refine x_callVX (As := [.int 0, .int b]) (b := x) (rest := [.int 0, .ref o]) (F1 := 6) (L1 := 90) (mc := 1) (ms := 6) d_Law_weight_5 cV_Law_48 (fc_weight_no2_0 e_x hn (by omega) (by omega)) e_x ⟨by decide, rfl⟩ ⟨by omega, by show 8 + (4 + 11) + 90 ≤ _; omega⟩ ⟨by omega, by omega⟩ (Nat.le_of_ble_eq_true rfl) (fun E h1 p => ?_) (fun v h1 p => p.elim)
  obtain ⟨rfl, fr⟩ := p
  exact ⟨13, xc_weight, fun q => x_le (xw_le_n (xw_le_n (xw_le_n (xw_le_n (xw_le_n xw_le_e))))) (s_Law_weight_13 ⟨rfl, fr⟩)⟩
set_option maxHeartbeats 1000000 in
theorem hl_weight_0 {G : xw_G} {F L : Nat} {h : xw_A} {b : Int32} {x d tx w st sv qo so ao : Nat} {wf : Nat → Int32} (e_x : h x = some (.inr (0, [.ref d, .ref tx, .ref w, .ref st, .ref sv, .ref qo, .ref so, .ref ao, .int 0, .int 3, .int 20, .int 0, .int (-1), .int 0]))) (e_w : h w = some (.inl (0, 2, .inl wf))) (h3 : ¬ b < 0) (h4 : ¬ 9 < b) {o : Nat} {fo : Nat → Int64} (eo : h o = some (.inl (2, 1, .inr (.inl fo)))) (no : o ∉ [x, w]) (hF : 3 ≤ F) (hL : 63 ≤ L) :
    xw_MetH G m_Law_weight F L 0 0 [.ref x, .int 0, .int b, .ref o] h (fun v h' => v = some (.int 0) ∧ FrO [o, x, w] h h' ∧ ∃ f : Nat → Int64, f 0 = (wf 0 : Int32).toInt64 ∧ h' o = some (.inl (2, 1, .inr (.inl f)))) := by
  refine xw_MetH.of (by decide) (Nat.le_of_ble_eq_true rfl) ?_
  refine s_Law_weight_0 ?_
  refine x_callVX (As := [.int 0, .int b]) (b := x) (rest := [.int 0, .ref o]) (F1 := 2) (L1 := 40) (mc := 0) (ms := 0) d_Law_weight_5 cV_Law_48 (fc_weight_0 e_x e_w h3 h4 (by omega) (by omega)) e_x ⟨by decide, rfl⟩ ⟨by omega, by show 8 + (4 + 11) + 40 ≤ _; omega⟩ ⟨by omega, by omega⟩ (Nat.le_of_ble_eq_true rfl) (fun E h1 p => p.elim) (fun v h1 p => ?_)
  obtain ⟨rfl, fr⟩ := p
  have eo1 := fr o _ no eo
  refine x_le (xw_le_n (xw_le_n (xw_le_n (xw_le_n (xw_le_n xw_le_e))))) ?_
  refine s_Law_weight_8 eo1 (by unfold vp_in; decide) ?_
  exact s_Law_weight_17 ⟨rfl, (fr.mono (fun a ha => List.mem_cons_of_mem _ ha)).up (List.mem_cons_self) (fun q hq => xw_up_n _ _ hq), _, pk_uLs, xw_up_s _ _ _⟩
set_option maxHeartbeats 1000000 in
theorem hl_weight_no2_1 {G : xw_G} {F L : Nat} {h : xw_A} {b : Int32} {x d tx w st sv qo so ao : Nat} (e_x : h x = some (.inr (0, [.ref d, .ref tx, .ref w, .ref st, .ref sv, .ref qo, .ref so, .ref ao, .int 0, .int 3, .int 20, .int 0, .int (-1), .int 0]))) (hn : b < 0 ∨ 9 < b) {o : Nat} (hF : 7 ≤ F) (hL : 113 ≤ L) :
    xw_MetH G m_Law_weight F L 1 6 [.ref x, .int 1, .int b, .ref o] h (fun v h' => v = some (.int 1) ∧ FrO [x] h h') := by
  refine xw_MetH.of (by decide) (Nat.le_of_ble_eq_true rfl) ?_
  refine s_Law_weight_0 ?_
  refine x_callVX (As := [.int 1, .int b]) (b := x) (rest := [.int 0, .ref o]) (F1 := 6) (L1 := 90) (mc := 1) (ms := 6) d_Law_weight_5 cV_Law_48 (fc_weight_no2_1 e_x hn (by omega) (by omega)) e_x ⟨by decide, rfl⟩ ⟨by omega, by show 8 + (4 + 11) + 90 ≤ _; omega⟩ ⟨by omega, by omega⟩ (Nat.le_of_ble_eq_true rfl) (fun E h1 p => ?_) (fun v h1 p => p.elim)
  obtain ⟨rfl, fr⟩ := p
  exact ⟨13, xc_weight, fun q => x_le (xw_le_n (xw_le_n (xw_le_n (xw_le_n (xw_le_n xw_le_e))))) (s_Law_weight_13 ⟨rfl, fr⟩)⟩
set_option maxHeartbeats 1000000 in
theorem hl_weight_1 {G : xw_G} {F L : Nat} {h : xw_A} {b : Int32} {x d tx w st sv qo so ao : Nat} {wf : Nat → Int32} (e_x : h x = some (.inr (0, [.ref d, .ref tx, .ref w, .ref st, .ref sv, .ref qo, .ref so, .ref ao, .int 0, .int 3, .int 20, .int 0, .int (-1), .int 0]))) (e_w : h w = some (.inl (0, 2, .inl wf))) (h3 : ¬ b < 0) (h4 : ¬ 9 < b) {o : Nat} {fo : Nat → Int64} (eo : h o = some (.inl (2, 1, .inr (.inl fo)))) (no : o ∉ [x, w]) (hF : 3 ≤ F) (hL : 63 ≤ L) :
    xw_MetH G m_Law_weight F L 0 0 [.ref x, .int 1, .int b, .ref o] h (fun v h' => v = some (.int 0) ∧ FrO [o, x, w] h h' ∧ ∃ f : Nat → Int64, f 0 = (wf 1 : Int32).toInt64 ∧ h' o = some (.inl (2, 1, .inr (.inl f)))) := by
  refine xw_MetH.of (by decide) (Nat.le_of_ble_eq_true rfl) ?_
  refine s_Law_weight_0 ?_
  refine x_callVX (As := [.int 1, .int b]) (b := x) (rest := [.int 0, .ref o]) (F1 := 2) (L1 := 40) (mc := 0) (ms := 0) d_Law_weight_5 cV_Law_48 (fc_weight_1 e_x e_w h3 h4 (by omega) (by omega)) e_x ⟨by decide, rfl⟩ ⟨by omega, by show 8 + (4 + 11) + 40 ≤ _; omega⟩ ⟨by omega, by omega⟩ (Nat.le_of_ble_eq_true rfl) (fun E h1 p => p.elim) (fun v h1 p => ?_)
  obtain ⟨rfl, fr⟩ := p
  have eo1 := fr o _ no eo
  refine x_le (xw_le_n (xw_le_n (xw_le_n (xw_le_n (xw_le_n xw_le_e))))) ?_
  refine s_Law_weight_8 eo1 (by unfold vp_in; decide) ?_
  exact s_Law_weight_17 ⟨rfl, (fr.mono (fun a ha => List.mem_cons_of_mem _ ha)).up (List.mem_cons_self) (fun q hq => xw_up_n _ _ hq), _, pk_uLs, xw_up_s _ _ _⟩
theorem xc_ask : xw_catch m_Law_ask 3 "java/lang/IllegalArgumentException" 11 := ⟨[], _, _, rfl, (fun z hz => nomatch hz), by decide, by decide, rfl, xw_in2 148 rfl rfl, List.mem_of_getElem? (i := 485) (by decide +kernel)⟩
set_option maxHeartbeats 1000000 in
theorem hl_ask {G : xw_G} {F L : Nat} {h : xw_A} {x d tx w st sv qo so ao t pa na po k1 k2 k3 tl ts : Nat} (e_x : h x = some (.inr (0, [.ref d, .ref tx, .ref w, .ref st, .ref sv, .ref qo, .ref so, .ref ao, .int 0, .int 3, .int 20, .int 0, .int (-1), .int 0]))) (e_qo : h qo = some (.inr (5, [.ref t, .ref pa, .ref na, .int 0, .int 0, .int 0, .ref po, .null, .int 0]))) (e_po : h po = some (.inr (3, [.ref k1, .ref k2, .ref k3, .null, .int 0]))) (e_k1 : h k1 = some (.inl (0, 97, .inl (fun _ => 0)))) (e_k2 : h k2 = some (.inl (0, 97, .inl (fun _ => 0)))) (e_k3 : h k3 = some (.inl (0, 97, .inl (fun _ => 0)))) (e_t : h t = some (.inr (9, [.ref tl, .ref ts, .int 0]))) (n_k1_k2 : k1 ≠ k2) (n_k1_k3 : k1 ≠ k3) (n_k2_k3 : k2 ≠ k3) {o : Nat} (hF : 17 ≤ F) (hL : 389 ≤ L) :
    xw_MetH G m_Law_ask F L 1 6 [.ref x, .ref o] h (fun v h' => v = some (.int 1) ∧ FrO [x, qo, po, k1, k2, k3, t] h h') := by
  refine xw_MetH.of (by decide) (Nat.le_of_ble_eq_true rfl) ?_
  refine s_Law_ask_0 ?_
  refine x_callVX (As := []) (b := x) (rest := [.int 0, .ref o]) (F1 := 16) (L1 := 367) (mc := 1) (ms := 6) d_Law_ask_3 cV_Law_52 (fc_ask e_x e_qo e_po e_k1 e_k2 e_k3 e_t n_k1_k2 n_k1_k3 n_k2_k3 (by omega) (by omega)) e_x ⟨by decide, rfl⟩ ⟨by omega, by show 8 + (3 + 11) + 367 ≤ _; omega⟩ ⟨by omega, by omega⟩ (Nat.le_of_ble_eq_true rfl) (fun E h1 p => ?_) (fun v h1 p => p.elim)
  obtain ⟨rfl, fr⟩ := p
  exact ⟨11, xc_ask, fun q => x_le (xw_le_n (xw_le_n (xw_le_n xw_le_e))) (s_Law_ask_11 ⟨rfl, fr⟩)⟩
theorem xc_answer : xw_catch m_Law_answer 5 "java/lang/IndexOutOfBoundsException" 13 := ⟨[], _, _, rfl, (fun z hz => nomatch hz), by decide, by decide, rfl, xw_in2 149 rfl rfl, List.mem_of_getElem? (i := 554) (by decide +kernel)⟩
set_option maxHeartbeats 1000000 in
theorem hl_answer {G : xw_G} {F L : Nat} {h : xw_A} {k b : Int32} {x d tx w st sv qo so ao o1 o2 o3 o4 : Nat} (e_x : h x = some (.inr (0, [.ref d, .ref tx, .ref w, .ref st, .ref sv, .ref qo, .ref so, .ref ao, .int 0, .int 3, .int 20, .int 0, .int (-1), .int 0]))) (e_ao : h ao = some (.inr (1, [.ref o1, .ref o2, .int 0, .ref o3, .ref o4]))) {o : Nat} (hF : 7 ≤ F) (hL : 112 ≤ L) :
    xw_MetH G m_Law_answer F L 1 6 [.ref x, .int k, .int b, .ref o] h (fun v h' => v = some (.int 1) ∧ FrO [x] h h') := by
  refine xw_MetH.of (by decide) (Nat.le_of_ble_eq_true rfl) ?_
  refine s_Law_answer_0 ?_
  refine x_callVX (As := [.int k, .int b]) (b := x) (rest := [.int 0, .ref o]) (F1 := 6) (L1 := 90) (mc := 1) (ms := 6) d_Law_answer_5 cV_Law_55 (fc_answer e_x e_ao (by omega) (by omega)) e_x ⟨by decide, rfl⟩ ⟨by omega, by show 8 + (3 + 11) + 90 ≤ _; omega⟩ ⟨by omega, by omega⟩ (Nat.le_of_ble_eq_true rfl) (fun E h1 p => ?_) (fun v h1 p => p.elim)
  obtain ⟨rfl, fr⟩ := p
  exact ⟨13, xc_answer, fun q => x_le (xw_le_n (xw_le_n (xw_le_n (xw_le_n (xw_le_n xw_le_e))))) (s_Law_answer_13 ⟨rfl, fr⟩)⟩
theorem xc_score : xw_catch m_Law_score 5 "java/lang/IndexOutOfBoundsException" 12 := ⟨[], _, _, rfl, (fun z hz => nomatch hz), by decide, by decide, rfl, xw_in2 149 rfl rfl, List.mem_of_getElem? (i := 554) (by decide +kernel)⟩
set_option maxHeartbeats 1000000 in
theorem hl_score {G : xw_G} {F L : Nat} {h : xw_A} {k b : Int32} {x d tx w st sv qo so ao o1 o2 o3 o4 : Nat} (e_x : h x = some (.inr (0, [.ref d, .ref tx, .ref w, .ref st, .ref sv, .ref qo, .ref so, .ref ao, .int 0, .int 3, .int 20, .int 0, .int (-1), .int 0]))) (e_ao : h ao = some (.inr (1, [.ref o1, .ref o2, .int 0, .ref o3, .ref o4]))) {od : Nat} (hF : 7 ≤ F) (hL : 112 ≤ L) :
    xw_MetH G m_Law_score F L 1 6 [.ref x, .int k, .int b, .ref od] h (fun v h' => v = some (.int 1) ∧ FrO [x] h h') := by
  refine xw_MetH.of (by decide) (Nat.le_of_ble_eq_true rfl) ?_
  refine s_Law_score_0 ?_
  refine x_callVX (As := [.int k, .int b]) (b := x) (rest := [.int 0, .ref od]) (F1 := 6) (L1 := 90) (mc := 1) (ms := 6) d_Law_score_5 cV_Law_59 (fc_score e_x e_ao (by omega) (by omega)) e_x ⟨by decide, rfl⟩ ⟨by omega, by show 8 + (3 + 11) + 90 ≤ _; omega⟩ ⟨by omega, by omega⟩ (Nat.le_of_ble_eq_true rfl) (fun E h1 p => ?_) (fun v h1 p => p.elim)
  obtain ⟨rfl, fr⟩ := p
  exact ⟨12, xc_score, fun q => x_le (xw_le_n (xw_le_n (xw_le_n (xw_le_n (xw_le_n xw_le_e))))) (s_Law_score_12 ⟨rfl, fr⟩)⟩
theorem xc_look : xw_catch m_Law_look 5 "java/util/NoSuchElementException" 13 := ⟨[], _, _, rfl, (fun z hz => nomatch hz), by decide, by decide, rfl, xw_in3 94 rfl rfl, List.mem_of_getElem? (i := 668) (by decide +kernel)⟩
set_option maxHeartbeats 1000000 in
theorem hl_look {G : xw_G} {F L : Nat} {h : xw_A} {r y : Int32} {x d tx w st sv qo so ao s1 s2 s3 s4 : Nat} (e_x : h x = some (.inr (0, [.ref d, .ref tx, .ref w, .ref st, .ref sv, .ref qo, .ref so, .ref ao, .int 0, .int 3, .int 20, .int 0, .int (-1), .int 0]))) (e_st : h st = some (.inr (8, [.ref s1, .ref s2, .ref s3, .ref s4, .int 0, .int 0, .int 0, .int 0, .int 0, .int 0]))) (e_s1 : h s1 = some (.inl (10 + 6, 25, .inr (.inr (.inr (.inr (fun _ => none))))))) {o : Nat} (hF : 7 ≤ F) (hL : 113 ≤ L) :
    xw_MetH G m_Law_look F L 1 6 [.ref x, .int r, .int y, .ref o] h (fun v h' => v = some (.int 1) ∧ FrO [x] h h') := by
  refine xw_MetH.of (by decide) (Nat.le_of_ble_eq_true rfl) ?_
  refine s_Law_look_0 ?_
  refine x_callVX (As := [.int r, .int y]) (b := x) (rest := [.int 0, .ref o]) (F1 := 6) (L1 := 90) (mc := 1) (ms := 6) d_Law_look_5 cV_Law_63 (fc_look e_x e_st e_s1 (by omega) (by omega)) e_x ⟨by decide, rfl⟩ ⟨by omega, by show 8 + (4 + 11) + 90 ≤ _; omega⟩ ⟨by omega, by omega⟩ (Nat.le_of_ble_eq_true rfl) (fun E h1 p => ?_) (fun v h1 p => p.elim)
  obtain ⟨rfl, fr⟩ := p
  exact ⟨13, xc_look, fun q => x_le (xw_le_n (xw_le_n (xw_le_n (xw_le_n (xw_le_n xw_le_e))))) (s_Law_look_13 ⟨rfl, fr⟩)⟩
theorem xc_segment : xw_catch m_Law_segment 5 "java/lang/IndexOutOfBoundsException" 13 := ⟨[], _, _, rfl, (fun z hz => nomatch hz), by decide, by decide, rfl, xw_in2 149 rfl rfl, List.mem_of_getElem? (i := 554) (by decide +kernel)⟩
set_option maxHeartbeats 1000000 in
theorem hl_segment {G : xw_G} {F L : Nat} {h : xw_A} {k b : Int32} {x d tx w st sv qo so ao s1 s2 s3 s4 : Nat} (e_x : h x = some (.inr (0, [.ref d, .ref tx, .ref w, .ref st, .ref sv, .ref qo, .ref so, .ref ao, .int 0, .int 3, .int 20, .int 0, .int (-1), .int 0]))) (e_st : h st = some (.inr (8, [.ref s1, .ref s2, .ref s3, .ref s4, .int 0, .int 0, .int 0, .int 0, .int 0, .int 0]))) {o : Nat} (hF : 7 ≤ F) (hL : 113 ≤ L) :
    xw_MetH G m_Law_segment F L 1 6 [.ref x, .int k, .int b, .ref o] h (fun v h' => v = some (.int 1) ∧ FrO [x] h h') := by
  refine xw_MetH.of (by decide) (Nat.le_of_ble_eq_true rfl) ?_
  refine s_Law_segment_0 ?_
  refine x_callVX (As := [.int k, .int b]) (b := x) (rest := [.int 0, .ref o]) (F1 := 6) (L1 := 90) (mc := 1) (ms := 6) d_Law_segment_5 cV_Law_66 (fc_segment e_x e_st (by omega) (by omega)) e_x ⟨by decide, rfl⟩ ⟨by omega, by show 8 + (4 + 11) + 90 ≤ _; omega⟩ ⟨by omega, by omega⟩ (Nat.le_of_ble_eq_true rfl) (fun E h1 p => ?_) (fun v h1 p => p.elim)
  obtain ⟨rfl, fr⟩ := p
  exact ⟨13, xc_segment, fun q => x_le (xw_le_n (xw_le_n (xw_le_n (xw_le_n (xw_le_n xw_le_e))))) (s_Law_segment_13 ⟨rfl, fr⟩)⟩
set_option maxHeartbeats 1000000 in
theorem hl_count_0 {G : xw_G} {F L : Nat} {h : xw_A} {x d tx w st sv qo so ao s1 s2 s3 s4 : Nat} (e_x : h x = some (.inr (0, [.ref d, .ref tx, .ref w, .ref st, .ref sv, .ref qo, .ref so, .ref ao, .int 0, .int 3, .int 20, .int 0, .int (-1), .int 0]))) (e_st : h st = some (.inr (8, [.ref s1, .ref s2, .ref s3, .ref s4, .int 0, .int 0, .int 0, .int 0, .int 0, .int 0]))) (e_s1 : h s1 = some (.inl (10 + 6, 25, .inr (.inr (.inr (.inr (fun _ => none))))))) {o : Nat} {fo : Nat → Int64} (eo : h o = some (.inl (2, 1, .inr (.inl fo)))) (no : o ∉ []) (hF : 3 ≤ F) (hL : 63 ≤ L) :
    xw_MetH G m_Law_count F L 0 0 [.ref x, .int 0, .ref o] h (fun v h' => v = some (.int 0) ∧ FrO [o] h h' ∧ ∃ f : Nat → Int64, f 0 = (0 : Int32).toInt64 ∧ h' o = some (.inl (2, 1, .inr (.inl f)))) := by
  refine xw_MetH.of (by decide) (Nat.le_of_ble_eq_true rfl) ?_
  refine s_Law_count_0 ?_
  refine x_callVX (As := [.int 0]) (b := x) (rest := [.int 0, .ref o]) (F1 := 2) (L1 := 42) (mc := 0) (ms := 0) d_Law_count_4 cV_Law_69 (fc_count_0 e_x e_st e_s1 (by omega) (by omega)) e_x ⟨by decide, rfl⟩ ⟨by omega, by show 8 + (2 + 11) + 42 ≤ _; omega⟩ ⟨by omega, by omega⟩ (Nat.le_of_ble_eq_true rfl) (fun E h1 p => p.elim) (fun v h1 p => ?_)
  obtain ⟨rfl, fr⟩ := p
  have eo1 := fr o _ no eo
  refine x_le (xw_le_n (xw_le_n (xw_le_n (xw_le_n xw_le_e)))) ?_
  refine s_Law_count_7 eo1 (by unfold vp_in; decide) ?_
  exact s_Law_count_15 ⟨rfl, (fr.mono (fun a ha => List.mem_cons_of_mem _ ha)).up (List.mem_cons_self) (fun q hq => xw_up_n _ _ hq), _, pk_uLs, xw_up_s _ _ _⟩
set_option maxHeartbeats 1000000 in
theorem hl_count_1 {G : xw_G} {F L : Nat} {h : xw_A} {x d tx w st sv qo so ao s1 s2 s3 s4 : Nat} (e_x : h x = some (.inr (0, [.ref d, .ref tx, .ref w, .ref st, .ref sv, .ref qo, .ref so, .ref ao, .int 0, .int 3, .int 20, .int 0, .int (-1), .int 0]))) (e_st : h st = some (.inr (8, [.ref s1, .ref s2, .ref s3, .ref s4, .int 0, .int 0, .int 0, .int 0, .int 0, .int 0]))) {o : Nat} {fo : Nat → Int64} (eo : h o = some (.inl (2, 1, .inr (.inl fo)))) (no : o ∉ []) (hF : 2 ≤ F) (hL : 41 ≤ L) :
    xw_MetH G m_Law_count F L 0 0 [.ref x, .int 1, .ref o] h (fun v h' => v = some (.int 0) ∧ FrO [o] h h' ∧ ∃ f : Nat → Int64, f 0 = (0 : Int32).toInt64 ∧ h' o = some (.inl (2, 1, .inr (.inl f)))) := by
  refine xw_MetH.of (by decide) (Nat.le_of_ble_eq_true rfl) ?_
  refine s_Law_count_0 ?_
  refine x_callVX (As := [.int 1]) (b := x) (rest := [.int 0, .ref o]) (F1 := 1) (L1 := 20) (mc := 0) (ms := 0) d_Law_count_4 cV_Law_69 (fc_count_1 e_x e_st (by omega) (by omega)) e_x ⟨by decide, rfl⟩ ⟨by omega, by show 8 + (2 + 11) + 20 ≤ _; omega⟩ ⟨by omega, by omega⟩ (Nat.le_of_ble_eq_true rfl) (fun E h1 p => p.elim) (fun v h1 p => ?_)
  obtain ⟨rfl, fr⟩ := p
  have eo1 := fr o _ no eo
  refine x_le (xw_le_n (xw_le_n (xw_le_n (xw_le_n xw_le_e)))) ?_
  refine s_Law_count_7 eo1 (by unfold vp_in; decide) ?_
  exact s_Law_count_15 ⟨rfl, (fr.mono (fun a ha => List.mem_cons_of_mem _ ha)).up (List.mem_cons_self) (fun q hq => xw_up_n _ _ hq), _, pk_uLs, xw_up_s _ _ _⟩
set_option maxHeartbeats 1000000 in
theorem hl_count_2 {G : xw_G} {F L : Nat} {h : xw_A} {x d tx w st sv qo so ao s1 s2 s3 s4 : Nat} (e_x : h x = some (.inr (0, [.ref d, .ref tx, .ref w, .ref st, .ref sv, .ref qo, .ref so, .ref ao, .int 0, .int 3, .int 20, .int 0, .int (-1), .int 0]))) (e_st : h st = some (.inr (8, [.ref s1, .ref s2, .ref s3, .ref s4, .int 0, .int 0, .int 0, .int 0, .int 0, .int 0]))) {o : Nat} {fo : Nat → Int64} (eo : h o = some (.inl (2, 1, .inr (.inl fo)))) (no : o ∉ []) (hF : 2 ≤ F) (hL : 41 ≤ L) :
    xw_MetH G m_Law_count F L 0 0 [.ref x, .int 2, .ref o] h (fun v h' => v = some (.int 0) ∧ FrO [o] h h' ∧ ∃ f : Nat → Int64, f 0 = (0 : Int32).toInt64 ∧ h' o = some (.inl (2, 1, .inr (.inl f)))) := by
  refine xw_MetH.of (by decide) (Nat.le_of_ble_eq_true rfl) ?_
  refine s_Law_count_0 ?_
  refine x_callVX (As := [.int 2]) (b := x) (rest := [.int 0, .ref o]) (F1 := 1) (L1 := 20) (mc := 0) (ms := 0) d_Law_count_4 cV_Law_69 (fc_count_2 e_x e_st (by omega) (by omega)) e_x ⟨by decide, rfl⟩ ⟨by omega, by show 8 + (2 + 11) + 20 ≤ _; omega⟩ ⟨by omega, by omega⟩ (Nat.le_of_ble_eq_true rfl) (fun E h1 p => p.elim) (fun v h1 p => ?_)
  obtain ⟨rfl, fr⟩ := p
  have eo1 := fr o _ no eo
  refine x_le (xw_le_n (xw_le_n (xw_le_n (xw_le_n xw_le_e)))) ?_
  refine s_Law_count_7 eo1 (by unfold vp_in; decide) ?_
  exact s_Law_count_15 ⟨rfl, (fr.mono (fun a ha => List.mem_cons_of_mem _ ha)).up (List.mem_cons_self) (fun q hq => xw_up_n _ _ hq), _, pk_uLs, xw_up_s _ _ _⟩
set_option maxHeartbeats 1000000 in
theorem hl_count_3 {G : xw_G} {F L : Nat} {h : xw_A} {x d tx w st sv qo so ao s1 s2 s3 s4 : Nat} (e_x : h x = some (.inr (0, [.ref d, .ref tx, .ref w, .ref st, .ref sv, .ref qo, .ref so, .ref ao, .int 0, .int 3, .int 20, .int 0, .int (-1), .int 0]))) (e_st : h st = some (.inr (8, [.ref s1, .ref s2, .ref s3, .ref s4, .int 0, .int 0, .int 0, .int 0, .int 0, .int 0]))) {o : Nat} {fo : Nat → Int64} (eo : h o = some (.inl (2, 1, .inr (.inl fo)))) (no : o ∉ []) (hF : 2 ≤ F) (hL : 41 ≤ L) :
    xw_MetH G m_Law_count F L 0 0 [.ref x, .int 3, .ref o] h (fun v h' => v = some (.int 0) ∧ FrO [o] h h' ∧ ∃ f : Nat → Int64, f 0 = (0 : Int32).toInt64 ∧ h' o = some (.inl (2, 1, .inr (.inl f)))) := by
  refine xw_MetH.of (by decide) (Nat.le_of_ble_eq_true rfl) ?_
  refine s_Law_count_0 ?_
  refine x_callVX (As := [.int 3]) (b := x) (rest := [.int 0, .ref o]) (F1 := 1) (L1 := 20) (mc := 0) (ms := 0) d_Law_count_4 cV_Law_69 (fc_count_3 e_x e_st (by omega) (by omega)) e_x ⟨by decide, rfl⟩ ⟨by omega, by show 8 + (2 + 11) + 20 ≤ _; omega⟩ ⟨by omega, by omega⟩ (Nat.le_of_ble_eq_true rfl) (fun E h1 p => p.elim) (fun v h1 p => ?_)
  obtain ⟨rfl, fr⟩ := p
  have eo1 := fr o _ no eo
  refine x_le (xw_le_n (xw_le_n (xw_le_n (xw_le_n xw_le_e)))) ?_
  refine s_Law_count_7 eo1 (by unfold vp_in; decide) ?_
  exact s_Law_count_15 ⟨rfl, (fr.mono (fun a ha => List.mem_cons_of_mem _ ha)).up (List.mem_cons_self) (fun q hq => xw_up_n _ _ hq), _, pk_uLs, xw_up_s _ _ _⟩
set_option maxHeartbeats 1000000 in
theorem hl_count_4 {G : xw_G} {F L : Nat} {h : xw_A} {x d tx w st sv qo so ao s1 s2 s3 s4 : Nat} (e_x : h x = some (.inr (0, [.ref d, .ref tx, .ref w, .ref st, .ref sv, .ref qo, .ref so, .ref ao, .int 0, .int 3, .int 20, .int 0, .int (-1), .int 0]))) (e_st : h st = some (.inr (8, [.ref s1, .ref s2, .ref s3, .ref s4, .int 0, .int 0, .int 0, .int 0, .int 0, .int 0]))) {o : Nat} {fo : Nat → Int64} (eo : h o = some (.inl (2, 1, .inr (.inl fo)))) (no : o ∉ []) (hF : 2 ≤ F) (hL : 41 ≤ L) :
    xw_MetH G m_Law_count F L 0 0 [.ref x, .int 4, .ref o] h (fun v h' => v = some (.int 0) ∧ FrO [o] h h' ∧ ∃ f : Nat → Int64, f 0 = (0 : Int32).toInt64 ∧ h' o = some (.inl (2, 1, .inr (.inl f)))) := by
  refine xw_MetH.of (by decide) (Nat.le_of_ble_eq_true rfl) ?_
  refine s_Law_count_0 ?_
  refine x_callVX (As := [.int 4]) (b := x) (rest := [.int 0, .ref o]) (F1 := 1) (L1 := 20) (mc := 0) (ms := 0) d_Law_count_4 cV_Law_69 (fc_count_4 e_x e_st (by omega) (by omega)) e_x ⟨by decide, rfl⟩ ⟨by omega, by show 8 + (2 + 11) + 20 ≤ _; omega⟩ ⟨by omega, by omega⟩ (Nat.le_of_ble_eq_true rfl) (fun E h1 p => p.elim) (fun v h1 p => ?_)
  obtain ⟨rfl, fr⟩ := p
  have eo1 := fr o _ no eo
  refine x_le (xw_le_n (xw_le_n (xw_le_n (xw_le_n xw_le_e)))) ?_
  refine s_Law_count_7 eo1 (by unfold vp_in; decide) ?_
  exact s_Law_count_15 ⟨rfl, (fr.mono (fun a ha => List.mem_cons_of_mem _ ha)).up (List.mem_cons_self) (fun q hq => xw_up_n _ _ hq), _, pk_uLs, xw_up_s _ _ _⟩
set_option maxHeartbeats 1000000 in
theorem hl_count_5 {G : xw_G} {F L : Nat} {h : xw_A} {x d tx w st sv qo so ao o1 o2 o3 o4 : Nat} (e_x : h x = some (.inr (0, [.ref d, .ref tx, .ref w, .ref st, .ref sv, .ref qo, .ref so, .ref ao, .int 0, .int 3, .int 20, .int 0, .int (-1), .int 0]))) (e_ao : h ao = some (.inr (1, [.ref o1, .ref o2, .int 0, .ref o3, .ref o4]))) {o : Nat} {fo : Nat → Int64} (eo : h o = some (.inl (2, 1, .inr (.inl fo)))) (no : o ∉ []) (hF : 2 ≤ F) (hL : 41 ≤ L) :
    xw_MetH G m_Law_count F L 0 0 [.ref x, .int 5, .ref o] h (fun v h' => v = some (.int 0) ∧ FrO [o] h h' ∧ ∃ f : Nat → Int64, f 0 = (0 : Int32).toInt64 ∧ h' o = some (.inl (2, 1, .inr (.inl f)))) := by
  refine xw_MetH.of (by decide) (Nat.le_of_ble_eq_true rfl) ?_
  refine s_Law_count_0 ?_
  refine x_callVX (As := [.int 5]) (b := x) (rest := [.int 0, .ref o]) (F1 := 1) (L1 := 20) (mc := 0) (ms := 0) d_Law_count_4 cV_Law_69 (fc_count_5 e_x e_ao (by omega) (by omega)) e_x ⟨by decide, rfl⟩ ⟨by omega, by show 8 + (2 + 11) + 20 ≤ _; omega⟩ ⟨by omega, by omega⟩ (Nat.le_of_ble_eq_true rfl) (fun E h1 p => p.elim) (fun v h1 p => ?_)
  obtain ⟨rfl, fr⟩ := p
  have eo1 := fr o _ no eo
  refine x_le (xw_le_n (xw_le_n (xw_le_n (xw_le_n xw_le_e)))) ?_
  refine s_Law_count_7 eo1 (by unfold vp_in; decide) ?_
  exact s_Law_count_15 ⟨rfl, (fr.mono (fun a ha => List.mem_cons_of_mem _ ha)).up (List.mem_cons_self) (fun q hq => xw_up_n _ _ hq), _, pk_uLs, xw_up_s _ _ _⟩
set_option maxHeartbeats 1000000 in
theorem hl_count_6 {G : xw_G} {F L : Nat} {h : xw_A} {x d tx w st sv qo so ao : Nat} (e_x : h x = some (.inr (0, [.ref d, .ref tx, .ref w, .ref st, .ref sv, .ref qo, .ref so, .ref ao, .int 0, .int 3, .int 20, .int 0, .int (-1), .int 0]))) {o : Nat} {fo : Nat → Int64} (eo : h o = some (.inl (2, 1, .inr (.inl fo)))) (no : o ∉ []) (hF : 2 ≤ F) (hL : 41 ≤ L) :
    xw_MetH G m_Law_count F L 0 0 [.ref x, .int 6, .ref o] h (fun v h' => v = some (.int 0) ∧ FrO [o] h h' ∧ ∃ f : Nat → Int64, f 0 = (0 : Int32).toInt64 ∧ h' o = some (.inl (2, 1, .inr (.inl f)))) := by
  refine xw_MetH.of (by decide) (Nat.le_of_ble_eq_true rfl) ?_
  refine s_Law_count_0 ?_
  refine x_callVX (As := [.int 6]) (b := x) (rest := [.int 0, .ref o]) (F1 := 1) (L1 := 20) (mc := 0) (ms := 0) d_Law_count_4 cV_Law_69 (fc_count_6 e_x (by omega) (by omega)) e_x ⟨by decide, rfl⟩ ⟨by omega, by show 8 + (2 + 11) + 20 ≤ _; omega⟩ ⟨by omega, by omega⟩ (Nat.le_of_ble_eq_true rfl) (fun E h1 p => p.elim) (fun v h1 p => ?_)
  obtain ⟨rfl, fr⟩ := p
  have eo1 := fr o _ no eo
  refine x_le (xw_le_n (xw_le_n (xw_le_n (xw_le_n xw_le_e)))) ?_
  refine s_Law_count_7 eo1 (by unfold vp_in; decide) ?_
  exact s_Law_count_15 ⟨rfl, (fr.mono (fun a ha => List.mem_cons_of_mem _ ha)).up (List.mem_cons_self) (fun q hq => xw_up_n _ _ hq), _, pk_uLs, xw_up_s _ _ _⟩
set_option maxHeartbeats 1000000 in
theorem hl_count_7 {G : xw_G} {F L : Nat} {h : xw_A} {x d tx w st sv qo so ao : Nat} (e_x : h x = some (.inr (0, [.ref d, .ref tx, .ref w, .ref st, .ref sv, .ref qo, .ref so, .ref ao, .int 0, .int 3, .int 20, .int 0, .int (-1), .int 0]))) {o : Nat} {fo : Nat → Int64} (eo : h o = some (.inl (2, 1, .inr (.inl fo)))) (no : o ∉ []) (hF : 2 ≤ F) (hL : 41 ≤ L) :
    xw_MetH G m_Law_count F L 0 0 [.ref x, .int 7, .ref o] h (fun v h' => v = some (.int 0) ∧ FrO [o] h h' ∧ ∃ f : Nat → Int64, f 0 = (0 : Int32).toInt64 ∧ h' o = some (.inl (2, 1, .inr (.inl f)))) := by
  refine xw_MetH.of (by decide) (Nat.le_of_ble_eq_true rfl) ?_
  refine s_Law_count_0 ?_
  refine x_callVX (As := [.int 7]) (b := x) (rest := [.int 0, .ref o]) (F1 := 1) (L1 := 20) (mc := 0) (ms := 0) d_Law_count_4 cV_Law_69 (fc_count_7 e_x (by omega) (by omega)) e_x ⟨by decide, rfl⟩ ⟨by omega, by show 8 + (2 + 11) + 20 ≤ _; omega⟩ ⟨by omega, by omega⟩ (Nat.le_of_ble_eq_true rfl) (fun E h1 p => p.elim) (fun v h1 p => ?_)
  obtain ⟨rfl, fr⟩ := p
  have eo1 := fr o _ no eo
  refine x_le (xw_le_n (xw_le_n (xw_le_n (xw_le_n xw_le_e)))) ?_
  refine s_Law_count_7 eo1 (by unfold vp_in; decide) ?_
  exact s_Law_count_15 ⟨rfl, (fr.mono (fun a ha => List.mem_cons_of_mem _ ha)).up (List.mem_cons_self) (fun q hq => xw_up_n _ _ hq), _, pk_uLs, xw_up_s _ _ _⟩
set_option maxHeartbeats 1000000 in
theorem hl_count_8 {G : xw_G} {F L : Nat} {h : xw_A} {x d tx w st sv qo so ao : Nat} (e_x : h x = some (.inr (0, [.ref d, .ref tx, .ref w, .ref st, .ref sv, .ref qo, .ref so, .ref ao, .int 0, .int 3, .int 20, .int 0, .int (-1), .int 0]))) {o : Nat} {fo : Nat → Int64} (eo : h o = some (.inl (2, 1, .inr (.inl fo)))) (no : o ∉ []) (hF : 2 ≤ F) (hL : 41 ≤ L) :
    xw_MetH G m_Law_count F L 0 0 [.ref x, .int 8, .ref o] h (fun v h' => v = some (.int 0) ∧ FrO [o] h h' ∧ ∃ f : Nat → Int64, f 0 = (0 : Int32).toInt64 ∧ h' o = some (.inl (2, 1, .inr (.inl f)))) := by
  refine xw_MetH.of (by decide) (Nat.le_of_ble_eq_true rfl) ?_
  refine s_Law_count_0 ?_
  refine x_callVX (As := [.int 8]) (b := x) (rest := [.int 0, .ref o]) (F1 := 1) (L1 := 20) (mc := 0) (ms := 0) d_Law_count_4 cV_Law_69 (fc_count_8 e_x (by omega) (by omega)) e_x ⟨by decide, rfl⟩ ⟨by omega, by show 8 + (2 + 11) + 20 ≤ _; omega⟩ ⟨by omega, by omega⟩ (Nat.le_of_ble_eq_true rfl) (fun E h1 p => p.elim) (fun v h1 p => ?_)
  obtain ⟨rfl, fr⟩ := p
  have eo1 := fr o _ no eo
  refine x_le (xw_le_n (xw_le_n (xw_le_n (xw_le_n xw_le_e)))) ?_
  refine s_Law_count_7 eo1 (by unfold vp_in; decide) ?_
  exact s_Law_count_15 ⟨rfl, (fr.mono (fun a ha => List.mem_cons_of_mem _ ha)).up (List.mem_cons_self) (fun q hq => xw_up_n _ _ hq), _, pk_uLs, xw_up_s _ _ _⟩
theorem xc_count : xw_catch m_Law_count 4 "java/lang/IllegalArgumentException" 12 := ⟨[], _, _, rfl, (fun z hz => nomatch hz), by decide, by decide, rfl, xw_in2 148 rfl rfl, List.mem_of_getElem? (i := 485) (by decide +kernel)⟩
set_option maxHeartbeats 1000000 in
theorem hl_count_no {G : xw_G} {F L : Nat} {h : xw_A} {a : Int32} {x d tx w st sv qo so ao : Nat} (e_x : h x = some (.inr (0, [.ref d, .ref tx, .ref w, .ref st, .ref sv, .ref qo, .ref so, .ref ao, .int 0, .int 3, .int 20, .int 0, .int (-1), .int 0]))) (hn : a < 0 ∨ 8 < a) {o : Nat} (hF : 7 ≤ F) (hL : 111 ≤ L) :
    xw_MetH G m_Law_count F L 1 6 [.ref x, .int a, .ref o] h (fun v h' => v = some (.int 1) ∧ FrO [x] h h') := by
  refine xw_MetH.of (by decide) (Nat.le_of_ble_eq_true rfl) ?_
  refine s_Law_count_0 ?_
  refine x_callVX (As := [.int a]) (b := x) (rest := [.int 0, .ref o]) (F1 := 6) (L1 := 90) (mc := 1) (ms := 6) d_Law_count_4 cV_Law_69 (fc_count_no e_x hn (by omega) (by omega)) e_x ⟨by decide, rfl⟩ ⟨by omega, by show 8 + (2 + 11) + 90 ≤ _; omega⟩ ⟨by omega, by omega⟩ (Nat.le_of_ble_eq_true rfl) (fun E h1 p => ?_) (fun v h1 p => p.elim)
  obtain ⟨rfl, fr⟩ := p
  exact ⟨12, xc_count, fun q => x_le (xw_le_n (xw_le_n (xw_le_n (xw_le_n xw_le_e)))) (s_Law_count_12 ⟨rfl, fr⟩)⟩
