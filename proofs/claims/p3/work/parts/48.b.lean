/-! the class between two calls, the law's helpers, its loop: by program (wip/tools/gen8.py) -/
theorem xk_letters_IAE : xw_catch m_Law_letters 4 "java/lang/IllegalArgumentException" 12 := ⟨[], _, _, rfl, (fun z hz => nomatch hz), by decide, by decide, rfl, xw_in2 148 rfl rfl, List.mem_of_getElem? (i := 485) (by decide +kernel)⟩
theorem xk_letters_IOB : xw_catch m_Law_letters 4 "java/lang/IndexOutOfBoundsException" 16 := ⟨[_], _, _, rfl, (fun z hz => by rw [List.mem_singleton.mp hz]; exact Or.inr ⟨by decide, "java/lang/IllegalArgumentException", xw_in2 148 rfl rfl, by decide +kernel⟩), by decide, by decide, rfl, xw_in2 149 rfl rfl, List.mem_of_getElem? (i := 554) (by decide +kernel)⟩
set_option maxHeartbeats 2000000 in
theorem hk_letters {G : xw_G} {F L : Nat} {h : xw_A} {A : List Nat} {x d tx w st s1 s2 s3 s4 sv v1 v2 v3 v4 qo tk tl tz ph nd po k1 k2 k3 so sp ao o1 o2 o3 o4 : Nat} {ps ns : List Nat} {dl w0 w1 : Nat} {gO : Int32} {gR gV : Nat → Option Nat} {gD : Nat → Int32} {gP gQ : Nat} {gG gH : GT5} {gM : Nat × Nat} {w9 : Int64} (S : CS A x d tx w st s1 s2 s3 s4 sv v1 v2 v3 v4 qo tk tl tz ph nd po k1 k2 k3 so sp ao o1 o2 o3 o4 ps ns) (K : CI A x d tx w st s1 s2 s3 s4 sv v1 v2 v3 v4 qo tk tl tz ph nd po k1 k2 k3 so sp ao o1 o2 o3 o4 ps ns dl w0 w1 gO gR gV gD gP gQ gG gH gM h) {o : Nat} {fo : Nat → Int64} (eo : h o = some (.inl (2, 1, .inr (.inl fo)))) (no : o ∉ (CLs x d tx w st s1 s2 s3 s4 sv v1 v2 v3 v4 qo tk tl tz ph nd po k1 k2 k3 so sp ao o1 o2 o3 o4 ps ns)) (hoA : o ∈ A) (hF : 7 ≤ F) (hL : 114 ≤ L) : xw_MetH G m_Law_letters F L 13 167 [.ref x, .long w9, .ref o] h (fun v h' => ∃ dl' gD', HP A x d tx w st s1 s2 s3 s4 sv v1 v2 v3 v4 qo tk tl tz ph nd po k1 k2 k3 so sp ao o1 o2 o3 o4 ps ns dl' w0 w1 gO gR gV gD' gP gQ gG gH gM o h v h' ∧ ((((ltr (oct w9) 8 0).getD 0 = 0 ∧ dl' = dl ∧ v = some (.int 1)) ∨ ∃ n, ltr (oct w9) 8 0 = some (n + 1) ∧ ((96 < dl + (n + 1) ∧ dl' = dl ∧ v = some (.int 2)) ∨ (dl + (n + 1) ≤ 96 ∧ dl' = dl + (n + 1) ∧ v = some (.int 0) ∧ ∃ f : Nat → Int64, h' o = some (.inl (2, 1, .inr (.inl f))) ∧ f 0 = (nI (dl + (n + 1))).toInt64))) ∧ (∀ j, j < dl → gD' j = gD j) ∧ ∀ n, ltr (oct w9) 8 0 = some (n + 1) → dl + (n + 1) ≤ 96 → ∀ t, t < n + 1 → gD' (dl + t) = oct w9 t)) := by
  refine xw_MetH.of (by decide) (Nat.le_of_ble_eq_true rfl) ?_
  refine s_Law_letters_0 ?_
  obtain ⟨K1, K2, K3, K4, K5, K6, K7, K8, K9⟩ := id K
  obtain ⟨wp, gp, e_x, hdl, hmo, hli⟩ := id K1
  have e_d : h d = some (.inl (1, 96, .inl gD)) := K2
  cases hq : ltr (oct w9) 8 0 with
  | none =>
    refine x_callVX (As := [.long w9]) (b := x) (rest := [.int 0, .ref o]) (F1 := 6) (L1 := 90) (mc := 1) (ms := 6) d_Law_letters_4 cV_Law_7 (g_letters_no e_x hdl (by rw [hq]; rfl) (by omega) (by omega)) e_x ⟨by decide, rfl⟩ ⟨by omega, by show 8 + (5 + 11) + 90 ≤ _; omega⟩ ⟨by omega, by omega⟩ (Nat.le_of_ble_eq_true rfl) (fun E h1 p => ?_) (fun v h1 p => p.elim)
    obtain ⟨rfl, rfl⟩ := p
    have FR : FrO [] h h := FrO.rf
    exact ⟨12, xk_letters_IAE, fun q9 => x_le (xw_le_n (xw_le_n (xw_le_n (xw_le_n (xw_le_n xw_le_e))))) (s_Law_letters_12 ⟨_, _, (HP.thr (K.same S FR) (FR.mono (fun _ q => nomatch q)) eo no), ⟨Or.inl ⟨by first | rfl | (rw [hq]; rfl), rfl, rfl⟩, fun _ _ => rfl, fun n8 hn8 => absurd hn8 (by first | (simp; done) | (rw [hq]; simp))⟩⟩)⟩
  | some n =>
    cases n with
    | zero =>
      refine x_callVX (As := [.long w9]) (b := x) (rest := [.int 0, .ref o]) (F1 := 6) (L1 := 90) (mc := 1) (ms := 6) d_Law_letters_4 cV_Law_7 (g_letters_no e_x hdl (by rw [hq]; rfl) (by omega) (by omega)) e_x ⟨by decide, rfl⟩ ⟨by omega, by show 8 + (5 + 11) + 90 ≤ _; omega⟩ ⟨by omega, by omega⟩ (Nat.le_of_ble_eq_true rfl) (fun E h1 p => ?_) (fun v h1 p => p.elim)
      obtain ⟨rfl, rfl⟩ := p
      have FR : FrO [] h h := FrO.rf
      exact ⟨12, xk_letters_IAE, fun q9 => x_le (xw_le_n (xw_le_n (xw_le_n (xw_le_n (xw_le_n xw_le_e))))) (s_Law_letters_12 ⟨_, _, (HP.thr (K.same S FR) (FR.mono (fun _ q => nomatch q)) eo no), ⟨Or.inl ⟨by first | rfl | (rw [hq]; rfl), rfl, rfl⟩, fun _ _ => rfl, fun n8 hn8 => absurd hn8 (by first | (simp; done) | (rw [hq]; simp))⟩⟩)⟩
    | succ n =>
      have hn : n < 8 := by have := ltr_le 8 0 (n + 1) hq; omega
      by_cases hf : 96 < dl + (n + 1)
      · refine x_callVX (As := [.long w9]) (b := x) (rest := [.int 0, .ref o]) (F1 := 6) (L1 := 90) (mc := 1) (ms := 6) d_Law_letters_4 cV_Law_7 (g_letters_full e_x hdl (by rw [hq]; rfl) hn hf (by omega) (by omega)) e_x ⟨by decide, rfl⟩ ⟨by omega, by show 8 + (5 + 11) + 90 ≤ _; omega⟩ ⟨by omega, by omega⟩ (Nat.le_of_ble_eq_true rfl) (fun E h1 p => ?_) (fun v h1 p => p.elim)
        obtain ⟨rfl, rfl⟩ := p
        have FR : FrO [] h h := FrO.rf
        exact ⟨16, xk_letters_IOB, fun q9 => x_le (xw_le_n (xw_le_n (xw_le_n (xw_le_n (xw_le_n xw_le_e))))) (s_Law_letters_16 ⟨_, _, (HP.thr (K.same S FR) (FR.mono (fun _ q => nomatch q)) eo no), ⟨Or.inr ⟨n, (by first | rfl | exact hq), Or.inl ⟨hf, rfl, rfl⟩⟩, fun _ _ => rfl, fun n8 hn8 hd8 => absurd hf (by have q : n + 1 = n8 + 1 := Option.some.inj (by first | exact hn8 | exact hq.symm.trans hn8); omega)⟩⟩)⟩
      · refine x_callVX (As := [.long w9]) (b := x) (rest := [.int 0, .ref o]) (F1 := 3) (L1 := 83) (mc := 0) (ms := 0) d_Law_letters_4 cV_Law_7 (g_letters_yes e_x hdl e_d (by rw [hq]; rfl) hn (by omega) (by omega) (by omega)) e_x ⟨by decide, rfl⟩ ⟨by omega, by show 8 + (5 + 11) + 83 ≤ _; omega⟩ ⟨by omega, by omega⟩ (Nat.le_of_ble_eq_true rfl) (fun E h1 p => p.elim) (fun v h1 p => ?_)
        obtain ⟨rfl, ex1, ⟨f1, ed1, hf1, hf2⟩, fr⟩ := p
        have fr9 : FrO (pick (CLs x d tx w st s1 s2 s3 s4 sv v1 v2 v3 v4 qo tk tl tz ph nd po k1 k2 k3 so sp ao o1 o2 o3 o4 ps ns) [0, 1]) h h1 := fr
        have frC : FrO (CLs x d tx w st s1 s2 s3 s4 sv v1 v2 v3 v4 qo tk tl tz ph nd po k1 k2 k3 so sp ao o1 o2 o3 o4 ps ns) h h1 := fr9.mono CS.inC
        have K' : CI A x d tx w st s1 s2 s3 s4 sv v1 v2 v3 v4 qo tk tl tz ph nd po k1 k2 k3 so sp ao o1 o2 o3 o4 ps ns (dl + (n + 1)) w0 w1 gO gR gV f1 gP gQ gG gH gM h1 := K.up S [0, 1] (by decide) fr9 (exC ex1 (exC ed1 exN)) (Or.inl ⟨_, _, ex1, by omega, hmo, hli⟩) (Or.inl ed1) (Or.inr ⟨⟨rfl, rfl⟩, by decide⟩) (Or.inr ⟨⟨rfl, rfl⟩, by decide⟩) (Or.inr ⟨⟨rfl, rfl⟩, by decide⟩) (Or.inr ⟨⟨rfl, rfl⟩, by decide⟩) (Or.inr (by decide)) (Or.inr (by decide)) (Or.inr (by decide))
        have eo1 := frC o _ no eo
        refine x_le (xw_le_n (xw_le_n (xw_le_n (xw_le_n (xw_le_n xw_le_e))))) ?_
        refine s_Law_letters_7 eo1 (by unfold vp_in; decide) ?_
        exact s_Law_letters_20 ⟨_, _, (HP.ok S K' frC no hoA), ⟨Or.inr ⟨n, (by first | rfl | exact hq), Or.inr ⟨by omega, rfl, rfl, _, xw_up_s _ _ _, pk_uLs⟩⟩, hf1, fun n8 hn8 _ t8 ht8 => hf2 t8 (by have q : n + 1 = n8 + 1 := Option.some.inj (by first | exact hn8 | exact hq.symm.trans hn8); omega)⟩⟩
theorem xk_set_IAE : xw_catch m_Law_set 4 "java/lang/IllegalArgumentException" 12 := ⟨[], _, _, rfl, (fun z hz => nomatch hz), by decide, by decide, rfl, xw_in2 148 rfl rfl, List.mem_of_getElem? (i := 485) (by decide +kernel)⟩
theorem xk_set_IOB : xw_catch m_Law_set 4 "java/lang/IndexOutOfBoundsException" 15 := ⟨[_], _, _, rfl, (fun z hz => by rw [List.mem_singleton.mp hz]; exact Or.inr ⟨by decide, "java/lang/IllegalArgumentException", xw_in2 148 rfl rfl, by decide +kernel⟩), by decide, by decide, rfl, xw_in2 149 rfl rfl, List.mem_of_getElem? (i := 554) (by decide +kernel)⟩
set_option maxHeartbeats 2000000 in
theorem hk_set {G : xw_G} {F L : Nat} {h : xw_A} {A : List Nat} {x d tx w st s1 s2 s3 s4 sv v1 v2 v3 v4 qo tk tl tz ph nd po k1 k2 k3 so sp ao o1 o2 o3 o4 : Nat} {ps ns : List Nat} {dl w0 w1 : Nat} {gO : Int32} {gR gV : Nat → Option Nat} {gD : Nat → Int32} {gP gQ : Nat} {gG gH : GT5} {gM : Nat × Nat} {c : Int32} (S : CS A x d tx w st s1 s2 s3 s4 sv v1 v2 v3 v4 qo tk tl tz ph nd po k1 k2 k3 so sp ao o1 o2 o3 o4 ps ns) (K : CI A x d tx w st s1 s2 s3 s4 sv v1 v2 v3 v4 qo tk tl tz ph nd po k1 k2 k3 so sp ao o1 o2 o3 o4 ps ns dl w0 w1 gO gR gV gD gP gQ gG gH gM h) {o : Nat} {fo : Nat → Int64} (eo : h o = some (.inl (2, 1, .inr (.inl fo)))) (no : o ∉ (CLs x d tx w st s1 s2 s3 s4 sv v1 v2 v3 v4 qo tk tl tz ph nd po k1 k2 k3 so sp ao o1 o2 o3 o4 ps ns)) (hoA : o ∈ A) (hF : 7 ≤ F) (hL : 142 ≤ L) : xw_MetH G m_Law_set F L 13 167 [.ref x, .int c, .ref o] h (fun v h' => ∃ dl' gP' gQ', HP A x d tx w st s1 s2 s3 s4 sv v1 v2 v3 v4 qo tk tl tz ph nd po k1 k2 k3 so sp ao o1 o2 o3 o4 ps ns dl' w0 w1 gO gR gV gD gP' gQ' gG gH gM o h v h' ∧ ((((c < 0 ∨ 1 < c) ∧ dl' = dl ∧ v = some (.int 1)) ∨ ((¬ c < 0 ∧ ¬ 1 < c) ∧ 48 < dl ∧ dl' = dl ∧ v = some (.int 2)) ∨ ((¬ c < 0 ∧ ¬ 1 < c) ∧ dl ≤ 48 ∧ dl' = 0 ∧ v = some (.int 0) ∧ ∃ f : Nat → Int64, h' o = some (.inl (2, 1, .inr (.inl f))) ∧ f 0 = (nI (tokN gD dl)).toInt64)) ∧ ((¬ v = some (.int 0) ∧ gP' = gP ∧ gQ' = gQ) ∨ ∃ cN p1 l z : Nat, cN < 2 ∧ c = nI cN ∧ v = some (.int 0) ∧ p1 ∉ A ∧ h' p1 = some (.inr (9, [.ref l, .ref z, .int (nI (tokN gD dl))])) ∧ gP' = (if cN = 0 then p1 else gP) ∧ gQ' = (if cN = 0 then gQ else p1) ∧ ((∀ j, j < dl → ∃ c, c < 128 ∧ gD j = nI c) → DiA A h' p1 (tkD gD dl (tokN gD dl)))))) := by
  refine xw_MetH.of (by decide) (Nat.le_of_ble_eq_true rfl) ?_
  refine s_Law_set_0 ?_
  obtain ⟨K1, K2, K3, K4, K5, K6, K7, K8, K9⟩ := id K
  obtain ⟨wp, gp, e_x, hdl, hmo, hli⟩ := id K1
  have e_d : h d = some (.inl (1, 96, .inl gD)) := K2
  obtain ⟨fx, e_tx, hx0, hx1, hp, hq⟩ := id K3
  obtain ⟨fp_, fs_, fl_, pc, sc, lc, Lv_, KS, VS⟩ := id K5
  have hAO : AOK A h := K5.aok
  by_cases hn : c < 0 ∨ 1 < c
  · refine x_callVX (As := [.int c]) (b := x) (rest := [.int 0, .ref o]) (F1 := 6) (L1 := 90) (mc := 1) (ms := 6) d_Law_set_4 cV_Law_17 (g_set_no e_x hn (by omega) (by omega)) e_x ⟨by decide, rfl⟩ ⟨by omega, by show 8 + (3 + 11) + 90 ≤ _; omega⟩ ⟨by omega, by omega⟩ (Nat.le_of_ble_eq_true rfl) (fun E h1 p => ?_) (fun v h1 p => p.elim)
    obtain ⟨rfl, FR⟩ := p
    exact ⟨12, xk_set_IAE, fun q9 => x_le (xw_le_n (xw_le_n (xw_le_n (xw_le_n xw_le_e)))) (s_Law_set_12 ⟨_, _, _, (HP.thr (K.same S FR) (FR.mono (fun _ q => nomatch q)) eo no), ⟨Or.inl ⟨hn, rfl, rfl⟩, Or.inl ⟨(by decide), rfl, rfl⟩⟩⟩)⟩
  · rw [not_or] at hn
    obtain ⟨j, j1, j2, rfl⟩ := ix_of (a := 0) (b := 1) (by decide) (by decide) hn.1 hn.2
    obtain rfl | rfl : j = 0 ∨ j = 1 := by omega
    · by_cases hf : 48 < dl
      · refine x_callVX (As := [.int 0]) (b := x) (rest := [.int 0, .ref o]) (F1 := 6) (L1 := 90) (mc := 1) (ms := 6) d_Law_set_4 cV_Law_17 (g_set_long_0 e_x hdl hf (by omega) (by omega)) e_x ⟨by decide, rfl⟩ ⟨by omega, by show 8 + (3 + 11) + 90 ≤ _; omega⟩ ⟨by omega, by omega⟩ (Nat.le_of_ble_eq_true rfl) (fun E h1 p => ?_) (fun v h1 p => p.elim)
        obtain ⟨rfl, FR⟩ := p
        exact ⟨15, xk_set_IOB, fun q9 => x_le (xw_le_n (xw_le_n (xw_le_n (xw_le_n xw_le_e)))) (s_Law_set_15 ⟨_, _, _, (HP.thr (K.same S FR) (FR.mono (fun _ q => nomatch q)) eo no), ⟨Or.inr (Or.inl ⟨hn, hf, rfl, rfl⟩), Or.inl ⟨(by decide), rfl, rfl⟩⟩⟩)⟩
      · refine x_callVX (As := [.int 0]) (b := x) (rest := [.int 0, .ref o]) (F1 := 3) (L1 := 120) (mc := 3) (ms := 76) d_Law_set_4 cV_Law_17 (g_set_0 e_x e_tx e_d hAO (by omega) (by omega) (by omega)) e_x ⟨by decide, rfl⟩ ⟨by omega, by show 8 + (3 + 11) + 120 ≤ _; omega⟩ ⟨by omega, by omega⟩ (Nat.le_of_ble_eq_true rfl) (fun E h1 p => p.elim) (fun v h1 pp => ?_)
        obtain ⟨rfl, ex1, ⟨p1, et1, hp1, ⟨l1, z1, ep1⟩, hD1⟩, fr⟩ := pp
        have hpA : p1 ∉ A := (hp1 ⟨S.mem 0 rfl, S.mem 2 rfl⟩).1
        have fr9 : FrO (pick (CLs x d tx w st s1 s2 s3 s4 sv v1 v2 v3 v4 qo tk tl tz ph nd po k1 k2 k3 so sp ao o1 o2 o3 o4 ps ns) [0, 2]) h h1 := fr
        have frC : FrO (CLs x d tx w st s1 s2 s3 s4 sv v1 v2 v3 v4 qo tk tl tz ph nd po k1 k2 k3 so sp ao o1 o2 o3 o4 ps ns) h h1 := fr9.mono CS.inC
        have K' : CI A x d tx w st s1 s2 s3 s4 sv v1 v2 v3 v4 qo tk tl tz ph nd po k1 k2 k3 so sp ao o1 o2 o3 o4 ps ns 0 w0 w1 gO gR gV gD p1 gQ gG gH gM h1 := K.up S [0, 2] (by decide) fr9 (exC ex1 (exC et1 exN)) (Or.inl ⟨_, _, ex1, by omega, hmo, hli⟩) (Or.inr ⟨rfl, by decide⟩) (Or.inl ⟨_, et1, va_up_self _ _ _, (va_up_ne _ _ (by decide)).trans hx1, hp1 ⟨S.mem 0 rfl, S.mem 2 rfl⟩, hq.fr fr9 S.pkA⟩) (Or.inr ⟨⟨rfl, rfl⟩, by decide⟩) (Or.inr ⟨⟨rfl, rfl⟩, by decide⟩) (Or.inr ⟨⟨rfl, rfl⟩, by decide⟩) (Or.inr (by decide)) (Or.inr (by decide)) (Or.inr (by decide))
        have eo1 := frC o _ no eo
        refine x_le (xw_le_n (xw_le_n (xw_le_n (xw_le_n xw_le_e)))) ?_
        refine s_Law_set_7 eo1 (by unfold vp_in; decide) ?_
        exact s_Law_set_18 ⟨_, _, _, (HP.ok S K' frC no hoA), ⟨Or.inr (Or.inr ⟨hn, by omega, rfl, rfl, _, xw_up_s _ _ _, pk_uLs⟩), Or.inr ⟨0, p1, l1, z1, by omega, rfl, rfl, hpA, (xw_up_n _ _ (fun q => hpA (by rw [q]; exact hoA))).trans ep1, rfl, rfl, fun q9 => (hD1 q9).fr (B := [o]) (FrO.rf.up (List.mem_singleton.mpr rfl) (fun q hq => xw_up_n _ _ hq)) (fun q hq => by rw [List.mem_singleton.mp hq]; exact hoA)⟩⟩⟩
    · by_cases hf : 48 < dl
      · refine x_callVX (As := [.int 1]) (b := x) (rest := [.int 0, .ref o]) (F1 := 6) (L1 := 90) (mc := 1) (ms := 6) d_Law_set_4 cV_Law_17 (g_set_long_1 e_x hdl hf (by omega) (by omega)) e_x ⟨by decide, rfl⟩ ⟨by omega, by show 8 + (3 + 11) + 90 ≤ _; omega⟩ ⟨by omega, by omega⟩ (Nat.le_of_ble_eq_true rfl) (fun E h1 p => ?_) (fun v h1 p => p.elim)
        obtain ⟨rfl, FR⟩ := p
        exact ⟨15, xk_set_IOB, fun q9 => x_le (xw_le_n (xw_le_n (xw_le_n (xw_le_n xw_le_e)))) (s_Law_set_15 ⟨_, _, _, (HP.thr (K.same S FR) (FR.mono (fun _ q => nomatch q)) eo no), ⟨Or.inr (Or.inl ⟨hn, hf, rfl, rfl⟩), Or.inl ⟨(by decide), rfl, rfl⟩⟩⟩)⟩
      · refine x_callVX (As := [.int 1]) (b := x) (rest := [.int 0, .ref o]) (F1 := 3) (L1 := 120) (mc := 3) (ms := 76) d_Law_set_4 cV_Law_17 (g_set_1 e_x e_tx e_d hAO (by omega) (by omega) (by omega)) e_x ⟨by decide, rfl⟩ ⟨by omega, by show 8 + (3 + 11) + 120 ≤ _; omega⟩ ⟨by omega, by omega⟩ (Nat.le_of_ble_eq_true rfl) (fun E h1 p => p.elim) (fun v h1 pp => ?_)
        obtain ⟨rfl, ex1, ⟨p1, et1, hp1, ⟨l1, z1, ep1⟩, hD1⟩, fr⟩ := pp
        have hpA : p1 ∉ A := (hp1 ⟨S.mem 0 rfl, S.mem 2 rfl⟩).1
        have fr9 : FrO (pick (CLs x d tx w st s1 s2 s3 s4 sv v1 v2 v3 v4 qo tk tl tz ph nd po k1 k2 k3 so sp ao o1 o2 o3 o4 ps ns) [0, 2]) h h1 := fr
        have frC : FrO (CLs x d tx w st s1 s2 s3 s4 sv v1 v2 v3 v4 qo tk tl tz ph nd po k1 k2 k3 so sp ao o1 o2 o3 o4 ps ns) h h1 := fr9.mono CS.inC
        have K' : CI A x d tx w st s1 s2 s3 s4 sv v1 v2 v3 v4 qo tk tl tz ph nd po k1 k2 k3 so sp ao o1 o2 o3 o4 ps ns 0 w0 w1 gO gR gV gD gP p1 gG gH gM h1 := K.up S [0, 2] (by decide) fr9 (exC ex1 (exC et1 exN)) (Or.inl ⟨_, _, ex1, by omega, hmo, hli⟩) (Or.inr ⟨rfl, by decide⟩) (Or.inl ⟨_, et1, (va_up_ne _ _ (by decide)).trans hx0, va_up_self _ _ _, hp.fr fr9 S.pkA, hp1 ⟨S.mem 0 rfl, S.mem 2 rfl⟩⟩) (Or.inr ⟨⟨rfl, rfl⟩, by decide⟩) (Or.inr ⟨⟨rfl, rfl⟩, by decide⟩) (Or.inr ⟨⟨rfl, rfl⟩, by decide⟩) (Or.inr (by decide)) (Or.inr (by decide)) (Or.inr (by decide))
        have eo1 := frC o _ no eo
        refine x_le (xw_le_n (xw_le_n (xw_le_n (xw_le_n xw_le_e)))) ?_
        refine s_Law_set_7 eo1 (by unfold vp_in; decide) ?_
        exact s_Law_set_18 ⟨_, _, _, (HP.ok S K' frC no hoA), ⟨Or.inr (Or.inr ⟨hn, by omega, rfl, rfl, _, xw_up_s _ _ _, pk_uLs⟩), Or.inr ⟨1, p1, l1, z1, by omega, rfl, rfl, hpA, (xw_up_n _ _ (fun q => hpA (by rw [q]; exact hoA))).trans ep1, rfl, rfl, fun q9 => (hD1 q9).fr (B := [o]) (FrO.rf.up (List.mem_singleton.mpr rfl) (fun q hq => xw_up_n _ _ hq)) (fun q hq => by rw [List.mem_singleton.mp hq]; exact hoA)⟩⟩⟩
theorem xk_insert_IOB : xw_catch m_Law_insert 3 "java/lang/IndexOutOfBoundsException" 11 := ⟨[], _, _, rfl, (fun z hz => nomatch hz), by decide, by decide, rfl, xw_in2 149 rfl rfl, List.mem_of_getElem? (i := 554) (by decide +kernel)⟩
set_option maxHeartbeats 2000000 in
theorem hk_insert {G : xw_G} {F L : Nat} {h : xw_A} {A : List Nat} {x d tx w st s1 s2 s3 s4 sv v1 v2 v3 v4 qo tk tl tz ph nd po k1 k2 k3 so sp ao o1 o2 o3 o4 : Nat} {ps ns : List Nat} {dl w0 w1 : Nat} {gO : Int32} {gR gV : Nat → Option Nat} {gD : Nat → Int32} {gP gQ : Nat} {gG gH : GT5} {gM : Nat × Nat} (S : CS A x d tx w st s1 s2 s3 s4 sv v1 v2 v3 v4 qo tk tl tz ph nd po k1 k2 k3 so sp ao o1 o2 o3 o4 ps ns) (K : CI A x d tx w st s1 s2 s3 s4 sv v1 v2 v3 v4 qo tk tl tz ph nd po k1 k2 k3 so sp ao o1 o2 o3 o4 ps ns dl w0 w1 gO gR gV gD gP gQ gG gH gM h) {o : Nat} {fo : Nat → Int64} (eo : h o = some (.inl (2, 1, .inr (.inl fo)))) (no : o ∉ (CLs x d tx w st s1 s2 s3 s4 sv v1 v2 v3 v4 qo tk tl tz ph nd po k1 k2 k3 so sp ao o1 o2 o3 o4 ps ns)) (hoA : o ∈ A) (hnv : gG.2.2.2.1 < 999) (hF : 8 ≤ F) (hL : 191 ≤ L) : xw_MetH G m_Law_insert F L 13 167 [.ref x, .ref o] h (fun v h' => ∃ gR' gG', HP A x d tx w st s1 s2 s3 s4 sv v1 v2 v3 v4 qo tk tl tz ph nd po k1 k2 k3 so sp ao o1 o2 o3 o4 ps ns dl w0 w1 gO gR' gV gD gP gQ gG' gH gM o h v h' ∧ ((((∀ j, 1 ≤ j → j ≤ 24 → gR j ≠ none) ∧ gR' = gR ∧ v = some (.int 1)) ∨ ∃ c a : Nat, 1 ≤ c ∧ c ≤ 24 ∧ gR c = none ∧ (∀ j, 1 ≤ j → j < c → gR j ≠ none) ∧ gR' = va_up gR c (some a) ∧ v = some (.int 0) ∧ (∃ f : Nat → Int64, h' o = some (.inl (2, 1, .inr (.inl f))) ∧ f 0 = (nI c).toInt64) ∧ a ∉ A ∧ ∃ nn y : Int32, h' a = some (.inr (10, [.int nn, .int (nI c), .ref gP, .ref gQ, .int y])) ∧ ∃ c1 c2 : Nat, y = nI (c1 + c2) ∧ DiA A h gP c1 ∧ DiA A h gQ c2 ∧ GvG gG gM c (c1 + c2) gG') ∧ (¬ v = some (.int 0) → gG' = gG))) := by
  refine xw_MetH.of (by decide) (Nat.le_of_ble_eq_true rfl) ?_
  refine s_Law_insert_0 ?_
  obtain ⟨K1, K2, K3, K4, K5, K6, K7, K8, K9⟩ := id K
  obtain ⟨wp, gp, e_x, hdl, hmo, hli⟩ := id K1
  obtain ⟨fx, e_tx, hx0, hx1, hp, hq⟩ := id K3
  obtain ⟨fp_, fs_, fl_, pc, sc, lc, Lv_, KS, VS⟩ := id K5
  have SA : StA A st s1 s2 s3 s4 := ⟨S.mem 4 rfl, S.mem 5 rfl, S.mem 6 rfl, S.mem 7 rfl, S.mem 8 rfl⟩
  refine x_callVX (As := []) (b := x) (rest := [.int 0, .ref o]) (F1 := 7) (L1 := 170) (mc := 13) (ms := 167) d_Law_insert_3 cV_Law_21 (g_insert e_x KS VS SA e_tx hx0 hx1 hp hq hmo hli hnv (by omega) (by omega)) e_x ⟨by decide, rfl⟩ ⟨by omega, by show 8 + (2 + 11) + 170 ≤ _; omega⟩ ⟨by omega, by omega⟩ (Nat.le_of_ble_eq_true rfl) (fun E h1 pp => ?_) (fun v h1 pp => ?_)
  · obtain ⟨rfl, FR, hall⟩ := pp
    exact ⟨11, xk_insert_IOB, fun q9 => x_le (xw_le_n (xw_le_n (xw_le_n xw_le_e))) (s_Law_insert_11 ⟨_, _, (HP.thr (K.same S FR) (FR.mono (fun _ q => nomatch q)) eo no), ⟨Or.inl ⟨hall, rfl, rfl⟩, fun _ => rfl⟩⟩)⟩
  · obtain ⟨c, rfl, hc1, hc2, hcn, hlo, c1, c2, a, -, hd1, hd2, ⟨nn, ea⟩, P2, S2, n2, gv, KE, fr⟩ := pp
    have haA : a ∉ A := by obtain ⟨_, _, _, _, _, _, _, KQ, -⟩ := id KE; exact (KQ.2.2.2.2.2.2.2.2.1 c a (va_up_self _ _ _)).1
    have fr9 : FrO (pick (CLs x d tx w st s1 s2 s3 s4 sv v1 v2 v3 v4 qo tk tl tz ph nd po k1 k2 k3 so sp ao o1 o2 o3 o4 ps ns) [4, 5, 6, 7, 8]) h h1 := fr
    have frC : FrO (CLs x d tx w st s1 s2 s3 s4 sv v1 v2 v3 v4 qo tk tl tz ph nd po k1 k2 k3 so sp ao o1 o2 o3 o4 ps ns) h h1 := fr9.mono CS.inC
    have K' : CI A x d tx w st s1 s2 s3 s4 sv v1 v2 v3 v4 qo tk tl tz ph nd po k1 k2 k3 so sp ao o1 o2 o3 o4 ps ns dl w0 w1 gO (va_up gR c (some a)) gV gD gP gQ (va_up gG.1 c (some (gG.2.2.2.1, c, c1 + c2)), P2, S2, gG.2.2.2.1 + 1, n2) gH gM h1 := K.up S [4, 5, 6, 7, 8] (by decide) fr9 (fun q hq => KE.aok q (S.pkA q hq)) (Or.inr ⟨⟨rfl, rfl, rfl⟩, by decide⟩) (Or.inr ⟨rfl, by decide⟩) (Or.inr ⟨⟨rfl, rfl⟩, by decide⟩) (Or.inr ⟨⟨rfl, rfl⟩, by decide⟩) (Or.inl KE) (Or.inr ⟨⟨rfl, rfl⟩, by decide⟩) (Or.inr (by decide)) (Or.inr (by decide)) (Or.inr (by decide))
    have eo1 := frC o _ no eo
    refine x_le (xw_le_n (xw_le_n (xw_le_n xw_le_e))) ?_
    refine s_Law_insert_6 eo1 (by unfold vp_in; decide) ?_
    exact s_Law_insert_14 ⟨_, _, (HP.ok S K' frC no hoA), ⟨Or.inr ⟨c, a, hc1, hc2, hcn, hlo, rfl, rfl, ⟨_, xw_up_s _ _ _, pk_uLs⟩, haA, nn, _, (xw_up_n _ _ (fun q => haA (by rw [q]; exact hoA))).trans ea, c1, c2, rfl, hd1, hd2, P2, S2, n2, gv, rfl⟩, fun q => absurd rfl q⟩⟩
theorem xk_replace_NSE : xw_catch m_Law_replace 4 "java/util/NoSuchElementException" 12 := ⟨[], _, _, rfl, (fun z hz => nomatch hz), by decide, by decide, rfl, xw_in3 94 rfl rfl, List.mem_of_getElem? (i := 668) (by decide +kernel)⟩
set_option maxHeartbeats 2000000 in
theorem hk_replace {G : xw_G} {F L : Nat} {h : xw_A} {A : List Nat} {x d tx w st s1 s2 s3 s4 sv v1 v2 v3 v4 qo tk tl tz ph nd po k1 k2 k3 so sp ao o1 o2 o3 o4 : Nat} {ps ns : List Nat} {dl w0 w1 : Nat} {gO : Int32} {gR gV : Nat → Option Nat} {gD : Nat → Int32} {gP gQ : Nat} {gG gH : GT5} {gM : Nat × Nat} {r : Int32} (S : CS A x d tx w st s1 s2 s3 s4 sv v1 v2 v3 v4 qo tk tl tz ph nd po k1 k2 k3 so sp ao o1 o2 o3 o4 ps ns) (K : CI A x d tx w st s1 s2 s3 s4 sv v1 v2 v3 v4 qo tk tl tz ph nd po k1 k2 k3 so sp ao o1 o2 o3 o4 ps ns dl w0 w1 gO gR gV gD gP gQ gG gH gM h) {o : Nat} {fo : Nat → Int64} (eo : h o = some (.inl (2, 1, .inr (.inl fo)))) (no : o ∉ (CLs x d tx w st s1 s2 s3 s4 sv v1 v2 v3 v4 qo tk tl tz ph nd po k1 k2 k3 so sp ao o1 o2 o3 o4 ps ns)) (hoA : o ∈ A) (hnv : gG.2.2.2.1 < 999) (hF : 8 ≤ F) (hL : 191 ≤ L) : xw_MetH G m_Law_replace F L 13 167 [.ref x, .int r, .ref o] h (fun v h' => ∃ gR' gG', HP A x d tx w st s1 s2 s3 s4 sv v1 v2 v3 v4 qo tk tl tz ph nd po k1 k2 k3 so sp ao o1 o2 o3 o4 ps ns dl w0 w1 gO gR' gV gD gP gQ gG' gH gM o h v h' ∧ ((((∀ j, 1 ≤ j → j ≤ 24 → r = nI j → gR j = none) ∧ gR' = gR ∧ v = some (.int 1)) ∨ ∃ c a : Nat, 1 ≤ c ∧ c ≤ 24 ∧ r = nI c ∧ gR c ≠ none ∧ gR' = va_up gR c (some a) ∧ v = some (.int 0) ∧ a ∉ A ∧ ∃ nn y : Int32, h' a = some (.inr (10, [.int nn, .int (nI c), .ref gP, .ref gQ, .int y])) ∧ (∃ c1 c2 : Nat, y = nI (c1 + c2) ∧ DiA A h gP c1 ∧ DiA A h gQ c2 ∧ GvG gG gM c (c1 + c2) gG') ∧ ∃ f : Nat → Int64, h' o = some (.inl (2, 1, .inr (.inl f))) ∧ f 0 = y.toInt64) ∧ (¬ v = some (.int 0) → gG' = gG))) := by
  refine xw_MetH.of (by decide) (Nat.le_of_ble_eq_true rfl) ?_
  refine s_Law_replace_0 ?_
  obtain ⟨K1, K2, K3, K4, K5, K6, K7, K8, K9⟩ := id K
  obtain ⟨wp, gp, e_x, hdl, hmo, hli⟩ := id K1
  obtain ⟨fx, e_tx, hx0, hx1, hp, hq⟩ := id K3
  obtain ⟨fp_, fs_, fl_, pc, sc, lc, Lv_, KS, VS⟩ := id K5
  have SA : StA A st s1 s2 s3 s4 := ⟨S.mem 4 rfl, S.mem 5 rfl, S.mem 6 rfl, S.mem 7 rfl, S.mem 8 rfl⟩
  refine x_callVX (As := [.int r]) (b := x) (rest := [.int 0, .ref o]) (F1 := 7) (L1 := 170) (mc := 13) (ms := 167) d_Law_replace_4 cV_Law_25 (g_replace e_x KS VS SA e_tx hx0 hx1 hp hq hmo hli hnv (by omega) (by omega)) e_x ⟨by decide, rfl⟩ ⟨by omega, by show 8 + (2 + 11) + 170 ≤ _; omega⟩ ⟨by omega, by omega⟩ (Nat.le_of_ble_eq_true rfl) (fun E h1 pp => ?_) (fun v h1 pp => ?_)
  · obtain ⟨rfl, FR, hall⟩ := pp
    exact ⟨12, xk_replace_NSE, fun q9 => x_le (xw_le_n (xw_le_n (xw_le_n (xw_le_n xw_le_e)))) (s_Law_replace_12 ⟨_, _, (HP.thr (K.same S FR) (FR.mono (fun _ q => nomatch q)) eo no), ⟨Or.inl ⟨hall, rfl, rfl⟩, fun _ => rfl⟩⟩)⟩
  · obtain ⟨c, hc1, hc2, hcr, hcn, c1, c2, a, rfl, hd1, hd2, ⟨nn, ea⟩, P2, S2, n2, gv, KE, fr⟩ := pp
    have haA : a ∉ A := by obtain ⟨_, _, _, _, _, _, _, KQ, -⟩ := id KE; exact (KQ.2.2.2.2.2.2.2.2.1 c a (va_up_self _ _ _)).1
    have fr9 : FrO (pick (CLs x d tx w st s1 s2 s3 s4 sv v1 v2 v3 v4 qo tk tl tz ph nd po k1 k2 k3 so sp ao o1 o2 o3 o4 ps ns) [4, 5, 6, 7, 8]) h h1 := fr
    have frC : FrO (CLs x d tx w st s1 s2 s3 s4 sv v1 v2 v3 v4 qo tk tl tz ph nd po k1 k2 k3 so sp ao o1 o2 o3 o4 ps ns) h h1 := fr9.mono CS.inC
    have K' : CI A x d tx w st s1 s2 s3 s4 sv v1 v2 v3 v4 qo tk tl tz ph nd po k1 k2 k3 so sp ao o1 o2 o3 o4 ps ns dl w0 w1 gO (va_up gR c (some a)) gV gD gP gQ (va_up gG.1 c (some (gG.2.2.2.1, c, c1 + c2)), P2, S2, gG.2.2.2.1 + 1, n2) gH gM h1 := K.up S [4, 5, 6, 7, 8] (by decide) fr9 (fun q hq => KE.aok q (S.pkA q hq)) (Or.inr ⟨⟨rfl, rfl, rfl⟩, by decide⟩) (Or.inr ⟨rfl, by decide⟩) (Or.inr ⟨⟨rfl, rfl⟩, by decide⟩) (Or.inr ⟨⟨rfl, rfl⟩, by decide⟩) (Or.inl KE) (Or.inr ⟨⟨rfl, rfl⟩, by decide⟩) (Or.inr (by decide)) (Or.inr (by decide)) (Or.inr (by decide))
    have eo1 := frC o _ no eo
    refine x_le (xw_le_n (xw_le_n (xw_le_n (xw_le_n xw_le_e)))) ?_
    refine s_Law_replace_7 eo1 (by unfold vp_in; decide) ?_
    exact s_Law_replace_15 ⟨_, _, (HP.ok S K' frC no hoA), ⟨Or.inr ⟨c, a, hc1, hc2, hcr, hcn, rfl, rfl, haA, nn, _, (xw_up_n _ _ (fun q => haA (by rw [q]; exact hoA))).trans ea, ⟨c1, c2, rfl, hd1, hd2, P2, S2, n2, gv, rfl⟩, _, xw_up_s _ _ _, pk_uLs⟩, fun q => absurd rfl q⟩⟩
theorem xk_delete_NSE : xw_catch m_Law_delete 4 "java/util/NoSuchElementException" 12 := ⟨[], _, _, rfl, (fun z hz => nomatch hz), by decide, by decide, rfl, xw_in3 94 rfl rfl, List.mem_of_getElem? (i := 668) (by decide +kernel)⟩
set_option maxHeartbeats 2000000 in
theorem hk_delete {G : xw_G} {F L : Nat} {h : xw_A} {A : List Nat} {x d tx w st s1 s2 s3 s4 sv v1 v2 v3 v4 qo tk tl tz ph nd po k1 k2 k3 so sp ao o1 o2 o3 o4 : Nat} {ps ns : List Nat} {dl w0 w1 : Nat} {gO : Int32} {gR gV : Nat → Option Nat} {gD : Nat → Int32} {gP gQ : Nat} {gG gH : GT5} {gM : Nat × Nat} {r : Int32} (S : CS A x d tx w st s1 s2 s3 s4 sv v1 v2 v3 v4 qo tk tl tz ph nd po k1 k2 k3 so sp ao o1 o2 o3 o4 ps ns) (K : CI A x d tx w st s1 s2 s3 s4 sv v1 v2 v3 v4 qo tk tl tz ph nd po k1 k2 k3 so sp ao o1 o2 o3 o4 ps ns dl w0 w1 gO gR gV gD gP gQ gG gH gM h) {o : Nat} {fo : Nat → Int64} (eo : h o = some (.inl (2, 1, .inr (.inl fo)))) (no : o ∉ (CLs x d tx w st s1 s2 s3 s4 sv v1 v2 v3 v4 qo tk tl tz ph nd po k1 k2 k3 so sp ao o1 o2 o3 o4 ps ns)) (hoA : o ∈ A) (hF : 7 ≤ F) (hL : 112 ≤ L) : xw_MetH G m_Law_delete F L 13 167 [.ref x, .int r, .ref o] h (fun v h' => ∃ gR' gG', HP A x d tx w st s1 s2 s3 s4 sv v1 v2 v3 v4 qo tk tl tz ph nd po k1 k2 k3 so sp ao o1 o2 o3 o4 ps ns dl w0 w1 gO gR' gV gD gP gQ gG' gH gM o h v h' ∧ ((((∀ j, 1 ≤ j → j ≤ 24 → r = nI j → gR j = none) ∧ gR' = gR ∧ v = some (.int 1)) ∨ ∃ c : Nat, 1 ≤ c ∧ c ≤ 24 ∧ r = nI c ∧ gR c ≠ none ∧ gR' = va_up gR c none ∧ v = some (.int 0) ∧ ∃ (a p q n n2 l z l2 z2 vr : Nat) (vn ve : Int32) (f : Nat → Int64), gR c = some a ∧ h' a = some (.inr (10, [.int vn, .int (nI vr), .ref p, .ref q, .int ve])) ∧ h' p = some (.inr (9, [.ref l, .ref z, .int (nI n)])) ∧ h' q = some (.inr (9, [.ref l2, .ref z2, .int (nI n2)])) ∧ h' o = some (.inl (2, 1, .inr (.inl f))) ∧ f 0 = (nI (n + n2)).toInt64) ∧ (¬ v = some (.int 0) → gG' = gG) ∧ ∀ j, 1 ≤ j → j ≤ 24 → r = nI j → v = some (.int 0) → gG' = (va_up gG.1 j none, gG.2))) := by
  refine xw_MetH.of (by decide) (Nat.le_of_ble_eq_true rfl) ?_
  refine s_Law_delete_0 ?_
  obtain ⟨K1, K2, K3, K4, K5, K6, K7, K8, K9⟩ := id K
  obtain ⟨wp, gp, e_x, hdl, hmo, hli⟩ := id K1
  obtain ⟨fp_, fs_, fl_, pc, sc, lc, Lv_, KS, VS⟩ := id K5
  have SA : StA A st s1 s2 s3 s4 := ⟨S.mem 4 rfl, S.mem 5 rfl, S.mem 6 rfl, S.mem 7 rfl, S.mem 8 rfl⟩
  refine x_callVX (As := [.int r]) (b := x) (rest := [.int 0, .ref o]) (F1 := 6) (L1 := 90) (mc := 13) (ms := 167) d_Law_delete_4 cV_Law_30 (g_delete e_x KS VS SA (by omega) (by omega)) e_x ⟨by decide, rfl⟩ ⟨by omega, by show 8 + (3 + 11) + 90 ≤ _; omega⟩ ⟨by omega, by omega⟩ (Nat.le_of_ble_eq_true rfl) (fun E h1 pp => ?_) (fun v h1 pp => ?_)
  · obtain ⟨rfl, FR, hall⟩ := pp
    exact ⟨12, xk_delete_NSE, fun q9 => x_le (xw_le_n (xw_le_n (xw_le_n (xw_le_n xw_le_e)))) (s_Law_delete_12 ⟨_, _, (HP.thr (K.same S FR) (FR.mono (fun _ q => nomatch q)) eo no), ⟨Or.inl ⟨hall, rfl, rfl⟩, (fun _ => rfl), fun _ _ _ _ q => nomatch q⟩⟩)⟩
  · obtain ⟨c, a, p, q, l, z, n, l2, z2, n2, vr, vn, ve, rfl, hc1, hc2, hcr, hcn, KE, ⟨ea, ep, eq⟩, fr⟩ := pp
    have hvA := KS.2.2.2.2.2.2.2.2.1 c a hcn
    obtain ⟨haA, _, _, _, _, _, eh, -, -, hpk, hqk⟩ := id hvA
    have eh1 := fr a _ (nA9 haA (suC SA.1 (suC SA.2.1 (suC SA.2.2.1 (suC SA.2.2.2.1 (suC SA.2.2.2.2 suN)))))) eh
    have e9 := ea.symm.trans eh1
    simp only [Option.some.injEq, Sum.inr.injEq, Prod.mk.injEq, List.cons.injEq, Value.int.injEq, Value.ref.injEq, true_and, and_true] at e9
    obtain ⟨-, -, rfl, rfl, -⟩ := e9
    have nx : ∀ {u : Nat}, u ∉ A → u ≠ o := fun hu q => hu (by rw [q]; exact hoA)
    have fr9 : FrO (pick (CLs x d tx w st s1 s2 s3 s4 sv v1 v2 v3 v4 qo tk tl tz ph nd po k1 k2 k3 so sp ao o1 o2 o3 o4 ps ns) [4, 5, 6, 7, 8]) h h1 := fr
    have frC : FrO (CLs x d tx w st s1 s2 s3 s4 sv v1 v2 v3 v4 qo tk tl tz ph nd po k1 k2 k3 so sp ao o1 o2 o3 o4 ps ns) h h1 := fr9.mono CS.inC
    have K' : CI A x d tx w st s1 s2 s3 s4 sv v1 v2 v3 v4 qo tk tl tz ph nd po k1 k2 k3 so sp ao o1 o2 o3 o4 ps ns dl w0 w1 gO (va_up gR c none) gV gD gP gQ (va_up gG.1 c none, gG.2) gH gM h1 := K.up S [4, 5, 6, 7, 8] (by decide) fr9 (fun q hq => KE.aok q (S.pkA q hq)) (Or.inr ⟨⟨rfl, rfl, rfl⟩, by decide⟩) (Or.inr ⟨rfl, by decide⟩) (Or.inr ⟨⟨rfl, rfl⟩, by decide⟩) (Or.inr ⟨⟨rfl, rfl⟩, by decide⟩) (Or.inl KE) (Or.inr ⟨⟨rfl, rfl⟩, by decide⟩) (Or.inr (by decide)) (Or.inr (by decide)) (Or.inr (by decide))
    have eo1 := frC o _ no eo
    refine x_le (xw_le_n (xw_le_n (xw_le_n (xw_le_n xw_le_e)))) ?_
    refine s_Law_delete_7 eo1 (by unfold vp_in; decide) ?_
    exact s_Law_delete_15 ⟨_, _, (HP.ok S K' frC no hoA), ⟨Or.inr ⟨c, hc1, hc2, hcr, (fun q9 => nomatch (hcn.symm.trans q9)), rfl, rfl, a, _, _, n, n2, l, z, l2, z2, vr, vn, ve, _, hcn, (xw_up_n _ _ (nx haA)).trans ea, (xw_up_n _ _ (nx hpk.1)).trans ep, (xw_up_n _ _ (nx hqk.1)).trans eq, xw_up_s _ _ _, pk_uLs⟩, (fun q => absurd rfl q), fun j9 j91 j92 j93 _ => by rw [(nI_eq (a := j9) (b := c) (by omega) (by omega)).mp (j93.symm.trans hcr)]⟩⟩
theorem xk_begin_ISE : xw_catch m_Law_begin 1 "java/lang/IllegalStateException" 7 := ⟨[], _, _, rfl, (fun z hz => nomatch hz), by decide, by decide, rfl, xw_in3 137 rfl rfl, List.mem_of_getElem? (i := 707) (by decide +kernel)⟩
set_option maxHeartbeats 2000000 in
theorem hk_begin {G : xw_G} {F L : Nat} {h : xw_A} {A : List Nat} {x d tx w st s1 s2 s3 s4 sv v1 v2 v3 v4 qo tk tl tz ph nd po k1 k2 k3 so sp ao o1 o2 o3 o4 : Nat} {ps ns : List Nat} {dl w0 w1 : Nat} {gO : Int32} {gR gV : Nat → Option Nat} {gD : Nat → Int32} {gP gQ : Nat} {gG gH : GT5} {gM : Nat × Nat} (S : CS A x d tx w st s1 s2 s3 s4 sv v1 v2 v3 v4 qo tk tl tz ph nd po k1 k2 k3 so sp ao o1 o2 o3 o4 ps ns) (K : CI A x d tx w st s1 s2 s3 s4 sv v1 v2 v3 v4 qo tk tl tz ph nd po k1 k2 k3 so sp ao o1 o2 o3 o4 ps ns dl w0 w1 gO gR gV gD gP gQ gG gH gM h) (hF : 7 ≤ F) (hL : 110 ≤ L) : xw_MetH G m_Law_begin F L 13 167 [.ref x] h (fun v h' => ∃ gO' gV' gH', HZ A x d tx w st s1 s2 s3 s4 sv v1 v2 v3 v4 qo tk tl tz ph nd po k1 k2 k3 so sp ao o1 o2 o3 o4 ps ns dl w0 w1 gO' gR gV' gD gP gQ gG gH' gM h v h' ∧ (((¬ gO = 0 ∧ gO' = gO ∧ gV' = gV ∧ v = some (.int 1)) ∨ (gO = 0 ∧ gO' = 1 ∧ (∀ j, 1 ≤ j → j ≤ 24 → gV' j = gR j) ∧ v = some (.int 0))) ∧ (¬ v = some (.int 0) → gH' = gH) ∧ (v = some (.int 0) → gH' = (gG.1, gG.2.1, gG.2.2.1, gH.2.2.2)))) := by
  refine xw_MetH.of (by decide) (Nat.le_of_ble_eq_true rfl) ?_
  refine s_Law_begin_0 ?_
  obtain ⟨K1, K2, K3, K4, K5, K6, K7, K8, K9⟩ := id K
  obtain ⟨wp, gp, e_x, hdl, hmo, hli⟩ := id K1
  obtain ⟨fp_, fs_, fl_, pc, sc, lc, Lv_, KS, VS⟩ := id K5
  have SA : StA A st s1 s2 s3 s4 := ⟨S.mem 4 rfl, S.mem 5 rfl, S.mem 6 rfl, S.mem 7 rfl, S.mem 8 rfl⟩
  obtain ⟨ep_, es_, el_, qc, rc, mc, Lw_, KV, VW⟩ := id K6
  have SV : StA A sv v1 v2 v3 v4 := ⟨S.mem 9 rfl, S.mem 10 rfl, S.mem 11 rfl, S.mem 12 rfl, S.mem 13 rfl⟩
  have NE : sv ≠ st ∧ v1 ≠ s1 ∧ v2 ≠ s2 ∧ v3 ≠ s3 ∧ v4 ≠ s4 := ⟨nd_ne S.1 (i := 9) (j := 4) rfl rfl (by decide), nd_ne S.1 (i := 10) (j := 5) rfl rfl (by decide), nd_ne S.1 (i := 11) (j := 6) rfl rfl (by decide), nd_ne S.1 (i := 12) (j := 7) rfl rfl (by decide), nd_ne S.1 (i := 13) (j := 8) rfl rfl (by decide)⟩
  have hxA : x ∈ A := S.mem 0 rfl
  refine x_callVX (As := []) (b := x) (rest := []) (F1 := 6) (L1 := 90) (mc := 1) (ms := 6) d_Law_begin_1 cV_Law_33 (g_begin e_x KS VS SA KV VW SV NE hxA (by omega) (by omega)) e_x ⟨by decide, rfl⟩ ⟨by omega, by show 8 + (1 + 11) + 90 ≤ _; omega⟩ ⟨by omega, by omega⟩ (Nat.le_of_ble_eq_true rfl) (fun E h1 p => ?_) (fun v h1 p => ?_)
  · obtain ⟨rfl, FR, hop⟩ := p
    exact ⟨7, xk_begin_ISE, fun q9 => x_le (xw_le_n (xw_le_n xw_le_e)) (s_Law_begin_7 ⟨_, _, _, ⟨⟨_, rfl⟩, (K.same S FR), (FR.mono (fun _ q => nomatch q))⟩, ⟨Or.inl ⟨hop, rfl, rfl, rfl⟩, (fun _ => rfl), fun q => nomatch q⟩⟩)⟩
  · obtain ⟨hop, rfl, ex1, KE, ⟨gV1, KF, hV1⟩, fr⟩ := p
    have fr9 : FrO (pick (CLs x d tx w st s1 s2 s3 s4 sv v1 v2 v3 v4 qo tk tl tz ph nd po k1 k2 k3 so sp ao o1 o2 o3 o4 ps ns) [0, 9, 10, 11, 12]) h h1 := fr
    have frC : FrO (CLs x d tx w st s1 s2 s3 s4 sv v1 v2 v3 v4 qo tk tl tz ph nd po k1 k2 k3 so sp ao o1 o2 o3 o4 ps ns) h h1 := fr9.mono CS.inC
    have K' : CI A x d tx w st s1 s2 s3 s4 sv v1 v2 v3 v4 qo tk tl tz ph nd po k1 k2 k3 so sp ao o1 o2 o3 o4 ps ns dl w0 w1 1 gR gV1 gD gP gQ gG (gG.1, gG.2.1, gG.2.2.1, gH.2.2.2) gM h1 := K.up S [0, 9, 10, 11, 12] (by decide) fr9 (fun q hq => KE.aok q (S.pkA q hq)) (Or.inl ⟨_, _, ex1, hdl, hmo, hli⟩) (Or.inr ⟨rfl, by decide⟩) (Or.inr ⟨⟨rfl, rfl⟩, by decide⟩) (Or.inr ⟨⟨rfl, rfl⟩, by decide⟩) (Or.inl KE) (Or.inl KF) (Or.inr (by decide)) (Or.inr (by decide)) (Or.inr (by decide))
    refine x_le (xw_le_n (xw_le_n xw_le_e)) ?_
    refine s_Law_begin_4 ?_
    exact s_Law_begin_10 ⟨_, _, _, ⟨⟨_, rfl⟩, K', frC⟩, ⟨Or.inr ⟨hop, rfl, hV1, rfl⟩, (fun q => absurd rfl q), fun _ => rfl⟩⟩
theorem xk_commit_ISE : xw_catch m_Law_commit 3 "java/lang/IllegalStateException" 11 := ⟨[], _, _, rfl, (fun z hz => nomatch hz), by decide, by decide, rfl, xw_in3 137 rfl rfl, List.mem_of_getElem? (i := 707) (by decide +kernel)⟩
set_option maxHeartbeats 2000000 in
theorem hk_commit {G : xw_G} {F L : Nat} {h : xw_A} {A : List Nat} {x d tx w st s1 s2 s3 s4 sv v1 v2 v3 v4 qo tk tl tz ph nd po k1 k2 k3 so sp ao o1 o2 o3 o4 : Nat} {ps ns : List Nat} {dl w0 w1 : Nat} {gO : Int32} {gR gV : Nat → Option Nat} {gD : Nat → Int32} {gP gQ : Nat} {gG gH : GT5} {gM : Nat × Nat} (S : CS A x d tx w st s1 s2 s3 s4 sv v1 v2 v3 v4 qo tk tl tz ph nd po k1 k2 k3 so sp ao o1 o2 o3 o4 ps ns) (K : CI A x d tx w st s1 s2 s3 s4 sv v1 v2 v3 v4 qo tk tl tz ph nd po k1 k2 k3 so sp ao o1 o2 o3 o4 ps ns dl w0 w1 gO gR gV gD gP gQ gG gH gM h) {o : Nat} {fo : Nat → Int64} (eo : h o = some (.inl (2, 1, .inr (.inl fo)))) (no : o ∉ (CLs x d tx w st s1 s2 s3 s4 sv v1 v2 v3 v4 qo tk tl tz ph nd po k1 k2 k3 so sp ao o1 o2 o3 o4 ps ns)) (hoA : o ∈ A) (hF : 7 ≤ F) (hL : 168 ≤ L) : xw_MetH G m_Law_commit F L 13 167 [.ref x, .ref o] h (fun v h' => ∃ gO' gG', HP A x d tx w st s1 s2 s3 s4 sv v1 v2 v3 v4 qo tk tl tz ph nd po k1 k2 k3 so sp ao o1 o2 o3 o4 ps ns dl w0 w1 gO' gR gV gD gP gQ gG' gH gM o h v h' ∧ (((gO = 0 ∧ gO' = gO ∧ v = some (.int 1)) ∨ (¬ gO = 0 ∧ gO' = 0 ∧ v = some (.int 0))) ∧ (¬ v = some (.int 0) → gG' = gG) ∧ (v = some (.int 0) → gG' = flG gG gM ∧ ∃ f : Nat → Int64, h' o = some (.inl (2, 1, .inr (.inl f))) ∧ f 0 = (nI (fluS gG.1 gM.1 gG.2.1 gG.2.2.1 gG.2.2.2.2).1.length).toInt64))) := by
  refine xw_MetH.of (by decide) (Nat.le_of_ble_eq_true rfl) ?_
  refine s_Law_commit_0 ?_
  obtain ⟨K1, K2, K3, K4, K5, K6, K7, K8, K9⟩ := id K
  obtain ⟨wp, gp, e_x, hdl, hmo, hli⟩ := id K1
  obtain ⟨fp_, fs_, fl_, pc, sc, lc, Lv_, KS, VS⟩ := id K5
  have SA : StA A st s1 s2 s3 s4 := ⟨S.mem 4 rfl, S.mem 5 rfl, S.mem 6 rfl, S.mem 7 rfl, S.mem 8 rfl⟩
  have hxA : x ∈ A := S.mem 0 rfl
  refine x_callVX (As := []) (b := x) (rest := [.int 0, .ref o]) (F1 := 6) (L1 := 148) (mc := 12) (ms := 162) d_Law_commit_3 cV_Law_38 (g_commit e_x KS VS SA hxA hmo (by omega) (by omega)) e_x ⟨by decide, rfl⟩ ⟨by omega, by show 8 + (1 + 11) + 148 ≤ _; omega⟩ ⟨by omega, by omega⟩ (Nat.le_of_ble_eq_true rfl) (fun E h1 p => ?_) (fun v h1 p => ?_)
  · obtain ⟨rfl, FR, hop⟩ := p
    exact ⟨11, xk_commit_ISE, fun q9 => x_le (xw_le_n (xw_le_n (xw_le_n xw_le_e))) (s_Law_commit_11 ⟨_, _, (HP.thr (K.same S FR) (FR.mono (fun _ q => nomatch q)) eo no), ⟨Or.inl ⟨hop, rfl, rfl⟩, (fun _ => rfl), fun q => nomatch q⟩⟩)⟩
  · obtain ⟨hop, rfl, ex1, KE, fr⟩ := p
    have fr9 : FrO (pick (CLs x d tx w st s1 s2 s3 s4 sv v1 v2 v3 v4 qo tk tl tz ph nd po k1 k2 k3 so sp ao o1 o2 o3 o4 ps ns) [0, 4, 7, 8]) h h1 := fr
    have frC : FrO (CLs x d tx w st s1 s2 s3 s4 sv v1 v2 v3 v4 qo tk tl tz ph nd po k1 k2 k3 so sp ao o1 o2 o3 o4 ps ns) h h1 := fr9.mono CS.inC
    have K' : CI A x d tx w st s1 s2 s3 s4 sv v1 v2 v3 v4 qo tk tl tz ph nd po k1 k2 k3 so sp ao o1 o2 o3 o4 ps ns dl w0 w1 0 gR gV gD gP gQ (flG gG gM) gH gM h1 := K.up S [0, 4, 7, 8] (by decide) fr9 (fun q hq => KE.aok q (S.pkA q hq)) (Or.inl ⟨_, _, ex1, hdl, hmo, hli⟩) (Or.inr ⟨rfl, by decide⟩) (Or.inr ⟨⟨rfl, rfl⟩, by decide⟩) (Or.inr ⟨⟨rfl, rfl⟩, by decide⟩) (Or.inl (StoT.fl KE)) (Or.inr ⟨⟨rfl, rfl⟩, by decide⟩) (Or.inr (by decide)) (Or.inr (by decide)) (Or.inr (by decide))
    have eo1 := frC o _ no eo
    refine x_le (xw_le_n (xw_le_n (xw_le_n xw_le_e))) ?_
    refine s_Law_commit_6 eo1 (by unfold vp_in; decide) ?_
    exact s_Law_commit_14 ⟨_, _, (HP.ok S K' frC no hoA), ⟨Or.inr ⟨hop, rfl, rfl⟩, (fun q => absurd rfl q), fun _ => ⟨rfl, _, xw_up_s _ _ _, pk_uLs⟩⟩⟩
theorem xk_rollback_ISE : xw_catch m_Law_rollback 3 "java/lang/IllegalStateException" 11 := ⟨[], _, _, rfl, (fun z hz => nomatch hz), by decide, by decide, rfl, xw_in3 137 rfl rfl, List.mem_of_getElem? (i := 707) (by decide +kernel)⟩
set_option maxHeartbeats 2000000 in
theorem hk_rollback {G : xw_G} {F L : Nat} {h : xw_A} {A : List Nat} {x d tx w st s1 s2 s3 s4 sv v1 v2 v3 v4 qo tk tl tz ph nd po k1 k2 k3 so sp ao o1 o2 o3 o4 : Nat} {ps ns : List Nat} {dl w0 w1 : Nat} {gO : Int32} {gR gV : Nat → Option Nat} {gD : Nat → Int32} {gP gQ : Nat} {gG gH : GT5} {gM : Nat × Nat} (S : CS A x d tx w st s1 s2 s3 s4 sv v1 v2 v3 v4 qo tk tl tz ph nd po k1 k2 k3 so sp ao o1 o2 o3 o4 ps ns) (K : CI A x d tx w st s1 s2 s3 s4 sv v1 v2 v3 v4 qo tk tl tz ph nd po k1 k2 k3 so sp ao o1 o2 o3 o4 ps ns dl w0 w1 gO gR gV gD gP gQ gG gH gM h) {o : Nat} {fo : Nat → Int64} (eo : h o = some (.inl (2, 1, .inr (.inl fo)))) (no : o ∉ (CLs x d tx w st s1 s2 s3 s4 sv v1 v2 v3 v4 qo tk tl tz ph nd po k1 k2 k3 so sp ao o1 o2 o3 o4 ps ns)) (hoA : o ∈ A) (hF : 7 ≤ F) (hL : 110 ≤ L) : xw_MetH G m_Law_rollback F L 13 167 [.ref x, .ref o] h (fun v h' => ∃ gO' gR' gG', HP A x d tx w st s1 s2 s3 s4 sv v1 v2 v3 v4 qo tk tl tz ph nd po k1 k2 k3 so sp ao o1 o2 o3 o4 ps ns dl w0 w1 gO' gR' gV gD gP gQ gG' gH gM o h v h' ∧ (((gO = 0 ∧ gO' = gO ∧ gR' = gR ∧ v = some (.int 1)) ∨ (¬ gO = 0 ∧ gO' = 0 ∧ (∀ j, 1 ≤ j → j ≤ 24 → gR' j = gV j) ∧ v = some (.int 0) ∧ ∃ f : Nat → Int64, h' o = some (.inl (2, 1, .inr (.inl f))) ∧ f 0 = (nI (cntS gR' 24)).toInt64)) ∧ (¬ v = some (.int 0) → gG' = gG) ∧ (v = some (.int 0) → gG' = (gH.1, gH.2.1, gH.2.2.1, gG.2.2.2)))) := by
  refine xw_MetH.of (by decide) (Nat.le_of_ble_eq_true rfl) ?_
  refine s_Law_rollback_0 ?_
  obtain ⟨K1, K2, K3, K4, K5, K6, K7, K8, K9⟩ := id K
  obtain ⟨wp, gp, e_x, hdl, hmo, hli⟩ := id K1
  obtain ⟨fp_, fs_, fl_, pc, sc, lc, Lv_, KS, VS⟩ := id K5
  have SA : StA A st s1 s2 s3 s4 := ⟨S.mem 4 rfl, S.mem 5 rfl, S.mem 6 rfl, S.mem 7 rfl, S.mem 8 rfl⟩
  obtain ⟨ep_, es_, el_, qc, rc, mc, Lw_, KV, VW⟩ := id K6
  have SV : StA A sv v1 v2 v3 v4 := ⟨S.mem 9 rfl, S.mem 10 rfl, S.mem 11 rfl, S.mem 12 rfl, S.mem 13 rfl⟩
  have NE : sv ≠ st ∧ v1 ≠ s1 ∧ v2 ≠ s2 ∧ v3 ≠ s3 ∧ v4 ≠ s4 := ⟨nd_ne S.1 (i := 9) (j := 4) rfl rfl (by decide), nd_ne S.1 (i := 10) (j := 5) rfl rfl (by decide), nd_ne S.1 (i := 11) (j := 6) rfl rfl (by decide), nd_ne S.1 (i := 12) (j := 7) rfl rfl (by decide), nd_ne S.1 (i := 13) (j := 8) rfl rfl (by decide)⟩
  have hxA : x ∈ A := S.mem 0 rfl
  refine x_callVX (As := []) (b := x) (rest := [.int 0, .ref o]) (F1 := 6) (L1 := 90) (mc := 1) (ms := 6) d_Law_rollback_3 cV_Law_41 (g_rollback e_x KS VS SA KV VW SV NE hxA (by omega) (by omega)) e_x ⟨by decide, rfl⟩ ⟨by omega, by show 8 + (1 + 11) + 90 ≤ _; omega⟩ ⟨by omega, by omega⟩ (Nat.le_of_ble_eq_true rfl) (fun E h1 p => ?_) (fun v h1 p => ?_)
  · obtain ⟨rfl, FR, hop⟩ := p
    exact ⟨11, xk_rollback_ISE, fun q9 => x_le (xw_le_n (xw_le_n (xw_le_n xw_le_e))) (s_Law_rollback_11 ⟨_, _, _, (HP.thr (K.same S FR) (FR.mono (fun _ q => nomatch q)) eo no), ⟨Or.inl ⟨hop, rfl, rfl, rfl⟩, (fun _ => rfl), fun q => nomatch q⟩⟩)⟩
  · obtain ⟨hop, gR1, hR1, rfl, ex1, KE, KF, fr⟩ := p
    have fr9 : FrO (pick (CLs x d tx w st s1 s2 s3 s4 sv v1 v2 v3 v4 qo tk tl tz ph nd po k1 k2 k3 so sp ao o1 o2 o3 o4 ps ns) [0, 4, 5, 6, 7]) h h1 := fr
    have frC : FrO (CLs x d tx w st s1 s2 s3 s4 sv v1 v2 v3 v4 qo tk tl tz ph nd po k1 k2 k3 so sp ao o1 o2 o3 o4 ps ns) h h1 := fr9.mono CS.inC
    have K' : CI A x d tx w st s1 s2 s3 s4 sv v1 v2 v3 v4 qo tk tl tz ph nd po k1 k2 k3 so sp ao o1 o2 o3 o4 ps ns dl w0 w1 0 gR1 gV gD gP gQ (gH.1, gH.2.1, gH.2.2.1, gG.2.2.2) gH gM h1 := K.up S [0, 4, 5, 6, 7] (by decide) fr9 (fun q hq => KE.aok q (S.pkA q hq)) (Or.inl ⟨_, _, ex1, hdl, hmo, hli⟩) (Or.inr ⟨rfl, by decide⟩) (Or.inr ⟨⟨rfl, rfl⟩, by decide⟩) (Or.inr ⟨⟨rfl, rfl⟩, by decide⟩) (Or.inl KE) (Or.inl KF) (Or.inr (by decide)) (Or.inr (by decide)) (Or.inr (by decide))
    have eo1 := frC o _ no eo
    refine x_le (xw_le_n (xw_le_n (xw_le_n xw_le_e))) ?_
    refine s_Law_rollback_6 eo1 (by unfold vp_in; decide) ?_
    exact s_Law_rollback_14 ⟨_, _, _, (HP.ok S K' frC no hoA), ⟨Or.inr ⟨hop, rfl, hR1, rfl, _, xw_up_s _ _ _, pk_uLs⟩, (fun q => absurd rfl q), fun _ => rfl⟩⟩
theorem xk_ways_IAE : xw_catch m_Law_ways 3 "java/lang/IllegalArgumentException" 9 := ⟨[], _, _, rfl, (fun z hz => nomatch hz), by decide, by decide, rfl, xw_in2 148 rfl rfl, List.mem_of_getElem? (i := 485) (by decide +kernel)⟩
set_option maxHeartbeats 2000000 in
theorem hk_ways {G : xw_G} {F L : Nat} {h : xw_A} {A : List Nat} {x d tx w st s1 s2 s3 s4 sv v1 v2 v3 v4 qo tk tl tz ph nd po k1 k2 k3 so sp ao o1 o2 o3 o4 : Nat} {ps ns : List Nat} {dl w0 w1 : Nat} {gO : Int32} {gR gV : Nat → Option Nat} {gD : Nat → Int32} {gP gQ : Nat} {gG gH : GT5} {gM : Nat × Nat} {a b : Int32} (S : CS A x d tx w st s1 s2 s3 s4 sv v1 v2 v3 v4 qo tk tl tz ph nd po k1 k2 k3 so sp ao o1 o2 o3 o4 ps ns) (K : CI A x d tx w st s1 s2 s3 s4 sv v1 v2 v3 v4 qo tk tl tz ph nd po k1 k2 k3 so sp ao o1 o2 o3 o4 ps ns dl w0 w1 gO gR gV gD gP gQ gG gH gM h) (hF : 7 ≤ F) (hL : 112 ≤ L) : xw_MetH G m_Law_ways F L 13 167 [.ref x, .int a, .int b] h (fun v h' => ∃ gM' : Nat × Nat, (((v = some (.int 0) ∧ ¬ a < 1 ∧ ¬ 9 < a ∧ ¬ b < 0 ∧ ¬ 200 < b) ∧ a = nI gM'.1 ∧ b = nI gM'.2) ∨ ((v = some (.int 1) ∧ (a < 1 ∨ 9 < a ∨ b < 0 ∨ 200 < b)) ∧ gM' = gM)) ∧ CI A x d tx w st s1 s2 s3 s4 sv v1 v2 v3 v4 qo tk tl tz ph nd po k1 k2 k3 so sp ao o1 o2 o3 o4 ps ns dl w0 w1 gO gR gV gD gP gQ gG gH gM' h' ∧ FrO (CLs x d tx w st s1 s2 s3 s4 sv v1 v2 v3 v4 qo tk tl tz ph nd po k1 k2 k3 so sp ao o1 o2 o3 o4 ps ns) h h') := by
  refine xw_MetH.of (by decide) (Nat.le_of_ble_eq_true rfl) ?_
  refine s_Law_ways_0 ?_
  obtain ⟨K1, K2, K3, K4, K5, K6, K7, K8, K9⟩ := id K
  obtain ⟨wp, gp, e_x, hdl, hmo, hli⟩ := id K1
  by_cases hn : a < 1 ∨ 9 < a ∨ b < 0 ∨ 200 < b
  · refine x_callVX (As := [.int a, .int b]) (b := x) (rest := []) (F1 := 6) (L1 := 90) (mc := 1) (ms := 6) d_Law_ways_3 cV_Law_44 (g_ways_no e_x hdl hn (by omega) (by omega)) e_x ⟨by decide, rfl⟩ ⟨by omega, by show 8 + (3 + 11) + 90 ≤ _; omega⟩ ⟨by omega, by omega⟩ (Nat.le_of_ble_eq_true rfl) (fun E h1 p => ?_) (fun v h1 p => p.elim)
    obtain ⟨rfl, rfl⟩ := p
    exact ⟨9, xk_ways_IAE, fun q9 => x_le (xw_le_n (xw_le_n (xw_le_n (xw_le_n xw_le_e)))) (s_Law_ways_9 ⟨gM, Or.inr ⟨⟨rfl, hn⟩, rfl⟩, K, FrO.rf⟩)⟩
  · have h1 : ¬ a < 1 := fun q => hn (Or.inl q)
    have h2 : ¬ 9 < a := fun q => hn (Or.inr (Or.inl q))
    have h3 : ¬ b < 0 := fun q => hn (Or.inr (Or.inr (Or.inl q)))
    have h4 : ¬ 200 < b := fun q => hn (Or.inr (Or.inr (Or.inr q)))
    obtain ⟨aN, ha1, ha2, haE⟩ := ix_of (a := 1) (b := 9) (by decide) (by decide) h1 h2
    obtain ⟨bN, hb1, hb2, hbE⟩ := ix_of (a := 0) (b := 200) (by decide) (by decide) h3 h4
    refine x_callVX (As := [.int a, .int b]) (b := x) (rest := []) (F1 := 1) (L1 := 20) (mc := 0) (ms := 0) d_Law_ways_3 cV_Law_44 (g_ways_yes e_x hdl h1 h2 h3 h4 (by omega) (by omega)) e_x ⟨by decide, rfl⟩ ⟨by omega, by show 8 + (3 + 11) + 20 ≤ _; omega⟩ ⟨by omega, by omega⟩ (Nat.le_of_ble_eq_true rfl) (fun E h1 p => p.elim) (fun v h8 p => ?_)
    obtain ⟨rfl, ex1, fr⟩ := p
    have fr9 : FrO (pick (CLs x d tx w st s1 s2 s3 s4 sv v1 v2 v3 v4 qo tk tl tz ph nd po k1 k2 k3 so sp ao o1 o2 o3 o4 ps ns) [0]) h h8 := fr
    have frC : FrO (CLs x d tx w st s1 s2 s3 s4 sv v1 v2 v3 v4 qo tk tl tz ph nd po k1 k2 k3 so sp ao o1 o2 o3 o4 ps ns) h h8 := fr9.mono CS.inC
    have K' : CI A x d tx w st s1 s2 s3 s4 sv v1 v2 v3 v4 qo tk tl tz ph nd po k1 k2 k3 so sp ao o1 o2 o3 o4 ps ns dl w0 w1 gO gR gV gD gP gQ gG gH (aN, bN) h8 := K.up S [0] (by decide) fr9 (exC ex1 exN) (Or.inl (by rw [haE, hbE] at ex1; exact ⟨_, _, ex1, hdl, ha2, hb2⟩)) (Or.inr ⟨rfl, by decide⟩) (Or.inr ⟨⟨rfl, rfl⟩, by decide⟩) (Or.inr ⟨⟨rfl, rfl⟩, by decide⟩) (Or.inr ⟨⟨rfl, rfl⟩, by decide⟩) (Or.inr ⟨⟨rfl, rfl⟩, by decide⟩) (Or.inr (by decide)) (Or.inr (by decide)) (Or.inr (by decide))
    refine x_le (xw_le_n (xw_le_n (xw_le_n (xw_le_n xw_le_e)))) ?_
    refine s_Law_ways_6 ?_
    exact s_Law_ways_12 ⟨_, Or.inl ⟨⟨rfl, h1, h2, h3, h4⟩, haE, hbE⟩, K', frC⟩
theorem xk_weight_IAE : xw_catch m_Law_weight 5 "java/lang/IllegalArgumentException" 13 := ⟨[], _, _, rfl, (fun z hz => nomatch hz), by decide, by decide, rfl, xw_in2 148 rfl rfl, List.mem_of_getElem? (i := 485) (by decide +kernel)⟩
set_option maxHeartbeats 2000000 in
theorem hk_weight {G : xw_G} {F L : Nat} {h : xw_A} {A : List Nat} {x d tx w st s1 s2 s3 s4 sv v1 v2 v3 v4 qo tk tl tz ph nd po k1 k2 k3 so sp ao o1 o2 o3 o4 : Nat} {ps ns : List Nat} {dl w0 w1 : Nat} {gO : Int32} {gR gV : Nat → Option Nat} {gD : Nat → Int32} {gP gQ : Nat} {gG gH : GT5} {gM : Nat × Nat} {a b : Int32} (S : CS A x d tx w st s1 s2 s3 s4 sv v1 v2 v3 v4 qo tk tl tz ph nd po k1 k2 k3 so sp ao o1 o2 o3 o4 ps ns) (K : CI A x d tx w st s1 s2 s3 s4 sv v1 v2 v3 v4 qo tk tl tz ph nd po k1 k2 k3 so sp ao o1 o2 o3 o4 ps ns dl w0 w1 gO gR gV gD gP gQ gG gH gM h) {o : Nat} {fo : Nat → Int64} (eo : h o = some (.inl (2, 1, .inr (.inl fo)))) (no : o ∉ (CLs x d tx w st s1 s2 s3 s4 sv v1 v2 v3 v4 qo tk tl tz ph nd po k1 k2 k3 so sp ao o1 o2 o3 o4 ps ns)) (hoA : o ∈ A) (hF : 7 ≤ F) (hL : 113 ≤ L) : xw_MetH G m_Law_weight F L 13 167 [.ref x, .int a, .int b, .ref o] h (fun v h' => ∃ w0' w1', HP A x d tx w st s1 s2 s3 s4 sv v1 v2 v3 v4 qo tk tl tz ph nd po k1 k2 k3 so sp ao o1 o2 o3 o4 ps ns dl w0' w1' gO gR gV gD gP gQ gG gH gM o h v h' ∧ (((a < 0 ∨ 1 < a ∨ b < 0 ∨ 9 < b) ∧ w0' = w0 ∧ w1' = w1 ∧ v = some (.int 1)) ∨ ∃ aN bN : Nat, aN ≤ 1 ∧ bN ≤ 9 ∧ a = nI aN ∧ b = nI bN ∧ w0' = (if aN = 0 then bN else w0) ∧ w1' = (if aN = 0 then w1 else bN) ∧ v = some (.int 0) ∧ ∃ f : Nat → Int64, h' o = some (.inl (2, 1, .inr (.inl f))) ∧ f 0 = (nI (if aN = 0 then w0 else w1)).toInt64)) := by
  refine xw_MetH.of (by decide) (Nat.le_of_ble_eq_true rfl) ?_
  refine s_Law_weight_0 ?_
  obtain ⟨K1, K2, K3, K4, K5, K6, K7, K8, K9⟩ := id K
  obtain ⟨wp, gp, e_x, hdl, hmo, hli⟩ := id K1
  obtain ⟨wf, e_w, hw0, hw1⟩ := id K4
  by_cases hn : a < 0 ∨ 1 < a
  · refine x_callVX (As := [.int a, .int b]) (b := x) (rest := [.int 0, .ref o]) (F1 := 6) (L1 := 90) (mc := 1) (ms := 6) d_Law_weight_5 cV_Law_48 (g_weight_no1 e_x hn (by omega) (by omega)) e_x ⟨by decide, rfl⟩ ⟨by omega, by show 8 + (4 + 11) + 90 ≤ _; omega⟩ ⟨by omega, by omega⟩ (Nat.le_of_ble_eq_true rfl) (fun E h1 p => ?_) (fun v h1 p => p.elim)
    obtain ⟨rfl, FR⟩ := p
    exact ⟨13, xk_weight_IAE, fun q9 => x_le (xw_le_n (xw_le_n (xw_le_n (xw_le_n (xw_le_n xw_le_e))))) (s_Law_weight_13 ⟨_, _, (HP.thr (K.same S FR) (FR.mono (fun _ q => nomatch q)) eo no), Or.inl ⟨hn.elim Or.inl (fun q => Or.inr (Or.inl q)), rfl, rfl, rfl⟩⟩)⟩
  · rw [not_or] at hn
    obtain ⟨j, j1, j2, rfl⟩ := ix_of (a := 0) (b := 1) (by decide) (by decide) hn.1 hn.2
    obtain rfl | rfl : j = 0 ∨ j = 1 := by omega
    · by_cases hn2 : b < 0 ∨ 9 < b
      · refine x_callVX (As := [.int 0, .int b]) (b := x) (rest := [.int 0, .ref o]) (F1 := 6) (L1 := 90) (mc := 1) (ms := 6) d_Law_weight_5 cV_Law_48 (g_weight_no2_0 e_x hn2 (by omega) (by omega)) e_x ⟨by decide, rfl⟩ ⟨by omega, by show 8 + (4 + 11) + 90 ≤ _; omega⟩ ⟨by omega, by omega⟩ (Nat.le_of_ble_eq_true rfl) (fun E h1 p => ?_) (fun v h1 p => p.elim)
        obtain ⟨rfl, FR⟩ := p
        exact ⟨13, xk_weight_IAE, fun q9 => x_le (xw_le_n (xw_le_n (xw_le_n (xw_le_n (xw_le_n xw_le_e))))) (s_Law_weight_13 ⟨_, _, (HP.thr (K.same S FR) (FR.mono (fun _ q => nomatch q)) eo no), Or.inl ⟨hn2.elim (fun q => Or.inr (Or.inr (Or.inl q))) (fun q => Or.inr (Or.inr (Or.inr q))), rfl, rfl, rfl⟩⟩)⟩
      · rw [not_or] at hn2
        obtain ⟨bN, -, hbN, rfl⟩ := ix_of (a := 0) (b := 9) (by decide) (by decide) hn2.1 hn2.2
        refine x_callVX (As := [.int 0, .int (nI bN)]) (b := x) (rest := [.int 0, .ref o]) (F1 := 2) (L1 := 40) (mc := 0) (ms := 0) d_Law_weight_5 cV_Law_48 (g_weight_0 e_x e_w hn2.1 hn2.2 (by omega) (by omega)) e_x ⟨by decide, rfl⟩ ⟨by omega, by show 8 + (4 + 11) + 40 ≤ _; omega⟩ ⟨by omega, by omega⟩ (Nat.le_of_ble_eq_true rfl) (fun E h1 p => p.elim) (fun v h1 p => ?_)
        obtain ⟨rfl, ew1, fr⟩ := p
        have fr9 : FrO (pick (CLs x d tx w st s1 s2 s3 s4 sv v1 v2 v3 v4 qo tk tl tz ph nd po k1 k2 k3 so sp ao o1 o2 o3 o4 ps ns) [3]) h h1 := fr
        have frC : FrO (CLs x d tx w st s1 s2 s3 s4 sv v1 v2 v3 v4 qo tk tl tz ph nd po k1 k2 k3 so sp ao o1 o2 o3 o4 ps ns) h h1 := fr9.mono CS.inC
        have K' : CI A x d tx w st s1 s2 s3 s4 sv v1 v2 v3 v4 qo tk tl tz ph nd po k1 k2 k3 so sp ao o1 o2 o3 o4 ps ns dl bN w1 gO gR gV gD gP gQ gG gH gM h1 := K.up S [3] (by decide) fr9 (exC ew1 exN) (Or.inr ⟨⟨rfl, rfl, rfl⟩, by decide⟩) (Or.inr ⟨rfl, by decide⟩) (Or.inr ⟨⟨rfl, rfl⟩, by decide⟩) (Or.inl ⟨_, ew1, ⟨pk_us, hbN⟩, ⟨(pk_un (by decide)).trans hw1.1, hw1.2⟩⟩) (Or.inr ⟨⟨rfl, rfl⟩, by decide⟩) (Or.inr ⟨⟨rfl, rfl⟩, by decide⟩) (Or.inr (by decide)) (Or.inr (by decide)) (Or.inr (by decide))
        have eo1 := frC o _ no eo
        refine x_le (xw_le_n (xw_le_n (xw_le_n (xw_le_n (xw_le_n xw_le_e))))) ?_
        refine s_Law_weight_8 eo1 (by unfold vp_in; decide) ?_
        exact s_Law_weight_17 ⟨_, _, (HP.ok S K' frC no hoA), Or.inr ⟨0, bN, by omega, hbN, rfl, rfl, rfl, rfl, rfl, _, xw_up_s _ _ _, pk_uLs.trans (congrArg Int32.toInt64 hw0.1)⟩⟩
    · by_cases hn2 : b < 0 ∨ 9 < b
      · refine x_callVX (As := [.int 1, .int b]) (b := x) (rest := [.int 0, .ref o]) (F1 := 6) (L1 := 90) (mc := 1) (ms := 6) d_Law_weight_5 cV_Law_48 (g_weight_no2_1 e_x hn2 (by omega) (by omega)) e_x ⟨by decide, rfl⟩ ⟨by omega, by show 8 + (4 + 11) + 90 ≤ _; omega⟩ ⟨by omega, by omega⟩ (Nat.le_of_ble_eq_true rfl) (fun E h1 p => ?_) (fun v h1 p => p.elim)
        obtain ⟨rfl, FR⟩ := p
        exact ⟨13, xk_weight_IAE, fun q9 => x_le (xw_le_n (xw_le_n (xw_le_n (xw_le_n (xw_le_n xw_le_e))))) (s_Law_weight_13 ⟨_, _, (HP.thr (K.same S FR) (FR.mono (fun _ q => nomatch q)) eo no), Or.inl ⟨hn2.elim (fun q => Or.inr (Or.inr (Or.inl q))) (fun q => Or.inr (Or.inr (Or.inr q))), rfl, rfl, rfl⟩⟩)⟩
      · rw [not_or] at hn2
        obtain ⟨bN, -, hbN, rfl⟩ := ix_of (a := 0) (b := 9) (by decide) (by decide) hn2.1 hn2.2
        refine x_callVX (As := [.int 1, .int (nI bN)]) (b := x) (rest := [.int 0, .ref o]) (F1 := 2) (L1 := 40) (mc := 0) (ms := 0) d_Law_weight_5 cV_Law_48 (g_weight_1 e_x e_w hn2.1 hn2.2 (by omega) (by omega)) e_x ⟨by decide, rfl⟩ ⟨by omega, by show 8 + (4 + 11) + 40 ≤ _; omega⟩ ⟨by omega, by omega⟩ (Nat.le_of_ble_eq_true rfl) (fun E h1 p => p.elim) (fun v h1 p => ?_)
        obtain ⟨rfl, ew1, fr⟩ := p
        have fr9 : FrO (pick (CLs x d tx w st s1 s2 s3 s4 sv v1 v2 v3 v4 qo tk tl tz ph nd po k1 k2 k3 so sp ao o1 o2 o3 o4 ps ns) [3]) h h1 := fr
        have frC : FrO (CLs x d tx w st s1 s2 s3 s4 sv v1 v2 v3 v4 qo tk tl tz ph nd po k1 k2 k3 so sp ao o1 o2 o3 o4 ps ns) h h1 := fr9.mono CS.inC
        have K' : CI A x d tx w st s1 s2 s3 s4 sv v1 v2 v3 v4 qo tk tl tz ph nd po k1 k2 k3 so sp ao o1 o2 o3 o4 ps ns dl w0 bN gO gR gV gD gP gQ gG gH gM h1 := K.up S [3] (by decide) fr9 (exC ew1 exN) (Or.inr ⟨⟨rfl, rfl, rfl⟩, by decide⟩) (Or.inr ⟨rfl, by decide⟩) (Or.inr ⟨⟨rfl, rfl⟩, by decide⟩) (Or.inl ⟨_, ew1, ⟨(pk_un (by decide)).trans hw0.1, hw0.2⟩, ⟨pk_us, hbN⟩⟩) (Or.inr ⟨⟨rfl, rfl⟩, by decide⟩) (Or.inr ⟨⟨rfl, rfl⟩, by decide⟩) (Or.inr (by decide)) (Or.inr (by decide)) (Or.inr (by decide))
        have eo1 := frC o _ no eo
        refine x_le (xw_le_n (xw_le_n (xw_le_n (xw_le_n (xw_le_n xw_le_e))))) ?_
        refine s_Law_weight_8 eo1 (by unfold vp_in; decide) ?_
        exact s_Law_weight_17 ⟨_, _, (HP.ok S K' frC no hoA), Or.inr ⟨1, bN, by omega, hbN, rfl, rfl, rfl, rfl, rfl, _, xw_up_s _ _ _, pk_uLs.trans (congrArg Int32.toInt64 hw1.1)⟩⟩
theorem xk_answer_IOB : xw_catch m_Law_answer 5 "java/lang/IndexOutOfBoundsException" 13 := ⟨[], _, _, rfl, (fun z hz => nomatch hz), by decide, by decide, rfl, xw_in2 149 rfl rfl, List.mem_of_getElem? (i := 554) (by decide +kernel)⟩
set_option maxHeartbeats 2000000 in
theorem hk_answer {G : xw_G} {F L : Nat} {h : xw_A} {A : List Nat} {x d tx w st s1 s2 s3 s4 sv v1 v2 v3 v4 qo tk tl tz ph nd po k1 k2 k3 so sp ao o1 o2 o3 o4 : Nat} {ps ns : List Nat} {dl w0 w1 : Nat} {gO : Int32} {gR gV : Nat → Option Nat} {gD : Nat → Int32} {gP gQ : Nat} {gG gH : GT5} {gM : Nat × Nat} {k b : Int32} (S : CS A x d tx w st s1 s2 s3 s4 sv v1 v2 v3 v4 qo tk tl tz ph nd po k1 k2 k3 so sp ao o1 o2 o3 o4 ps ns) (K : CI A x d tx w st s1 s2 s3 s4 sv v1 v2 v3 v4 qo tk tl tz ph nd po k1 k2 k3 so sp ao o1 o2 o3 o4 ps ns dl w0 w1 gO gR gV gD gP gQ gG gH gM h) {o : Nat} {fo : Nat → Int64} (eo : h o = some (.inl (2, 1, .inr (.inl fo)))) (no : o ∉ (CLs x d tx w st s1 s2 s3 s4 sv v1 v2 v3 v4 qo tk tl tz ph nd po k1 k2 k3 so sp ao o1 o2 o3 o4 ps ns)) (hoA : o ∈ A) (hF : 7 ≤ F) (hL : 112 ≤ L) : xw_MetH G m_Law_answer F L 13 167 [.ref x, .int k, .int b, .ref o] h (HP A x d tx w st s1 s2 s3 s4 sv v1 v2 v3 v4 qo tk tl tz ph nd po k1 k2 k3 so sp ao o1 o2 o3 o4 ps ns dl w0 w1 gO gR gV gD gP gQ gG gH gM o h) := by
  refine xw_MetH.of (by decide) (Nat.le_of_ble_eq_true rfl) ?_
  refine s_Law_answer_0 ?_
  obtain ⟨K1, K2, K3, K4, K5, K6, K7, K8, K9⟩ := id K
  obtain ⟨wp, gp, e_x, hdl, hmo, hli⟩ := id K1
  obtain ⟨sz, f1, f3, f4, f2, N⟩ := id K9
  by_cases hn : k < 0 ∨ nI sz ≤ k
  · refine x_callVX (As := [.int k, .int b]) (b := x) (rest := [.int 0, .ref o]) (F1 := 6) (L1 := 90) (mc := 1) (ms := 6) d_Law_answer_5 cV_Law_55 (g_answer_no e_x N hn (by omega) (by omega)) e_x ⟨by decide, rfl⟩ ⟨by omega, by show 8 + (3 + 11) + 90 ≤ _; omega⟩ ⟨by omega, by omega⟩ (Nat.le_of_ble_eq_true rfl) (fun E h1 p => ?_) (fun v h1 p => p.elim)
    obtain ⟨rfl, rfl⟩ := p
    have FR : FrO [] h h := FrO.rf
    exact ⟨13, xk_answer_IOB, fun q9 => x_le (xw_le_n (xw_le_n (xw_le_n (xw_le_n (xw_le_n xw_le_e))))) (s_Law_answer_13 (HP.thr (K.same S FR) (FR.mono (fun _ q => nomatch q)) eo no))⟩
  · rw [not_or] at hn
    obtain ⟨j, hj, rfl⟩ := nI_of hn.1
    have hsz : sz ≤ 24 := N.2.2.2.2.2.1
    have hk : j < sz := Nat.lt_of_not_le (fun q => hn.2 (nI_le q (by omega)))
    refine x_callVX (As := [.int (nI j), .int b]) (b := x) (rest := [.int 0, .ref o]) (F1 := 2) (L1 := 42) (mc := 0) (ms := 0) d_Law_answer_5 cV_Law_55 (g_answer_yes e_x N hk (by omega) (by omega)) e_x ⟨by decide, rfl⟩ ⟨by omega, by show 8 + (3 + 11) + 42 ≤ _; omega⟩ ⟨by omega, by omega⟩ (Nat.le_of_ble_eq_true rfl) (fun E h1 p => p.elim) (fun v h1 p => ?_)
    obtain ⟨⟨y, rfl⟩, rfl⟩ := p
    have frC : FrO (CLs x d tx w st s1 s2 s3 s4 sv v1 v2 v3 v4 qo tk tl tz ph nd po k1 k2 k3 so sp ao o1 o2 o3 o4 ps ns) h h := FrO.rf
    have eo1 := frC o _ no eo
    refine x_le (xw_le_n (xw_le_n (xw_le_n (xw_le_n (xw_le_n xw_le_e))))) ?_
    refine s_Law_answer_8 eo1 (by unfold vp_in; decide) ?_
    exact s_Law_answer_17 (HP.ok S K frC no hoA)
theorem xk_score_IOB : xw_catch m_Law_score 5 "java/lang/IndexOutOfBoundsException" 12 := ⟨[], _, _, rfl, (fun z hz => nomatch hz), by decide, by decide, rfl, xw_in2 149 rfl rfl, List.mem_of_getElem? (i := 554) (by decide +kernel)⟩
set_option maxHeartbeats 2000000 in
theorem hk_score {G : xw_G} {F L : Nat} {h : xw_A} {A : List Nat} {x d tx w st s1 s2 s3 s4 sv v1 v2 v3 v4 qo tk tl tz ph nd po k1 k2 k3 so sp ao o1 o2 o3 o4 : Nat} {ps ns : List Nat} {dl w0 w1 : Nat} {gO : Int32} {gR gV : Nat → Option Nat} {gD : Nat → Int32} {gP gQ : Nat} {gG gH : GT5} {gM : Nat × Nat} {k b : Int32} (S : CS A x d tx w st s1 s2 s3 s4 sv v1 v2 v3 v4 qo tk tl tz ph nd po k1 k2 k3 so sp ao o1 o2 o3 o4 ps ns) (K : CI A x d tx w st s1 s2 s3 s4 sv v1 v2 v3 v4 qo tk tl tz ph nd po k1 k2 k3 so sp ao o1 o2 o3 o4 ps ns dl w0 w1 gO gR gV gD gP gQ gG gH gM h) {o : Nat} {fo : Nat → UInt64} (eo : h o = some (.inl (3, 1, .inr (.inr (.inr (.inl fo)))))) (no : o ∉ (CLs x d tx w st s1 s2 s3 s4 sv v1 v2 v3 v4 qo tk tl tz ph nd po k1 k2 k3 so sp ao o1 o2 o3 o4 ps ns)) (hoA : o ∈ A) (hF : 7 ≤ F) (hL : 112 ≤ L) : xw_MetH G m_Law_score F L 13 167 [.ref x, .int k, .int b, .ref o] h (HD A x d tx w st s1 s2 s3 s4 sv v1 v2 v3 v4 qo tk tl tz ph nd po k1 k2 k3 so sp ao o1 o2 o3 o4 ps ns dl w0 w1 gO gR gV gD gP gQ gG gH gM o h) := by
  refine xw_MetH.of (by decide) (Nat.le_of_ble_eq_true rfl) ?_
  refine s_Law_score_0 ?_
  obtain ⟨K1, K2, K3, K4, K5, K6, K7, K8, K9⟩ := id K
  obtain ⟨wp, gp, e_x, hdl, hmo, hli⟩ := id K1
  obtain ⟨sz, f1, f3, f4, f2, N⟩ := id K9
  by_cases hn : k < 0 ∨ nI sz ≤ k
  · refine x_callVX (As := [.int k, .int b]) (b := x) (rest := [.int 0, .ref o]) (F1 := 6) (L1 := 90) (mc := 1) (ms := 6) d_Law_score_5 cV_Law_59 (g_score_no e_x N hn (by omega) (by omega)) e_x ⟨by decide, rfl⟩ ⟨by omega, by show 8 + (3 + 11) + 90 ≤ _; omega⟩ ⟨by omega, by omega⟩ (Nat.le_of_ble_eq_true rfl) (fun E h1 p => ?_) (fun v h1 p => p.elim)
    obtain ⟨rfl, rfl⟩ := p
    have FR : FrO [] h h := FrO.rf
    exact ⟨12, xk_score_IOB, fun q9 => x_le (xw_le_n (xw_le_n (xw_le_n (xw_le_n (xw_le_n xw_le_e))))) (s_Law_score_12 (HD.thr (K.same S FR) (FR.mono (fun _ q => nomatch q)) eo no))⟩
  · rw [not_or] at hn
    obtain ⟨j, hj, rfl⟩ := nI_of hn.1
    have hsz : sz ≤ 24 := N.2.2.2.2.2.1
    have hk : j < sz := Nat.lt_of_not_le (fun q => hn.2 (nI_le q (by omega)))
    refine x_callVX (As := [.int (nI j), .int b]) (b := x) (rest := [.int 0, .ref o]) (F1 := 2) (L1 := 42) (mc := 0) (ms := 0) d_Law_score_5 cV_Law_59 (g_score_yes e_x N hk (by omega) (by omega)) e_x ⟨by decide, rfl⟩ ⟨by omega, by show 8 + (3 + 11) + 42 ≤ _; omega⟩ ⟨by omega, by omega⟩ (Nat.le_of_ble_eq_true rfl) (fun E h1 p => p.elim) (fun v h1 p => ?_)
    obtain ⟨⟨y, rfl⟩, rfl⟩ := p
    have frC : FrO (CLs x d tx w st s1 s2 s3 s4 sv v1 v2 v3 v4 qo tk tl tz ph nd po k1 k2 k3 so sp ao o1 o2 o3 o4 ps ns) h h := FrO.rf
    have eo1 := frC o _ no eo
    refine x_le (xw_le_n (xw_le_n (xw_le_n (xw_le_n (xw_le_n xw_le_e))))) ?_
    refine s_Law_score_8 eo1 (by unfold vp_in; decide) ?_
    exact s_Law_score_16 (HD.ok S K frC no hoA)
theorem xk_look_NSE : xw_catch m_Law_look 5 "java/util/NoSuchElementException" 13 := ⟨[], _, _, rfl, (fun z hz => nomatch hz), by decide, by decide, rfl, xw_in3 94 rfl rfl, List.mem_of_getElem? (i := 668) (by decide +kernel)⟩
theorem xk_look_IAE : xw_catch m_Law_look 5 "java/lang/IllegalArgumentException" 17 := ⟨[_], _, _, rfl, (fun z hz => by rw [List.mem_singleton.mp hz]; exact Or.inr ⟨by decide, "java/util/NoSuchElementException", xw_in3 94 rfl rfl, by decide +kernel⟩), by decide, by decide, rfl, xw_in2 148 rfl rfl, List.mem_of_getElem? (i := 485) (by decide +kernel)⟩
set_option maxHeartbeats 2000000 in
theorem hk_look {G : xw_G} {F L : Nat} {h : xw_A} {A : List Nat} {x d tx w st s1 s2 s3 s4 sv v1 v2 v3 v4 qo tk tl tz ph nd po k1 k2 k3 so sp ao o1 o2 o3 o4 : Nat} {ps ns : List Nat} {dl w0 w1 : Nat} {gO : Int32} {gR gV : Nat → Option Nat} {gD : Nat → Int32} {gP gQ : Nat} {gG gH : GT5} {gM : Nat × Nat} {r y : Int32} (S : CS A x d tx w st s1 s2 s3 s4 sv v1 v2 v3 v4 qo tk tl tz ph nd po k1 k2 k3 so sp ao o1 o2 o3 o4 ps ns) (K : CI A x d tx w st s1 s2 s3 s4 sv v1 v2 v3 v4 qo tk tl tz ph nd po k1 k2 k3 so sp ao o1 o2 o3 o4 ps ns dl w0 w1 gO gR gV gD gP gQ gG gH gM h) {o : Nat} {fo : Nat → Int64} (eo : h o = some (.inl (2, 1, .inr (.inl fo)))) (no : o ∉ (CLs x d tx w st s1 s2 s3 s4 sv v1 v2 v3 v4 qo tk tl tz ph nd po k1 k2 k3 so sp ao o1 o2 o3 o4 ps ns)) (hoA : o ∈ A) (hF : 7 ≤ F) (hL : 113 ≤ L) : xw_MetH G m_Law_look F L 13 167 [.ref x, .int r, .int y, .ref o] h (fun v h' => HP A x d tx w st s1 s2 s3 s4 sv v1 v2 v3 v4 qo tk tl tz ph nd po k1 k2 k3 so sp ao o1 o2 o3 o4 ps ns dl w0 w1 gO gR gV gD gP gQ gG gH gM o h v h' ∧ (((∀ j, 1 ≤ j → j ≤ 24 → r = nI j → gR j = none) ∧ v = some (.int 1)) ∨ ((y < 0 ∨ 2 < y) ∧ v = some (.int 2) ∧ ∃ j a : Nat, 1 ≤ j ∧ j ≤ 24 ∧ r = nI j ∧ gR j = some a) ∨ (v = some (.int 0) ∧ ∃ (j a p q l z n l2 z2 n2 vr : Nat) (vn ve : Int32) (f : Nat → Int64), 1 ≤ j ∧ j ≤ 24 ∧ r = nI j ∧ gR j = some a ∧ h' a = some (.inr (10, [.int vn, .int (nI vr), .ref p, .ref q, .int ve])) ∧ h' p = some (.inr (9, [.ref l, .ref z, .int (nI n)])) ∧ h' q = some (.inr (9, [.ref l2, .ref z2, .int (nI n2)])) ∧ h' o = some (.inl (2, 1, .inr (.inl f))) ∧ ((y = nI 0 ∧ f 0 = (nI n).toInt64) ∨ (y = nI 1 ∧ f 0 = (nI n2).toInt64) ∨ (y = nI 2 ∧ f 0 = ve.toInt64))))) := by
  refine xw_MetH.of (by decide) (Nat.le_of_ble_eq_true rfl) ?_
  refine s_Law_look_0 ?_
  obtain ⟨K1, K2, K3, K4, K5, K6, K7, K8, K9⟩ := id K
  obtain ⟨wp, gp, e_x, hdl, hmo, hli⟩ := id K1
  obtain ⟨fp_, fs_, fl_, pc, sc, lc, Lv_, KS, VS⟩ := id K5
  have SA : StA A st s1 s2 s3 s4 := ⟨S.mem 4 rfl, S.mem 5 rfl, S.mem 6 rfl, S.mem 7 rfl, S.mem 8 rfl⟩
  refine x_callVX (As := [.int r, .int y]) (b := x) (rest := [.int 0, .ref o]) (F1 := 6) (L1 := 90) (mc := 1) (ms := 6) d_Law_look_5 cV_Law_63 (g_look e_x KS SA (by omega) (by omega)) e_x ⟨by decide, rfl⟩ ⟨by omega, by show 8 + (4 + 11) + 90 ≤ _; omega⟩ ⟨by omega, by omega⟩ (Nat.le_of_ble_eq_true rfl) (fun E h1 p => ?_) (fun v h1 p => ?_)
  · obtain ⟨⟨rfl, hall⟩ | ⟨rfl, hyr, hj⟩, rfl⟩ := p
    · have FR : FrO [] h h := FrO.rf
      exact ⟨13, xk_look_NSE, fun q9 => x_le (xw_le_n (xw_le_n (xw_le_n (xw_le_n (xw_le_n xw_le_e))))) (s_Law_look_13 ⟨(HP.thr (K.same S FR) (FR.mono (fun _ q => nomatch q)) eo no), Or.inl ⟨hall, rfl⟩⟩)⟩
    · have FR : FrO [] h h := FrO.rf
      exact ⟨17, xk_look_IAE, fun q9 => x_le (xw_le_n (xw_le_n (xw_le_n (xw_le_n (xw_le_n xw_le_e))))) (s_Law_look_17 ⟨(HP.thr (K.same S FR) (FR.mono (fun _ q => nomatch q)) eo no), Or.inr (Or.inl ⟨hyr, rfl, hj⟩)⟩)⟩
  · obtain ⟨⟨c, a, p, q, l, z, n, l2, z2, n2, vr, vn, ve, hc1, hc2, hcr, hcn, ⟨ea, ep, eq⟩, hv⟩, rfl⟩ := p
    have hvA := KS.2.2.2.2.2.2.2.2.1 c a hcn
    obtain ⟨haA, _, _, _, _, _, eh, -, -, hpk, hqk⟩ := id hvA
    have e9 := ea.symm.trans eh
    simp only [Option.some.injEq, Sum.inr.injEq, Prod.mk.injEq, List.cons.injEq, Value.int.injEq, Value.ref.injEq, true_and, and_true] at e9
    obtain ⟨-, -, rfl, rfl, -⟩ := e9
    have nx : ∀ {u : Nat}, u ∉ A → u ≠ o := fun hu q => hu (by rw [q]; exact hoA)
    have frC : FrO (CLs x d tx w st s1 s2 s3 s4 sv v1 v2 v3 v4 qo tk tl tz ph nd po k1 k2 k3 so sp ao o1 o2 o3 o4 ps ns) h h := FrO.rf
    rcases hv with ⟨hv1, rfl⟩ | ⟨hv1, rfl⟩ | ⟨hv1, rfl⟩
    · have eo1 := frC o _ no eo
      refine x_le (xw_le_n (xw_le_n (xw_le_n (xw_le_n (xw_le_n xw_le_e))))) ?_
      refine s_Law_look_8 eo1 (by unfold vp_in; decide) ?_
      exact s_Law_look_21 ⟨(HP.ok S K frC no hoA), Or.inr (Or.inr ⟨rfl, c, a, _, _, l, z, n, l2, z2, n2, vr, vn, ve, _, hc1, hc2, hcr, hcn, (xw_up_n _ _ (nx haA)).trans ea, (xw_up_n _ _ (nx hpk.1)).trans ep, (xw_up_n _ _ (nx hqk.1)).trans eq, xw_up_s _ _ _, Or.inl ⟨hv1, pk_uLs⟩⟩)⟩
    · have eo1 := frC o _ no eo
      refine x_le (xw_le_n (xw_le_n (xw_le_n (xw_le_n (xw_le_n xw_le_e))))) ?_
      refine s_Law_look_8 eo1 (by unfold vp_in; decide) ?_
      exact s_Law_look_21 ⟨(HP.ok S K frC no hoA), Or.inr (Or.inr ⟨rfl, c, a, _, _, l, z, n, l2, z2, n2, vr, vn, ve, _, hc1, hc2, hcr, hcn, (xw_up_n _ _ (nx haA)).trans ea, (xw_up_n _ _ (nx hpk.1)).trans ep, (xw_up_n _ _ (nx hqk.1)).trans eq, xw_up_s _ _ _, Or.inr (Or.inl ⟨hv1, pk_uLs⟩)⟩)⟩
    · have eo1 := frC o _ no eo
      refine x_le (xw_le_n (xw_le_n (xw_le_n (xw_le_n (xw_le_n xw_le_e))))) ?_
      refine s_Law_look_8 eo1 (by unfold vp_in; decide) ?_
      exact s_Law_look_21 ⟨(HP.ok S K frC no hoA), Or.inr (Or.inr ⟨rfl, c, a, _, _, l, z, n, l2, z2, n2, vr, vn, ve, _, hc1, hc2, hcr, hcn, (xw_up_n _ _ (nx haA)).trans ea, (xw_up_n _ _ (nx hpk.1)).trans ep, (xw_up_n _ _ (nx hqk.1)).trans eq, xw_up_s _ _ _, Or.inr (Or.inr ⟨hv1, pk_uLs⟩)⟩)⟩
theorem xk_segment_IOB : xw_catch m_Law_segment 5 "java/lang/IndexOutOfBoundsException" 13 := ⟨[], _, _, rfl, (fun z hz => nomatch hz), by decide, by decide, rfl, xw_in2 149 rfl rfl, List.mem_of_getElem? (i := 554) (by decide +kernel)⟩
theorem xk_segment_IAE : xw_catch m_Law_segment 5 "java/lang/IllegalArgumentException" 17 := ⟨[_], _, _, rfl, (fun z hz => by rw [List.mem_singleton.mp hz]; exact Or.inr ⟨by decide, "java/lang/IndexOutOfBoundsException", xw_in2 149 rfl rfl, by decide +kernel⟩), by decide, by decide, rfl, xw_in2 148 rfl rfl, List.mem_of_getElem? (i := 485) (by decide +kernel)⟩
set_option maxHeartbeats 2000000 in
theorem hk_segment {G : xw_G} {F L : Nat} {h : xw_A} {A : List Nat} {x d tx w st s1 s2 s3 s4 sv v1 v2 v3 v4 qo tk tl tz ph nd po k1 k2 k3 so sp ao o1 o2 o3 o4 : Nat} {ps ns : List Nat} {dl w0 w1 : Nat} {gO : Int32} {gR gV : Nat → Option Nat} {gD : Nat → Int32} {gP gQ : Nat} {gG gH : GT5} {gM : Nat × Nat} {k y : Int32} (S : CS A x d tx w st s1 s2 s3 s4 sv v1 v2 v3 v4 qo tk tl tz ph nd po k1 k2 k3 so sp ao o1 o2 o3 o4 ps ns) (K : CI A x d tx w st s1 s2 s3 s4 sv v1 v2 v3 v4 qo tk tl tz ph nd po k1 k2 k3 so sp ao o1 o2 o3 o4 ps ns dl w0 w1 gO gR gV gD gP gQ gG gH gM h) {o : Nat} {fo : Nat → Int64} (eo : h o = some (.inl (2, 1, .inr (.inl fo)))) (no : o ∉ (CLs x d tx w st s1 s2 s3 s4 sv v1 v2 v3 v4 qo tk tl tz ph nd po k1 k2 k3 so sp ao o1 o2 o3 o4 ps ns)) (hoA : o ∈ A) (hF : 7 ≤ F) (hL : 113 ≤ L) : xw_MetH G m_Law_segment F L 13 167 [.ref x, .int k, .int y, .ref o] h (fun v h' => HP A x d tx w st s1 s2 s3 s4 sv v1 v2 v3 v4 qo tk tl tz ph nd po k1 k2 k3 so sp ao o1 o2 o3 o4 ps ns dl w0 w1 gO gR gV gD gP gQ gG gH gM o h v h' ∧ (((∀ j, j < gG.2.2.1.length → ¬ k = nI j) ∧ v = some (.int 1)) ∨ ((y < 0 ∨ 2 < y) ∧ v = some (.int 2) ∧ ∃ j, j < gG.2.2.1.length ∧ k = nI j) ∨ (v = some (.int 0) ∧ ∃ (j : Nat) (s : SG) (f : Nat → Int64), gG.2.2.1[j]? = some s ∧ k = nI j ∧ h' o = some (.inl (2, 1, .inr (.inl f))) ∧ ((y = nI 0 ∧ f 0 = (nI s.1).toInt64) ∨ (y = nI 1 ∧ f 0 = (nI s.2.length).toInt64) ∨ (y = nI 2 ∧ f 0 = (nI (sumE s.2)).toInt64))))) := by
  refine xw_MetH.of (by decide) (Nat.le_of_ble_eq_true rfl) ?_
  refine s_Law_segment_0 ?_
  obtain ⟨K1, K2, K3, K4, K5, K6, K7, K8, K9⟩ := id K
  obtain ⟨wp, gp, e_x, hdl, hmo, hli⟩ := id K1
  obtain ⟨fp_, fs_, fl_, pc, sc, lc, Lv_, KS, VS⟩ := id K5
  have SA : StA A st s1 s2 s3 s4 := ⟨S.mem 4 rfl, S.mem 5 rfl, S.mem 6 rfl, S.mem 7 rfl, S.mem 8 rfl⟩
  refine x_callVX (As := [.int k, .int y]) (b := x) (rest := [.int 0, .ref o]) (F1 := 6) (L1 := 90) (mc := 1) (ms := 6) d_Law_segment_5 cV_Law_66 (g_segment e_x KS VS SA (by omega) (by omega)) e_x ⟨by decide, rfl⟩ ⟨by omega, by show 8 + (4 + 11) + 90 ≤ _; omega⟩ ⟨by omega, by omega⟩ (Nat.le_of_ble_eq_true rfl) (fun E h1 p => ?_) (fun v h1 p => ?_)
  · obtain ⟨⟨rfl, hno⟩ | ⟨rfl, hyr, hj⟩, rfl⟩ := p
    · have FR : FrO [] h h := FrO.rf
      exact ⟨13, xk_segment_IOB, fun q9 => x_le (xw_le_n (xw_le_n (xw_le_n (xw_le_n (xw_le_n xw_le_e))))) (s_Law_segment_13 ⟨(HP.thr (K.same S FR) (FR.mono (fun _ q => nomatch q)) eo no), Or.inl ⟨hno, rfl⟩⟩)⟩
    · have FR : FrO [] h h := FrO.rf
      exact ⟨17, xk_segment_IAE, fun q9 => x_le (xw_le_n (xw_le_n (xw_le_n (xw_le_n (xw_le_n xw_le_e))))) (s_Law_segment_17 ⟨(HP.thr (K.same S FR) (FR.mono (fun _ q => nomatch q)) eo no), Or.inr (Or.inl ⟨hyr, rfl, hj⟩)⟩)⟩
  · obtain ⟨⟨j9, s9, hs9, hk9, hv9⟩, rfl⟩ := p
    have frC : FrO (CLs x d tx w st s1 s2 s3 s4 sv v1 v2 v3 v4 qo tk tl tz ph nd po k1 k2 k3 so sp ao o1 o2 o3 o4 ps ns) h h := FrO.rf
    rcases hv9 with ⟨hy9, rfl⟩ | ⟨hy9, rfl⟩ | ⟨hy9, rfl⟩
    · have eo1 := frC o _ no eo
      refine x_le (xw_le_n (xw_le_n (xw_le_n (xw_le_n (xw_le_n xw_le_e))))) ?_
      refine s_Law_segment_8 eo1 (by unfold vp_in; decide) ?_
      exact s_Law_segment_21 ⟨(HP.ok S K frC no hoA), Or.inr (Or.inr ⟨rfl, j9, s9, _, hs9, hk9, xw_up_s _ _ _, Or.inl ⟨hy9, pk_uLs⟩⟩)⟩
    · have eo1 := frC o _ no eo
      refine x_le (xw_le_n (xw_le_n (xw_le_n (xw_le_n (xw_le_n xw_le_e))))) ?_
      refine s_Law_segment_8 eo1 (by unfold vp_in; decide) ?_
      exact s_Law_segment_21 ⟨(HP.ok S K frC no hoA), Or.inr (Or.inr ⟨rfl, j9, s9, _, hs9, hk9, xw_up_s _ _ _, Or.inr (Or.inl ⟨hy9, pk_uLs⟩)⟩)⟩
    · have eo1 := frC o _ no eo
      refine x_le (xw_le_n (xw_le_n (xw_le_n (xw_le_n (xw_le_n xw_le_e))))) ?_
      refine s_Law_segment_8 eo1 (by unfold vp_in; decide) ?_
      exact s_Law_segment_21 ⟨(HP.ok S K frC no hoA), Or.inr (Or.inr ⟨rfl, j9, s9, _, hs9, hk9, xw_up_s _ _ _, Or.inr (Or.inr ⟨hy9, pk_uLs⟩)⟩)⟩
theorem xk_count_IAE : xw_catch m_Law_count 4 "java/lang/IllegalArgumentException" 12 := ⟨[], _, _, rfl, (fun z hz => nomatch hz), by decide, by decide, rfl, xw_in2 148 rfl rfl, List.mem_of_getElem? (i := 485) (by decide +kernel)⟩
set_option maxHeartbeats 2000000 in
theorem hk_count {G : xw_G} {F L : Nat} {h : xw_A} {A : List Nat} {x d tx w st s1 s2 s3 s4 sv v1 v2 v3 v4 qo tk tl tz ph nd po k1 k2 k3 so sp ao o1 o2 o3 o4 : Nat} {ps ns : List Nat} {dl w0 w1 : Nat} {gO : Int32} {gR gV : Nat → Option Nat} {gD : Nat → Int32} {gP gQ : Nat} {gG gH : GT5} {gM : Nat × Nat} {a : Int32} (S : CS A x d tx w st s1 s2 s3 s4 sv v1 v2 v3 v4 qo tk tl tz ph nd po k1 k2 k3 so sp ao o1 o2 o3 o4 ps ns) (K : CI A x d tx w st s1 s2 s3 s4 sv v1 v2 v3 v4 qo tk tl tz ph nd po k1 k2 k3 so sp ao o1 o2 o3 o4 ps ns dl w0 w1 gO gR gV gD gP gQ gG gH gM h) {o : Nat} {fo : Nat → Int64} (eo : h o = some (.inl (2, 1, .inr (.inl fo)))) (no : o ∉ (CLs x d tx w st s1 s2 s3 s4 sv v1 v2 v3 v4 qo tk tl tz ph nd po k1 k2 k3 so sp ao o1 o2 o3 o4 ps ns)) (hoA : o ∈ A) (hF : 7 ≤ F) (hL : 111 ≤ L) : xw_MetH G m_Law_count F L 13 167 [.ref x, .int a, .ref o] h (HP A x d tx w st s1 s2 s3 s4 sv v1 v2 v3 v4 qo tk tl tz ph nd po k1 k2 k3 so sp ao o1 o2 o3 o4 ps ns dl w0 w1 gO gR gV gD gP gQ gG gH gM o h) := by
  refine xw_MetH.of (by decide) (Nat.le_of_ble_eq_true rfl) ?_
  refine s_Law_count_0 ?_
  obtain ⟨K1, K2, K3, K4, K5, K6, K7, K8, K9⟩ := id K
  obtain ⟨wp, gp, e_x, hdl, hmo, hli⟩ := id K1
  obtain ⟨fp_, fs_, fl_, pc, sc, lc, Lv_, KS, VS⟩ := id K5
  have SA : StA A st s1 s2 s3 s4 := ⟨S.mem 4 rfl, S.mem 5 rfl, S.mem 6 rfl, S.mem 7 rfl, S.mem 8 rfl⟩
  obtain ⟨sz, f1, f3, f4, f2, N⟩ := id K9
  by_cases hn : a < 0 ∨ 8 < a
  · refine x_callVX (As := [.int a]) (b := x) (rest := [.int 0, .ref o]) (F1 := 6) (L1 := 90) (mc := 1) (ms := 6) d_Law_count_4 cV_Law_69 (g_count_no e_x hn (by omega) (by omega)) e_x ⟨by decide, rfl⟩ ⟨by omega, by show 8 + (2 + 11) + 90 ≤ _; omega⟩ ⟨by omega, by omega⟩ (Nat.le_of_ble_eq_true rfl) (fun E h1 p => ?_) (fun v h1 p => p.elim)
    obtain ⟨rfl, rfl⟩ := p
    have FR : FrO [] h h := FrO.rf
    exact ⟨12, xk_count_IAE, fun q9 => x_le (xw_le_n (xw_le_n (xw_le_n (xw_le_n xw_le_e)))) (s_Law_count_12 (HP.thr (K.same S FR) (FR.mono (fun _ q => nomatch q)) eo no))⟩
  · rw [not_or] at hn
    obtain ⟨j, j1, j2, rfl⟩ := ix_of (a := 0) (b := 8) (by decide) (by decide) hn.1 hn.2
    obtain rfl | rfl | rfl | rfl | rfl | rfl | rfl | rfl | rfl : j = 0 ∨ j = 1 ∨ j = 2 ∨ j = 3 ∨ j = 4 ∨ j = 5 ∨ j = 6 ∨ j = 7 ∨ j = 8 := by omega
    · refine x_callVX (As := [.int 0]) (b := x) (rest := [.int 0, .ref o]) (F1 := 2) (L1 := 42) (mc := 0) (ms := 0) d_Law_count_4 cV_Law_69 (g_count_0 e_x KS N (by omega) (by omega)) e_x ⟨by decide, rfl⟩ ⟨by omega, by show 8 + (2 + 11) + 42 ≤ _; omega⟩ ⟨by omega, by omega⟩ (Nat.le_of_ble_eq_true rfl) (fun E h1 p => p.elim) (fun v h1 p => ?_)
      obtain ⟨⟨y1, rfl⟩, rfl⟩ := p
      have frC : FrO (CLs x d tx w st s1 s2 s3 s4 sv v1 v2 v3 v4 qo tk tl tz ph nd po k1 k2 k3 so sp ao o1 o2 o3 o4 ps ns) h h := FrO.rf
      have eo1 := frC o _ no eo
      refine x_le (xw_le_n (xw_le_n (xw_le_n (xw_le_n xw_le_e)))) ?_
      refine s_Law_count_7 eo1 (by unfold vp_in; decide) ?_
      exact s_Law_count_15 (HP.ok S K frC no hoA)
    · refine x_callVX (As := [.int 1]) (b := x) (rest := [.int 0, .ref o]) (F1 := 1) (L1 := 20) (mc := 0) (ms := 0) d_Law_count_4 cV_Law_69 (g_count_1 e_x KS N (by omega) (by omega)) e_x ⟨by decide, rfl⟩ ⟨by omega, by show 8 + (2 + 11) + 20 ≤ _; omega⟩ ⟨by omega, by omega⟩ (Nat.le_of_ble_eq_true rfl) (fun E h1 p => p.elim) (fun v h1 p => ?_)
      obtain ⟨⟨y1, rfl⟩, rfl⟩ := p
      have frC : FrO (CLs x d tx w st s1 s2 s3 s4 sv v1 v2 v3 v4 qo tk tl tz ph nd po k1 k2 k3 so sp ao o1 o2 o3 o4 ps ns) h h := FrO.rf
      have eo1 := frC o _ no eo
      refine x_le (xw_le_n (xw_le_n (xw_le_n (xw_le_n xw_le_e)))) ?_
      refine s_Law_count_7 eo1 (by unfold vp_in; decide) ?_
      exact s_Law_count_15 (HP.ok S K frC no hoA)
    · refine x_callVX (As := [.int 2]) (b := x) (rest := [.int 0, .ref o]) (F1 := 1) (L1 := 20) (mc := 0) (ms := 0) d_Law_count_4 cV_Law_69 (g_count_2 e_x KS N (by omega) (by omega)) e_x ⟨by decide, rfl⟩ ⟨by omega, by show 8 + (2 + 11) + 20 ≤ _; omega⟩ ⟨by omega, by omega⟩ (Nat.le_of_ble_eq_true rfl) (fun E h1 p => p.elim) (fun v h1 p => ?_)
      obtain ⟨⟨y1, rfl⟩, rfl⟩ := p
      have frC : FrO (CLs x d tx w st s1 s2 s3 s4 sv v1 v2 v3 v4 qo tk tl tz ph nd po k1 k2 k3 so sp ao o1 o2 o3 o4 ps ns) h h := FrO.rf
      have eo1 := frC o _ no eo
      refine x_le (xw_le_n (xw_le_n (xw_le_n (xw_le_n xw_le_e)))) ?_
      refine s_Law_count_7 eo1 (by unfold vp_in; decide) ?_
      exact s_Law_count_15 (HP.ok S K frC no hoA)
    · refine x_callVX (As := [.int 3]) (b := x) (rest := [.int 0, .ref o]) (F1 := 1) (L1 := 20) (mc := 0) (ms := 0) d_Law_count_4 cV_Law_69 (g_count_3 e_x KS N (by omega) (by omega)) e_x ⟨by decide, rfl⟩ ⟨by omega, by show 8 + (2 + 11) + 20 ≤ _; omega⟩ ⟨by omega, by omega⟩ (Nat.le_of_ble_eq_true rfl) (fun E h1 p => p.elim) (fun v h1 p => ?_)
      obtain ⟨⟨y1, rfl⟩, rfl⟩ := p
      have frC : FrO (CLs x d tx w st s1 s2 s3 s4 sv v1 v2 v3 v4 qo tk tl tz ph nd po k1 k2 k3 so sp ao o1 o2 o3 o4 ps ns) h h := FrO.rf
      have eo1 := frC o _ no eo
      refine x_le (xw_le_n (xw_le_n (xw_le_n (xw_le_n xw_le_e)))) ?_
      refine s_Law_count_7 eo1 (by unfold vp_in; decide) ?_
      exact s_Law_count_15 (HP.ok S K frC no hoA)
    · refine x_callVX (As := [.int 4]) (b := x) (rest := [.int 0, .ref o]) (F1 := 1) (L1 := 20) (mc := 0) (ms := 0) d_Law_count_4 cV_Law_69 (g_count_4 e_x KS N (by omega) (by omega)) e_x ⟨by decide, rfl⟩ ⟨by omega, by show 8 + (2 + 11) + 20 ≤ _; omega⟩ ⟨by omega, by omega⟩ (Nat.le_of_ble_eq_true rfl) (fun E h1 p => p.elim) (fun v h1 p => ?_)
      obtain ⟨⟨y1, rfl⟩, rfl⟩ := p
      have frC : FrO (CLs x d tx w st s1 s2 s3 s4 sv v1 v2 v3 v4 qo tk tl tz ph nd po k1 k2 k3 so sp ao o1 o2 o3 o4 ps ns) h h := FrO.rf
      have eo1 := frC o _ no eo
      refine x_le (xw_le_n (xw_le_n (xw_le_n (xw_le_n xw_le_e)))) ?_
      refine s_Law_count_7 eo1 (by unfold vp_in; decide) ?_
      exact s_Law_count_15 (HP.ok S K frC no hoA)
    · refine x_callVX (As := [.int 5]) (b := x) (rest := [.int 0, .ref o]) (F1 := 1) (L1 := 20) (mc := 0) (ms := 0) d_Law_count_4 cV_Law_69 (g_count_5 e_x KS N (by omega) (by omega)) e_x ⟨by decide, rfl⟩ ⟨by omega, by show 8 + (2 + 11) + 20 ≤ _; omega⟩ ⟨by omega, by omega⟩ (Nat.le_of_ble_eq_true rfl) (fun E h1 p => p.elim) (fun v h1 p => ?_)
      obtain ⟨⟨y1, rfl⟩, rfl⟩ := p
      have frC : FrO (CLs x d tx w st s1 s2 s3 s4 sv v1 v2 v3 v4 qo tk tl tz ph nd po k1 k2 k3 so sp ao o1 o2 o3 o4 ps ns) h h := FrO.rf
      have eo1 := frC o _ no eo
      refine x_le (xw_le_n (xw_le_n (xw_le_n (xw_le_n xw_le_e)))) ?_
      refine s_Law_count_7 eo1 (by unfold vp_in; decide) ?_
      exact s_Law_count_15 (HP.ok S K frC no hoA)
    · refine x_callVX (As := [.int 6]) (b := x) (rest := [.int 0, .ref o]) (F1 := 1) (L1 := 20) (mc := 0) (ms := 0) d_Law_count_4 cV_Law_69 (g_count_6 e_x KS N (by omega) (by omega)) e_x ⟨by decide, rfl⟩ ⟨by omega, by show 8 + (2 + 11) + 20 ≤ _; omega⟩ ⟨by omega, by omega⟩ (Nat.le_of_ble_eq_true rfl) (fun E h1 p => p.elim) (fun v h1 p => ?_)
      obtain ⟨⟨y1, rfl⟩, rfl⟩ := p
      have frC : FrO (CLs x d tx w st s1 s2 s3 s4 sv v1 v2 v3 v4 qo tk tl tz ph nd po k1 k2 k3 so sp ao o1 o2 o3 o4 ps ns) h h := FrO.rf
      have eo1 := frC o _ no eo
      refine x_le (xw_le_n (xw_le_n (xw_le_n (xw_le_n xw_le_e)))) ?_
      refine s_Law_count_7 eo1 (by unfold vp_in; decide) ?_
      exact s_Law_count_15 (HP.ok S K frC no hoA)
    · refine x_callVX (As := [.int 7]) (b := x) (rest := [.int 0, .ref o]) (F1 := 1) (L1 := 20) (mc := 0) (ms := 0) d_Law_count_4 cV_Law_69 (g_count_7 e_x KS N (by omega) (by omega)) e_x ⟨by decide, rfl⟩ ⟨by omega, by show 8 + (2 + 11) + 20 ≤ _; omega⟩ ⟨by omega, by omega⟩ (Nat.le_of_ble_eq_true rfl) (fun E h1 p => p.elim) (fun v h1 p => ?_)
      obtain ⟨⟨y1, rfl⟩, rfl⟩ := p
      have frC : FrO (CLs x d tx w st s1 s2 s3 s4 sv v1 v2 v3 v4 qo tk tl tz ph nd po k1 k2 k3 so sp ao o1 o2 o3 o4 ps ns) h h := FrO.rf
      have eo1 := frC o _ no eo
      refine x_le (xw_le_n (xw_le_n (xw_le_n (xw_le_n xw_le_e)))) ?_
      refine s_Law_count_7 eo1 (by unfold vp_in; decide) ?_
      exact s_Law_count_15 (HP.ok S K frC no hoA)
    · refine x_callVX (As := [.int 8]) (b := x) (rest := [.int 0, .ref o]) (F1 := 1) (L1 := 20) (mc := 0) (ms := 0) d_Law_count_4 cV_Law_69 (g_count_8 e_x KS N (by omega) (by omega)) e_x ⟨by decide, rfl⟩ ⟨by omega, by show 8 + (2 + 11) + 20 ≤ _; omega⟩ ⟨by omega, by omega⟩ (Nat.le_of_ble_eq_true rfl) (fun E h1 p => p.elim) (fun v h1 p => ?_)
      obtain ⟨⟨y1, rfl⟩, rfl⟩ := p
      have frC : FrO (CLs x d tx w st s1 s2 s3 s4 sv v1 v2 v3 v4 qo tk tl tz ph nd po k1 k2 k3 so sp ao o1 o2 o3 o4 ps ns) h h := FrO.rf
      have eo1 := frC o _ no eo
      refine x_le (xw_le_n (xw_le_n (xw_le_n (xw_le_n xw_le_e)))) ?_
      refine s_Law_count_7 eo1 (by unfold vp_in; decide) ?_
      exact s_Law_count_15 (HP.ok S K frC no hoA)
theorem xk_ask_IAE : xw_catch m_Law_ask 3 "java/lang/IllegalArgumentException" 11 := ⟨[], _, _, rfl, (fun z hz => nomatch hz), by decide, by decide, rfl, xw_in2 148 rfl rfl, List.mem_of_getElem? (i := 485) (by decide +kernel)⟩
set_option maxHeartbeats 2000000 in
theorem hk_ask {G : xw_G} {F L : Nat} {h : xw_A} {A : List Nat} {x d tx w st s1 s2 s3 s4 sv v1 v2 v3 v4 qo tk tl tz ph nd po k1 k2 k3 so sp ao o1 o2 o3 o4 : Nat} {ps ns : List Nat} {dl w0 w1 : Nat} {gO : Int32} {gR gV : Nat → Option Nat} {gD : Nat → Int32} {gP gQ : Nat} {gG gH : GT5} {gM : Nat × Nat} (S : CS A x d tx w st s1 s2 s3 s4 sv v1 v2 v3 v4 qo tk tl tz ph nd po k1 k2 k3 so sp ao o1 o2 o3 o4 ps ns) (K : CI A x d tx w st s1 s2 s3 s4 sv v1 v2 v3 v4 qo tk tl tz ph nd po k1 k2 k3 so sp ao o1 o2 o3 o4 ps ns dl w0 w1 gO gR gV gD gP gQ gG gH gM h) {o : Nat} {fo : Nat → Int64} (eo : h o = some (.inl (2, 1, .inr (.inl fo)))) (no : o ∉ (CLs x d tx w st s1 s2 s3 s4 sv v1 v2 v3 v4 qo tk tl tz ph nd po k1 k2 k3 so sp ao o1 o2 o3 o4 ps ns)) (hoA : o ∈ A) (hF : 97 ≤ F) (hL : 3725 ≤ L) : xw_MetH G m_Law_ask F L 13 167 [.ref x, .ref o] h (HP A x d tx w st s1 s2 s3 s4 sv v1 v2 v3 v4 qo tk tl tz ph nd po k1 k2 k3 so sp ao o1 o2 o3 o4 ps ns 0 w0 w1 gO gR gV gD gP gQ gG gH gM o h) := by
  refine xw_MetH.of (by decide) (Nat.le_of_ble_eq_true rfl) ?_
  refine s_Law_ask_0 ?_
  obtain ⟨K1, K2, K3, K4, K5, K6, K7, K8, K9⟩ := id K
  obtain ⟨wp, gp, e_x, hdl, hmo, hli⟩ := id K1
  have e_d : h d = some (.inl (1, 96, .inl gD)) := K2
  obtain ⟨wf, e_w, hw0, hw1⟩ := id K4
  obtain ⟨fp_, fs_, fl_, pc, sc, lc, Lv_, KS, VS⟩ := id K5
  obtain ⟨sz, f1, f3, f4, f2, N⟩ := id K9
  obtain ⟨qq, pf, e_so, e_sp⟩ := id K8
  have DB : ∀ a ∈ [x, so, sp, ao, o1, o2, o3, o4, w, st, s1, s2, s3, s4, d], a ∉ (po :: k1 :: k2 :: k3 :: qo :: tk :: tl :: tz :: (ps ++ ns)) := fun a ha => by
    simp only [List.mem_cons, List.not_mem_nil, or_false] at ha
    rcases ha with rfl | rfl | rfl | rfl | rfl | rfl | rfl | rfl | rfl | rfl | rfl | rfl | rfl | rfl | rfl
    · exact S.nP (i := 0) rfl (by decide) (by decide)
    · exact S.nP (i := 24) rfl (by decide) (by decide)
    · exact S.nP (i := 25) rfl (by decide) (by decide)
    · exact S.nP (i := 26) rfl (by decide) (by decide)
    · exact S.nP (i := 27) rfl (by decide) (by decide)
    · exact S.nP (i := 28) rfl (by decide) (by decide)
    · exact S.nP (i := 29) rfl (by decide) (by decide)
    · exact S.nP (i := 30) rfl (by decide) (by decide)
    · exact S.nP (i := 3) rfl (by decide) (by decide)
    · exact S.nP (i := 4) rfl (by decide) (by decide)
    · exact S.nP (i := 5) rfl (by decide) (by decide)
    · exact S.nP (i := 6) rfl (by decide) (by decide)
    · exact S.nP (i := 7) rfl (by decide) (by decide)
    · exact S.nP (i := 8) rfl (by decide) (by decide)
    · exact S.nP (i := 1) rfl (by decide) (by decide)
  refine x_callVX (As := []) (b := x) (rest := [.int 0, .ref o]) (F1 := 96) (L1 := 3703) (mc := 1) (ms := 6) d_Law_ask_3 cV_Law_52 (g_ask e_x hdl e_d S.quA S.quE K7 ⟨(nd_ne S.1 (i := 21) (j := 22) rfl rfl (by decide)), (nd_ne S.1 (i := 21) (j := 23) rfl rfl (by decide)), (nd_ne S.1 (i := 22) (j := 23) rfl rfl (by decide))⟩ e_so e_sp N (nd_ne S.1 (i := 27) (j := 29) rfl rfl (by decide)) (nd_ne S.1 (i := 27) (j := 30) rfl rfl (by decide)) (nd_ne S.1 (i := 29) (j := 30) rfl rfl (by decide)) e_w hw0 hw1 KS (S.mem 0 rfl) (fun a ha => S.2.2.2 a (CS.inF (lst := [po, k1, k2, k3, qo, tk, tl, tz]) (CS.inC (js := [20, 21, 22, 23, 14, 15, 16, 17])) a ha)) ⟨S.mem 24 rfl, S.mem 25 rfl⟩ ⟨S.mem 26 rfl, S.mem 27 rfl, S.mem 28 rfl, S.mem 29 rfl⟩ DB (by omega) (by omega)) e_x ⟨by decide, rfl⟩ ⟨by omega, by show 8 + (3 + 11) + 3703 ≤ _; omega⟩ ⟨by omega, by omega⟩ (Nat.le_of_ble_eq_true rfl) (fun E h1 p => ?_) (fun v h1 p => ?_)
  · obtain ⟨rfl, ⟨⟨wp1, gp1, ex1⟩, QI1, ⟨qq1, pf1, eso, esp⟩, ⟨sz1, g1, g3, g4, g2, N1⟩⟩, fr⟩ := p
    have exQ := exC ex1 (exC eso (exC esp (exC N1.1 (exC N1.2.1 (exC N1.2.2.1 (exC N1.2.2.2.1 (exC N1.2.2.2.2.1 (QI1.ex S.quE))))))))
    have hFA : ∀ q ∈ (x :: so :: sp :: ao :: o1 :: o2 :: o3 :: o4 :: po :: k1 :: k2 :: k3 :: qo :: tk :: tl :: tz :: (ps ++ ns)), q ∈ (CLs x d tx w st s1 s2 s3 s4 sv v1 v2 v3 v4 qo tk tl tz ph nd po k1 k2 k3 so sp ao o1 o2 o3 o4 ps ns) := CS.inF (lst := [x, so, sp, ao, o1, o2, o3, o4, po, k1, k2, k3, qo, tk, tl, tz]) (CS.inC (js := [0, 24, 25, 26, 27, 28, 29, 30, 20, 21, 22, 23, 14, 15, 16, 17]))
    have frC : FrO (CLs x d tx w st s1 s2 s3 s4 sv v1 v2 v3 v4 qo tk tl tz ph nd po k1 k2 k3 so sp ao o1 o2 o3 o4 ps ns) h h1 := fr.mono hFA
    have K' : CI A x d tx w st s1 s2 s3 s4 sv v1 v2 v3 v4 qo tk tl tz ph nd po k1 k2 k3 so sp ao o1 o2 o3 o4 ps ns 0 w0 w1 gO gR gV gD gP gQ gG gH gM h1 := ⟨⟨_, _, ex1, by omega, hmo, hli⟩, C2.fr K2 fr (S.nF (i := 1) rfl (by decide) (by decide)), K3.fr fr (fun q hq => S.2.2.2 q (hFA q hq)) (S.nF (i := 2) rfl (by decide) (by decide)), K4.fr fr (S.nF (i := 3) rfl (by decide) (by decide)), K5.fr fr (fun q hq => S.2.2.2 q (hFA q hq)) ⟨(S.nF (i := 4) rfl (by decide) (by decide)), (S.nF (i := 5) rfl (by decide) (by decide)), (S.nF (i := 6) rfl (by decide) (by decide)), (S.nF (i := 7) rfl (by decide) (by decide)), (S.nF (i := 8) rfl (by decide) (by decide))⟩ exQ, K6.fr fr (fun q hq => S.2.2.2 q (hFA q hq)) ⟨(S.nF (i := 9) rfl (by decide) (by decide)), (S.nF (i := 10) rfl (by decide) (by decide)), (S.nF (i := 11) rfl (by decide) (by decide)), (S.nF (i := 12) rfl (by decide) (by decide)), (S.nF (i := 13) rfl (by decide) (by decide))⟩ exQ, QI1, ⟨_, _, eso, esp⟩, ⟨_, _, _, _, _, N1⟩⟩
    exact ⟨11, xk_ask_IAE, fun q9 => x_le (xw_le_n (xw_le_n (xw_le_n xw_le_e))) (s_Law_ask_11 (HP.thr K' frC eo no))⟩
  · obtain ⟨⟨y1, rfl⟩, ⟨⟨wp1, gp1, ex1⟩, QI1, ⟨qq1, pf1, eso, esp⟩, ⟨sz1, g1, g3, g4, g2, N1⟩⟩, fr⟩ := p
    have exQ := exC ex1 (exC eso (exC esp (exC N1.1 (exC N1.2.1 (exC N1.2.2.1 (exC N1.2.2.2.1 (exC N1.2.2.2.2.1 (QI1.ex S.quE))))))))
    have hFA : ∀ q ∈ (x :: so :: sp :: ao :: o1 :: o2 :: o3 :: o4 :: po :: k1 :: k2 :: k3 :: qo :: tk :: tl :: tz :: (ps ++ ns)), q ∈ (CLs x d tx w st s1 s2 s3 s4 sv v1 v2 v3 v4 qo tk tl tz ph nd po k1 k2 k3 so sp ao o1 o2 o3 o4 ps ns) := CS.inF (lst := [x, so, sp, ao, o1, o2, o3, o4, po, k1, k2, k3, qo, tk, tl, tz]) (CS.inC (js := [0, 24, 25, 26, 27, 28, 29, 30, 20, 21, 22, 23, 14, 15, 16, 17]))
    have frC : FrO (CLs x d tx w st s1 s2 s3 s4 sv v1 v2 v3 v4 qo tk tl tz ph nd po k1 k2 k3 so sp ao o1 o2 o3 o4 ps ns) h h1 := fr.mono hFA
    have K' : CI A x d tx w st s1 s2 s3 s4 sv v1 v2 v3 v4 qo tk tl tz ph nd po k1 k2 k3 so sp ao o1 o2 o3 o4 ps ns 0 w0 w1 gO gR gV gD gP gQ gG gH gM h1 := ⟨⟨_, _, ex1, by omega, hmo, hli⟩, C2.fr K2 fr (S.nF (i := 1) rfl (by decide) (by decide)), K3.fr fr (fun q hq => S.2.2.2 q (hFA q hq)) (S.nF (i := 2) rfl (by decide) (by decide)), K4.fr fr (S.nF (i := 3) rfl (by decide) (by decide)), K5.fr fr (fun q hq => S.2.2.2 q (hFA q hq)) ⟨(S.nF (i := 4) rfl (by decide) (by decide)), (S.nF (i := 5) rfl (by decide) (by decide)), (S.nF (i := 6) rfl (by decide) (by decide)), (S.nF (i := 7) rfl (by decide) (by decide)), (S.nF (i := 8) rfl (by decide) (by decide))⟩ exQ, K6.fr fr (fun q hq => S.2.2.2 q (hFA q hq)) ⟨(S.nF (i := 9) rfl (by decide) (by decide)), (S.nF (i := 10) rfl (by decide) (by decide)), (S.nF (i := 11) rfl (by decide) (by decide)), (S.nF (i := 12) rfl (by decide) (by decide)), (S.nF (i := 13) rfl (by decide) (by decide))⟩ exQ, QI1, ⟨_, _, eso, esp⟩, ⟨_, _, _, _, _, N1⟩⟩
    have eo1 := frC o _ no eo
    refine x_le (xw_le_n (xw_le_n (xw_le_n xw_le_e))) ?_
    refine s_Law_ask_6 eo1 (by unfold vp_in; decide) ?_
    exact s_Law_ask_14 (HP.ok S K' frC no hoA)
