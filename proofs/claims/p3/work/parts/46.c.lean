/-! the reference in general states: by program (wip/tools/gen3.py, gen4.py, gen5.py) -/
/-! THE REFERENCE: the stack of a question and what comes out -/
def cntJ (f : Nat → Int32) : Nat → Nat
  | 0 => 0
  | n + 1 => cntJ f n + (if f n < 5 then 1 else 0)
def cntD (f : Nat → Int32) : Nat → Nat
  | 0 => 0
  | n + 1 => cntD f n + (if f n < 5 then 0 else 1)
theorem cntJD (f : Nat → Int32) : ∀ n, cntJ f n + cntD f n = n := by
  intro n
  induction n with
  | zero => rfl
  | succ n ih =>
    rw [cntJ, cntD]
    split <;> omega
theorem cntJ_congr {f g : Nat → Int32} : ∀ n, (∀ k, k < n → f k = g k) → cntJ f n = cntJ g n := by
  intro n
  induction n with
  | zero => intro _; rfl
  | succ n ih => intro h; rw [cntJ, cntJ, ih (fun k hk => h k (by omega)), h n (by omega)]
theorem cntD_congr {f g : Nat → Int32} : ∀ n, (∀ k, k < n → f k = g k) → cntD f n = cntD g n := by
  intro n
  induction n with
  | zero => intro _; rfl
  | succ n ih => intro h; rw [cntD, cntD, ih (fun k hk => h k (by omega)), h n (by omega)]
theorem cntJ_up {f : Nat → Int32} {n : Nat} {y : Int32} : cntJ (upd f n y) (n + 1) = cntJ f n + (if y < 5 then 1 else 0) := by
  rw [cntJ, pk_us, cntJ_congr n (fun k hk => pk_un (by omega))]
theorem cntD_up {f : Nat → Int32} {n : Nat} {y : Int32} : cntD (upd f n y) (n + 1) = cntD f n + (if y < 5 then 0 else 1) := by
  rw [cntD, pk_us, cntD_congr n (fun k hk => pk_un (by omega))]
/-- how high the sequence stands, if it may be counted -/
def hgt (f : Nat → Int32) : Nat → Option Nat
  | 0 => some 0
  | n + 1 => (hgt f n).bind (fun k => if f n < 0 then (if 2 ≤ k then some (k - 1) else none) else some (k + 1))
theorem hgt_congr {f g : Nat → Int32} : ∀ n, (∀ k, k < n → f k = g k) → hgt f n = hgt g n := by
  intro n
  induction n with
  | zero => intro _; rfl
  | succ n ih => intro h; rw [hgt, hgt, ih (fun k hk => h k (by omega)), h n (by omega)]
theorem hgt_grp {f : Nat → Int32} {n k : Nat} {y : Int32} (h : hgt f n = some k) (hy : ¬ y < 0) : hgt (upd f n y) (n + 1) = some (k + 1) := by
  rw [hgt, hgt_congr (g := f) n (fun j hj => pk_un (by omega)), h, pk_us, Option.bind_some, if_neg hy]
theorem hgt_op {f : Nat → Int32} {n k : Nat} {y : Int32} (h : hgt f n = some k) (hk : 2 ≤ k) (hy : y < 0) : hgt (upd f n y) (n + 1) = some (k - 1) := by
  rw [hgt, hgt_congr (g := f) n (fun j hj => pk_un (by omega)), h, pk_us, Option.bind_some, if_pos hy, if_pos hk]
theorem hgt_le {f : Nat → Int32} : ∀ n k, hgt f n = some k → k ≤ n := by
  intro n
  induction n with
  | zero => intro k h; rw [hgt] at h; cases h; exact Nat.le_refl _
  | succ n ih =>
    intro k h
    rw [hgt] at h
    cases q : hgt f n with
    | none => rw [q] at h; cases h
    | some j =>
      have h2 := ih j q
      rw [q, Option.bind_some] at h
      split at h
      · split at h
        · cases h; omega
        · cases h
      · cases h; omega
theorem neg_lt {y : Int32} (h1 : ¬ y < 1) (h5 : ¬ 5 ≤ y) : -y < 0 := by
  obtain ⟨n, hn1, hn4, rfl⟩ := ix_of (a := 1) (b := 4) (by decide) (by decide) h1 (fun q => h5 (by
    have := Int32.lt_iff_toInt_lt.mp q
    rw [Int32.le_iff_toInt_le]
    have e4 : (nI 4).toInt = 4 := by decide
    have e5 : (5 : Int32).toInt = 5 := by decide
    omega))
  rcases (show n = 1 ∨ n = 2 ∨ n = 3 ∨ n = 4 by omega) with rfl | rfl | rfl | rfl <;> decide
theorem lt1 {y l : Int32} (hl : ¬ l < 1) (h : ¬ y < l) : ¬ y < 1 := fun q => h (Int32.lt_of_lt_of_le q (Int32.not_lt.mp hl))
theorem lt5 {y : Int32} (h : ¬ 5 ≤ y) : y < 5 := Int32.not_le.mp h
/-- within a part, with the token that is open -/
def JJ (fa : Nat → Int32) (asz t x k : Nat) : Prop := JI fa asz t x k ∧ (x < k → isW (qv fa asz (k - 1)) = true → 1 ≤ t)
theorem JJ.start {fa : Nat → Int32} {asz t x : Nat} (h : JO fa asz t x) : JJ fa asz t x x := ⟨⟨h.1, fun q _ => h.2 q⟩, fun q => absurd q (Nat.lt_irrefl _)⟩
theorem JJ.new {fa : Nat → Int32} {asz t x k : Nat} (h : JJ fa asz t x k) (hk : isW (qv fa asz k) = true) (hn : k = x ∨ isW (qv fa asz (k - 1)) = false) (hx : x ≤ k) : JJ fa asz (t + 1) x (k + 1) :=
  ⟨⟨by have := h.1.2 hk hn; omega, fun _ q => q.elim (fun z => by omega) (fun z => by rw [Nat.add_sub_cancel, hk] at z; cases z)⟩, fun _ _ => by omega⟩
theorem JJ.ext {fa : Nat → Int32} {asz t x k : Nat} (h : JJ fa asz t x k) (hk : isW (qv fa asz k) = true) (ht : 1 ≤ t) (hx : x ≤ k) : JJ fa asz t x (k + 1) :=
  ⟨⟨by have := h.1.1; omega, fun _ q => q.elim (fun z => by omega) (fun z => by rw [Nat.add_sub_cancel, hk] at z; cases z)⟩, fun _ _ => ht⟩
theorem JJ.no {fa : Nat → Int32} {asz t x k : Nat} (h : JJ fa asz t x k) (hk : isW (qv fa asz k) = false) : JJ fa asz t x (k + 1) :=
  ⟨⟨by have := h.1.1; omega, fun _ _ => by have := h.1.1; omega⟩, fun _ q => by rw [Nat.add_sub_cancel, hk] at q; cases q⟩
theorem JJ.fin {fa : Nat → Int32} {asz t x y : Nat} {kd : Int32} (h : JJ fa asz t x y) (hp : PtO fa asz x y kd) (hk : kd = 1 ∨ kd = 2) : JO fa asz t y :=
  ⟨h.1.1, fun q => hk.elim (fun z => by rw [hp.2.2.2.1 z] at q; cases q) (fun z => h.1.2 q (Or.inr (hp.2.2.2.2 z).2))⟩
set_option maxHeartbeats 400000 in
theorem f_next {G : xw_G} {F L : Nat} {h : xw_A} {x0 asz : Nat} {a0 k0 f0 : Int32} {fa : Nat → Int32} {asked_ : Nat} {m : Nat} {fs : List Value} (l : fs.length = 62) (e : h m = some (.inr (11, fs))) (g_at : fs[(28 : Nat)]? = some (.int a0)) (g_kind : fs[(29 : Nat)]? = some (.int k0)) (g_from : fs[(30 : Nat)]? = some (.int f0)) (g_to : fs[(31 : Nat)]? = some (.int (nI x0))) (g_askedSize : fs[(11 : Nat)]? = some (.int (nI asz))) (g_asked : fs[(4 : Nat)]? = some (.ref asked_)) (e_asked : h asked_ = some (.inl (0, 96, .inl (fa)))) (hx0 : x0 ≤ 97) (hasz : asz ≤ 96) (hF : 4 ≤ F) (hL : 87 ≤ L) :
    xw_Met G m_Model_next F L 0 0 [.ref m] h (fun v h' => v = none ∧ ∃ (x y : Nat) (kd : Int32) (fs' : List Value), x0 ≤ x ∧ PtO fa asz x y kd ∧ fs'.length = 62 ∧ h' m = some (.inr (11, fs')) ∧ fs'[(28 : Nat)]? = some (.int (nI x)) ∧ fs'[(29 : Nat)]? = some (.int kd) ∧ fs'[(30 : Nat)]? = some (.int (nI x)) ∧ fs'[(31 : Nat)]? = some (.int (nI y)) ∧ (∀ i : Nat, i ∉ [28, 29, 30, 31] → fs'[i]? = fs[i]?) ∧ FrO [m] h h') (fun _ _ => False) := by
  refine xw_Met.of rfl (by decide) (Nat.le_of_ble_eq_true rfl) ?_
  have ga0 : ∀ i : Nat, i ∉ [28, 29, 30, 31] → fs[i]? = fs[i]? := fun _ _ => rfl
  have r0 : FrO [m] h h := FrO.rf
  refine s_Model_next_0 l e g_to ?_
  refine x_u1 (fun h_1 e_2 f_3 => ?_)
  have e_4 := (f_3 asked_ (xw_neC e_asked e (by simp))).trans e_asked
  have r_5 := r0.up (by simp) f_3
  obtain ⟨fs_6, z_7⟩ : ∃ z, z = fs.set 28 (.int (nI x0)) := ⟨_, rfl⟩
  rw [← z_7] at e_2
  have l_8 : fs_6.length = 62 := by rw [z_7]; simp only [List.length_set]; exact l
  have g_9 : fs_6[(4 : Nat)]? = some (.ref asked_) := by rw [z_7]; exact (xw_gn (by decide) g_asked)
  have g_10 : fs_6[(11 : Nat)]? = some (.int (nI asz)) := by rw [z_7]; exact (xw_gn (by decide) g_askedSize)
  have g_11 : fs_6[(28 : Nat)]? = some (.int (nI x0)) := by rw [z_7]; exact (xw_gs (by simp [l]))
  have g_12 : fs_6[(29 : Nat)]? = some (.int k0) := by rw [z_7]; exact (xw_gn (by decide) g_kind)
  have g_13 : fs_6[(30 : Nat)]? = some (.int f0) := by rw [z_7]; exact (xw_gn (by decide) g_from)
  have g_14 : fs_6[(31 : Nat)]? = some (.int (nI x0)) := by rw [z_7]; exact (xw_gn (by decide) g_to)
  have ga_15 : ∀ i : Nat, i ∉ [28, 29, 30, 31] → fs_6[i]? = fs[i]? := fun i hi => by rw [z_7]; exact xw_gn (fun z => hi (by rw [z]; simp)) (ga0 i hi)
  clear z_7
  refine x_callV (As := []) (b := m) (rest := []) (F1 := 3) (L1 := 66) (mc := 0) (ms := 0) d_Model_next_9 cV_Model_234 (f_part l_8 e_2 g_11 g_12 g_13 g_14 g_10 g_9 e_4 hx0 hasz (by omega) (by omega)) e_2 ⟨by decide, rfl⟩ ⟨by omega, by show 8 + (2 + 11) + 66 ≤ _; omega⟩ ⟨by omega, by omega⟩ (Nat.le_of_ble_eq_true rfl) (fun v_17 h_16 p_18 => ?_)
  obtain ⟨rfl, x, y, kd, fs9, hx9, PT9, l9, e9, ga_at, g_kd, g_fr, g_to, ga9, r9⟩ := p_18
  refine x_le (xw_le_n xw_le_e) ?_
  refine s_Model_next_12 ?_
  exact ⟨rfl, x, y, kd, fs9, hx9, PT9, l9, e9, ga_at, g_kd, g_fr, g_to, fun i hi => (ga9 i hi).trans (ga_15 i hi), r_5.trans r9⟩
set_option maxHeartbeats 400000 in
theorem f_wrongs {G : xw_G} {F L : Nat} {h : xw_A} {a bd : Int32} {k : Nat} {m : Nat} {fs : List Value} (l : fs.length = 62) (e : h m = some (.inr (11, fs))) (g_bad : fs[(33 : Nat)]? = some (.int bd)) (hk : k < 1000) (hF : 1 ≤ F) (hL : 20 ≤ L) :
    xw_Met G m_Model_wrongs F L 0 0 [.ref m, .int a, .int (nI k)] h (fun v h' => v = none ∧ ∃ (bd' : Int32) (fs' : List Value), (bd' < 0 → a = 0 ∧ bd' = bd) ∧ (¬ bd < 0 → bd' = bd) ∧ fs'.length = 62 ∧ h' m = some (.inr (11, fs')) ∧ fs'[(33 : Nat)]? = some (.int bd') ∧ (∀ i : Nat, i ∉ [33] → fs'[i]? = fs[i]?) ∧ FrO [m] h h') (fun _ _ => False) := by
  refine xw_Met.of rfl (by decide) (Nat.le_of_ble_eq_true rfl) ?_
  have ga0 : ∀ i : Nat, i ∉ [33] → fs[i]? = fs[i]? := fun _ _ => rfl
  have r0 : FrO [m] h h := FrO.rf
  refine s_Model_wrongs_0 (fun z_1 => ?_) (fun z_2 => ?_)
  · skip
    refine s_Model_wrongs_16 ?_
    exact ⟨rfl, bd, fs, fun _ => ⟨z_1, rfl⟩, fun _ => rfl, l, e, g_bad, fun _ _ => rfl, FrO.rf⟩
  · skip
    refine s_Model_wrongs_4 l e g_bad (fun z_3 => ?_) (fun z_4 => ?_)
    · skip
      refine s_Model_wrongs_16 ?_
      exact ⟨rfl, bd, fs, fun q => absurd z_3 (Int32.not_le.mpr q), fun _ => rfl, l, e, g_bad, fun _ _ => rfl, FrO.rf⟩
    · skip
      refine s_Model_wrongs_11 l e ?_
      refine x_u1 (fun h_5 e_6 f_7 => ?_)
      have r_8 := r0.up (by simp) f_7
      obtain ⟨fs_9, z_10⟩ : ∃ z, z = fs.set 33 (.int (nI k)) := ⟨_, rfl⟩
      rw [← z_10] at e_6
      have l_11 : fs_9.length = 62 := by rw [z_10]; simp only [List.length_set]; exact l
      have g_12 : fs_9[(33 : Nat)]? = some (.int (nI k)) := by rw [z_10]; exact (xw_gs (by simp [l]))
      have ga_13 : ∀ i : Nat, i ∉ [33] → fs_9[i]? = fs[i]? := fun i hi => by rw [z_10]; exact xw_gn (fun z => hi (by rw [z]; simp)) (ga0 i hi)
      clear z_10
      refine s_Model_wrongs_16 ?_
      exact ⟨rfl, _, _, fun q => absurd q (nI_pos (by omega)), fun q => absurd (Int32.not_le.mp z_4) q, l_11, e_6, g_12, ga_13, r_8⟩
set_option maxHeartbeats 400000 in
theorem f_isFilter {G : xw_G} {F L : Nat} {h : xw_A} {y asz : Nat} {kd : Int32} {fa : Nat → Int32} {asked_ : Nat} {m : Nat} {fs : List Value} (l : fs.length = 62) (e : h m = some (.inr (11, fs))) (g_kind : fs[(29 : Nat)]? = some (.int kd)) (g_to : fs[(31 : Nat)]? = some (.int (nI y))) (g_askedSize : fs[(11 : Nat)]? = some (.int (nI asz))) (g_asked : fs[(4 : Nat)]? = some (.ref asked_)) (e_asked : h asked_ = some (.inl (0, 96, .inl (fa)))) (hy : y ≤ 97) (hasz : asz ≤ 96) (hF : 2 ≤ F) (hL : 41 ≤ L) :
    xw_Met G m_Model_isFilter F L 0 0 [.ref m] h (fun v h' => (∃ c : Int32, v = some (.int c) ∧ (c = 0 ∨ (c = 1 ∧ kd = 1))) ∧ h = h') (fun _ _ => False) := by
  refine xw_Met.of rfl (by decide) (Nat.le_of_ble_eq_true rfl) ?_
  refine s_Model_isFilter_0 l e g_kind (fun z_1 => ?_) (fun z_2 => ?_)
  · skip
    refine s_Model_isFilter_25 ?_
    refine s_Model_isFilter_26 rfl ?_
    exact ⟨⟨_, rfl, Or.inl rfl⟩, rfl⟩
  · skip
    refine s_Model_isFilter_8 l e g_to ?_
    refine x_callV (As := [.int (nI y)]) (b := m) (rest := []) (F1 := 1) (L1 := 20) (mc := 0) (ms := 0) d_Model_isFilter_13 cV_Model_221 (f_q (x := y) l e g_askedSize g_asked e_asked (by omega) (by omega) (by omega) (by omega)) e ⟨by decide, rfl⟩ ⟨by omega, by show 8 + (2 + 11) + 20 ≤ _; omega⟩ ⟨by omega, by omega⟩ (Nat.le_of_ble_eq_true rfl) (fun v_4 h_3 p_5 => ?_)
    obtain ⟨rfl, rfl⟩ := p_5
    refine x_le (xw_le_n xw_le_e) ?_
    refine s_Model_isFilter_16 (fun z_6 => ?_) (fun z_7 => ?_)
    · skip
      refine s_Model_isFilter_25 ?_
      refine s_Model_isFilter_26 rfl ?_
      exact ⟨⟨_, rfl, Or.inl rfl⟩, rfl⟩
    · skip
      refine s_Model_isFilter_21 ?_
      refine s_Model_isFilter_26 rfl ?_
      exact ⟨⟨_, rfl, Or.inr ⟨rfl, z_2⟩⟩, rfl⟩
set_option maxHeartbeats 400000 in
theorem f_isString {G : xw_G} {F L : Nat} {h : xw_A} {y asz : Nat} {kd : Int32} {fa : Nat → Int32} {asked_ : Nat} {m : Nat} {fs : List Value} (l : fs.length = 62) (e : h m = some (.inr (11, fs))) (g_kind : fs[(29 : Nat)]? = some (.int kd)) (g_to : fs[(31 : Nat)]? = some (.int (nI y))) (g_askedSize : fs[(11 : Nat)]? = some (.int (nI asz))) (g_asked : fs[(4 : Nat)]? = some (.ref asked_)) (e_asked : h asked_ = some (.inl (0, 96, .inl (fa)))) (hy : y ≤ 97) (hasz : asz ≤ 96) (hF : 3 ≤ F) (hL : 61 ≤ L) :
    xw_Met G m_Model_isString F L 0 0 [.ref m] h (fun v h' => (∃ c : Int32, v = some (.int c) ∧ (c = 0 ∨ (c = 1 ∧ (kd = 1 ∨ kd = 2)))) ∧ h = h') (fun _ _ => False) := by
  refine xw_Met.of rfl (by decide) (Nat.le_of_ble_eq_true rfl) ?_
  refine s_Model_isString_0 l e g_kind (fun z_1 => ?_) (fun z_2 => ?_)
  · skip
    refine s_Model_isString_23 ?_
    refine s_Model_isString_28 rfl ?_
    exact ⟨⟨_, rfl, Or.inr ⟨rfl, Or.inr z_1⟩⟩, rfl⟩
  · skip
    refine s_Model_isString_8 l e g_kind (fun z_3 => ?_) (fun z_4 => ?_)
    · skip
      refine s_Model_isString_27 ?_
      refine s_Model_isString_28 rfl ?_
      exact ⟨⟨_, rfl, Or.inl rfl⟩, rfl⟩
    · skip
      refine s_Model_isString_16 ?_
      refine x_callV (As := []) (b := m) (rest := []) (F1 := 2) (L1 := 41) (mc := 0) (ms := 0) d_Model_isString_17 cV_Model_237 (f_isFilter l e g_kind g_to g_askedSize g_asked e_asked (by omega) (by omega) (by omega) (by omega)) e ⟨by decide, rfl⟩ ⟨by omega, by show 8 + (1 + 11) + 41 ≤ _; omega⟩ ⟨by omega, by omega⟩ (Nat.le_of_ble_eq_true rfl) (fun v_8 h_7 p_9 => ?_)
      obtain ⟨⟨c_5, rfl, hc_6⟩, rfl⟩ := p_9
      refine x_le (xw_le_n xw_le_e) ?_
      refine s_Model_isString_20 (fun z_10 => ?_) (fun z_11 => ?_)
      · skip
        refine s_Model_isString_27 ?_
        refine s_Model_isString_28 rfl ?_
        exact ⟨⟨_, rfl, Or.inl rfl⟩, rfl⟩
      · skip
        refine s_Model_isString_23 ?_
        refine s_Model_isString_28 rfl ?_
        exact ⟨⟨_, rfl, Or.inr ⟨rfl, Or.inl z_4⟩⟩, rfl⟩
set_option maxHeartbeats 2000000 in
theorem lp_tt {G : xw_G} {F L bc bs : Nat} {pr : Option Value → xw_A → Prop} {px : String → xw_A → Prop} {m asked_ tokenAt_ tokenSize_ asz x y t0 : Nat} {gs : List Value} {fa : Nat → Int32} {h0 : xw_A} (q_asked : gs[(4 : Nat)]? = some (.ref asked_)) (q_askedSize : gs[(11 : Nat)]? = some (.int (nI asz))) (q_from : gs[(30 : Nat)]? = some (.int (nI x))) (q_to : gs[(31 : Nat)]? = some (.int (nI y))) (q_tokenAt : gs[(43 : Nat)]? = some (.ref tokenAt_)) (q_tokenSize : gs[(44 : Nat)]? = some (.ref tokenSize_)) (q_a : h0 asked_ = some (.inl (0, 96, .inl fa))) (na : asked_ ≠ m ∧ asked_ ≠ tokenAt_ ∧ asked_ ≠ tokenSize_) (nts : tokenAt_ ≠ tokenSize_) (hasz : asz ≤ 96) (hy : y ≤ 97) (hF : 3 ≤ F) (hL : 62 ≤ L) (kk : ∀ (h : xw_A) (t : Nat) (ca cs : Nat → Int32) (fs : List Value), fs.length = 62 → h m = some (.inr (11, fs)) → fs[(35 : Nat)]? = some (.int (nI t)) → (∀ i : Nat, i ∉ [35] → fs[i]? = gs[i]?) → h tokenAt_ = some (.inl (0, 60, .inl ca)) → h tokenSize_ = some (.inl (0, 60, .inl cs)) → TkO ca cs t y → JJ fa asz t x y → t0 ≤ t → FrO [m, tokenAt_, tokenSize_] h0 h → pr none h) :
    ∀ (dd i : Nat) (h : xw_A) (t : Nat) (ca : Nat → Int32) (cs : Nat → Int32) (fs : List Value), i + dd = y → fs.length = 62 → h m = some (.inr (11, fs)) → fs[(35 : Nat)]? = some (.int (nI t)) → (∀ i : Nat, i ∉ [35] → fs[i]? = gs[i]?) → h tokenAt_ = some (.inl (0, 60, .inl ca)) → h tokenSize_ = some (.inl (0, 60, .inl cs)) → x ≤ i → TkO ca cs t i → JJ fa asz t x i → t0 ≤ t → FrO [m, tokenAt_, tokenSize_] h0 h → xw G m_Model_takeTokens F L bc bs pr px 5 [some (.ref m), some (.int (nI i))] [] h := by
  intro dd
  induction dd with
  | zero =>
    intro i h t ca cs fs hi l e g_tokens ga0 e_tokenAt e_tokenSize hxi TK JK ht0 r0
    obtain rfl : i = y := by omega
    have g_asked := (ga0 4 (by decide)).trans q_asked
    have g_askedSize := (ga0 11 (by decide)).trans q_askedSize
    have g_from := (ga0 30 (by decide)).trans q_from
    have g_to := (ga0 31 (by decide)).trans q_to
    have g_tokenAt := (ga0 43 (by decide)).trans q_tokenAt
    have g_tokenSize := (ga0 44 (by decide)).trans q_tokenSize
    have e_asked := r0 asked_ _ (by simp only [List.mem_cons, List.not_mem_nil, or_false, not_or]; exact na) q_a
    refine s_Model_takeTokens_5 l e g_to (fun z_1 => ?_) (fun z => absurd (nI_le (Nat.le_refl _) (by omega)) z)
    refine s_Model_takeTokens_96 ?_
    exact kk _ _ _ _ _ l e g_tokens ga0 e_tokenAt e_tokenSize TK JK ht0 r0
  | succ dd ih =>
    intro i h t ca cs fs hi l e g_tokens ga0 e_tokenAt e_tokenSize hxi TK JK ht0 r0
    have g_asked := (ga0 4 (by decide)).trans q_asked
    have g_askedSize := (ga0 11 (by decide)).trans q_askedSize
    have g_from := (ga0 30 (by decide)).trans q_from
    have g_to := (ga0 31 (by decide)).trans q_to
    have g_tokenAt := (ga0 43 (by decide)).trans q_tokenAt
    have g_tokenSize := (ga0 44 (by decide)).trans q_tokenSize
    have e_asked := r0 asked_ _ (by simp only [List.mem_cons, List.not_mem_nil, or_false, not_or]; exact na) q_a
    refine s_Model_takeTokens_5 l e g_to (fun z => absurd z (nI_ge (b := y) (show i < y by omega) (by omega))) (fun z_1 => ?_)
    refine s_Model_takeTokens_13 ?_
    refine x_callV (As := [.int (nI i)]) (b := m) (rest := []) (F1 := 1) (L1 := 20) (mc := 0) (ms := 0) d_Model_takeTokens_15 cV_Model_221 (f_q (x := i) l e g_askedSize g_asked e_asked (by omega) (by omega) (by omega) (by omega)) e ⟨by decide, rfl⟩ ⟨by omega, by show 8 + (2 + 11) + 20 ≤ _; omega⟩ ⟨by omega, by omega⟩ (Nat.le_of_ble_eq_true rfl) (fun v_3 h_2 p_4 => ?_)
    obtain ⟨rfl, rfl⟩ := p_4
    refine x_callS (As := [.int (qv fa asz i)]) (rest := []) (F1 := 2) (L1 := 42) (mc := 0) (ms := 0) d_Model_takeTokens_18 cS_Model_146 (f_isSign (by omega) (by omega)) ⟨by omega, by show 8 + (1 + 11) + 42 ≤ _; omega⟩ ⟨by omega, by omega⟩ (Nat.le_of_ble_eq_true rfl) (fun v_6 h_5 p_7 => ?_)
    obtain ⟨rfl, rfl⟩ := p_7
    refine s_Model_takeTokens_21 (fun z_8 => ?_) (fun z_9 => ?_)
    · skip
      refine s_Model_takeTokens_90 ?_
      rw [nI_1]
      exact ih (i + 1) _ _ _ _ _ (by omega) l e g_tokens ga0 e_tokenAt e_tokenSize (by omega) (TK.mono (by omega)) (JK.no (b01_f z_8)) ht0 r0
    · skip
      refine s_Model_takeTokens_24 l e g_from (fun z_10 => ?_) (fun z_11 => ?_)
      · skip
        have hnew : i = x ∨ isW (qv fa asz (i - 1)) = false := Or.inl ((nI_eq (by omega) (by omega)).mp z_10)
        have hyes := b01_t z_9
        have hia := qs_lt hyes
        have h2t := JK.1.1
        refine s_Model_takeTokens_45 l e g_tokenAt g_tokens e_tokenAt (vp_in_nI (by omega) (by omega)) g_tokenSize e_tokenSize (vp_in_nI (by omega) (by omega)) (Ne.symm nts) ?_
        refine x_u3 (fun h_12 e_13 f_14 h_15 e_16 f_17 h_18 e_19 f_20 => ?_)
        have e_21 := (f_14 m (xw_neC e e_tokenAt (by simp))).trans e
        have e_22 := (f_14 asked_ na.2.1).trans e_asked
        have e_23 := (f_14 tokenSize_ (Ne.symm nts)).trans e_tokenSize
        have r_24 := r0.up (by simp) f_14
        have e_25 := (f_17 m (xw_neC e_21 e_23 (by simp))).trans e_21
        have e_26 := (f_17 asked_ na.2.2).trans e_22
        have e_27 := (f_17 tokenAt_ nts).trans e_13
        have r_28 := r_24.up (by simp) f_17
        have e_29 := (f_20 asked_ na.1).trans e_26
        have e_30 := (f_20 tokenAt_ (xw_neC e_27 e_25 (by simp))).trans e_27
        have e_31 := (f_20 tokenSize_ (xw_neC e_16 e_25 (by simp))).trans e_16
        have r_32 := r_28.up (by simp) f_20
        obtain ⟨fs_33, z_34⟩ : ∃ z, z = fs.set 35 (.int ((nI t) + 1)) := ⟨_, rfl⟩
        rw [← z_34] at e_19
        have l_35 : fs_33.length = 62 := by rw [z_34]; simp only [List.length_set]; exact l
        have g_36 : fs_33[(4 : Nat)]? = some (.ref asked_) := by rw [z_34]; exact (xw_gn (by decide) g_asked)
        have g_37 : fs_33[(11 : Nat)]? = some (.int (nI asz)) := by rw [z_34]; exact (xw_gn (by decide) g_askedSize)
        have g_38 : fs_33[(30 : Nat)]? = some (.int (nI x)) := by rw [z_34]; exact (xw_gn (by decide) g_from)
        have g_39 : fs_33[(31 : Nat)]? = some (.int (nI y)) := by rw [z_34]; exact (xw_gn (by decide) g_to)
        have g_40 : fs_33[(35 : Nat)]? = some (.int ((nI t) + 1)) := by rw [z_34]; exact (xw_gs (by simp [l]))
        have g_41 : fs_33[(43 : Nat)]? = some (.ref tokenAt_) := by rw [z_34]; exact (xw_gn (by decide) g_tokenAt)
        have g_42 : fs_33[(44 : Nat)]? = some (.ref tokenSize_) := by rw [z_34]; exact (xw_gn (by decide) g_tokenSize)
        have ga_43 : ∀ i : Nat, i ∉ [35] → fs_33[i]? = gs[i]? := fun i hi => by rw [z_34]; exact xw_gn (fun z => hi (by rw [z]; simp)) (ga0 i hi)
        clear z_34
        rw [nI_1] at g_40
        rw [nI_clamp (show t < 2 ^ 31 by omega)] at e_30 e_31
        refine s_Model_takeTokens_75 l_35 e_19 g_42 g_40 e_31 (by rw [nI_pred]; exact vp_in_nI (by omega) (by decide)) (by rw [nI_pred]; exact vp_in_nI (by omega) (by decide)) ?_
        refine x_u1 (fun h_44 e_45 f_46 => ?_)
        have e_47 := (f_46 m (xw_neC e_19 e_31 (by simp))).trans e_19
        have e_48 := (f_46 asked_ na.2.2).trans e_29
        have e_49 := (f_46 tokenAt_ nts).trans e_30
        have r_50 := r_32.up (by simp) f_46
        refine s_Model_takeTokens_90 ?_
        rw [nI_1]
        rw [nI_pred, nI_clamp (show t < 2 ^ 31 by omega)] at e_45
        exact ih (i + 1) _ _ _ _ _ (by omega) l_35 e_47 g_40 ga_43 e_49 e_45 (by omega) ((TK.new (by omega)).inc (by omega)) (JK.new hyes hnew hxi) (by omega) r_50
      · skip
        refine s_Model_takeTokens_32 ?_
        have hi1 : x < i := Nat.lt_of_le_of_ne hxi (fun q => z_11 (by rw [q]))
        rw [show (nI i) - 1 = nI (i - 1) by rw [show (1 : Int32) = nI 1 from rfl, pk_sub (by omega)]]
        refine x_callV (As := [.int (nI (i - 1))]) (b := m) (rest := []) (F1 := 1) (L1 := 20) (mc := 0) (ms := 0) d_Model_takeTokens_36 cV_Model_221 (f_q (x := i - 1) l e g_askedSize g_asked e_asked (by omega) (by omega) (by omega) (by omega)) e ⟨by decide, rfl⟩ ⟨by omega, by show 8 + (2 + 11) + 20 ≤ _; omega⟩ ⟨by omega, by omega⟩ (Nat.le_of_ble_eq_true rfl) (fun v_52 h_51 p_53 => ?_)
        obtain ⟨rfl, rfl⟩ := p_53
        refine x_callS (As := [.int (qv fa asz (i - 1))]) (rest := []) (F1 := 2) (L1 := 42) (mc := 0) (ms := 0) d_Model_takeTokens_39 cS_Model_146 (f_isSign (by omega) (by omega)) ⟨by omega, by show 8 + (1 + 11) + 42 ≤ _; omega⟩ ⟨by omega, by omega⟩ (Nat.le_of_ble_eq_true rfl) (fun v_55 h_54 p_56 => ?_)
        obtain ⟨rfl, rfl⟩ := p_56
        refine s_Model_takeTokens_42 (fun z_57 => ?_) (fun z_58 => ?_)
        · skip
          have hyes := b01_t z_9
          have hold := b01_t z_57
          have hia := qs_lt hyes
          have h2t := JK.1.1
          obtain ⟨u, rfl⟩ : ∃ u, t = u + 1 := ⟨t - 1, by have := JK.2 hi1 hold; omega⟩
          refine s_Model_takeTokens_75 l e g_tokenSize g_tokens e_tokenSize (by rw [nI_pred]; exact vp_in_nI (by omega) (by decide)) (by rw [nI_pred]; exact vp_in_nI (by omega) (by decide)) ?_
          refine x_u1 (fun h_59 e_60 f_61 => ?_)
          have e_62 := (f_61 m (xw_neC e e_tokenSize (by simp))).trans e
          have e_63 := (f_61 asked_ na.2.2).trans e_asked
          have e_64 := (f_61 tokenAt_ nts).trans e_tokenAt
          have r_65 := r0.up (by simp) f_61
          refine s_Model_takeTokens_90 ?_
          rw [nI_1]
          rw [nI_pred, nI_clamp (show u < 2 ^ 31 by omega)] at e_60
          exact ih (i + 1) _ _ _ _ _ (by omega) l e_62 g_tokens ga0 e_64 e_60 (by omega) (TK.inc (by omega)) (JK.ext hyes (by omega) hxi) (by omega) r_65
        · skip
          have hnew : i = x ∨ isW (qv fa asz (i - 1)) = false := Or.inr (b01_f z_58)
          have hyes := b01_t z_9
          have hia := qs_lt hyes
          have h2t := JK.1.1
          refine s_Model_takeTokens_45 l e g_tokenAt g_tokens e_tokenAt (vp_in_nI (by omega) (by omega)) g_tokenSize e_tokenSize (vp_in_nI (by omega) (by omega)) (Ne.symm nts) ?_
          refine x_u3 (fun h_66 e_67 f_68 h_69 e_70 f_71 h_72 e_73 f_74 => ?_)
          have e_75 := (f_68 m (xw_neC e e_tokenAt (by simp))).trans e
          have e_76 := (f_68 asked_ na.2.1).trans e_asked
          have e_77 := (f_68 tokenSize_ (Ne.symm nts)).trans e_tokenSize
          have r_78 := r0.up (by simp) f_68
          have e_79 := (f_71 m (xw_neC e_75 e_77 (by simp))).trans e_75
          have e_80 := (f_71 asked_ na.2.2).trans e_76
          have e_81 := (f_71 tokenAt_ nts).trans e_67
          have r_82 := r_78.up (by simp) f_71
          have e_83 := (f_74 asked_ na.1).trans e_80
          have e_84 := (f_74 tokenAt_ (xw_neC e_81 e_79 (by simp))).trans e_81
          have e_85 := (f_74 tokenSize_ (xw_neC e_70 e_79 (by simp))).trans e_70
          have r_86 := r_82.up (by simp) f_74
          obtain ⟨fs_87, z_88⟩ : ∃ z, z = fs.set 35 (.int ((nI t) + 1)) := ⟨_, rfl⟩
          rw [← z_88] at e_73
          have l_89 : fs_87.length = 62 := by rw [z_88]; simp only [List.length_set]; exact l
          have g_90 : fs_87[(4 : Nat)]? = some (.ref asked_) := by rw [z_88]; exact (xw_gn (by decide) g_asked)
          have g_91 : fs_87[(11 : Nat)]? = some (.int (nI asz)) := by rw [z_88]; exact (xw_gn (by decide) g_askedSize)
          have g_92 : fs_87[(30 : Nat)]? = some (.int (nI x)) := by rw [z_88]; exact (xw_gn (by decide) g_from)
          have g_93 : fs_87[(31 : Nat)]? = some (.int (nI y)) := by rw [z_88]; exact (xw_gn (by decide) g_to)
          have g_94 : fs_87[(35 : Nat)]? = some (.int ((nI t) + 1)) := by rw [z_88]; exact (xw_gs (by simp [l]))
          have g_95 : fs_87[(43 : Nat)]? = some (.ref tokenAt_) := by rw [z_88]; exact (xw_gn (by decide) g_tokenAt)
          have g_96 : fs_87[(44 : Nat)]? = some (.ref tokenSize_) := by rw [z_88]; exact (xw_gn (by decide) g_tokenSize)
          have ga_97 : ∀ i : Nat, i ∉ [35] → fs_87[i]? = gs[i]? := fun i hi => by rw [z_88]; exact xw_gn (fun z => hi (by rw [z]; simp)) (ga0 i hi)
          clear z_88
          rw [nI_1] at g_94
          rw [nI_clamp (show t < 2 ^ 31 by omega)] at e_84 e_85
          refine s_Model_takeTokens_75 l_89 e_73 g_96 g_94 e_85 (by rw [nI_pred]; exact vp_in_nI (by omega) (by decide)) (by rw [nI_pred]; exact vp_in_nI (by omega) (by decide)) ?_
          refine x_u1 (fun h_98 e_99 f_100 => ?_)
          have e_101 := (f_100 m (xw_neC e_73 e_85 (by simp))).trans e_73
          have e_102 := (f_100 asked_ na.2.2).trans e_83
          have e_103 := (f_100 tokenAt_ nts).trans e_84
          have r_104 := r_86.up (by simp) f_100
          refine s_Model_takeTokens_90 ?_
          rw [nI_1]
          rw [nI_pred, nI_clamp (show t < 2 ^ 31 by omega)] at e_99
          exact ih (i + 1) _ _ _ _ _ (by omega) l_89 e_101 g_94 ga_97 e_103 e_99 (by omega) ((TK.new (by omega)).inc (by omega)) (JK.new hyes hnew hxi) (by omega) r_104
set_option maxHeartbeats 400000 in
theorem f_takeTokens {G : xw_G} {F L : Nat} {h : xw_A} {x y t asz : Nat} {kd : Int32} {fa ca cs : Nat → Int32} {asked_ tokenAt_ tokenSize_ : Nat} {m : Nat} {fs : List Value} (l : fs.length = 62) (e : h m = some (.inr (11, fs))) (g_from : fs[(30 : Nat)]? = some (.int (nI x))) (g_to : fs[(31 : Nat)]? = some (.int (nI y))) (g_tokens : fs[(35 : Nat)]? = some (.int (nI t))) (g_askedSize : fs[(11 : Nat)]? = some (.int (nI asz))) (g_asked : fs[(4 : Nat)]? = some (.ref asked_)) (e_asked : h asked_ = some (.inl (0, 96, .inl (fa)))) (g_tokenAt : fs[(43 : Nat)]? = some (.ref tokenAt_)) (e_tokenAt : h tokenAt_ = some (.inl (0, 60, .inl (ca)))) (g_tokenSize : fs[(44 : Nat)]? = some (.ref tokenSize_)) (e_tokenSize : h tokenSize_ = some (.inl (0, 60, .inl (cs)))) (n_tokenAt_tokenSize : tokenAt_ ≠ tokenSize_) (hasz : asz ≤ 96) (hp : PtO fa asz x y kd) (hk : kd = 1 ∨ kd = 2) (J : JO fa asz t x) (TK : TkO ca cs t x) (hF : 3 ≤ F) (hL : 62 ≤ L) :
    xw_Met G m_Model_takeTokens F L 0 0 [.ref m] h (fun v h' => v = none ∧ ∃ (t' : Nat) (ca' cs' : Nat → Int32) (fs' : List Value), t ≤ t' ∧ JO fa asz t' y ∧ TkO ca' cs' t' y ∧ fs'.length = 62 ∧ h' m = some (.inr (11, fs')) ∧ fs'[(35 : Nat)]? = some (.int (nI t')) ∧ (∀ i : Nat, i ∉ [35] → fs'[i]? = fs[i]?) ∧ h' tokenAt_ = some (.inl (0, 60, .inl ca')) ∧ h' tokenSize_ = some (.inl (0, 60, .inl cs')) ∧ FrO [m, tokenAt_, tokenSize_] h h') (fun _ _ => False) := by
  refine xw_Met.of rfl (by decide) (Nat.le_of_ble_eq_true rfl) ?_
  have r0 : FrO [m, tokenAt_, tokenSize_] h h := FrO.rf
  refine s_Model_takeTokens_0 l e g_from ?_
  exact lp_tt (gs := fs) (h0 := h) (t0 := t) g_asked g_askedSize g_from g_to g_tokenAt g_tokenSize e_asked ⟨xw_neC e_asked e (by simp), xw_neC e_asked e_tokenAt (by simp), xw_neC e_asked e_tokenSize (by simp)⟩ n_tokenAt_tokenSize hasz hp.2.1 (by omega) (by omega) (fun h9 t9 ca9 cs9 fs9 a1 a2 a3 a4 a5 a6 a7 a8 a9 b1 => ⟨rfl, t9, ca9, cs9, fs9, a9, a8.fin hp hk, a7, a1, a2, a3, a4, a5, a6, b1⟩) (y - x) x _ _ _ _ _ (by have := hp.1; omega) l e g_tokens (fun _ _ => rfl) e_tokenAt e_tokenSize (Nat.le_refl _) TK (JJ.start J) (Nat.le_refl _) FrO.rf
