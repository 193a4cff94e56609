/-! TIER H: the parts of a question as the class's arrays hold them -/
theorem isN_f {t : Nat → Int32} {s e n : Nat} {f : Nat → Int32} {w : List Int32} (hw : n = w.length ∧ ∀ i, i < n → w[i]? = some (f i)) : isN t s e w ↔ (e = s + n ∧ ∀ i, i < n → t (s + i) = f i) := by
  obtain ⟨hn, hw⟩ := hw
  constructor
  · rintro ⟨h1, h2⟩
    exact ⟨by omega, fun i hi => h2 i _ (hw i hi)⟩
  · rintro ⟨h1, h2⟩
    refine ⟨by omega, fun i x hx => ?_⟩
    have hi : i < n := by
      rw [hn]
      exact (List.getElem?_eq_some_iff.mp hx).1
    rw [hw i hi] at hx
    rw [h2 i hi]
    exact Option.some.inj hx
theorem wkd_5 {t : Nat → Int32} {n s e : Nat} (h : isN t s e [79, 82]) : wkd t n s e = 5 := by
  unfold wkd
  cases Classical.propDecidable (isN t s e [79, 82]) with
  | isTrue _ => rfl
  | isFalse q => exact absurd h q
theorem wkd_6 {t : Nat → Int32} {n s e : Nat} (h1 : ¬ isN t s e [79, 82]) (h : isN t s e [65, 78, 68]) : wkd t n s e = 6 := by
  unfold wkd
  cases Classical.propDecidable (isN t s e [79, 82]) with
  | isTrue q => exact absurd q h1
  | isFalse _ =>
    cases Classical.propDecidable (isN t s e [65, 78, 68]) with
    | isTrue _ => rfl
    | isFalse q => exact absurd h q
theorem wkd_7 {t : Nat → Int32} {n s e : Nat} (h1 : ¬ isN t s e [79, 82]) (h2 : ¬ isN t s e [65, 78, 68]) (h : isN t s e [78, 79, 84]) : wkd t n s e = 7 := by
  unfold wkd
  cases Classical.propDecidable (isN t s e [79, 82]) with
  | isTrue q => exact absurd q h1
  | isFalse _ =>
    cases Classical.propDecidable (isN t s e [65, 78, 68]) with
    | isTrue q => exact absurd q h2
    | isFalse _ =>
      cases Classical.propDecidable (isN t s e [78, 79, 84]) with
      | isTrue _ => rfl
      | isFalse q => exact absurd h q
theorem wkd_8 {t : Nat → Int32} {n s e : Nat} (h1 : ¬ isN t s e [79, 82]) (h2 : ¬ isN t s e [65, 78, 68]) (h3 : ¬ isN t s e [78, 79, 84]) (h : isN t s e [78, 69, 65, 82]) : wkd t n s e = 8 := by
  unfold wkd
  cases Classical.propDecidable (isN t s e [79, 82]) with
  | isTrue q => exact absurd q h1
  | isFalse _ =>
    cases Classical.propDecidable (isN t s e [65, 78, 68]) with
    | isTrue q => exact absurd q h2
    | isFalse _ =>
      cases Classical.propDecidable (isN t s e [78, 79, 84]) with
      | isTrue q => exact absurd q h3
      | isFalse _ =>
        cases Classical.propDecidable (isN t s e [78, 69, 65, 82]) with
        | isTrue _ => rfl
        | isFalse q => exact absurd h q
theorem wkd_n {t : Nat → Int32} {n s e : Nat} (h1 : ¬ isN t s e [79, 82]) (h2 : ¬ isN t s e [65, 78, 68]) (h3 : ¬ isN t s e [78, 79, 84]) (h4 : ¬ isN t s e [78, 69, 65, 82]) : wkd t n s e = if e < n ∧ t e = 58 then 3 else 2 := by
  unfold wkd
  cases Classical.propDecidable (isN t s e [79, 82]) with
  | isTrue q => exact absurd q h1
  | isFalse _ =>
    cases Classical.propDecidable (isN t s e [65, 78, 68]) with
    | isTrue q => exact absurd q h2
    | isFalse _ =>
      cases Classical.propDecidable (isN t s e [78, 79, 84]) with
      | isTrue q => exact absurd q h3
      | isFalse _ =>
        cases Classical.propDecidable (isN t s e [78, 69, 65, 82]) with
        | isTrue q => exact absurd q h4
        | isFalse _ => rfl
theorem wkd_in (t : Nat → Int32) (n s e : Nat) : 2 ≤ wkd t n s e ∧ wkd t n s e ≤ 8 ∧ ¬ wkd t n s e = 4 ∧ (wkd t n s e = 3 → e < n ∧ t e = 58) := by
  by_cases h1 : isN t s e [79, 82]
  · rw [wkd_5 h1]; omega
  · by_cases h2 : isN t s e [65, 78, 68]
    · rw [wkd_6 h1 h2]; omega
    · by_cases h3 : isN t s e [78, 79, 84]
      · rw [wkd_7 h1 h2 h3]; omega
      · by_cases h4 : isN t s e [78, 69, 65, 82]
        · rw [wkd_8 h1 h2 h3 h4]; omega
        · rw [wkd_n h1 h2 h3 h4]
          by_cases q : e < n ∧ t e = 58
          · rw [if_pos q]; exact ⟨by omega, by omega, by omega, fun _ => q⟩
          · rw [if_neg q]; omega
theorem sgn_in (c : Int32) : (sgn c = 1 ∨ 9 ≤ sgn c) ∧ sgn c ≤ 16 := by
  unfold sgn
  repeat' split
  all_goals omega
set_option maxRecDepth 4000 in
theorem sgn_ix : ∀ c, c < 128 → (ixC (fun j => [40, 41, 45, 94, 44, 43, 42, 58].getD j 0) (nI c).toInt8.toInt32 8 0 = -1 ∧ sgn (nI c) = 1) ∨ (ixC (fun j => [40, 41, 45, 94, 44, 43, 42, 58].getD j 0) (nI c).toInt8.toInt32 8 0 = nI (sgn (nI c) - 9) ∧ 9 ≤ sgn (nI c) ∧ sgn (nI c) ≤ 16) := by decide +kernel
theorem lt128 : ∀ c, c < 128 → ¬ nI c < 0 ∧ ¬ 255 < nI c := by decide +kernel
theorem quoE_end (t : Nat → Int32) (n : Nat) : ∀ f p, n ≤ p + f → ¬ (quoE t n f p < n ∧ ¬ t (quoE t n f p) = 34) := by
  intro f
  induction f with
  | zero => intro p h z; rw [quoE] at z; omega
  | succ f ih =>
    intro p h
    rw [quoE]
    by_cases q : p < n ∧ ¬ t p = 34
    · rw [if_pos q]; exact ih (p + 1) (by omega)
    · rw [if_neg q]; exact q
theorem lexK_e {t : Nat → Int32} {n s : Nat} (h : n ≤ s) : lexK t n s = (0, s) := by unfold lexK; rw [if_pos h]
theorem lexK_w {t : Nat → Int32} {n s : Nat} (h : s < n) (w : isW (t s) = true) : lexK t n s = (wkd t n s (wr t n s), wr t n s) := by
  unfold lexK
  rw [if_neg (by omega), if_pos w]
  rfl
theorem lexK_q {t : Nat → Int32} {n s : Nat} (h : s < n) (w : ¬ isW (t s) = true) (q : t s = 34) : lexK t n s = if qu t n (s + 1) < n then (4, qu t n (s + 1) + 1) else (1, s) := by
  unfold lexK
  rw [if_neg (by omega), if_neg w, if_pos q]
  rfl
theorem lexK_s {t : Nat → Int32} {n s : Nat} (h : s < n) (w : ¬ isW (t s) = true) (q : ¬ t s = 34) : lexK t n s = (sgn (t s), s + 1) := by
  unfold lexK
  rw [if_neg (by omega), if_neg w, if_neg q]
theorem qu_ge (t : Nat → Int32) (n p : Nat) : p ≤ qu t n p ∧ (p ≤ n → qu t n p ≤ n) := by
  have := quoE_ge t n (n - p) p
  unfold qu
  omega
theorem wr_ge (t : Nat → Int32) (n p : Nat) : p ≤ wr t n p ∧ (p ≤ n → wr t n p ≤ n) := by
  have := wrdE_ge t n (n - p) p
  unfold wr
  omega
theorem lex_in (t : Nat → Int32) (n s : Nat) : (lexK t n s).1 ≤ 16 ∧ s ≤ (lexK t n s).2 ∧ (s ≤ n → (lexK t n s).2 ≤ n) := by
  by_cases h : n ≤ s
  · rw [lexK_e h]; exact ⟨Nat.zero_le _, Nat.le_refl _, fun h2 => h2⟩
  · by_cases w : isW (t s) = true
    · rw [lexK_w (by omega) w]
      have a := wkd_in t n s (wr t n s)
      have b := wr_ge t n s
      exact ⟨by show wkd t n s (wr t n s) ≤ 16; omega, b.1, b.2⟩
    · by_cases q : t s = 34
      · rw [lexK_q (by omega) w q]
        have b := qu_ge t n (s + 1)
        by_cases g : qu t n (s + 1) < n
        · rw [if_pos g]; exact ⟨(by show 4 ≤ 16; decide), by show s ≤ qu t n (s + 1) + 1; omega, fun _ => by show qu t n (s + 1) + 1 ≤ n; omega⟩
        · rw [if_neg g]; exact ⟨(by show 1 ≤ 16; decide), Nat.le_refl _, fun h2 => h2⟩
      · rw [lexK_s (by omega) w q]
        exact ⟨(sgn_in _).2, by show s ≤ s + 1; omega, fun _ => by show s + 1 ≤ n; omega⟩
theorem kdP_le (t : Nat → Int32) (n p : Nat) : kdP t n p ≤ 16 := (lex_in t n (bl t n p)).1
/-- behind a filter's name there is its sign -/
theorem kd_3 {t : Nat → Int32} {n p : Nat} (h : kdP t n p = 3) : skP t n p < n ∧ t (skP t n p) = 58 ∧ bl t n (skP t n p) = skP t n p ∧ kdP t n (skP t n p) = 16 ∧ isW (t (bl t n p)) = true := by
  have e : (lexK t n (bl t n p)).1 = 3 := h
  have hs : skP t n p = (lexK t n (bl t n p)).2 := rfl
  generalize bl t n p = s at e hs
  by_cases h : n ≤ s
  · rw [lexK_e h] at e; cases e
  · by_cases w : isW (t s) = true
    · rw [lexK_w (by omega) w] at e hs
      have a := (wkd_in t n s (wr t n s)).2.2.2 e
      have hs2 : skP t n p = wr t n s := hs
      rw [hs2]
      have b : bl t n (wr t n s) = wr t n s := blkE_stop (fun q => by rw [a.2] at q; exact absurd q.2 (by decide))
      refine ⟨a.1, a.2, b, ?_, w⟩
      show (lexK t n (bl t n (wr t n s))).1 = 16
      rw [b, lexK_s a.1 (by rw [a.2]; decide) (by rw [a.2]; decide), a.2]
      rfl
    · by_cases q : t s = 34
      · rw [lexK_q (by omega) w q] at e
        split at e <;> cases e
      · rw [lexK_s (by omega) w q] at e
        have := sgn_in (t s)
        have e2 : sgn (t s) = 3 := e
        omega
/-- the place where part i begins to be looked for -/
noncomputable def pls (t : Nat → Int32) (n : Nat) : Nat → Nat
  | 0 => 0
  | i + 1 => skP t n (pls t n i)
theorem pls_le (t : Nat → Int32) (n : Nat) : ∀ i, pls t n i ≤ n := by
  intro i
  induction i with
  | zero => exact Nat.zero_le _
  | succ i ih => exact (lex_in t n (bl t n (pls t n i))).2.2 ((bl_ge t n (pls t n i)).2 ih)
def LxA (t : Nat → Int32) (n : Nat) (fk fs fe : Nat → Int32) (j : Nat) : Prop := fk j = nI (kdP t n (pls t n j)) ∧ fs j = nI (bl t n (pls t n j)) ∧ fe j = nI (skP t n (pls t n j))
/-- i parts are read -/
def LxI (i x : Nat) (t : Nat → Int32) (n : Nat) (fk fs fe : Nat → Int32) : Prop := x = pls t n i ∧ i ≤ x ∧ ∀ j, j < i → LxA t n fk fs fe j ∧ ¬ kdP t n (pls t n j) = 0 ∧ ¬ kdP t n (pls t n j) = 1
/-- all parts are read -/
def LxF (c : Nat) (t : Nat → Int32) (n : Nat) (fk fs fe : Nat → Int32) : Prop := c ≤ n ∧ (∀ j, j ≤ c → LxA t n fk fs fe j) ∧ (∀ j, j < c → ¬ kdP t n (pls t n j) = 0 ∧ ¬ kdP t n (pls t n j) = 1) ∧ (kdP t n (pls t n c) = 0 ∨ kdP t n (pls t n c) = 1)
theorem LxA.un {t : Nat → Int32} {n i j : Nat} {fk fs fe : Nat → Int32} {a b c : Int32} (h : LxA t n fk fs fe j) (q : j ≠ i) : LxA t n (upd fk i a) (upd fs i b) (upd fe i c) j := by
  unfold LxA
  rw [pk_un q, pk_un q, pk_un q]
  exact h
theorem LxA.new {t : Nat → Int32} {n i x : Nat} {fk fs fe : Nat → Int32} (h : x = pls t n i) : LxA t n (upd fk i (nI (lexK t n (bl t n x)).1)) (upd fs i (nI (bl t n x))) (upd fe i (nI (lexK t n (bl t n x)).2)) i := by
  unfold LxA
  rw [pk_us, pk_us, pk_us, h]
  exact ⟨rfl, rfl, rfl⟩
theorem LxI.next {i x : Nat} {t : Nat → Int32} {n : Nat} {fk fs fe : Nat → Int32} (h : LxI i x t n fk fs fe) (h0 : ¬ nI (lexK t n (bl t n x)).1 = 0) (h1 : ¬ nI (lexK t n (bl t n x)).1 = 1) : LxI (i + 1) (lexK t n (bl t n x)).2 t n (upd fk i (nI (lexK t n (bl t n x)).1)) (upd fs i (nI (bl t n x))) (upd fe i (nI (lexK t n (bl t n x)).2)) := by
  obtain ⟨e, hi, hj⟩ := h
  have k0 : ¬ (lexK t n (bl t n x)).1 = 0 := fun q => h0 (by rw [q]; rfl)
  have k1 : ¬ (lexK t n (bl t n x)).1 = 1 := fun q => h1 (by rw [q]; rfl)
  have g := lex_end k0 k1
  have b := bl_ge t n x
  refine ⟨by rw [e]; rfl, by omega, fun j h9 => ?_⟩
  by_cases q : j = i
  · subst q
    exact ⟨LxA.new e, by rw [← e]; exact k0, by rw [← e]; exact k1⟩
  · exact ⟨(hj j (by omega)).1.un q, (hj j (by omega)).2⟩
theorem LxI.fin {i x : Nat} {t : Nat → Int32} {n : Nat} {fk fs fe : Nat → Int32} (h : LxI i x t n fk fs fe) (h01 : nI (lexK t n (bl t n x)).1 = 0 ∨ nI (lexK t n (bl t n x)).1 = 1) : LxF i t n (upd fk i (nI (lexK t n (bl t n x)).1)) (upd fs i (nI (bl t n x))) (upd fe i (nI (lexK t n (bl t n x)).2)) := by
  obtain ⟨e, hi, hj⟩ := h
  have k := lex_in t n (bl t n x)
  have p := pls_le t n i
  refine ⟨by omega, fun j h9 => ?_, fun j h9 => (hj j h9).2, ?_⟩
  · by_cases q : j = i
    · subst q
      exact LxA.new e
    · exact (hj j (by omega)).1.un q
  · rw [← e]
    rcases h01 with q | q
    · exact Or.inl ((nI_eq (b := 0) (by have := kdP_le t n x; omega) (by decide)).mp q)
    · exact Or.inr ((nI_eq (b := 1) (by have := kdP_le t n x; omega) (by decide)).mp q)
theorem LxF.k {c : Nat} {t : Nat → Int32} {n : Nat} {fk fs fe : Nat → Int32} (h : LxF c t n fk fs fe) {j : Nat} (hj : j ≤ c) : fk j = nI (kdP t n (pls t n j)) := (h.2.1 j hj).1
theorem LxF.ki {c : Nat} {t : Nat → Int32} {n : Nat} {fk fs fe : Nat → Int32} (h : LxF c t n fk fs fe) {j v : Nat} (hj : j ≤ c) (hv : v ≤ 16) : fk j = nI v ↔ kdP t n (pls t n j) = v := by
  rw [h.k hj]
  have := kdP_le t n (pls t n j)
  exact nI_eq (by omega) (by omega)
theorem LxF.pk {c : Nat} {t : Nat → Int32} {n : Nat} {fk fs fe : Nat → Int32} (h : LxF c t n fk fs fe) (hn : n ≤ 96) : PkF c n fk fs fe := by
  obtain ⟨h1, h2, h3, h4⟩ := h
  have hk : ∀ j, j ≤ c → ∀ v, v ≤ 16 → (fk j = nI v ↔ kdP t n (pls t n j) = v) := fun j hj v hv => by
    rw [(h2 j hj).1]
    have := kdP_le t n (pls t n j)
    exact nI_eq (by omega) (by omega)
  refine ⟨by omega, ?_, fun i hi => ?_, fun i hi => ?_, fun i hi h9 => ?_⟩
  · rcases h4 with q | q
    · exact Or.inl ((hk c (Nat.le_refl _) 0 (by decide)).mpr q)
    · exact Or.inr ((hk c (Nat.le_refl _) 1 (by decide)).mpr q)
  · exact ⟨fun q => (h3 i hi).1 ((hk i (by omega) 0 (by decide)).mp q), fun q => (h3 i hi).2 ((hk i (by omega) 1 (by decide)).mp q)⟩
  · refine ⟨_, _, (h2 i hi).2.1, (h2 i hi).2.2, ?_, ?_⟩
    · exact (lex_in t n (bl t n (pls t n i))).2.1
    · exact pls_le t n (i + 1)
  · have k3 := (hk i (by omega) 3 (by decide)).mp h9
    have g := (kd_3 k3).2.2.2.1
    refine Nat.lt_of_le_of_ne (by omega) (fun q => ?_)
    have e : kdP t n (pls t n c) = 16 := by
      rw [← q]
      exact g
    omega
/-! TIER H: the words, phrases, groups and nodes of a question as the class holds them -/
/-- the words of the letters from a to b -/
def wdS (t : Nat → Int32) (a b : Nat) : List (List Int32) := (List.range (tokN (fun j => t (a + j)) (b - a))).map (fun s => (List.range (tkL (fun j => t (a + j)) (b - a) s)).map (tkC (fun j => t (a + j)) (b - a) s))
def wds (t : Nat → Int32) : List (Nat × Nat) → List (List Int32)
  | [] => []
  | x :: l => wdS t x.1 x.2 ++ wds t l
def spn : List PHt → List (Nat × Nat)
  | [] => []
  | x :: l => x.1 ++ spn l
theorem wds_app (t : Nat → Int32) : ∀ a b : List (Nat × Nat), wds t (a ++ b) = wds t a ++ wds t b := by
  intro a b
  induction a with
  | nil => rfl
  | cons x a ih => rw [List.cons_append, wds, ih, wds, List.append_assoc]
theorem spn_app : ∀ a b : List PHt, spn (a ++ b) = spn a ++ spn b := by
  intro a b
  induction a with
  | nil => rfl
  | cons x a ih => rw [List.cons_append, spn, ih, spn, List.append_assoc]
theorem wds_one (t : Nat → Int32) (x : Nat × Nat) : wds t [x] = wdS t x.1 x.2 := by rw [wds, wds, List.append_nil]
theorem spn_one (x : PHt) : spn [x] = x.1 := by rw [spn, spn, List.append_nil]
theorem wdS_len (t : Nat → Int32) (a b : Nat) : (wdS t a b).length = tokN (fun j => t (a + j)) (b - a) := by
  unfold wdS
  rw [List.length_map, List.length_range]
theorem wdS_at {t : Nat → Int32} {a b s : Nat} {w : List Int32} (h : (wdS t a b)[s]? = some w) : s < tokN (fun j => t (a + j)) (b - a) ∧ w = (List.range (tkL (fun j => t (a + j)) (b - a) s)).map (tkC (fun j => t (a + j)) (b - a) s) := by
  unfold wdS at h
  rw [List.getElem?_map] at h
  cases hr : (List.range (tokN (fun j => t (a + j)) (b - a)))[s]? with
  | none => rw [hr] at h; cases h
  | some x =>
    rw [hr] at h
    obtain ⟨h1, h2⟩ := List.getElem?_eq_some_iff.mp hr
    rw [List.length_range] at h1
    rw [List.getElem_range] at h2
    subst h2
    exact ⟨h1, (Option.some.inj h).symm⟩
theorem rg_at {m k : Nat} {φ : Nat → Int32} {c : Int32} (h : ((List.range m).map φ)[k]? = some c) : k < m ∧ c = φ k := by
  rw [List.getElem?_map] at h
  cases hr : (List.range m)[k]? with
  | none => rw [hr] at h; cases h
  | some x =>
    rw [hr] at h
    obtain ⟨h1, h2⟩ := List.getElem?_eq_some_iff.mp hr
    rw [List.length_range] at h1
    rw [List.getElem_range] at h2
    subst h2
    exact ⟨h1, (Option.some.inj h).symm⟩
/-- the tokens n, f, g hold the words ws, W letters -/
def TkW (ws : List (List Int32)) (n W : Nat) (f g : Nat → Int32) : Prop := n = ws.length ∧ ∃ G : Nat → Nat, G 0 = 0 ∧ (∀ s, s ≤ n → g s = nI (G s)) ∧ (∀ s, s < n → G s ≤ G (s + 1)) ∧ G n = W ∧ ∀ s w, ws[s]? = some w → G (s + 1) = G s + w.length ∧ ∀ k c, w[k]? = some c → f (G s + k) = c
theorem mono_le {G : Nat → Nat} {n : Nat} (h : ∀ s, s < n → G s ≤ G (s + 1)) : ∀ d s, s + d = n → G s ≤ G n := by
  intro d
  induction d with
  | zero => intro s hs; rw [show s = n by omega]; exact Nat.le_refl _
  | succ d ih => intro s hs; exact Nat.le_trans (h s (by omega)) (ih (s + 1) (by omega))
theorem TkW.app {ws : List (List Int32)} {n W n' b e k m w0 : Nat} {fq f g f' g' : Nat → Int32} (h : TkW ws n W f g) (hW : W ≤ 96) (m96 : m ≤ 96) (hw0 : w0 ≤ m) (hg : g n = nI w0) (X : GaX fq b e k m n w0 f g e n' f' g') (hk : n + tokN (fun j => fq (b + j)) (e - b) < k) (hm : W + wN (fun j => fq (b + j)) (e - b) ≤ m) (h128 : ∀ j, b ≤ j → j < e → ∃ c, c < 128 ∧ fq j = nI c) (hn' : n' = n + tokN (fun j => fq (b + j)) (e - b)) : TkW (ws ++ wdS fq b e) n' (W + wN (fun j => fq (b + j)) (e - b)) f' g' := by
  obtain ⟨hn, G, h0, h1, h2, h3, h4⟩ := h
  obtain rfl : W = w0 := (nI_eq (by omega) (by omega)).mp (by rw [← hg, h1 n (Nat.le_refl _), h3])
  obtain ⟨G', g1, g2, g3, g4, g5, g6, g7⟩ := X ⟨hk, hm, h128⟩
  have q1 : ∀ s, s ≤ n → G s ≤ W := fun s hs => by rw [← h3]; exact mono_le h2 (n - s) s (by omega)
  have q2 : ∀ s, s ≤ n' → G' s ≤ m := fun s hs => by
    have := mono_le g2 (n' - s) s (by omega)
    omega
  have q3 : ∀ s, s ≤ n → G' s = G s := fun s hs => by
    refine (nI_eq ?_ ?_).mp ?_
    · have := q2 s (by omega); omega
    · have := q1 s hs; omega
    · rw [← g1 s (by omega), g6 s hs, h1 s hs]
  refine ⟨by rw [List.length_append, wdS_len]; omega, G', by rw [q3 0 (Nat.zero_le _)]; exact h0, g1, g2, g4, fun s w hw => ?_⟩
  by_cases hs : s < n
  · rw [List.getElem?_append_left (by omega)] at hw
    obtain ⟨a1, a2⟩ := h4 s w hw
    rw [q3 s (by omega), q3 (s + 1) (by omega)]
    refine ⟨a1, fun j c hc => ?_⟩
    have hj : j < w.length := (List.getElem?_eq_some_iff.mp hc).1
    rw [g7 _ (by have := q1 (s + 1) (by omega); omega)]
    exact a2 j c hc
  · rw [List.getElem?_append_right (by omega)] at hw
    obtain ⟨a1, a2⟩ := wdS_at hw
    obtain ⟨b1, b2⟩ := g5 (s - ws.length) a1
    rw [show n + (s - ws.length) = s by omega] at b1 b2
    subst a2
    refine ⟨by rw [List.length_map, List.length_range]; exact b1, fun j c hc => ?_⟩
    obtain ⟨c1, c2⟩ := rg_at hc
    rw [c2]
    exact b2 j c1
/-- where a word may begin -/
def bnd (t : Nat → Int32) (p : Nat) : Prop := p = 0 ∨ isW (t p) = false ∨ isW (t (p - 1)) = false
theorem tokN_split {t : Nat → Int32} {a : Nat} (h : bnd t a) : ∀ d, tokN t a + tokN (fun j => t (a + j)) d ≤ tokN t (a + d) := by
  intro d
  induction d with
  | zero => exact Nat.le_refl _
  | succ d ih =>
    show tokN t a + tokN (fun j => t (a + j)) (d + 1) ≤ tokN t (a + d + 1)
    by_cases q : isW (t (a + d)) = true ∧ (d = 0 ∨ isW (t (a + (d - 1))) = false)
    · rw [tokN_y (t := fun j => t (a + j)) (i := d) q.1 q.2]
      rw [tokN_y (t := t) (i := a + d) q.1 ?_]
      · omega
      · rcases q.2 with e | e
        · subst e
          rcases h with h | h | h
          · exact Or.inl (by omega)
          · rw [Nat.add_zero, h] at q; exact absurd q.1 (by decide)
          · exact Or.inr h
        · by_cases e2 : d = 0
          · subst e2
            rcases h with h | h | h
            · exact Or.inl (by omega)
            · rw [Nat.add_zero, h] at q; exact absurd q.1 (by decide)
            · exact Or.inr h
          · refine Or.inr ?_
            rw [show a + d - 1 = a + (d - 1) by omega]
            exact e
    · have e : tokN (fun j => t (a + j)) (d + 1) = tokN (fun j => t (a + j)) d := by rw [tokN, if_neg q, Nat.add_zero]
      rw [e]
      exact Nat.le_trans ih (tokN_mono t (by omega))
theorem wN_split (t : Nat → Int32) (a : Nat) : ∀ d, wN t a + wN (fun j => t (a + j)) d = wN t (a + d) := by
  intro d
  induction d with
  | zero => rfl
  | succ d ih =>
    show wN t a + (wN (fun j => t (a + j)) d + (if isW (t (a + d)) = true then 1 else 0)) = wN t (a + d) + (if isW (t (a + d)) = true then 1 else 0)
    omega
theorem bl_32 (t : Nat → Int32) (n : Nat) : ∀ f p, p < blkE t n f p → t (blkE t n f p - 1) = 32 := by
  intro f
  induction f with
  | zero => intro p h; rw [blkE] at h; omega
  | succ f ih =>
    intro p h
    rw [blkE] at h ⊢
    by_cases q : p < n ∧ t p = 32
    · rw [if_pos q] at h ⊢
      have g := blkE_ge t n f (p + 1)
      by_cases e : blkE t n f (p + 1) = p + 1
      · rw [e, Nat.add_sub_cancel]; exact q.2
      · exact ih (p + 1) (by omega)
    · rw [if_neg q] at h; omega
theorem sk_bnd {t : Nat → Int32} {n p : Nat} (h0 : ¬ kdP t n p = 0) (h1 : ¬ kdP t n p = 1) (hn : skP t n p < n) : bnd t (skP t n p) := by
  have hs : skP t n p = (lexK t n (bl t n p)).2 := rfl
  have k0 : ¬ (lexK t n (bl t n p)).1 = 0 := h0
  have k1 : ¬ (lexK t n (bl t n p)).1 = 1 := h1
  rw [hs] at hn ⊢
  generalize bl t n p = s at k0 k1 hn ⊢
  by_cases h : n ≤ s
  · rw [lexK_e h] at k0; exact absurd rfl k0
  · by_cases w : isW (t s) = true
    · rw [lexK_w (by omega) w] at hn ⊢
      have e := wrdE_end t n (n - s) s (by omega)
      refine Or.inr (Or.inl ?_)
      have hn2 : wr t n s < n := hn
      cases hq : isW (t (wr t n s)) with
      | false => rfl
      | true => exact absurd ⟨hn2, hq⟩ e
    · by_cases q : t s = 34
      · rw [lexK_q (by omega) w q] at k1 ⊢
        by_cases g : qu t n (s + 1) < n
        · rw [if_pos g]
          refine Or.inr (Or.inr ?_)
          show isW (t (qu t n (s + 1) + 1 - 1)) = false
          rw [Nat.add_sub_cancel]
          have e : t (qu t n (s + 1)) = 34 := by
            have e := quoE_end t n (n - (s + 1)) (s + 1) (by omega)
            exact Classical.byContradiction (fun z => e ⟨g, z⟩)
          rw [e]; decide
        · rw [if_neg g] at k1; exact absurd rfl k1
      · rw [lexK_s (by omega) w q]
        refine Or.inr (Or.inr ?_)
        show isW (t (s + 1 - 1)) = false
        rw [Nat.add_sub_cancel]
        cases hq : isW (t s) with
        | false => rfl
        | true => exact absurd hq w
theorem bl_bnd {t : Nat → Int32} {n p : Nat} (h : p < n → bnd t p) (hb : bl t n p < n) : bnd t (bl t n p) := by
  have g := bl_ge t n p
  by_cases e : bl t n p = p
  · rw [e]; exact h (by omega)
  · refine Or.inr (Or.inr ?_)
    have := bl_32 t n (n - p) p (show p < bl t n p by omega)
    rw [show t (bl t n p - 1) = 32 from this]
    decide
theorem LxF.bnd {c : Nat} {t : Nat → Int32} {n : Nat} {fk fs fe : Nat → Int32} (h : LxF c t n fk fs fe) {j : Nat} (hj : j ≤ c) (hb : bl t n (pls t n j) < n) : bnd t (bl t n (pls t n j)) := by
  refine bl_bnd (fun hp => ?_) hb
  cases j with
  | zero => exact Or.inl rfl
  | succ j => exact sk_bnd (h.2.2.1 j (by omega)).1 (h.2.2.1 j (by omega)).2 hp
/-- a string is read: its words fit -/
theorem str_room {c : Nat} {t : Nat → Int32} {n : Nat} {fk fs fe : Nat → Int32} (h : LxF c t n fk fs fe) (hn : n ≤ 96) {j m W : Nat} (hj : j ≤ c) (k : isS (kdP t n (pls t n j)) = true) (hm : m ≤ tokN t (pls t n j)) (hW : W ≤ wN t (pls t n j)) :
    m + tokN (fun i => t (bl t n (pls t n j) + i)) (skP t n (pls t n j) - bl t n (pls t n j)) ≤ tokN t (skP t n (pls t n j)) ∧ W + wN (fun i => t (bl t n (pls t n j) + i)) (skP t n (pls t n j) - bl t n (pls t n j)) ≤ wN t (skP t n (pls t n j)) ∧ tokN t (skP t n (pls t n j)) ≤ 48 ∧ wN t (skP t n (pls t n j)) ≤ 96 ∧ bl t n (pls t n j) < n ∧ bl t n (pls t n j) ≤ skP t n (pls t n j) ∧ skP t n (pls t n j) ≤ n := by
  have k2 := isS_k k
  have g := lex_end k2.1 k2.2
  have g2 : bl t n (pls t n j) < skP t n (pls t n j) := g.2.1
  have g3 : skP t n (pls t n j) ≤ n := g.2.2
  have b := bl_ge t n (pls t n j)
  have sp := tokN_split (h.bnd hj g.1) (skP t n (pls t n j) - bl t n (pls t n j))
  have sw := wN_split t (bl t n (pls t n j)) (skP t n (pls t n j) - bl t n (pls t n j))
  rw [show bl t n (pls t n j) + (skP t n (pls t n j) - bl t n (pls t n j)) = skP t n (pls t n j) by omega] at sp sw
  have m1 := tokN_mono t b.1
  have m2 := wN_mono t b.1
  have m3 := tokN_half t (skP t n (pls t n j))
  have m4 := wN_le t (skP t n (pls t n j))
  exact ⟨by omega, by omega, by omega, by omega, g.1, by omega, g3⟩
def PhT (fp : Nat → Option Nat) (t : Nat → Int32) (ph : List PHt) (h : xw_A) : Prop := ∀ i x, ph[i]? = some x → ∃ a, fp i = some a ∧ h a = some (.inr (4, [.int (nI (wds t (spn (ph.take i))).length), .int (nI (wds t x.1).length), .int (b01 x.2)]))
def NdO (fn : Nat → Option Nat) (gr : List GRt) (x : NDt) (l r : Option Nat) (k z0 z1 z2 z3 z4 : Int32) : Prop := (x.1 = 0 → k = 0 ∧ ∃ y : GRt, gr[x.2.1]? = some y ∧ z0 = nI y.2.1 ∧ z1 = nI y.2.2.1 ∧ z2 = nI (if y.1 = 2 then y.2.2.2.2 else 0) ∧ z3 = nI y.2.2.2.1 ∧ z4 = (if y.1 = 1 then 1 else -1)) ∧ (¬ x.1 = 0 → k = nI (if x.1 = 4 then 6 else x.1 + 4) ∧ l = fn x.2.1 ∧ r = fn x.2.2)
def NdT (fn : Nat → Option Nat) (gr : List GRt) (nds : List NDt) (h : xw_A) : Prop := ∀ i x, nds[i]? = some x → ∃ (a : Nat) (l r : Option Nat) (k z0 z1 z2 z3 z4 z5 : Int32), fn i = some a ∧ h a = some (.inr (2, [.int k, va_rf l, va_rf r, .int z0, .int z1, .int z2, .int z3, .int z4, .int z5])) ∧ NdO fn gr x l r k z0 z1 z2 z3 z4
/-- what is told of a question that is being read -/
def QuT (fd : Nat → Int32) (ln c : Nat) (fk fs fe : Nat → Int32) (fp fn : Nat → Option Nat) (p nn n t : Nat) (f g : Nat → Int32) (s : PSt) (sp : List (Nat × Nat)) (nds : List NDt) (h : xw_A) : Prop :=
  LxF c fd ln fk fs fe ∧ s.1 = pls fd ln t ∧ p = s.2.1.length ∧ nn = nds.length ∧ s.2.2.length ≤ p ∧ nn ≤ 2 * s.2.2.length ∧ (∃ W, TkW (wds fd (spn s.2.1 ++ sp)) n W f g ∧ W ≤ wN fd s.1) ∧ n ≤ tokN fd s.1 ∧ PhT fp fd s.2.1 h ∧ NdT fn s.2.2 nds h
theorem PhT.fr {fp : Nat → Option Nat} {t : Nat → Int32} {ph : List PHt} {B : List Nat} {h h' : xw_A} (K : PhT fp t ph h) (r : FrO B h h') (hB : ∀ (a : Nat) (vs : List Value), h a = some (.inr (4, vs)) → a ∉ B) : PhT fp t ph h' := fun i x hx => by
  obtain ⟨a, e1, e2⟩ := K i x hx
  exact ⟨a, e1, r _ _ (hB _ _ e2) e2⟩
theorem NdT.fr {fn : Nat → Option Nat} {gr : List GRt} {nds : List NDt} {B : List Nat} {h h' : xw_A} (K : NdT fn gr nds h) (r : FrO B h h') (hB : ∀ (a : Nat) (vs : List Value), h a = some (.inr (2, vs)) → a ∉ B) : NdT fn gr nds h' := fun i x hx => by
  obtain ⟨a, l, rr, k, z0, z1, z2, z3, z4, z5, e1, e2, e3⟩ := K i x hx
  exact ⟨a, l, rr, k, z0, z1, z2, z3, z4, z5, e1, r _ _ (hB _ _ e2) e2, e3⟩
theorem NdO.gr {fn : Nat → Option Nat} {gr : List GRt} {x : NDt} {l r : Option Nat} {k z0 z1 z2 z3 z4 : Int32} (K : NdO fn gr x l r k z0 z1 z2 z3 z4) (g2 : List GRt) : NdO fn (gr ++ g2) x l r k z0 z1 z2 z3 z4 := ⟨fun q => by
  obtain ⟨h0, y, h1, h2⟩ := K.1 q
  exact ⟨h0, y, by rw [List.getElem?_append_left (List.getElem?_eq_some_iff.mp h1).1]; exact h1, h2⟩, K.2⟩
theorem NdT.gr {fn : Nat → Option Nat} {gr : List GRt} {nds : List NDt} {h : xw_A} (K : NdT fn gr nds h) (g2 : List GRt) : NdT fn (gr ++ g2) nds h := fun i x hx => by
  obtain ⟨a, l, rr, k, z0, z1, z2, z3, z4, z5, e1, e2, e3⟩ := K i x hx
  exact ⟨a, l, rr, k, z0, z1, z2, z3, z4, z5, e1, e2, e3.gr g2⟩
/-! TIER H: how a question that is being read changes -/
theorem kdS_le (t : Nat → Int32) (n : Nat) (s : PSt) : kdS t n s ≤ 16 := kdP_le t n s.1
theorem dprI : ∀ k, k ≤ 16 → (dpr k = true ↔ (nI k = 9 ∨ nI k = 11 ∨ nI k = 3)) := by decide
theorem isSI : ∀ k, k ≤ 16 → (isS k = true ↔ (nI k = 2 ∨ nI k = 4)) := by decide
theorem bgaI : ∀ k, k ≤ 16 → (bga k = true ↔ (dpr k = true ∨ isS k = true ∨ nI k = 12 ∨ nI k = 8)) := by decide
theorem bF {b : Bool} (h : ¬ b = true) : b = false := by cases b; rfl; exact absurd rfl h
section QuestH
variable {fd : Nat → Int32} {ln c : Nat} {fk fs fe : Nat → Int32} {fp fn : Nat → Option Nat} {p nn n t : Nat} {f g : Nat → Int32} {s : PSt} {sp : List (Nat × Nat)} {nds : List NDt} {h h' : xw_A}
theorem QuT.kd (X : QuT fd ln c fk fs fe fp fn p nn n t f g s sp nds h) (ht : t ≤ c) : fk t = nI (kdS fd ln s) := by
  rw [X.1.k ht]
  show _ = nI (kdP fd ln s.1)
  rw [X.2.1]
theorem QuT.kv (X : QuT fd ln c fk fs fe fp fn p nn n t f g s sp nds h) (ht : t ≤ c) {v : Nat} (hv : v ≤ 16) : fk t = nI v ↔ kdS fd ln s = v := by
  rw [X.kd ht]
  have := kdS_le fd ln s
  exact nI_eq (by omega) (by omega)
theorem QuT.next (X : QuT fd ln c fk fs fe fp fn p nn n t f g s sp nds h) : QuT fd ln c fk fs fe fp fn p nn n (t + 1) f g (skS fd ln s) sp nds h := by
  obtain ⟨a1, a2, a3, a4, a5, a6, ⟨W, a7, a8⟩, a9, b1, b2⟩ := X
  have g9 : s.1 ≤ skP fd ln s.1 := sk_ge fd ln s.1
  refine ⟨a1, ?_, a3, a4, a5, a6, ⟨W, a7, Nat.le_trans a8 (wN_mono fd g9)⟩, Nat.le_trans a9 (tokN_mono fd g9), b1, b2⟩
  show skP fd ln s.1 = skP fd ln (pls fd ln t)
  rw [a2]
theorem QuT.fr {B : List Nat} (X : QuT fd ln c fk fs fe fp fn p nn n t f g s sp nds h) (r : FrO B h h') (h4 : ∀ (a : Nat) (vs : List Value), h a = some (.inr (4, vs)) → a ∉ B) (h2 : ∀ (a : Nat) (vs : List Value), h a = some (.inr (2, vs)) → a ∉ B) : QuT fd ln c fk fs fe fp fn p nn n t f g s sp nds h' := by
  obtain ⟨a1, a2, a3, a4, a5, a6, a7, a9, b1, b2⟩ := X
  exact ⟨a1, a2, a3, a4, a5, a6, a7, a9, b1.fr r h4, b2.fr r h2⟩
theorem QuT.q {qo : Nat} {vs : List Value} (X : QuT fd ln c fk fs fe fp fn p nn n t f g s sp nds h) (e : h qo = some (.inr (5, vs))) (r : FrO [qo] h h') : QuT fd ln c fk fs fe fp fn p nn n t f g s sp nds h' :=
  X.fr r (fun _ _ ha => nm1 (xw_neC ha e (by simp))) (fun _ _ ha => nm1 (xw_neC ha e (by simp)))
/-- a string's words are gathered -/
theorem QuT.string {tk tl tz n' w0 : Nat} {f' g' : Nat → Int32} (X : QuT fd ln c fk fs fe fp fn p nn n t f g s sp nds h) (hln : ln ≤ 96) (h128 : ∀ j, j < ln → ∃ c, c < 128 ∧ fd j = nI c) (ht : t ≤ c) (hS : isS (kdS fd ln s) = true) (T : TokC tk tl tz 96 49 n f g h) (r : FrO [tk, tl, tz] h h')
    (hn : n + tokN (fun j => fd (bl fd ln s.1 + j)) (skP fd ln s.1 - bl fd ln s.1) < 49 → n' = n + tokN (fun j => fd (bl fd ln s.1 + j)) (skP fd ln s.1 - bl fd ln s.1)) (hw0 : w0 ≤ 96) (hg : g n = nI w0) (GX : GaX fd (bl fd ln s.1) (skP fd ln s.1) 49 96 n w0 f g (skP fd ln s.1) n' f' g') :
    QuT fd ln c fk fs fe fp fn p nn n' (t + 1) f' g' (skS fd ln s) (sp ++ [(bl fd ln s.1, skP fd ln s.1)]) nds h' := by
  have ne : ∀ {cc : Nat} (_ : ¬ cc = 9) (a : Nat) (vs : List Value), h a = some (.inr (cc, vs)) → a ∉ [tk, tl, tz] := fun hcc a vs ha => by
    simp only [List.mem_cons, List.not_mem_nil, or_false, not_or]
    exact ⟨xw_neC ha T.1 (by simp [hcc]), xw_neC ha T.2.1 (by simp), xw_neC ha T.2.2.1 (by simp)⟩
  obtain ⟨a1, a2, a3, a4, a5, a6, ⟨W, a7, a8⟩, a9, b1, b2⟩ := X
  have hS2 : isS (kdP fd ln (pls fd ln t)) = true := by rw [← a2]; exact hS
  have R := str_room a1 hln ht hS2 (by rw [← a2]; exact a9) (by rw [← a2]; exact a8)
  rw [← a2] at R
  obtain ⟨r1, r2, r3, r4, r5, r6, r7⟩ := R
  have hk : n + tokN (fun j => fd (bl fd ln s.1 + j)) (skP fd ln s.1 - bl fd ln s.1) < 49 := by omega
  have hn2 := hn hk
  refine ⟨a1, ?_, a3, a4, a5, a6, ⟨W + wN (fun j => fd (bl fd ln s.1 + j)) (skP fd ln s.1 - bl fd ln s.1), ?_, r2⟩, by rw [hn2]; exact r1, b1.fr r (ne (by decide)), b2.fr r (ne (by decide))⟩
  · show skP fd ln s.1 = skP fd ln (pls fd ln t)
    rw [a2]
  · show TkW (wds fd (spn s.2.1 ++ (sp ++ [(bl fd ln s.1, skP fd ln s.1)]))) _ _ _ _
    rw [← List.append_assoc, wds_app, wds_one]
    have r8 := wN_le fd s.1
    have r9 : s.1 ≤ skP fd ln s.1 := sk_ge fd ln s.1
    exact a7.app (by omega) (by decide) hw0 hg GX hk (Nat.le_trans r2 r4) (fun j _ hj => h128 j (by omega)) hn2
/-- a phrase is finished -/
theorem PhT.add {ph : List PHt} {x : PHt} {a : Nat} (K : PhT fp fd ph h) (inj : ∀ i j, i < 12 → j < 12 → fp i = fp j → i = j) (hl : ph.length < 12) (e : fp ph.length = some a) (ea : h' a = some (.inr (4, [.int (nI (wds fd (spn ph)).length), .int (nI (wds fd x.1).length), .int (b01 x.2)]))) (r : ∀ q vs, q ≠ a → h q = some (.inr (4, vs)) → h' q = some (.inr (4, vs))) : PhT fp fd (ph ++ [x]) h' := fun i y hy => by
  by_cases hi : i < ph.length
  · rw [List.getElem?_append_left hi] at hy
    obtain ⟨a2, e1, e2⟩ := K i y hy
    refine ⟨a2, e1, ?_⟩
    rw [List.take_append_of_le_length (by omega)]
    exact r _ _ (fun q => absurd (inj i ph.length (by omega) hl (by rw [e1, e, q])) (by omega)) e2
  · rw [List.getElem?_append_right (by omega)] at hy
    have hi2 : i = ph.length := by
      have := (List.getElem?_eq_some_iff.mp hy).1
      simp only [List.length_cons, List.length_nil] at this
      omega
    subst hi2
    rw [Nat.sub_self] at hy
    obtain rfl : x = y := by simpa using hy
    refine ⟨a, e, ?_⟩
    rw [List.take_append_of_le_length (Nat.le_refl _), List.take_length]
    exact ea
theorem NdT.add {gr : List GRt} {x : NDt} {a : Nat} {l r : Option Nat} {k z0 z1 z2 z3 z4 z5 : Int32} (K : NdT fn gr nds h) (inj : ∀ i j, i < 24 → j < 24 → fn i = fn j → i = j) (hl : nds.length < 24) (e : fn nds.length = some a) (ea : h' a = some (.inr (2, [.int k, va_rf l, va_rf r, .int z0, .int z1, .int z2, .int z3, .int z4, .int z5]))) (hx : NdO fn gr x l r k z0 z1 z2 z3 z4) (rr : ∀ q vs, q ≠ a → h q = some (.inr (2, vs)) → h' q = some (.inr (2, vs))) : NdT fn gr (nds ++ [x]) h' := fun i y hy => by
  by_cases hi : i < nds.length
  · rw [List.getElem?_append_left hi] at hy
    obtain ⟨a2, l2, r2, k2, y0, y1, y2, y3, y4, y5, e1, e2, e3⟩ := K i y hy
    exact ⟨a2, l2, r2, k2, y0, y1, y2, y3, y4, y5, e1, rr _ _ (fun q => absurd (inj i nds.length (by omega) hl (by rw [e1, e, q])) (by omega)) e2, e3⟩
  · rw [List.getElem?_append_right (by omega)] at hy
    have hi2 : i = nds.length := by
      have := (List.getElem?_eq_some_iff.mp hy).1
      simp only [List.length_cons, List.length_nil] at this
      omega
    subst hi2
    rw [Nat.sub_self] at hy
    obtain rfl : x = y := by simpa using hy
    exact ⟨a, l, r, k, z0, z1, z2, z3, z4, z5, e, ea, hx⟩
theorem QuT.phr {a : Nat} {b : Bool} {h1 : xw_A} (X : QuT fd ln c fk fs fe fp fn p nn n t f g s sp nds h) (inj : ∀ i j, i < 12 → j < 12 → fp i = fp j → i = j) (hp : p < 12) (ha : fp p = some a) {u : Nat} (hu : u = (wds fd (spn s.2.1)).length) (ea : h1 a = some (.inr (4, [.int (nI u), .int (nI (n - u)), .int (b01 b)]))) (r4 : ∀ q vs, q ≠ a → h q = some (.inr (4, vs)) → h1 q = some (.inr (4, vs))) (r2 : ∀ q vs, h q = some (.inr (2, vs)) → h1 q = some (.inr (2, vs))) : QuT fd ln c fk fs fe fp fn (p + 1) nn n t f g (s.1, s.2.1 ++ [(sp, b)], s.2.2) [] nds h1 := by
  obtain ⟨a1, a2, a3, a4, a5, a6, ⟨W, a7, a8⟩, a9, b1, b2⟩ := X
  refine ⟨a1, a2, ?_, a4, Nat.le_trans a5 (Nat.le_succ _), a6, ⟨W, ?_, a8⟩, a9, ?_, ?_⟩
  · show p + 1 = (s.2.1 ++ [(sp, b)]).length
    rw [List.length_append, ← a3]
    rfl
  · show TkW (wds fd (spn (s.2.1 ++ [(sp, b)]) ++ [])) n W f g
    rw [List.append_nil, spn_app, spn_one]
    exact a7
  · show PhT fp fd (s.2.1 ++ [(sp, b)]) h1
    refine b1.add inj (by omega) (by rw [← a3]; exact ha) ?_ r4
    have hn := a7.1
    rw [wds_app, List.length_append] at hn
    rw [ea, ← hu, show (wds fd sp).length = n - u by omega]
  · intro i x hx
    obtain ⟨a2, l, rr, k, z0, z1, z2, z3, z4, z5, e1, e2, e3⟩ := b2 i x hx
    exact ⟨a2, l, rr, k, z0, z1, z2, z3, z4, z5, e1, r2 _ _ e2, e3⟩
end QuestH
/-- the question that is being read is told -/
def QuD (qo tk tl tz ph nd po k1 k2 k3 d ln c : Nat) (fk fs fe fd : Nat → Int32) (fp fn : Nat → Option Nat) (s : PSt) (sp : List (Nat × Nat)) (nds : List NDt) (h : xw_A) : Prop :=
  ∃ (p nn n t : Nat) (wp : Int32) (f g : Nat → Int32), QuC qo tk tl tz ph nd po k1 k2 k3 d ln c fk fs fe fd fp fn p nn n t wp f g h ∧ QuT fd ln c fk fs fe fp fn p nn n t f g s sp nds h
def QuZ (qo tk tl tz ph nd po k1 k2 k3 d ln c : Nat) (fk fs fe fd : Nat → Int32) (fp fn : Nat → Option Nat) (h : xw_A) : Prop := ∃ (p nn n t : Nat) (wp : Int32) (f g : Nat → Int32), QuC qo tk tl tz ph nd po k1 k2 k3 d ln c fk fs fe fd fp fn p nn n t wp f g h ∧ g 0 = 0
/-- where the tokens of the question begin -/
def Z0 (tz : Nat) (h : xw_A) : Prop := ∃ g : Nat → Int32, h tz = some (.inl (0, 49, .inl g)) ∧ g 0 = 0
theorem QuT.g0 {fd : Nat → Int32} {ln c : Nat} {fk fs fe : Nat → Int32} {fp fn : Nat → Option Nat} {p nn n t : Nat} {f g : Nat → Int32} {s : PSt} {sp : List (Nat × Nat)} {nds : List NDt} {h : xw_A} (X : QuT fd ln c fk fs fe fp fn p nn n t f g s sp nds h) : g 0 = 0 := by
  obtain ⟨W, ⟨-, G, h0, h1, -⟩, -⟩ := X.2.2.2.2.2.2.1
  rw [h1 0 (Nat.zero_le _), h0]
  rfl
/-- what a method that reads a phrase leaves -/
def QuP (B : List Nat) (qo tk tl tz ph nd po k1 k2 k3 d ln c : Nat) (fk fs fe fd : Nat → Int32) (fp fn : Nat → Option Nat) (s : PSt) (nds : List NDt) (x : Option (Nat × PHt)) (h : xw_A) (v : Option Value) (h' : xw_A) : Prop :=
  FrO B h h' ∧ ((x = none ∧ v = some (.int 0) ∧ QuZ qo tk tl tz ph nd po k1 k2 k3 d ln c fk fs fe fd fp fn h') ∨ ∃ (p' : Nat) (y : PHt), x = some (p', y) ∧ v = some (.int 1) ∧ QuD qo tk tl tz ph nd po k1 k2 k3 d ln c fk fs fe fd fp fn (p', s.2.1 ++ [y], s.2.2) [] nds h')
/-- what a method that reads a group leaves -/
def QuG (B : List Nat) (qo tk tl tz ph nd po k1 k2 k3 d ln c : Nat) (fk fs fe fd : Nat → Int32) (fp fn : Nat → Option Nat) (s : PSt) (nds : List NDt) (x : Option (PSt × Nat)) (h : xw_A) (v : Option Value) (h' : xw_A) : Prop :=
  FrO B h h' ∧ ((x = none ∧ v = some .null ∧ QuZ qo tk tl tz ph nd po k1 k2 k3 d ln c fk fs fe fd fp fn h') ∨ ∃ (s' : PSt) (i a : Nat), x = some (s', i) ∧ v = some (.ref a) ∧ fn nds.length = some a ∧ s'.2.2.length = s.2.2.length + 1 ∧ QuD qo tk tl tz ph nd po k1 k2 k3 d ln c fk fs fe fd fp fn s' [] (nds ++ [(0, i, 0)]) h')
/-- what a method that reads a piece of a question leaves -/
def QuN (B : List Nat) (qo tk tl tz ph nd po k1 k2 k3 d ln c : Nat) (fk fs fe fd : Nat → Int32) (fp fn : Nat → Option Nat) (s : PSt) (nds : List NDt) (x : Option (PSt × List EV)) (h : xw_A) (v : Option Value) (h' : xw_A) : Prop :=
  FrO B h h' ∧ ((x = none ∧ v = some .null ∧ QuZ qo tk tl tz ph nd po k1 k2 k3 d ln c fk fs fe fd fp fn h') ∨ ∃ (s' : PSt) (e : List EV) (a : Nat), x = some (s', e) ∧ v = some (.ref a) ∧ 0 < e.length ∧ fn (nds.length + e.length - 1) = some a ∧ e.length + 1 + 2 * s.2.2.length ≤ 2 * s'.2.2.length ∧ QuD qo tk tl tz ph nd po k1 k2 k3 d ln c fk fs fe fd fp fn s' [] (nds ++ lks e nds.length []) h')
section QuestI
variable {fd : Nat → Int32} {ln c : Nat} {fk fs fe : Nat → Int32} {fp fn : Nat → Option Nat} {p nn n t : Nat} {f g : Nat → Int32} {s : PSt} {sp : List (Nat × Nat)} {nds : List NDt} {h h' : xw_A}
theorem QuT.n0 (X : QuT fd ln c fk fs fe fp fn p nn n t f g s [] nds h) : n = (wds fd (spn s.2.1)).length := by
  obtain ⟨W, q, -⟩ := X.2.2.2.2.2.2.1
  have e := q.1
  rw [List.append_nil] at e
  exact e
theorem QuT.ge (X : QuT fd ln c fk fs fe fp fn p nn n t f g s sp nds h) : (wds fd (spn s.2.1)).length ≤ n := by
  obtain ⟨W, q, -⟩ := X.2.2.2.2.2.2.1
  have e := q.1
  rw [wds_app, List.length_append] at e
  omega
/-- the next phrase's cell changes, which doesn't count yet -/
theorem QuT.pha {a : Nat} {vs : List Value} (X : QuT fd ln c fk fs fe fp fn p nn n t f g s sp nds h) (inj : ∀ i j, i < 12 → j < 12 → fp i = fp j → i = j) (hp : p < 12) (ha : fp p = some a) (ea : h a = some (.inr (4, vs))) (r : FrO [a] h h') : QuT fd ln c fk fs fe fp fn p nn n t f g s sp nds h' := by
  obtain ⟨a1, a2, a3, a4, a5, a6, a7, a9, b1, b2⟩ := X
  refine ⟨a1, a2, a3, a4, a5, a6, a7, a9, fun i x hx => ?_, b2.fr r (fun q vs hq => nm1 (xw_neC hq ea (by simp)))⟩
  obtain ⟨q, e1, e2⟩ := b1 i x hx
  have hi : i < p := by rw [a3]; exact (List.getElem?_eq_some_iff.mp hx).1
  exact ⟨q, e1, r _ _ (nm1 (fun z => absurd (inj i p (by omega) hp (by rw [e1, ha, z])) (by omega))) e2⟩
/-- a node is made -/
theorem QuT.nd1 {qo a : Nat} {vs vs2 : List Value} {x : NDt} {gr2 : List GRt} {l r : Option Nat} {k z0 z1 z2 z3 z4 z5 : Int32} (X : QuT fd ln c fk fs fe fp fn p nn n t f g s sp nds h) (inj : ∀ i j, i < 24 → j < 24 → fn i = fn j → i = j) (hn : nn < 24) (ha : fn nn = some a) (e0 : h qo = some (.inr (5, vs))) (e1 : h a = some (.inr (2, vs2))) (rr : FrO [a, qo] h h') (ea : h' a = some (.inr (2, [.int k, va_rf l, va_rf r, .int z0, .int z1, .int z2, .int z3, .int z4, .int z5]))) (hx : NdO fn (s.2.2 ++ gr2) x l r k z0 z1 z2 z3 z4) (hg : s.2.2.length + gr2.length ≤ p) (hn2 : nn + 1 ≤ 2 * (s.2.2.length + gr2.length)) : QuT fd ln c fk fs fe fp fn p (nn + 1) n t f g (s.1, s.2.1, s.2.2 ++ gr2) sp (nds ++ [x]) h' := by
  obtain ⟨a1, a2, a3, a4, a5, a6, a7, a9, b1, b2⟩ := X
  have n4 : ∀ (q : Nat) (ws : List Value), h q = some (.inr (4, ws)) → q ∉ [a, qo] := fun q ws hq => by
    simp only [List.mem_cons, List.not_mem_nil, or_false, not_or]
    exact ⟨xw_neC hq e1 (by simp), xw_neC hq e0 (by simp)⟩
  refine ⟨a1, a2, a3, ?_, ?_, ?_, a7, a9, b1.fr rr n4, ?_⟩
  · rw [List.length_append, ← a4]; rfl
  · show (s.2.2 ++ gr2).length ≤ p
    rw [List.length_append]; exact hg
  · show nn + 1 ≤ 2 * (s.2.2 ++ gr2).length
    rw [List.length_append]; exact hn2
  · show NdT fn (s.2.2 ++ gr2) (nds ++ [x]) h'
    refine (b2.gr gr2).add inj (by omega) (by rw [← a4]; exact ha) ea hx (fun q ws hq he => rr _ _ ?_ he)
    simp only [List.mem_cons, List.not_mem_nil, or_false, not_or]
    exact ⟨hq, xw_neC he e0 (by simp)⟩
end QuestI
/-! TIER H: the nodes of an expression do not hang on what was before it; the pieces of the readers -/
def LkE (e : List EV) : Prop := WFe e ∧ (∀ n st, lks e n st = lks e n []) ∧ ∀ n i x, (lks e n [])[i]? = some x → ¬ x.1 = 0 → x.2.1 < n + i ∧ x.2.2 < n + i
theorem LkE.grp {g : Nat} : LkE [(0, g)] := ⟨WFe.grp, fun _ _ => rfl, fun n i x h hx => by
  have e : lks [(0, g)] n [] = [(0, g, 0)] := rfl
  rw [e] at h
  cases i with
  | zero =>
    obtain rfl : (0, g, 0) = x := by simpa using h
    exact absurd rfl hx
  | succ i => simp at h⟩
theorem LkE.lks {e1 e2 : List EV} {r n : Nat} (hr : 1 ≤ r) (h1 : LkE e1) (h2 : LkE e2) : lks (e1 ++ e2 ++ [(r, 0)]) n [] = lks e1 n [] ++ lks e2 (n + e1.length) [] ++ [(r, n + e1.length - 1, n + e1.length + e2.length - 1)] := by
  rw [lks_join hr h1.1 h2.1, h2.2.1 _ [n + e1.length - 1]]
theorem LkE.join {e1 e2 : List EV} {r : Nat} (hr : 1 ≤ r) (h1 : LkE e1) (h2 : LkE e2) : LkE (e1 ++ e2 ++ [(r, 0)]) := ⟨h1.1.join hr h2.1, fun n st => by
  rw [lks_join hr h1.1 h2.1, lks_join hr h1.1 h2.1, h1.2.1 n st, h2.2.1 _ (_ :: st), h2.2.1 _ [n + e1.length - 1]], fun n i x h hx => by
  rw [LkE.lks hr h1 h2] at h
  have l1 := lks_len e1 n []
  have l2 := lks_len e2 (n + e1.length) []
  have w1 := h1.1.1
  have w2 := h2.1.1
  by_cases q : i < e1.length
  · rw [List.getElem?_append_left (by rw [List.length_append]; omega), List.getElem?_append_left (by omega)] at h
    exact h1.2.2 n i x h hx
  · by_cases q2 : i < e1.length + e2.length
    · rw [List.getElem?_append_left (by rw [List.length_append]; omega), List.getElem?_append_right (by omega), l1] at h
      have := h2.2.2 (n + e1.length) (i - e1.length) x h hx
      omega
    · rw [List.getElem?_append_right (by rw [List.length_append]; omega), List.length_append, l1, l2] at h
      have hi : i = e1.length + e2.length := by
        have := (List.getElem?_eq_some_iff.mp h).1
        simp only [List.length_cons, List.length_nil] at this
        omega
      subst hi
      rw [Nat.sub_self] at h
      obtain rfl : (r, n + e1.length - 1, n + e1.length + e2.length - 1) = x := by simpa using h
      show n + e1.length - 1 < n + (e1.length + e2.length) ∧ n + e1.length + e2.length - 1 < n + (e1.length + e2.length)
      omega⟩
section ExprsL
variable {S : Type} (kd : S → Nat) (sk : S → S) (gp : Nat → S → Option (S × Nat)) (fl : S → Option (Nat × S))
def LKX (x : S → Option (S × List EV)) : Prop := ∀ s s' e, x s = some (s', e) → LkE e
theorem lp_LK {x : S → Option (S × List EV)} {r : Nat} (hr : 1 ≤ r) (hx : LKX x) : ∀ (f : Nat) (s : S) (e : List EV) (s' : S) (e' : List EV), LkE e → lpJ kd sk x r f s e = some (s', e') → LkE e' := by
  intro f
  induction f with
  | zero =>
    intro s e s' e' he h
    rw [lpJ] at h
    obtain ⟨rfl, rfl⟩ : s = s' ∧ e = e' := by simpa using h
    exact he
  | succ f ih =>
    intro s e s' e' he h
    rw [lpJ] at h
    by_cases q : goes r (kd s) = true
    · rw [if_pos q] at h
      cases hxs : x (if r = 4 then s else sk s) with
      | none => rw [hxs] at h; simp at h
      | some y =>
        obtain ⟨s2, e2⟩ := y
        rw [hxs] at h
        exact ih s2 _ s' e' (he.join hr (hx _ _ _ hxs)) h
    · rw [if_neg q] at h
      obtain ⟨rfl, rfl⟩ : s = s' ∧ e = e' := by simpa using h
      exact he
theorem jn_LK {x : S → Option (S × List EV)} {r f : Nat} (hr : 1 ≤ r) (hx : LKX x) : LKX (jnX kd sk x r f) := fun s s' e h => by
  rw [jnX] at h
  cases hxs : x s with
  | none => rw [hxs] at h; simp at h
  | some y =>
    obtain ⟨s2, e2⟩ := y
    rw [hxs] at h
    exact lp_LK kd sk hr hx f s2 e2 s' e (hx _ _ _ hxs) h
theorem jn1_LK {x : S → Option (S × List EV)} {b : Nat} (hx : LKX x) : LKX (jn1 kd sk b x) := jn_LK kd sk (by omega) (jn_LK kd sk (by omega) (jn_LK kd sk (by omega) (jn_LK kd sk (by omega) hx)))
theorem atm_LK {b : Nat} : ∀ (f c d : Nat), LKX (atm kd sk gp fl b f c d) := by
  intro f
  induction f with
  | zero => intro c d s s' e h; rw [atm] at h; cases h
  | succ f ih =>
    intro c d s s' e h
    rw [atm] at h
    by_cases hp : dpr (kd s) = true
    · rw [if_pos hp] at h
      by_cases h8 : 8 ≤ d
      · rw [if_pos h8] at h; cases h
      · rw [if_neg h8] at h
        by_cases h9 : kd s = 9
        · rw [if_pos h9] at h
          cases hj : jn1 kd sk b (atm kd sk gp fl b f c (d + 1)) (sk s) with
          | none => rw [hj] at h; cases h
          | some y =>
            obtain ⟨s2, e2⟩ := y
            rw [hj] at h
            dsimp only at h
            by_cases h10 : kd s2 = 10
            · rw [if_pos h10] at h
              obtain ⟨rfl, rfl⟩ : sk s2 = s' ∧ e2 = e := by simpa using h
              exact jn1_LK kd sk (ih c (d + 1)) _ _ _ hj
            · rw [if_neg h10] at h; cases h
        · rw [if_neg h9] at h
          cases hf : fl s with
          | none => rw [hf] at h; cases h
          | some y =>
            obtain ⟨pm, s2⟩ := y
            rw [hf] at h
            exact ih _ _ _ _ _ h
    · rw [if_neg hp] at h
      cases hgs : gp c s with
      | none => rw [hgs] at h; cases h
      | some y =>
        obtain ⟨s2, g⟩ := y
        rw [hgs] at h
        obtain ⟨rfl, rfl⟩ : s2 = s' ∧ [(0, g)] = e := by simpa using h
        exact LkE.grp
end ExprsL
theorem rdPh_k {t : Nat → Int32} {n k p : Nat} (h : 12 ≤ k) : rdPh t n k p = none := by unfold rdPh; rw [if_pos h]
theorem rdPh_s {t : Nat → Int32} {n k p : Nat} (hs : isS (kdP t n p) = false) : rdPh t n k p = none := by
  unfold rdPh rdS
  rw [if_neg (show ¬ isS (kdP t n p) = true by rw [hs]; decide)]
  split <;> rfl
theorem rdPh_n {t : Nat → Int32} {n k p : Nat} (hs : isS (kdP t n p) = true) (h : rdP t n 96 (skP t n p) [(bl t n p, skP t n p)] = none) : rdPh t n k p = none := by
  unfold rdPh rdS
  rw [if_pos hs]
  dsimp only
  rw [h]
  split <;> rfl
theorem rdPh_y {t : Nat → Int32} {n k p p2 : Nat} {sp : List (Nat × Nat)} (hk : k < 12) (hs : isS (kdP t n p) = true) (h : rdP t n 96 (skP t n p) [(bl t n p, skP t n p)] = some (p2, sp)) : rdPh t n k p = if kdP t n p2 = 15 then some (skP t n p2, (sp, true)) else some (p2, (sp, false)) := by
  unfold rdPh rdS
  rw [if_pos hs, if_neg (by omega)]
  dsimp only
  rw [h]
theorem rdP_n {t : Nat → Int32} {n f p : Nat} {sp : List (Nat × Nat)} (h : ¬ kdP t n p = 14) : rdP t n f p sp = some (p, sp) := by
  cases f with
  | zero => rfl
  | succ f => rw [rdP, if_neg h]
theorem rdP_f {t : Nat → Int32} {n f p : Nat} {sp : List (Nat × Nat)} (h : kdP t n p = 14) (hs : isS (kdP t n (skP t n p)) = false) : rdP t n (f + 1) p sp = none := by
  rw [rdP, if_pos h, rdS, if_neg (show ¬ isS (kdP t n (skP t n p)) = true by rw [hs]; decide)]
theorem rdP_y {t : Nat → Int32} {n f p : Nat} {sp : List (Nat × Nat)} (h : kdP t n p = 14) (hs : isS (kdP t n (skP t n p)) = true) : rdP t n (f + 1) p sp = rdP t n f (skP t n (skP t n p)) (sp ++ [(bl t n (skP t n p), skP t n (skP t n p))]) := by
  rw [rdP, if_pos h, rdS, if_pos hs]
/-! TIER H: numbers, groups, filters: the pieces of the readers -/
def nmV (t : Nat → Int32) (a : Nat) : Nat → Nat
  | 0 => 0
  | k + 1 => nmV t a k * 10 + ((t (a + k)).toNatClampNeg - 48)
set_option maxRecDepth 4000 in
theorem dgI : ∀ c, c < 128 → isW (nI c) = true → ¬ 57 < nI c → dig (nI c) = true ∧ 48 ≤ c ∧ c ≤ 57 ∧ (nI c).toNatClampNeg = c := by decide +kernel
theorem dgN {c : Int32} (h : 57 < c) : dig c = false := by
  unfold dig
  rw [decide_eq_false (show ¬ ¬ 57 < c from fun q => q h), Bool.and_false]
theorem rdN_k {t : Nat → Int32} {n p : Nat} (h : ¬ kdP t n p = 2) (h2 : ¬ kdP t n p = 3) : rdN t n p = none := by
  unfold rdN
  rw [if_neg (fun q => q.1.elim h h2)]
theorem rdN_l {t : Nat → Int32} {n p : Nat} (h : 2 < skP t n p - bl t n p) : rdN t n p = none := by
  unfold rdN
  rw [if_neg (fun q => by have := q.2.2; omega)]
theorem rdN_d {t : Nat → Int32} {n p j : Nat} (h2 : skP t n p - bl t n p ≤ 2) (h1 : bl t n p ≤ j) (h3 : j < skP t n p) (h : dig (t j) = false) : rdN t n p = none := by
  unfold rdN
  rw [if_neg]
  rintro ⟨-, q1, q2⟩
  by_cases e : j = bl t n p
  · rw [e, q1] at h; cases h
  · have e2 : j = bl t n p + 1 := by omega
    rcases q2 with q2 | q2
    · omega
    · rw [e2, q2.2] at h; cases h
theorem rdN_y {t : Nat → Int32} {n p : Nat} (hk : kdP t n p = 2 ∨ kdP t n p = 3) (h2 : skP t n p - bl t n p ≤ 2) (h1 : bl t n p < skP t n p) (h : ∀ j, bl t n p ≤ j → j < skP t n p → dig (t j) = true) : rdN t n p = some (nmV t (bl t n p) (skP t n p - bl t n p)) := by
  unfold rdN
  have d0 := h (bl t n p) (Nat.le_refl _) h1
  by_cases e : skP t n p = bl t n p + 1
  · rw [if_pos ⟨hk, d0, Or.inl e⟩, if_pos e, e, Nat.add_sub_cancel_left, nmV, nmV, Nat.add_zero, Nat.zero_mul, Nat.zero_add]
  · have e2 : skP t n p = bl t n p + 2 := by omega
    rw [if_pos ⟨hk, d0, Or.inr ⟨e2, h _ (by omega) (by omega)⟩⟩, if_neg e, e2, Nat.add_sub_cancel_left, nmV, nmV, nmV]
    simp only [Nat.add_zero, Nat.zero_mul, Nat.zero_add]
    congr 1
    omega
theorem nmV_lt {t : Nat → Int32} {a : Nat} (k : Nat) (hk : k ≤ 2) (h : ∀ j, j < k → (t (a + j)).toNatClampNeg ≤ 57) : nmV t a k < 100 := by
  rcases (show k = 0 ∨ k = 1 ∨ k = 2 by omega) with rfl | rfl | rfl
  · show 0 < 100
    decide
  · have := h 0 (by omega)
    rw [nmV, nmV]; omega
  · have h0 := h 0 (by omega)
    have h1 := h 1 (by omega)
    rw [nmV, nmV, nmV]; omega
/-- a word's letters -/
theorem kd_w {t : Nat → Int32} {n p : Nat} (h : kdP t n p = 2 ∨ kdP t n p = 3) : bl t n p < skP t n p ∧ skP t n p ≤ n ∧ ∀ j, bl t n p ≤ j → j < skP t n p → isW (t j) = true := by
  have e : (lexK t n (bl t n p)).1 = 2 ∨ (lexK t n (bl t n p)).1 = 3 := h
  have hs : skP t n p = (lexK t n (bl t n p)).2 := rfl
  have g := lex_end (t := t) (n := n) (s := bl t n p) (by omega) (by omega)
  rw [← hs] at g
  refine ⟨g.2.1, g.2.2, ?_⟩
  rw [hs]
  generalize bl t n p = s at e g ⊢
  by_cases w : isW (t s) = true
  · rw [lexK_w g.1 w]
    intro j h1 h2
    exact (wrdE_in t n (n - s) s j h1 h2).2
  · by_cases q : t s = 34
    · rw [lexK_q g.1 w q] at e
      split at e <;> rcases e with e | e <;> cases e
    · rw [lexK_s g.1 w q] at e
      have := sgn_in (t s)
      have e2 : sgn (t s) = 2 ∨ sgn (t s) = 3 := e
      omega
section GroupsH
variable {t : Nat → Int32} {n cc : Nat} {s : PSt}
theorem gp_12n (h : kdS t n s = 12) (hr : rdPh t n s.2.1.length (skP t n s.1) = none) : gpP t n cc s = none := by
  have h' : kdP t n s.1 = 12 := h
  unfold gpP
  rw [if_neg (by omega), if_pos h', hr]
theorem gp_12y {p' : Nat} {y : PHt} (h : kdS t n s = 12) (hr : rdPh t n s.2.1.length (skP t n s.1) = some (p', y)) : gpP t n cc s = some ((p', s.2.1 ++ [y], s.2.2 ++ [(1, s.2.1.length, s.2.1.length + 1, cc, 10)]), s.2.2.length) := by
  have h' : kdP t n s.1 = 12 := h
  unfold gpP
  rw [if_neg (by omega), if_pos h', hr, if_pos h']
theorem gp_0n (h8 : ¬ kdS t n s = 8) (h12 : ¬ kdS t n s = 12) (hr : rdPh t n s.2.1.length s.1 = none) : gpP t n cc s = none := by
  have h8' : ¬ kdP t n s.1 = 8 := h8
  have h12' : ¬ kdP t n s.1 = 12 := h12
  unfold gpP
  rw [if_neg h8', if_neg h12', hr]
theorem gp_0y {p' : Nat} {y : PHt} (h8 : ¬ kdS t n s = 8) (h12 : ¬ kdS t n s = 12) (hr : rdPh t n s.2.1.length s.1 = some (p', y)) : gpP t n cc s = some ((p', s.2.1 ++ [y], s.2.2 ++ [(0, s.2.1.length, s.2.1.length + 1, cc, 10)]), s.2.2.length) := by
  have h8' : ¬ kdP t n s.1 = 8 := h8
  have h12' : ¬ kdP t n s.1 = 12 := h12
  unfold gpP
  rw [if_neg h8', if_neg h12', hr, if_neg h12']
/-- the group behind NEAR -/
noncomputable def nrG (t : Nat → Int32) (n cc : Nat) (s : PSt) : Option (PSt × Nat) := match rdNear t n s.1 s.2.1 with
  | none => none
  | some (p', ph, d) => some ((p', ph, s.2.2 ++ [(2, s.2.1.length, ph.length, cc, d)]), s.2.2.length)
theorem gp_8 (h : kdS t n s = 8) : gpP t n cc s = nrG t n cc (skS t n s) := by
  have h' : kdP t n s.1 = 8 := h
  unfold gpP nrG
  rw [if_pos h']
  rfl
theorem nr_n (h : rdNear t n s.1 s.2.1 = none) : nrG t n cc s = none := by unfold nrG; rw [h]
theorem nr_y {p' d : Nat} {ph : List PHt} (h : rdNear t n s.1 s.2.1 = some (p', ph, d)) : nrG t n cc s = some ((p', ph, s.2.2 ++ [(2, s.2.1.length, ph.length, cc, d)]), s.2.2.length) := by unfold nrG; rw [h]
variable {p p1 p2 d : Nat} {ph ph2 : List PHt} {x : PHt}
theorem nr_o (h : ¬ kdP t n p = 9) : rdNear t n p ph = none := by unfold rdNear; rw [if_neg h]
theorem nr_1 (h : kdP t n p = 9) (h1 : rdPh t n ph.length (skP t n p) = none) : rdNear t n p ph = none := by unfold rdNear; rw [if_pos h, h1]
theorem nr_2 (h : kdP t n p = 9) (h1 : rdPh t n ph.length (skP t n p) = some (p1, x)) (h2 : rdPs t n 96 p1 (ph ++ [x]) = none) : rdNear t n p ph = none := by
  unfold rdNear
  rw [if_pos h, h1]
  dsimp only
  rw [h2]
theorem nr_3 (h : kdP t n p = 9) (h1 : rdPh t n ph.length (skP t n p) = some (p1, x)) (h2 : rdPs t n 96 p1 (ph ++ [x]) = some (p2, ph2)) (h13 : kdP t n p2 = 13) (hN : rdN t n (skP t n p2) = none) : rdNear t n p ph = none := by
  unfold rdNear
  rw [if_pos h, h1]
  dsimp only
  rw [h2]
  dsimp only
  rw [if_pos h13, hN]
theorem nr_4 (h : kdP t n p = 9) (h1 : rdPh t n ph.length (skP t n p) = some (p1, x)) (h2 : rdPs t n 96 p1 (ph ++ [x]) = some (p2, ph2)) (h13 : kdP t n p2 = 13) (hN : rdN t n (skP t n p2) = some d) (h10 : ¬ kdP t n (skP t n (skP t n p2)) = 10) : rdNear t n p ph = none := by
  unfold rdNear
  rw [if_pos h, h1]
  dsimp only
  rw [h2]
  dsimp only
  rw [if_pos h13, hN]
  dsimp only
  rw [if_neg h10]
theorem nr_5 (h : kdP t n p = 9) (h1 : rdPh t n ph.length (skP t n p) = some (p1, x)) (h2 : rdPs t n 96 p1 (ph ++ [x]) = some (p2, ph2)) (h13 : kdP t n p2 = 13) (hN : rdN t n (skP t n p2) = some d) (h10 : kdP t n (skP t n (skP t n p2)) = 10) : rdNear t n p ph = some (skP t n (skP t n (skP t n p2)), ph2, d) := by
  unfold rdNear
  rw [if_pos h, h1]
  dsimp only
  rw [h2]
  dsimp only
  rw [if_pos h13, hN]
  dsimp only
  rw [if_pos h10]
theorem nr_6 (h : kdP t n p = 9) (h1 : rdPh t n ph.length (skP t n p) = some (p1, x)) (h2 : rdPs t n 96 p1 (ph ++ [x]) = some (p2, ph2)) (h13 : ¬ kdP t n p2 = 13) (h10 : ¬ kdP t n p2 = 10) : rdNear t n p ph = none := by
  unfold rdNear
  rw [if_pos h, h1]
  dsimp only
  rw [h2]
  dsimp only
  rw [if_neg h13, if_neg h10]
theorem nr_7 (h : kdP t n p = 9) (h1 : rdPh t n ph.length (skP t n p) = some (p1, x)) (h2 : rdPs t n 96 p1 (ph ++ [x]) = some (p2, ph2)) (h13 : ¬ kdP t n p2 = 13) (h10 : kdP t n p2 = 10) : rdNear t n p ph = some (skP t n p2, ph2, 10) := by
  unfold rdNear
  rw [if_pos h, h1]
  dsimp only
  rw [h2]
  dsimp only
  rw [if_neg h13, if_pos h10]
theorem ps_0 {f : Nat} (h : isS (kdP t n p) = false) : rdPs t n f p ph = some (p, ph) := by
  cases f with
  | zero => rfl
  | succ f => rw [rdPs, if_neg (by rw [h]; decide)]
theorem ps_n {f : Nat} (h : isS (kdP t n p) = true) (h1 : rdPh t n ph.length p = none) : rdPs t n (f + 1) p ph = none := by rw [rdPs, if_pos h, h1]
theorem ps_y {f : Nat} (h : isS (kdP t n p) = true) (h1 : rdPh t n ph.length p = some (p1, x)) : rdPs t n (f + 1) p ph = rdPs t n f p1 (ph ++ [x]) := by rw [rdPs, if_pos h, h1]
theorem ps_len {f : Nat} : ∀ {p : Nat} {ph : List PHt} {p' : Nat} {ph' : List PHt}, rdPs t n f p ph = some (p', ph') → ph.length ≤ ph'.length := by
  induction f with
  | zero =>
    intro p ph p' ph' h
    rw [rdPs] at h
    obtain ⟨-, rfl⟩ : p = p' ∧ ph = ph' := by simpa using h
    exact Nat.le_refl _
  | succ f ih =>
    intro p ph p' ph' h
    by_cases q : isS (kdP t n p) = true
    · cases hs : rdPh t n ph.length p with
      | none => rw [ps_n q hs] at h; cases h
      | some y =>
        obtain ⟨p1, x⟩ := y
        rw [ps_y q hs] at h
        have := ih h
        rw [List.length_append, List.length_singleton] at this
        omega
    · rw [ps_0 (bF q)] at h
      obtain ⟨-, rfl⟩ : p = p' ∧ ph = ph' := by simpa using h
      exact Nat.le_refl _
end GroupsH
/-! TIER H: numbers step by step, columns' names, the deeper pieces -/
theorem nm_step {fd : Nat → Int32} {a i c : Nat} (hai : a ≤ i) (hc : fd i = nI c) (h48 : 48 ≤ c) (h2 : (nI c).toNatClampNeg = c) : nI (nmV fd a (i - a)) * 10 + fd i - 48 = nI (nmV fd a (i + 1 - a)) := by
  have e : nmV fd a (i + 1 - a) = nmV fd a (i - a) * 10 + (c - 48) := by
    rw [show i + 1 - a = (i - a) + 1 by omega, nmV, show a + (i - a) = i by omega, hc, h2]
  rw [e, hc, show (10 : Int32) = nI 10 from rfl, pk_mul, nI_add, show (48 : Int32) = nI 48 from rfl, pk_sub (by omega)]
  congr 1
  omega
theorem col01 {c : Int32} : (¬ c < 0 ∧ c < 2) ↔ (c = 0 ∨ c = 1) := by
  constructor
  · rintro ⟨h1, h2⟩
    rw [Int32.lt_iff_toInt_lt] at h1 h2
    have e0 : (0 : Int32).toInt = 0 := rfl
    have e2 : (2 : Int32).toInt = 2 := rfl
    rw [e0] at h1
    rw [e2] at h2
    rcases (show c.toInt = 0 ∨ c.toInt = 1 by omega) with h | h
    · exact Or.inl (Int32.toInt_inj.mp (h.trans e0.symm))
    · exact Or.inr (Int32.toInt_inj.mp (h.trans (show (1 : Int) = (1 : Int32).toInt from rfl)))
  · rintro (rfl | rfl) <;> decide
theorem sub97 {c : Int32} : (c - 97 = 0 ↔ c = 97) ∧ (c - 97 = 1 ↔ c = 98) := by
  have e : c = c - 97 + 97 := (Int32.sub_add_cancel c 97).symm
  refine ⟨⟨fun h => ?_, fun h => by rw [h]; decide⟩, ⟨fun h => ?_, fun h => by rw [h]; decide⟩⟩
  · rw [e, h]; decide
  · rw [e, h]; decide
theorem an1 : ∀ c, c ≤ 3 → nI c &&& ((1 : Int32) <<< ((0 : Int32) &&& 31)) = nI (c &&& 1) := by decide
theorem an2 : ∀ c, c ≤ 3 → nI c &&& ((1 : Int32) <<< ((1 : Int32) &&& 31)) = nI (c &&& 2) := by decide
theorem an1' : ∀ c, c ≤ 3 → nI c &&& ((1 : Int32) <<< (((1 : Int32) - 1) &&& 31)) = nI (c &&& 1) := by decide
theorem an2' : ∀ c, c ≤ 3 → nI c &&& ((1 : Int32) <<< (((1 : Int32) - 0) &&& 31)) = nI (c &&& 2) := by decide
theorem and3 {c m : Nat} (h : c ≤ 3) : c &&& m ≤ 3 := Nat.le_trans Nat.and_le_left h
section DeepH
variable {t : Nat → Int32} {n : Nat}
theorem flN_n {p : Nat} (h : ¬ kdP t n p = 3) : flN t n p = none := by
  unfold flN
  rw [if_neg (fun q => h q.1)]
theorem flN_c {p : Nat} (h : ¬ (skP t n p = bl t n p + 1 ∧ (t (bl t n p) = 97 ∨ t (bl t n p) = 98))) : flN t n p = none := by
  unfold flN
  rw [if_neg (fun q => h q.2)]
theorem flN_a {p : Nat} (h : kdP t n p = 3) (h1 : skP t n p = bl t n p + 1) (h2 : t (bl t n p) = 97) : flN t n p = some (true, skP t n (skP t n p)) := by
  unfold flN
  rw [if_pos ⟨h, h1, Or.inl h2⟩, h2, decide_eq_true rfl]
theorem flN_b {p : Nat} (h : kdP t n p = 3) (h1 : skP t n p = bl t n p + 1) (h2 : t (bl t n p) = 98) : flN t n p = some (false, skP t n (skP t n p)) := by
  unfold flN
  rw [if_pos ⟨h, h1, Or.inr h2⟩, h2, decide_eq_false (by decide)]
noncomputable abbrev aT (t : Nat → Int32) (n : Nat) : Nat → Nat → Nat → PSt → Option (PSt × List EV) := atm (kdS t n) (skS t n) (gpP t n) (flP t n) 96
noncomputable abbrev j1T (t : Nat → Int32) (n f c d : Nat) : PSt → Option (PSt × List EV) := jn1 (kdS t n) (skS t n) 96 (aT t n f c d)
noncomputable def dpF (t : Nat → Int32) (n f c d : Nat) (s : PSt) : Option (PSt × List EV) := if kdS t n s = 9 then (match j1T t n f c d (skS t n s) with
    | none => none
    | some (s', e) => if kdS t n s' = 10 then some (skS t n s', e) else none) else (match flP t n s with
    | none => none
    | some (pm, s') => aT t n f (c &&& pm) d s')
variable {f c d : Nat} {s s' : PSt} {e : List EV}
theorem at_8 (h : dpr (kdS t n s) = true) (h8 : 8 ≤ d) : aT t n (f + 1) c d s = none := by
  show atm _ _ _ _ _ _ _ _ _ = _
  rw [atm, if_pos h, if_pos h8]
theorem at_d (h : dpr (kdS t n s) = true) (h8 : d < 8) : aT t n (f + 1) c d s = dpF t n f c (d + 1) s := by
  show atm _ _ _ _ _ _ _ _ _ = _
  rw [atm, if_pos h, if_neg (by omega)]
  unfold dpF
  by_cases q : kdS t n s = 9
  · rw [if_pos q, if_pos q]
    cases hj : j1T t n f c (d + 1) (skS t n s) with
    | none =>
      have hj2 : jn1 (kdS t n) (skS t n) 96 (atm (kdS t n) (skS t n) (gpP t n) (flP t n) 96 f c (d + 1)) (skS t n s) = none := hj
      rw [hj2]
    | some y =>
      have hj2 : jn1 (kdS t n) (skS t n) 96 (atm (kdS t n) (skS t n) (gpP t n) (flP t n) 96 f c (d + 1)) (skS t n s) = some y := hj
      rw [hj2]
  · rw [if_neg q, if_neg q]
    cases flP t n s with
    | none => rfl
    | some y => rfl
theorem at_gn (h : dpr (kdS t n s) = false) (hg : gpP t n c s = none) : aT t n (f + 1) c d s = none := by
  show atm _ _ _ _ _ _ _ _ _ = _
  rw [atm, if_neg (by rw [h]; decide), hg]
theorem at_gy {i : Nat} (h : dpr (kdS t n s) = false) (hg : gpP t n c s = some (s', i)) : aT t n (f + 1) c d s = some (s', [(0, i)]) := by
  show atm _ _ _ _ _ _ _ _ _ = _
  rw [atm, if_neg (by rw [h]; decide), hg]
theorem dp_jn (h : kdS t n s = 9) (hj : j1T t n f c d (skS t n s) = none) : dpF t n f c d s = none := by
  unfold dpF
  rw [if_pos h, hj]
theorem dp_jy (h : kdS t n s = 9) (hj : j1T t n f c d (skS t n s) = some (s', e)) (h2 : kdS t n s' = 10) : dpF t n f c d s = some (skS t n s', e) := by
  unfold dpF
  rw [if_pos h, hj]
  dsimp only
  rw [if_pos h2]
theorem dp_jc (h : kdS t n s = 9) (hj : j1T t n f c d (skS t n s) = some (s', e)) (h2 : ¬ kdS t n s' = 10) : dpF t n f c d s = none := by
  unfold dpF
  rw [if_pos h, hj]
  dsimp only
  rw [if_neg h2]
/-- no minus: the name stands here -/
theorem dp_0n (h : ¬ kdS t n s = 9) (h11 : ¬ kdS t n s = 11) (hf : flN t n s.1 = none) : dpF t n f c d s = none := by
  have h' : ¬ kdP t n s.1 = 11 := h11
  unfold dpF flP
  rw [if_neg h, if_neg h', hf]
theorem dp_1n (h11 : kdS t n s = 11) (hf : flN t n (skP t n s.1) = none) : dpF t n f c d s = none := by
  have h' : kdP t n s.1 = 11 := h11
  unfold dpF flP
  rw [if_neg (by rw [h11]; decide), if_pos h', hf]
theorem dp_0y {a : Bool} {p' : Nat} (h : ¬ kdS t n s = 9) (h11 : ¬ kdS t n s = 11) (hf : flN t n s.1 = some (a, p')) : dpF t n f c d s = aT t n f (c &&& (if a = false then 2 else 1)) d (p', s.2) := by
  have h' : ¬ kdP t n s.1 = 11 := h11
  unfold dpF flP
  rw [if_neg h, if_neg h', hf]
  dsimp only
  rw [decide_eq_false h']
theorem dp_1y {a : Bool} {p' : Nat} (h11 : kdS t n s = 11) (hf : flN t n (skP t n s.1) = some (a, p')) : dpF t n f c d s = aT t n f (c &&& (if a = true then 2 else 1)) d (p', s.2) := by
  have h' : kdP t n s.1 = 11 := h11
  unfold dpF flP
  rw [if_neg (by rw [h11]; decide), if_pos h', hf]
  dsimp only
  rw [decide_eq_true h']
theorem dp_LK : LKX (j1T t n f c d) ∧ LKX (aT t n f c d) := ⟨jn1_LK _ _ (atm_LK _ _ _ _ f c d), atm_LK _ _ _ _ f c d⟩
end DeepH
/-- a group is a piece -/
theorem QuG.n {B : List Nat} {qo tk tl tz ph nd po k1 k2 k3 d ln c : Nat} {fk fs fe fd : Nat → Int32} {fp fn : Nat → Option Nat} {s : PSt} {nds : List NDt} {x : Option (PSt × Nat)} {y : Option (PSt × List EV)} {h h' : xw_A} {v : Option Value} (K : QuG B qo tk tl tz ph nd po k1 k2 k3 d ln c fk fs fe fd fp fn s nds x h v h') (hn : x = none → y = none) (hy : ∀ s' i, x = some (s', i) → y = some (s', [(0, i)])) : QuN B qo tk tl tz ph nd po k1 k2 k3 d ln c fk fs fe fd fp fn s nds y h v h' := by
  obtain ⟨fr, ⟨hx, e1, E⟩ | ⟨s', i, a, hx, e1, ha, hl, D⟩⟩ := K
  · exact ⟨fr, Or.inl ⟨hn hx, e1, E⟩⟩
  · refine ⟨fr, Or.inr ⟨s', [(0, i)], a, hy _ _ hx, e1, Nat.zero_lt_one, ha, ?_, D⟩⟩
    show 1 + 1 + 2 * s.2.2.length ≤ 2 * s'.2.2.length
    omega
/-- from an earlier state on -/
theorem QuN.to {B : List Nat} {qo tk tl tz ph nd po k1 k2 k3 d ln c : Nat} {fk fs fe fd : Nat → Int32} {fp fn : Nat → Option Nat} {s s0 : PSt} {nds : List NDt} {x y : Option (PSt × List EV)} {h0 h h' : xw_A} {v : Option Value} (K : QuN B qo tk tl tz ph nd po k1 k2 k3 d ln c fk fs fe fd fp fn s nds x h v h') (r : FrO B h0 h) (e : y = x) (hs : s0.2 = s.2) : QuN B qo tk tl tz ph nd po k1 k2 k3 d ln c fk fs fe fd fp fn s0 nds y h0 v h' := by
  obtain ⟨fr, K⟩ := K
  refine ⟨r.trans fr, ?_⟩
  rw [e, hs]
  exact K
theorem QuG.to {B : List Nat} {qo tk tl tz ph nd po k1 k2 k3 d ln c : Nat} {fk fs fe fd : Nat → Int32} {fp fn : Nat → Option Nat} {s s0 : PSt} {nds : List NDt} {x y : Option (PSt × Nat)} {h0 h h' : xw_A} {v : Option Value} (K : QuG B qo tk tl tz ph nd po k1 k2 k3 d ln c fk fs fe fd fp fn s nds x h v h') (r : FrO B h0 h) (e : y = x) (hs : s0.2 = s.2) : QuG B qo tk tl tz ph nd po k1 k2 k3 d ln c fk fs fe fd fp fn s0 nds y h0 v h' := by
  obtain ⟨fr, K⟩ := K
  refine ⟨r.trans fr, ?_⟩
  rw [e, hs]
  exact K
section ValH
variable {B : List Nat} {qo tk tl tz ph nd po k1 k2 k3 d ln c : Nat} {fk fs fe fd : Nat → Int32} {fp fn : Nat → Option Nat} {s : PSt} {nds : List NDt} {h h' : xw_A} {v : Option Value}
theorem QuN.val {x : Option (PSt × List EV)} (K : QuN B qo tk tl tz ph nd po k1 k2 k3 d ln c fk fs fe fd fp fn s nds x h v h') : ∃ o : Option Nat, v = some (va_rf o) := by
  obtain ⟨-, ⟨-, e1, -⟩ | ⟨s', e, a, -, e1, -⟩⟩ := K
  · exact ⟨none, e1⟩
  · exact ⟨some a, e1⟩
theorem QuG.val {x : Option (PSt × Nat)} (K : QuG B qo tk tl tz ph nd po k1 k2 k3 d ln c fk fs fe fd fp fn s nds x h v h') : ∃ o : Option Nat, v = some (va_rf o) := by
  obtain ⟨-, ⟨-, e1, -⟩ | ⟨s', i, a, -, e1, -⟩⟩ := K
  · exact ⟨none, e1⟩
  · exact ⟨some a, e1⟩
end ValH
section JoinH
variable {S : Type} {kd : S → Nat} {sk : S → S} {x : S → Option (S × List EV)} {r f : Nat} {s s' : S} {e e' : List EV}
theorem jx_n (h : x s = none) : jnX kd sk x r f s = none := by rw [jnX, h]
theorem jx_y (h : x s = some (s', e)) : jnX kd sk x r f s = lpJ kd sk x r f s' e := by rw [jnX, h]
theorem lj_n (h : goes r (kd s) = false) : lpJ kd sk x r f s e = some (s, e) := by
  cases f with
  | zero => rfl
  | succ f => rw [lpJ, if_neg (by rw [h]; decide)]
theorem lj_x (h : goes r (kd s) = true) (hx : x (if r = 4 then s else sk s) = none) : lpJ kd sk x r (f + 1) s e = none := by rw [lpJ, if_pos h, hx]
theorem lj_y (h : goes r (kd s) = true) (hx : x (if r = 4 then s else sk s) = some (s', e')) : lpJ kd sk x r (f + 1) s e = lpJ kd sk x r f s' (e ++ e' ++ [(r, 0)]) := by rw [lpJ, if_pos h, hx]
theorem rj_n (h : x s = none) : resJ kd (x s) = none := by rw [h]; rfl
theorem rj_0 (h : x s = some (s', e)) (h0 : kd s' = 0) : resJ kd (x s) = some (s', e) := by rw [h, resJ]; dsimp only; rw [if_pos h0]
theorem rj_1 (h : x s = some (s', e)) (h0 : ¬ kd s' = 0) : resJ kd (x s) = none := by rw [h, resJ]; dsimp only; rw [if_neg h0]
end JoinH
theorem ifS {t : Nat → Int32} {n r : Nat} {s : PSt} : (if r = 4 then s else skS t n s).2 = s.2 := by split <;> rfl
