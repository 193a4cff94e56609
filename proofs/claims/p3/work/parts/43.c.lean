theorem b01_t {b : Bool} (h : ¬ b01 b = 0) : b = true := by cases b; exact absurd rfl h; rfl
theorem b01_f {b : Bool} (h : b01 b = 0) : b = false := by cases b; rfl; exact absurd h (by decide)
theorem b01_01 (b : Bool) : b01 b = 0 ∨ b01 b = 1 := by cases b; exact Or.inl rfl; exact Or.inr rfl
/-! THE QUESTION: its parts, its phrases and nodes, where it stands -/
def PkF (c ln : Nat) (fk fs fe : Nat → Int32) : Prop := c ≤ 96 ∧ (fk c = 0 ∨ fk c = 1) ∧ (∀ i, i < c → ¬ fk i = 0 ∧ ¬ fk i = 1) ∧ (∀ i, i ≤ c → ∃ a b, fs i = nI a ∧ fe i = nI b ∧ a ≤ b ∧ b ≤ ln) ∧ ∀ i, i < c → fk i = 3 → i + 1 < c
def PkC (po k1 k2 k3 d ln c : Nat) (fk fs fe fd : Nat → Int32) (h : xw_A) : Prop :=
  h po = some (.inr (3, [.ref k1, .ref k2, .ref k3, .ref d, .int (nI ln)])) ∧ h d = some (.inl (1, 96, .inl fd)) ∧ h k1 = some (.inl (0, 97, .inl fk)) ∧ h k2 = some (.inl (0, 97, .inl fs)) ∧ h k3 = some (.inl (0, 97, .inl fe)) ∧ ln ≤ 96 ∧ PkF c ln fk fs fe
theorem PkC.fr {po k1 k2 k3 d ln c : Nat} {fk fs fe fd : Nat → Int32} {B : List Nat} {h h' : xw_A} (K : PkC po k1 k2 k3 d ln c fk fs fe fd h) (r : FrO B h h') (n : po ∉ B ∧ d ∉ B ∧ k1 ∉ B ∧ k2 ∉ B ∧ k3 ∉ B) : PkC po k1 k2 k3 d ln c fk fs fe fd h' :=
  ⟨r _ _ n.1 K.1, r _ _ n.2.1 K.2.1, r _ _ n.2.2.1 K.2.2.1, r _ _ n.2.2.2.1 K.2.2.2.1, r _ _ n.2.2.2.2 K.2.2.2.2.1, K.2.2.2.2.2⟩
/-- a part that is neither the end nor wrong: one more may be read -/
theorem PkF.next {c ln t : Nat} {fk fs fe : Nat → Int32} (K : PkF c ln fk fs fe) (ht : t ≤ c) (h0 : ¬ fk t = 0) (h1 : ¬ fk t = 1) : t + 1 ≤ c := by
  rcases Nat.lt_or_ge t c with q | q
  · exact q
  · have e : t = c := by omega
    subst e
    exact absurd K.2.1 (by rw [not_or]; exact ⟨h0, h1⟩)
theorem PkF.next2 {c ln t : Nat} {fk fs fe : Nat → Int32} (K : PkF c ln fk fs fe) (ht : t ≤ c) (h3 : fk t = 3) : t + 2 ≤ c := by
  have h9 := K.next ht (by rw [h3]; decide) (by rw [h3]; decide)
  have h8 := K.2.2.2.2 t (by omega) h3
  omega
theorem TokC.frq {a l z m k n : Nat} {f g : Nat → Int32} {B : List Nat} {h h' : xw_A} (K : TokC a l z m k n f g h) (r : FrO B h h') (q : a ∉ B ∧ l ∉ B ∧ z ∉ B) : TokC a l z m k n f g h' :=
  ⟨r _ _ q.1 K.1, r _ _ q.2.1 K.2.1, r _ _ q.2.2 K.2.2.1, K.2.2.2⟩
def PhrC (fp : Nat → Option Nat) (p n : Nat) (h : xw_A) : Prop := ∀ i, i < 12 → ∃ (a : Nat) (x y b : Int32), fp i = some a ∧ h a = some (.inr (4, [.int x, .int y, .int b])) ∧ (i < p → ∃ u v, x = nI u ∧ y = nI v ∧ u + v ≤ n)
def NodC (fn : Nat → Option Nat) (nn p : Nat) (h : xw_A) : Prop := ∀ i, i < 24 → ∃ (a : Nat) (l r : Option Nat) (k x y z1 z2 z3 z4 : Int32), fn i = some a ∧ h a = some (.inr (2, [.int k, va_rf l, va_rf r, .int x, .int y, .int z1, .int z2, .int z3, .int z4])) ∧ (i < nn → (k = 0 ∧ ∃ u v, x = nI u ∧ y = nI v ∧ u ≤ v ∧ v ≤ p) ∨ (¬ k = 0 ∧ ∃ i1 i2, i1 < nn ∧ i2 < nn ∧ l = fn i1 ∧ r = fn i2))
theorem PhrC.fr {fp : Nat → Option Nat} {p n n' : Nat} {B : List Nat} {h h' : xw_A} (K : PhrC fp p n h) (r : FrO B h h') (hB : ∀ (a : Nat) (x y b : Int32), h a = some (.inr (4, [.int x, .int y, .int b])) → a ∉ B) (hn : n ≤ n') : PhrC fp p n' h' := fun i hi => by
  obtain ⟨a, x, y, b, e1, e2, e3⟩ := K i hi
  exact ⟨a, x, y, b, e1, r _ _ (hB _ _ _ _ e2) e2, fun q => by
    obtain ⟨u, v, h1, h2, h3⟩ := e3 q
    exact ⟨u, v, h1, h2, by omega⟩⟩
theorem NodC.fr {fn : Nat → Option Nat} {nn p p' : Nat} {B : List Nat} {h h' : xw_A} (K : NodC fn nn p h) (r : FrO B h h') (hB : ∀ (a : Nat) (fs : List Value), h a = some (.inr (2, fs)) → a ∉ B) (hp : p ≤ p') : NodC fn nn p' h' := fun i hi => by
  obtain ⟨a, l, rr, k, x, y, z1, z2, z3, z4, e1, e2, e3⟩ := K i hi
  exact ⟨a, l, rr, k, x, y, z1, z2, z3, z4, e1, r _ _ (hB _ _ e2) e2, fun q => (e3 q).elim (fun w => Or.inl (by
    obtain ⟨w0, u, v, h1, h2, h3, h4⟩ := w
    exact ⟨w0, u, v, h1, h2, h3, by omega⟩)) Or.inr⟩
/-- one phrase is written -/
theorem PhrC.set {fp : Nat → Option Nat} {p n p' a t : Nat} {x y b : Int32} {h h' : xw_A} (K : PhrC fp p n h) (hi : ∀ i j, i < 12 → j < 12 → fp i = fp j → i = j) (ht : t < 12) (ha : fp t = some a) (e : h' a = some (.inr (4, [.int x, .int y, .int b]))) (r : ∀ (q : Nat) (vs : List Value), q ≠ a → h q = some (.inr (4, vs)) → h' q = some (.inr (4, vs))) (hp : ∀ i, i ≠ t → i < p' → i < p) (hx : t < p' → ∃ u v, x = nI u ∧ y = nI v ∧ u + v ≤ n) : PhrC fp p' n h' := fun i hi2 => by
  by_cases q : i = t
  · subst q
    exact ⟨a, x, y, b, ha, e, hx⟩
  · obtain ⟨a2, x2, y2, b2, e1, e2, e3⟩ := K i hi2
    refine ⟨a2, x2, y2, b2, e1, r _ _ (fun z => q (hi i t hi2 ht ?_)) e2, fun w => e3 (hp i q w)⟩
    rw [e1, ha, z]
/-- one node is written -/
theorem NodC.set {fn : Nat → Option Nat} {nn p nn' a t : Nat} {l r : Option Nat} {k x y z1 z2 z3 z4 : Int32} {h h' : xw_A} (K : NodC fn nn p h) (hi : ∀ i j, i < 24 → j < 24 → fn i = fn j → i = j) (ht : t < 24) (ha : fn t = some a) (e : h' a = some (.inr (2, [.int k, va_rf l, va_rf r, .int x, .int y, .int z1, .int z2, .int z3, .int z4]))) (rr : ∀ (q : Nat) (vs : List Value), q ≠ a → h q = some (.inr (2, vs)) → h' q = some (.inr (2, vs))) (hn : nn ≤ nn') (hp : ∀ i, i ≠ t → i < nn' → i < nn) (hx : t < nn' → (k = 0 ∧ ∃ u v, x = nI u ∧ y = nI v ∧ u ≤ v ∧ v ≤ p) ∨ (¬ k = 0 ∧ ∃ i1 i2, i1 < nn' ∧ i2 < nn' ∧ l = fn i1 ∧ r = fn i2)) : NodC fn nn' p h' := fun i hi2 => by
  by_cases q : i = t
  · subst q
    exact ⟨a, l, r, k, x, y, z1, z2, z3, z4, ha, e, hx⟩
  · obtain ⟨a2, l2, r2, k2, x2, y2, w1, w2, w3, w4, e1, e2, e3⟩ := K i hi2
    refine ⟨a2, l2, r2, k2, x2, y2, w1, w2, w3, w4, e1, rr _ _ (fun z => q (hi i t hi2 ht ?_)) e2, fun w => (e3 (hp i q w)).elim Or.inl (fun v => Or.inr ?_)⟩
    · rw [e1, ha, z]
    · obtain ⟨v0, i1, i2, v1, v2, v3⟩ := v
      exact ⟨v0, i1, i2, by omega, by omega, v3⟩
/-- what may change while a question is read, and what does not -/
def QuA (B : List Nat) (qo tk tl tz ph nd po k1 k2 k3 d : Nat) (fp fn : Nat → Option Nat) : Prop :=
  (qo ∈ B ∧ tk ∈ B ∧ tl ∈ B ∧ tz ∈ B) ∧ (∀ i a, i < 12 → fp i = some a → a ∈ B) ∧ (∀ i a, i < 24 → fn i = some a → a ∈ B) ∧ (ph ∉ B ∧ nd ∉ B ∧ po ∉ B ∧ d ∉ B ∧ k1 ∉ B ∧ k2 ∉ B ∧ k3 ∉ B) ∧ (∀ i j, i < 12 → j < 12 → fp i = fp j → i = j) ∧ (∀ i j, i < 24 → j < 24 → fn i = fn j → i = j)
def QuC (qo tk tl tz ph nd po k1 k2 k3 d ln c : Nat) (fk fs fe fd : Nat → Int32) (fp fn : Nat → Option Nat) (p nn n t : Nat) (wp : Int32) (f g : Nat → Int32) (h : xw_A) : Prop :=
  h qo = some (.inr (5, [.ref tk, .ref ph, .ref nd, .int (nI p), .int (nI nn), .int wp, .ref po, .ref d, .int (nI t)])) ∧ TokC tk tl tz 96 49 n f g h ∧ h ph = some (oa 12 4 fp) ∧ h nd = some (oa 24 2 fn) ∧ PkC po k1 k2 k3 d ln c fk fs fe fd h ∧ p ≤ 12 ∧ nn ≤ 24 ∧ t ≤ c ∧ PhrC fp p n h ∧ NodC fn nn p h
def QuS (qo tk tl tz ph nd po k1 k2 k3 d ln c : Nat) (fk fs fe fd : Nat → Int32) (fp fn : Nat → Option Nat) (p nn n : Nat) (h : xw_A) : Prop :=
  ∃ (t : Nat) (wp : Int32) (f g : Nat → Int32), QuC qo tk tl tz ph nd po k1 k2 k3 d ln c fk fs fe fd fp fn p nn n t wp f g h
/-- what a method that gives a node leaves -/
def QuR (B : List Nat) (qo tk tl tz ph nd po k1 k2 k3 d ln c : Nat) (fk fs fe fd : Nat → Int32) (fp fn : Nat → Option Nat) (p nn n : Nat) (h : xw_A) (v : Option Value) (h' : xw_A) : Prop :=
  ∃ (o : Option Nat) (p' nn' n' : Nat), v = some (va_rf o) ∧ p ≤ p' ∧ nn ≤ nn' ∧ n ≤ n' ∧ (∀ a, o = some a → ∃ i, i < nn' ∧ fn i = some a) ∧ QuS qo tk tl tz ph nd po k1 k2 k3 d ln c fk fs fe fd fp fn p' nn' n' h' ∧ FrO B h h'
/-- what a method that gives a boolean leaves -/
def QuB (B : List Nat) (qo tk tl tz ph nd po k1 k2 k3 d ln c : Nat) (fk fs fe fd : Nat → Int32) (fp fn : Nat → Option Nat) (p nn n : Nat) (h : xw_A) (v : Option Value) (h' : xw_A) : Prop :=
  ∃ (b : Int32) (p' n' : Nat), v = some (.int b) ∧ (b = 0 ∨ b = 1) ∧ p ≤ p' ∧ n ≤ n' ∧ QuS qo tk tl tz ph nd po k1 k2 k3 d ln c fk fs fe fd fp fn p' nn n' h' ∧ FrO B h h'
section Quest
variable {B : List Nat} {qo tk tl tz ph nd po k1 k2 k3 d ln c : Nat} {fk fs fe fd : Nat → Int32} {fp fn : Nat → Option Nat} {p nn n t : Nat} {wp : Int32} {f g : Nat → Int32} {h h' : xw_A}
theorem nm1 {a b : Nat} (e : a ≠ b) : a ∉ [b] := fun z => e (List.mem_singleton.mp z)
/-- only the question's own cell is another -/
theorem QuC.q {t' : Nat} {wp' : Int32} (K : QuC qo tk tl tz ph nd po k1 k2 k3 d ln c fk fs fe fd fp fn p nn n t wp f g h) (r : FrO [qo] h h') (e : h' qo = some (.inr (5, [.ref tk, .ref ph, .ref nd, .int (nI p), .int (nI nn), .int wp', .ref po, .ref d, .int (nI t')]))) (ht : t' ≤ c) : QuC qo tk tl tz ph nd po k1 k2 k3 d ln c fk fs fe fd fp fn p nn n t' wp' f g h' := by
  obtain ⟨e0, T, e1, e2, P, h1, h2, h3, F, N⟩ := K
  exact ⟨e, T.frq r ⟨nm1 (xw_neC T.1 e0 (by simp)), nm1 (xw_neC T.2.1 e0 (by simp)), nm1 (xw_neC T.2.2.1 e0 (by simp))⟩, r _ _ (nm1 (xw_neC e1 e0 (by simp))) e1, r _ _ (nm1 (xw_neC e2 e0 (by simp))) e2, P.fr r ⟨nm1 (xw_neC P.1 e0 (by simp)), nm1 (xw_neC P.2.1 e0 (by simp)), nm1 (xw_neC P.2.2.1 e0 (by simp)), nm1 (xw_neC P.2.2.2.1 e0 (by simp)), nm1 (xw_neC P.2.2.2.2.1 e0 (by simp))⟩, h1, h2, ht, F.fr r (fun a x y b ha => nm1 (xw_neC ha e0 (by simp))) (Nat.le_refl _), N.fr r (fun a fs ha => nm1 (xw_neC ha e0 (by simp))) (Nat.le_refl _)⟩
/-- only the tokens are others, and not fewer -/
theorem QuC.tok {n' : Nat} {f' g' : Nat → Int32} (K : QuC qo tk tl tz ph nd po k1 k2 k3 d ln c fk fs fe fd fp fn p nn n t wp f g h) (A : QuA B qo tk tl tz ph nd po k1 k2 k3 d fp fn) (r : FrO [tk, tl, tz] h h') (T' : TokC tk tl tz 96 49 n' f' g' h') (hn : n ≤ n') : QuC qo tk tl tz ph nd po k1 k2 k3 d ln c fk fs fe fd fp fn p nn n' t wp f' g' h' := by
  obtain ⟨e0, T, e1, e2, P, h1, h2, h3, F, N⟩ := K
  have s : ∀ q, q ∉ B → q ∉ [tk, tl, tz] := fun q hq z => hq (by
    simp only [List.mem_cons, List.not_mem_nil, or_false] at z
    rcases z with z | z | z
    · rw [z]; exact A.1.2.1
    · rw [z]; exact A.1.2.2.1
    · rw [z]; exact A.1.2.2.2)
  have s3 : ∀ {q : Nat} {e : xw_C}, h q = some e → e ≠ .inr (9, [.ref tl, .ref tz, .int (nI n)]) → e ≠ .inl (1, 96, .inl f) → e ≠ .inl (0, 49, .inl g) → q ∉ [tk, tl, tz] := fun he n1 n2 n3 => by
    simp only [List.mem_cons, List.not_mem_nil, or_false, not_or]
    exact ⟨xw_neC he T.1 n1, xw_neC he T.2.1 n2, xw_neC he T.2.2.1 n3⟩
  exact ⟨r _ _ (s3 e0 (by simp) (by simp) (by simp)) e0, T', r _ _ (s _ A.2.2.2.1.1) e1, r _ _ (s _ A.2.2.2.1.2.1) e2, P.fr r ⟨s _ A.2.2.2.1.2.2.1, s _ A.2.2.2.1.2.2.2.1, s _ A.2.2.2.1.2.2.2.2.1, s _ A.2.2.2.1.2.2.2.2.2.1, s _ A.2.2.2.1.2.2.2.2.2.2⟩, h1, h2, h3, F.fr r (fun a x y b ha => s3 ha (by simp) (by simp) (by simp)) hn, N.fr r (fun a fs ha => s3 ha (by simp) (by simp) (by simp)) (Nat.le_refl _)⟩
/-- a phrase that doesn't count yet is written -/
theorem QuC.phr {a t0 : Nat} {x y b : Int32} (K : QuC qo tk tl tz ph nd po k1 k2 k3 d ln c fk fs fe fd fp fn p nn n t wp f g h) (A : QuA B qo tk tl tz ph nd po k1 k2 k3 d fp fn) (r : FrO [a] h h') (h0 : t0 < 12) (hp : p ≤ t0) (ha : fp t0 = some a) (e : h' a = some (.inr (4, [.int x, .int y, .int b]))) : QuC qo tk tl tz ph nd po k1 k2 k3 d ln c fk fs fe fd fp fn p nn n t wp f g h' := by
  obtain ⟨e0, T, e1, e2, P, h1, h2, h3, F, N⟩ := K
  obtain ⟨a2, x2, y2, b2, g1, g2, -⟩ := F t0 h0
  obtain rfl : a2 = a := Option.some.inj (g1.symm.trans ha)
  exact ⟨r _ _ (nm1 (xw_neC e0 g2 (by simp))) e0, T.frq r ⟨nm1 (xw_neC T.1 g2 (by simp)), nm1 (xw_neC T.2.1 g2 (by simp)), nm1 (xw_neC T.2.2.1 g2 (by simp))⟩, r _ _ (nm1 (xw_neC e1 g2 (by simp))) e1, r _ _ (nm1 (xw_neC e2 g2 (by simp))) e2, P.fr r ⟨nm1 (xw_neC P.1 g2 (by simp)), nm1 (xw_neC P.2.1 g2 (by simp)), nm1 (xw_neC P.2.2.1 g2 (by simp)), nm1 (xw_neC P.2.2.2.1 g2 (by simp)), nm1 (xw_neC P.2.2.2.2.1 g2 (by simp))⟩, h1, h2, h3, F.set A.2.2.2.2.1 h0 ha e (fun q vs hq he => r _ _ (nm1 hq) he) (fun i _ hi => hi) (fun q => absurd q (by omega)), N.fr r (fun a fs ha => nm1 (xw_neC ha g2 (by simp))) (Nat.le_refl _)⟩
/-- the phrase that was written counts -/
theorem QuC.p1 {a u v : Nat} {b : Int32} (K : QuC qo tk tl tz ph nd po k1 k2 k3 d ln c fk fs fe fd fp fn p nn n t wp f g h) (r : FrO [qo] h h') (e : h' qo = some (.inr (5, [.ref tk, .ref ph, .ref nd, .int (nI (p + 1)), .int (nI nn), .int wp, .ref po, .ref d, .int (nI t)]))) (hp : p < 12) (ha : fp p = some a) (ea : h a = some (.inr (4, [.int (nI u), .int (nI v), .int b]))) (hx : u + v ≤ n) : QuC qo tk tl tz ph nd po k1 k2 k3 d ln c fk fs fe fd fp fn (p + 1) nn n t wp f g h' := by
  obtain ⟨e0, T, e1, e2, P, h1, h2, h3, F, N⟩ := K
  refine ⟨e, T.frq r ⟨nm1 (xw_neC T.1 e0 (by simp)), nm1 (xw_neC T.2.1 e0 (by simp)), nm1 (xw_neC T.2.2.1 e0 (by simp))⟩, r _ _ (nm1 (xw_neC e1 e0 (by simp))) e1, r _ _ (nm1 (xw_neC e2 e0 (by simp))) e2, P.fr r ⟨nm1 (xw_neC P.1 e0 (by simp)), nm1 (xw_neC P.2.1 e0 (by simp)), nm1 (xw_neC P.2.2.1 e0 (by simp)), nm1 (xw_neC P.2.2.2.1 e0 (by simp)), nm1 (xw_neC P.2.2.2.2.1 e0 (by simp))⟩, by omega, h2, h3, ?_, N.fr r (fun a fs ha => nm1 (xw_neC ha e0 (by simp))) (Nat.le_succ _)⟩
  intro i hi
  obtain ⟨a2, x2, y2, b2, g1, g2, g3⟩ := F i hi
  have g4 := r _ _ (nm1 (xw_neC g2 e0 (by simp))) g2
  by_cases q : i = p
  · subst q
    obtain rfl : a2 = a := Option.some.inj (g1.symm.trans ha)
    rw [ea] at g2
    cases g2
    exact ⟨a2, _, _, _, g1, g4, fun _ => ⟨u, v, rfl, rfl, hx⟩⟩
  · exact ⟨a2, x2, y2, b2, g1, g4, fun w => g3 (by omega)⟩
/-- a node is made -/
theorem QuC.nd1 {a : Nat} {l r : Option Nat} {k x y z1 z2 z3 z4 : Int32} (K : QuC qo tk tl tz ph nd po k1 k2 k3 d ln c fk fs fe fd fp fn p nn n t wp f g h) (A : QuA B qo tk tl tz ph nd po k1 k2 k3 d fp fn) (rr : FrO [a, qo] h h') (hn : nn < 24) (ha : fn nn = some a) (e : h' a = some (.inr (2, [.int k, va_rf l, va_rf r, .int x, .int y, .int z1, .int z2, .int z3, .int z4]))) (eq : h' qo = some (.inr (5, [.ref tk, .ref ph, .ref nd, .int (nI p), .int (nI (nn + 1)), .int wp, .ref po, .ref d, .int (nI t)])))
    (hx : (k = 0 ∧ ∃ u v, x = nI u ∧ y = nI v ∧ u ≤ v ∧ v ≤ p) ∨ (¬ k = 0 ∧ ∃ i1 i2, i1 < nn + 1 ∧ i2 < nn + 1 ∧ l = fn i1 ∧ r = fn i2)) : QuC qo tk tl tz ph nd po k1 k2 k3 d ln c fk fs fe fd fp fn p (nn + 1) n t wp f g h' := by
  obtain ⟨e0, T, e1, e2, P, h1, h2, h3, F, N⟩ := K
  obtain ⟨a2, l2, r2, k2, x2, y2, w1, w2, w3, w4, g1, g2, -⟩ := N nn hn
  obtain rfl : a2 = a := Option.some.inj (g1.symm.trans ha)
  have s : ∀ {q : Nat} {e : xw_C}, h q = some e → (∀ vs, e ≠ .inr (2, vs)) → (∀ vs, e ≠ .inr (5, vs)) → q ∉ [a2, qo] := fun he n1 n2 => by
    simp only [List.mem_cons, List.not_mem_nil, or_false, not_or]
    exact ⟨xw_neC he g2 (n1 _), xw_neC he e0 (n2 _)⟩
  exact ⟨eq, T.frq rr ⟨s T.1 (by simp) (by simp), s T.2.1 (by simp) (by simp), s T.2.2.1 (by simp) (by simp)⟩, rr _ _ (s e1 (by simp) (by simp)) e1, rr _ _ (s e2 (by simp) (by simp)) e2, P.fr rr ⟨s P.1 (by simp) (by simp), s P.2.1 (by simp) (by simp), s P.2.2.1 (by simp) (by simp), s P.2.2.2.1 (by simp) (by simp), s P.2.2.2.2.1 (by simp) (by simp)⟩, h1, by omega, h3, F.fr rr (fun a x y b ha => s ha (by simp) (by simp)) (Nat.le_refl _), N.set A.2.2.2.2.2 hn ha e (fun q vs hq he => rr _ _ (by simp only [List.mem_cons, List.not_mem_nil, or_false, not_or]; exact ⟨hq, xw_neC he e0 (by simp)⟩) he) (Nat.le_succ _) (fun i hi hl => by omega) (fun _ => hx)⟩
/-- a cell that is none of the question's is another -/
theorem QuC.frx {b : Nat} {e : xw_C} (K : QuC qo tk tl tz ph nd po k1 k2 k3 d ln c fk fs fe fd fp fn p nn n t wp f g h) (r : FrO [b] h h') (hb : h b = some e) (n2 : ∀ vs, e ≠ .inr (2, vs)) (n3 : ∀ vs, e ≠ .inr (3, vs)) (n4 : ∀ vs, e ≠ .inr (4, vs)) (n5 : ∀ vs, e ≠ .inr (5, vs)) (n9 : ∀ vs, e ≠ .inr (9, vs)) (m1 : ∀ x, e ≠ .inl (1, 96, x)) (m2 : ∀ x, e ≠ .inl (0, 97, x)) (m3 : ∀ x, e ≠ .inl (0, 49, x)) (m4 : ∀ x, e ≠ .inl (4 + 6, 12, x)) (m5 : ∀ x, e ≠ .inl (2 + 6, 24, x)) : QuC qo tk tl tz ph nd po k1 k2 k3 d ln c fk fs fe fd fp fn p nn n t wp f g h' := by
  obtain ⟨e0, T, e1, e2, P, h1, h2, h3, F, N⟩ := K
  have s : ∀ {q : Nat} {y : xw_C}, h q = some y → e ≠ y → q ∉ [b] := fun hq hn => nm1 (Ne.symm (xw_neC hb hq hn))
  exact ⟨r _ _ (s e0 (n5 _)) e0, T.frq r ⟨s T.1 (n9 _), s T.2.1 (m1 _), s T.2.2.1 (m3 _)⟩, r _ _ (s e1 (m4 _)) e1, r _ _ (s e2 (m5 _)) e2, P.fr r ⟨s P.1 (n3 _), s P.2.1 (m1 _), s P.2.2.1 (m2 _), s P.2.2.2.1 (m2 _), s P.2.2.2.2.1 (m2 _)⟩, h1, h2, h3, F.fr r (fun a x y b ha => s ha (n4 _)) (Nat.le_refl _), N.fr r (fun a fs ha => s ha (n2 _)) (Nat.le_refl _)⟩
theorem QuC.fr7 {b : Nat} {vs : List Value} (K : QuC qo tk tl tz ph nd po k1 k2 k3 d ln c fk fs fe fd fp fn p nn n t wp f g h) (r : FrO [b] h h') (hb : h b = some (.inr (7, vs))) : QuC qo tk tl tz ph nd po k1 k2 k3 d ln c fk fs fe fd fp fn p nn n t wp f g h' :=
  K.frx r hb (by simp) (by simp) (by simp) (by simp) (by simp) (by simp) (by simp) (by simp) (by simp) (by simp)
theorem QuC.frP {b : Nat} {x : Nat → Int32} (K : QuC qo tk tl tz ph nd po k1 k2 k3 d ln c fk fs fe fd fp fn p nn n t wp f g h) (r : FrO [b] h h') (hb : h b = some (.inl (0, 576, .inl x))) : QuC qo tk tl tz ph nd po k1 k2 k3 d ln c fk fs fe fd fp fn p nn n t wp f g h' :=
  K.frx r hb (by simp) (by simp) (by simp) (by simp) (by simp) (by simp) (by simp) (by simp) (by simp) (by simp)
/-- the rows that a node found are written -/
theorem QuC.nd0 {a i : Nat} {l rr : Option Nat} {k x y z1 z2 z3 z4 w4 : Int32} (K : QuC qo tk tl tz ph nd po k1 k2 k3 d ln c fk fs fe fd fp fn p nn n t wp f g h) (A : QuA B qo tk tl tz ph nd po k1 k2 k3 d fp fn) (r : FrO [a] h h') (hi : i < 24) (ha : fn i = some a) (e : h a = some (.inr (2, [.int k, va_rf l, va_rf rr, .int x, .int y, .int z1, .int z2, .int z3, .int z4]))) (e' : h' a = some (.inr (2, [.int k, va_rf l, va_rf rr, .int x, .int y, .int z1, .int z2, .int z3, .int w4])))
    (hx : i < nn → (k = 0 ∧ ∃ u v, x = nI u ∧ y = nI v ∧ u ≤ v ∧ v ≤ p) ∨ (¬ k = 0 ∧ ∃ i1 i2, i1 < nn ∧ i2 < nn ∧ l = fn i1 ∧ rr = fn i2)) : QuC qo tk tl tz ph nd po k1 k2 k3 d ln c fk fs fe fd fp fn p nn n t wp f g h' := by
  obtain ⟨e0, T, e1, e2, P, h1, h2, h3, F, N⟩ := K
  have s : ∀ {q : Nat} {y : xw_C}, h q = some y → (∀ vs, y ≠ .inr (2, vs)) → q ∉ [a] := fun hq hn => nm1 (xw_neC hq e (hn _))
  exact ⟨r _ _ (s e0 (by simp)) e0, T.frq r ⟨s T.1 (by simp), s T.2.1 (by simp), s T.2.2.1 (by simp)⟩, r _ _ (s e1 (by simp)) e1, r _ _ (s e2 (by simp)) e2, P.fr r ⟨s P.1 (by simp), s P.2.1 (by simp), s P.2.2.1 (by simp), s P.2.2.2.1 (by simp), s P.2.2.2.2.1 (by simp)⟩, h1, h2, h3, F.fr r (fun a x y b ha => s ha (by simp)) (Nat.le_refl _), N.set A.2.2.2.2.2 hi ha e' (fun q vs hq he => r _ _ (nm1 hq) he) (Nat.le_refl _) (fun i _ hi => hi) hx⟩
theorem QuC.s (K : QuC qo tk tl tz ph nd po k1 k2 k3 d ln c fk fs fe fd fp fn p nn n t wp f g h) : QuS qo tk tl tz ph nd po k1 k2 k3 d ln c fk fs fe fd fp fn p nn n h := ⟨_, _, _, _, K⟩
theorem QuR.to {p0 nn0 n0 : Nat} {h0 : xw_A} {v : Option Value} (R : QuR B qo tk tl tz ph nd po k1 k2 k3 d ln c fk fs fe fd fp fn p nn n h v h') (hp : p0 ≤ p) (hn : nn0 ≤ nn) (hm : n0 ≤ n) (r : FrO B h0 h) : QuR B qo tk tl tz ph nd po k1 k2 k3 d ln c fk fs fe fd fp fn p0 nn0 n0 h0 v h' := by
  obtain ⟨o, p', nn', n', a1, a2, a3, a4, a5, a6, a7⟩ := R
  exact ⟨o, p', nn', n', a1, by omega, by omega, by omega, a5, a6, r.trans a7⟩
end Quest
/-- the parts that are read already: i of them, up to the letter x -/
def SpI (i x ln : Nat) (fk fs fe fd : Nat → Int32) : Prop := (∀ j, j < i → ¬ fk j = 0 ∧ ¬ fk j = 1 ∧ ∃ a b, fs j = nI a ∧ fe j = nI b ∧ a ≤ b ∧ b ≤ ln) ∧ (∀ j, j + 1 < i → fk j = 3 → fk (j + 1) = 16) ∧ (∀ j, j + 1 = i → fk j = 3 → x < ln ∧ fd x = 58) ∧ i ≤ x ∧ x ≤ ln
theorem SpI.next {i x y b ln : Nat} {kd : Int32} {fk fs fe fd : Nat → Int32} (S : SpI i x ln fk fs fe fd) (hxy : x ≤ y) (hb : y = x ∨ fd x = 32) (h0 : ¬ kd = 0) (h1 : ¬ kd = 1) (hyb : y < b) (hbl : b ≤ ln) (h3 : kd = 3 → b < ln ∧ fd b = 58) (h58 : y < ln → fd y = 58 → kd = 16) : SpI (i + 1) b ln (upd fk i kd) (upd fs i (nI y)) (upd fe i (nI b)) fd := by
  obtain ⟨s1, s2, s3, s4, s5⟩ := S
  refine ⟨fun j hj => ?_, fun j hj h => ?_, fun j hj h => ?_, by omega, hbl⟩
  · by_cases q : j = i
    · subst q
      rw [pk_us, pk_us, pk_us]
      exact ⟨h0, h1, y, b, rfl, rfl, by omega, hbl⟩
    · rw [pk_un q, pk_un q, pk_un q]
      exact s1 j (by omega)
  · have q : j ≠ i := by omega
    rw [pk_un q] at h
    by_cases q2 : j + 1 = i
    · rw [q2, pk_us]
      obtain ⟨a1, a2⟩ := s3 j q2 h
      have e : y = x := hb.elim id (fun w => by rw [a2] at w; exact absurd w (by decide))
      subst e
      exact h58 a1 a2
    · rw [pk_un q2]
      exact s2 j (by omega) h
  · obtain rfl : j = i := by omega
    rw [pk_us] at h
    exact h3 h
theorem SpI.fin {i x y b ln : Nat} {kd : Int32} {fk fs fe fd : Nat → Int32} (S : SpI i x ln fk fs fe fd) (hln : ln ≤ 96) (hxy : x ≤ y) (hb : y = x ∨ fd x = 32) (h01 : kd = 0 ∨ kd = 1) (hyb : y ≤ b) (hbl : b ≤ ln) (h58 : y < ln → fd y = 58 → kd = 16) : PkF i ln (upd fk i kd) (upd fs i (nI y)) (upd fe i (nI b)) := by
  obtain ⟨s1, s2, s3, s4, s5⟩ := S
  refine ⟨by omega, by rw [pk_us]; exact h01, fun j hj => ?_, fun j hj => ?_, fun j hj h => ?_⟩
  · have q : j ≠ i := by omega
    rw [pk_un q]
    exact ⟨(s1 j hj).1, (s1 j hj).2.1⟩
  · by_cases q : j = i
    · subst q
      rw [pk_us, pk_us]
      exact ⟨y, b, rfl, rfl, hyb, hbl⟩
    · rw [pk_un q, pk_un q]
      exact (s1 j (by omega)).2.2
  · have q : j ≠ i := by omega
    rw [pk_un q] at h
    refine Nat.lt_of_le_of_ne (by omega) (fun q2 => ?_)
    obtain ⟨a1, a2⟩ := s3 j q2 h
    have e : y = x := hb.elim id (fun w => by rw [a2] at w; exact absurd w (by decide))
    subst e
    have h9 := h58 a1 a2
    rcases h01 with w | w <;> (rw [w] at h9; exact absurd h9 (by decide))
theorem ixC_in (f : Nat → Int32) (c : Int32) : ∀ d i, ixC f c d i = -1 ∨ ∃ j, i ≤ j ∧ j < i + d ∧ ixC f c d i = nI j := by
  intro d
  induction d with
  | zero => intro i; exact Or.inl rfl
  | succ d ih =>
    intro i
    rw [ixC]
    by_cases q : f i = c
    · rw [if_pos q]
      exact Or.inr ⟨i, by omega, by omega, rfl⟩
    · rw [if_neg q]
      rcases ih (i + 1) with w | ⟨j, h1, h2, h3⟩
      · exact Or.inl w
      · exact Or.inr ⟨j, by omega, by omega, h3⟩
/-- the question between two readings -/
def QuI (qo tk tl tz ph nd po k1 k2 k3 : Nat) (fp fn : Nat → Option Nat) (h : xw_A) : Prop :=
  ∃ (pA nA wA tA x0 : Int32) (dq dq2 : Option Nat) (n0 : Nat) (f g fk fs fe : Nat → Int32), h qo = some (.inr (5, [.ref tk, .ref ph, .ref nd, .int pA, .int nA, .int wA, .ref po, va_rf dq2, .int tA])) ∧ TokC tk tl tz 96 49 n0 f g h ∧ h ph = some (oa 12 4 fp) ∧ h nd = some (oa 24 2 fn) ∧ PhrC fp 0 0 h ∧ NodC fn 0 0 h ∧ h po = some (.inr (3, [.ref k1, .ref k2, .ref k3, va_rf dq, .int x0])) ∧ h k1 = some (.inl (0, 97, .inl fk)) ∧ h k2 = some (.inl (0, 97, .inl fs)) ∧ h k3 = some (.inl (0, 97, .inl fe))
theorem QuS.i {qo tk tl tz ph nd po k1 k2 k3 d ln c : Nat} {fk fs fe fd : Nat → Int32} {fp fn : Nat → Option Nat} {p nn n : Nat} {h : xw_A} (S : QuS qo tk tl tz ph nd po k1 k2 k3 d ln c fk fs fe fd fp fn p nn n h) : QuI qo tk tl tz ph nd po k1 k2 k3 fp fn h := by
  obtain ⟨t, wp, f, g, e0, T, e1, e2, P, h1, h2, h3, F, N⟩ := S
  refine ⟨nI p, nI nn, wp, nI t, nI ln, some d, some d, n, f, g, fk, fs, fe, e0, T, e1, e2, fun i hi => ?_, fun i hi => ?_, P.1, P.2.2.1, P.2.2.2.1, P.2.2.2.2.1⟩
  · obtain ⟨a, x, y, b, g1, g2, -⟩ := F i hi
    exact ⟨a, x, y, b, g1, g2, fun z => absurd z (Nat.not_lt_zero _)⟩
  · obtain ⟨a, l, r, k, x, y, z1, z2, z3, z4, g1, g2, -⟩ := N i hi
    exact ⟨a, l, r, k, x, y, z1, z2, z3, z4, g1, g2, fun z => absurd z (Nat.not_lt_zero _)⟩
theorem QuI.fr {qo tk tl tz ph nd po k1 k2 k3 : Nat} {fp fn : Nat → Option Nat} {B : List Nat} {h h' : xw_A} (K : QuI qo tk tl tz ph nd po k1 k2 k3 fp fn h) (r : FrO B h h') (n : qo ∉ B ∧ ph ∉ B ∧ nd ∉ B ∧ po ∉ B ∧ k1 ∉ B ∧ k2 ∉ B ∧ k3 ∉ B) (nt : tk ∉ B ∧ tl ∉ B ∧ tz ∉ B) (np : ∀ i a, i < 12 → fp i = some a → a ∉ B) (nn : ∀ i a, i < 24 → fn i = some a → a ∉ B) : QuI qo tk tl tz ph nd po k1 k2 k3 fp fn h' := by
  obtain ⟨pA, nA, wA, tA, x0, dq, dq2, n0, f, g, fk, fs, fe, e0, T, e1, e2, F, N, e3, e4, e5, e6⟩ := K
  refine ⟨pA, nA, wA, tA, x0, dq, dq2, n0, f, g, fk, fs, fe, r _ _ n.1 e0, T.frq r nt, r _ _ n.2.1 e1, r _ _ n.2.2.1 e2, fun i hi => ?_, fun i hi => ?_, r _ _ n.2.2.2.1 e3, r _ _ n.2.2.2.2.1 e4, r _ _ n.2.2.2.2.2.1 e5, r _ _ n.2.2.2.2.2.2 e6⟩
  · obtain ⟨a, x, y, b, g1, g2, g3⟩ := F i hi
    exact ⟨a, x, y, b, g1, r _ _ (np i a hi g1) g2, g3⟩
  · obtain ⟨a, l, rr, k, x, y, z1, z2, z3, z4, g1, g2, g3⟩ := N i hi
    exact ⟨a, l, rr, k, x, y, z1, z2, z3, z4, g1, r _ _ (nn i a hi g1) g2, g3⟩
/-- there is nothing else among what may change -/
def QuE (B : List Nat) (qo tk tl tz : Nat) (fp fn : Nat → Option Nat) : Prop := ∀ q ∈ B, q = qo ∨ q = tk ∨ q = tl ∨ q = tz ∨ (∃ i, i < 12 ∧ fp i = some q) ∨ ∃ i, i < 24 ∧ fn i = some q
theorem QuI.ex {qo tk tl tz ph nd po k1 k2 k3 : Nat} {fp fn : Nat → Option Nat} {B : List Nat} {h : xw_A} (K : QuI qo tk tl tz ph nd po k1 k2 k3 fp fn h) (E : QuE B qo tk tl tz fp fn) : ∀ q ∈ po :: k1 :: k2 :: k3 :: B, ∃ e, h q = some e := by
  obtain ⟨pA, nA, wA, tA, x0, dq, dq2, n0, f, g, fk, fs, fe, e0, T, e1, e2, F, N, e3, e4, e5, e6⟩ := K
  refine exC e3 (exC e4 (exC e5 (exC e6 (fun q hq => ?_))))
  rcases E q hq with z | z | z | z | ⟨i, hi, z⟩ | ⟨i, hi, z⟩
  · exact ⟨_, by rw [z]; exact e0⟩
  · exact ⟨_, by rw [z]; exact T.1⟩
  · exact ⟨_, by rw [z]; exact T.2.1⟩
  · exact ⟨_, by rw [z]; exact T.2.2.1⟩
  · obtain ⟨a, x, y, b, g1, g2, -⟩ := F i hi
    rw [z] at g1
    exact ⟨_, by rw [Option.some.inj g1]; exact g2⟩
  · obtain ⟨a, l, rr, k, x, y, z1, z2, z3, z4, g1, g2, -⟩ := N i hi
    rw [z] at g1
    exact ⟨_, by rw [Option.some.inj g1]; exact g2⟩
