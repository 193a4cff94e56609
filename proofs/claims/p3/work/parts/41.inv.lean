/-! THE STATE IN GENERAL: what is never changed once it is made (texts, versions, segments), and what a call may change (the addresses of A0) -/
def GOK (m n : Nat) (g : Nat → Int32) : Prop := ∃ G : Nat → Nat, (∀ i, i ≤ n → g i = nI (G i) ∧ G i ≤ m) ∧ ∀ i, i < n → G i ≤ G (i + 1)
/-- the tokens a: their letters l (m of them can stand there), their starts z (k of them), n tokens -/
def TokC (a l z m k n : Nat) (f g : Nat → Int32) (h : xw_A) : Prop :=
  h a = some (.inr (9, [.ref l, .ref z, .int (nI n)])) ∧ h l = some (.inl (1, m, .inl f)) ∧ h z = some (.inl (0, k, .inl g)) ∧ n < k ∧ m ≤ 96 ∧ k ≤ 49 ∧ GOK m n g
def TokOK (A : List Nat) (h : xw_A) (a : Nat) : Prop := a ∉ A ∧ ∃ (l z m k n : Nat) (f g : Nat → Int32), l ∉ A ∧ z ∉ A ∧ TokC a l z m k n f g h
def VerOK (A : List Nat) (h : xw_A) (a : Nat) : Prop := a ∉ A ∧ ∃ (n e : Int32) (r f s : Nat), h a = some (.inr (10, [.int n, .int (nI r), .ref f, .ref s, .int e])) ∧ 1 ≤ r ∧ r ≤ 24 ∧ TokOK A h f ∧ TokOK A h s
abbrev oa (n ci : Nat) (f : Nat → Option Nat) : xw_C := .inl (ci + 6, n, .inr (.inr (.inr (.inr f))))
def SegOK (A : List Nat) (h : xw_A) (a : Nat) : Prop := a ∉ A ∧ ∃ (v n lv : Nat) (e : Int32) (f : Nat → Option Nat), h a = some (.inr (6, [.int (nI lv), .ref v, .int e])) ∧ lv ≤ 5 ∧ v ∉ A ∧ h v = some (oa n 10 f) ∧ n ≤ 24 ∧ ∀ i, i < n → ∃ b, f i = some b ∧ VerOK A h b
theorem TokOK.fr {A B : List Nat} {h h' : xw_A} {a : Nat} (k : TokOK A h a) (r : FrO B h h') (hB : ∀ q ∈ B, q ∈ A) : TokOK A h' a := by
  obtain ⟨h0, l, z, m, kk, n, f, g, h1, h2, e1, e2, e3, e4⟩ := k
  exact ⟨h0, l, z, m, kk, n, f, g, h1, h2, r _ _ (fun q => h0 (hB _ q)) e1, r _ _ (fun q => h1 (hB _ q)) e2, r _ _ (fun q => h2 (hB _ q)) e3, e4⟩
theorem VerOK.fr {A B : List Nat} {h h' : xw_A} {a : Nat} (k : VerOK A h a) (r : FrO B h h') (hB : ∀ q ∈ B, q ∈ A) : VerOK A h' a := by
  obtain ⟨h0, n, e, rr, f, s, e1, h1, h2, k1, k2⟩ := k
  exact ⟨h0, n, e, rr, f, s, r _ _ (fun q => h0 (hB _ q)) e1, h1, h2, k1.fr r hB, k2.fr r hB⟩
theorem SegOK.fr {A B : List Nat} {h h' : xw_A} {a : Nat} (k : SegOK A h a) (r : FrO B h h') (hB : ∀ q ∈ B, q ∈ A) : SegOK A h' a := by
  obtain ⟨h0, v, n, lv, e, f, e1, h1, h2, e2, h3, h4⟩ := k
  exact ⟨h0, v, n, lv, e, f, r _ _ (fun q => h0 (hB _ q)) e1, h1, h2, r _ _ (fun q => h2 (hB _ q)) e2, h3, fun i hi => by
    obtain ⟨b, b1, b2⟩ := h4 i hi
    exact ⟨b, b1, b2.fr r hB⟩⟩
theorem GOK.at {m n : Nat} {g : Nat → Int32} (k : GOK m n g) {i : Nat} (hi : i ≤ n) : ∃ j, g i = nI j ∧ j ≤ m := by
  obtain ⟨G, h1, -⟩ := k
  exact ⟨G i, h1 i hi⟩
/-- one letter more in the last token -/
theorem GOK.letter {m n j : Nat} {g : Nat → Int32} (k : GOK m n g) (hj : g n = nI j) (h : j < m) (hm : m < 2 ^ 31) : GOK m n (upd g n (nI (j + 1))) := by
  obtain ⟨G, h1, h2⟩ := k
  have hG : G n = j := by
    have h9 := (h1 n (Nat.le_refl _)).1.symm.trans hj
    exact (nI_eq (by have := (h1 n (Nat.le_refl _)).2; omega) (by omega)).mp h9
  refine ⟨fun i => if i = n then j + 1 else G i, fun i hi => ?_, fun i hi => ?_⟩
  · by_cases e : i = n
    · subst e
      rw [pk_us]
      simp only [if_pos]
      exact ⟨trivial, h⟩
    · rw [pk_un e]
      simp only [if_neg e]
      exact h1 i hi
  · have e : ¬ i = n := by omega
    simp only [if_neg e]
    by_cases e2 : i + 1 = n
    · simp only [if_pos e2]
      have h9 := h2 i hi
      rw [e2, hG] at h9
      omega
    · simp only [if_neg e2]
      exact h2 i hi
/-- a new token begins -/
theorem GOK.token {m n : Nat} {g : Nat → Int32} (k : GOK m n g) : GOK m (n + 1) (upd g (n + 1) (g n)) := by
  obtain ⟨G, h1, h2⟩ := k
  refine ⟨fun i => if i = n + 1 then G n else G i, fun i hi => ?_, fun i hi => ?_⟩
  · by_cases e : i = n + 1
    · subst e
      rw [pk_us]
      simp only [if_pos]
      exact h1 n (Nat.le_refl _)
    · rw [pk_un e]
      simp only [if_neg e]
      exact h1 i (by omega)
  · have e : ¬ i = n + 1 := by omega
    simp only [if_neg e]
    by_cases e2 : i + 1 = n + 1
    · have e3 : i = n := by omega
      subst e3
      simp only [if_pos]
      exact Nat.le_refl _
    · simp only [if_neg e2]
      exact h2 i (by omega)
/-- the cells that a call may change are there -/
def AOK (A : List Nat) (h : xw_A) : Prop := ∀ q ∈ A, ∃ e, h q = some e
theorem AOK.fr {A B : List Nat} {h h' : xw_A} (k : AOK A h) (r : FrO B h h') (hB : ∀ q ∈ B, ∃ e, h' q = some e) : AOK A h' := fun q hq => by
  by_cases hb : q ∈ B
  · exact hB q hb
  · obtain ⟨e, he⟩ := k q hq
    exact ⟨e, r q e hb he⟩
theorem AOK.new {A : List Nat} {h : xw_A} (k : AOK A h) {q : Nat} (hq : h q = none) : q ∉ A := fun z => by
  obtain ⟨e, he⟩ := k q z
  rw [hq] at he
  cases he
theorem ex1 {a : Nat} {h : xw_A} {e : xw_C} (h1 : h a = some e) : ∀ q ∈ [a], ∃ e, h q = some e := fun q hq => ⟨e, by rw [List.mem_singleton.mp hq]; exact h1⟩
theorem exC {a : Nat} {B : List Nat} {h : xw_A} {e : xw_C} (h1 : h a = some e) (h2 : ∀ q ∈ B, ∃ e, h q = some e) : ∀ q ∈ a :: B, ∃ e, h q = some e := fun q hq => (List.mem_cons.mp hq).elim (fun z => ⟨e, by rw [z]; exact h1⟩) (h2 q)
theorem suC {a : Nat} {A B : List Nat} (h1 : a ∈ A) (h2 : ∀ q ∈ B, q ∈ A) : ∀ q ∈ a :: B, q ∈ A := fun q hq => (List.mem_cons.mp hq).elim (fun z => by rw [z]; exact h1) (h2 q)
theorem suN {A : List Nat} : ∀ q ∈ ([] : List Nat), q ∈ A := fun _ h => nomatch h
theorem exN {h : xw_A} : ∀ q ∈ ([] : List Nat), ∃ e, h q = some e := fun _ h => nomatch h
/-- the store st: rows s1, pending s2, segments s3, live s4 -/
def StoC (A : List Nat) (st s1 s2 s3 s4 : Nat) (fr fp fs fl : Nat → Option Nat) (pc sc lc : Nat) (pe vm sm : Int32) (h : xw_A) : Prop :=
  h st = some (.inr (8, [.ref s1, .ref s2, .ref s3, .ref s4, .int (nI pc), .int pe, .int (nI sc), .int vm, .int sm, .int (nI lc)])) ∧ h s1 = some (oa 25 10 fr) ∧ h s2 = some (oa 201 10 fp) ∧ h s3 = some (oa 512 6 fs) ∧ h s4 = some (oa 24 10 fl) ∧ pc ≤ 201 ∧ sc ≤ 512 ∧ lc ≤ 24 ∧
    (∀ i a, fr i = some a → VerOK A h a) ∧ (∀ i, i < pc → ∃ a, fp i = some a ∧ VerOK A h a) ∧ (∀ i, i < sc → ∃ a, fs i = some a ∧ SegOK A h a) ∧ (∀ i, i < lc → ∃ a, fl i = some a ∧ VerOK A h a) ∧ AOK A h
theorem VerOK.tokens {A : List Nat} {h : xw_A} {a : Nat} (k : VerOK A h a) : ∃ (n e : Int32) (r p q l z j l2 z2 j2 : Nat), h a = some (.inr (10, [.int n, .int (nI r), .ref p, .ref q, .int e])) ∧ h p = some (.inr (9, [.ref l, .ref z, .int (nI j)])) ∧ h q = some (.inr (9, [.ref l2, .ref z2, .int (nI j2)])) ∧ j ≤ 48 ∧ j2 ≤ 48 := by
  obtain ⟨-, n, e, r, p, q, e1, -, -, ⟨-, l, z, m, kk, j, f, g, -, -, t1, t2, t3, t4, t5, t6, -⟩, -, l2, z2, m2, k2, j2, f2, g2, -, -, u1, u2, u3, u4, u5, u6, -⟩ := k
  exact ⟨n, e, r, p, q, l, z, j, l2, z2, j2, e1, t1, u1, by omega, by omega⟩
theorem row_ix {x : Int32} (h1 : ¬ x < 1) (h2 : ¬ 24 < x) : ∃ j, 1 ≤ j ∧ j ≤ 24 ∧ x = nI j := ix_of (a := 1) (b := 24) (by decide) (by decide) h1 h2
def StA (A : List Nat) (st s1 s2 s3 s4 : Nat) : Prop := st ∈ A ∧ s1 ∈ A ∧ s2 ∈ A ∧ s3 ∈ A ∧ s4 ∈ A
/-- the parts of a store stay where they are not touched -/
theorem allV {A B : List Nat} {h h' : xw_A} {n : Nat} {f : Nat → Option Nat} (k : ∀ i, i < n → ∃ a, f i = some a ∧ VerOK A h a) (r : FrO B h h') (hB : ∀ q ∈ B, q ∈ A) : ∀ i, i < n → ∃ a, f i = some a ∧ VerOK A h' a := fun i hi => by
  obtain ⟨a, h1, h2⟩ := k i hi
  exact ⟨a, h1, h2.fr r hB⟩
theorem allS {A B : List Nat} {h h' : xw_A} {n : Nat} {f : Nat → Option Nat} (k : ∀ i, i < n → ∃ a, f i = some a ∧ SegOK A h a) (r : FrO B h h') (hB : ∀ q ∈ B, q ∈ A) : ∀ i, i < n → ∃ a, f i = some a ∧ SegOK A h' a := fun i hi => by
  obtain ⟨a, h1, h2⟩ := k i hi
  exact ⟨a, h1, h2.fr r hB⟩
theorem allR {A B : List Nat} {h h' : xw_A} {f : Nat → Option Nat} (k : ∀ i a, f i = some a → VerOK A h a) (r : FrO B h h') (hB : ∀ q ∈ B, q ∈ A) : ∀ i a, f i = some a → VerOK A h' a := fun i a hi => (k i a hi).fr r hB
/-- one more at the end -/
theorem allU {P : Nat → Prop} {n a : Nat} {f : Nat → Option Nat} (k : ∀ i, i < n → ∃ b, f i = some b ∧ P b) (ha : P a) : ∀ i, i < n + 1 → ∃ b, va_up f n (some a) i = some b ∧ P b := fun i hi => by
  by_cases e : i = n
  · subst e
    exact ⟨a, va_up_self _ _ _, ha⟩
  · obtain ⟨b, h1, h2⟩ := k i (by omega)
    exact ⟨b, by rw [va_up_ne _ _ e]; exact h1, h2⟩
/-- one of them is another -/
theorem allW {P : Nat → Prop} {n k a : Nat} {f : Nat → Option Nat} (h : ∀ i, i < n → ∃ b, f i = some b ∧ P b) (ha : P a) : ∀ i, i < n → ∃ b, va_up f k (some a) i = some b ∧ P b := fun i hi => by
  by_cases e : i = k
  · subst e
    exact ⟨a, va_up_self _ _ _, ha⟩
  · obtain ⟨b, h1, h2⟩ := h i hi
    exact ⟨b, by rw [va_up_ne _ _ e]; exact h1, h2⟩
theorem allRU {P : Nat → Prop} {r a : Nat} {f : Nat → Option Nat} (k : ∀ i b, f i = some b → P b) (ha : P a) : ∀ i b, va_up f r (some a) i = some b → P b := fun i b hi => by
  by_cases e : i = r
  · subst e
    rw [va_up_self] at hi
    rw [← Option.some.inj hi]
    exact ha
  · rw [va_up_ne _ _ e] at hi
    exact k i b hi
theorem allRN {P : Nat → Prop} {r : Nat} {f : Nat → Option Nat} (k : ∀ i b, f i = some b → P b) : ∀ i b, va_up f r none i = some b → P b := fun i b hi => by
  by_cases e : i = r
  · subst e
    rw [va_up_self] at hi
    cases hi
  · rw [va_up_ne _ _ e] at hi
    exact k i b hi
/-- a store that is not touched -/
theorem StoC.fr {A B : List Nat} {st s1 s2 s3 s4 : Nat} {fr fp fs fl : Nat → Option Nat} {pc sc lc : Nat} {pe vm sm : Int32} {h h' : xw_A} (K : StoC A st s1 s2 s3 s4 fr fp fs fl pc sc lc pe vm sm h) (r : FrO B h h') (hB : ∀ q ∈ B, q ∈ A) (n : st ∉ B ∧ s1 ∉ B ∧ s2 ∉ B ∧ s3 ∉ B ∧ s4 ∉ B) (hx : ∀ q ∈ B, ∃ e, h' q = some e) : StoC A st s1 s2 s3 s4 fr fp fs fl pc sc lc pe vm sm h' := by
  obtain ⟨e0, e1, e2, e3, e4, hpc, hsc, hlc, hR, hP, hS, hV, hAO⟩ := K
  exact ⟨r _ _ n.1 e0, r _ _ n.2.1 e1, r _ _ n.2.2.1 e2, r _ _ n.2.2.2.1 e3, r _ _ n.2.2.2.2 e4, hpc, hsc, hlc, allR hR r hB, allV hP r hB, allS hS r hB, allV hV r hB, hAO.fr r hx⟩
/-- a store, whatever it holds -/
def StoE (A : List Nat) (st s1 s2 s3 s4 : Nat) (h : xw_A) : Prop := ∃ (fr fp fs fl : Nat → Option Nat) (pc sc lc : Nat) (pe vm sm : Int32), StoC A st s1 s2 s3 s4 fr fp fs fl pc sc lc pe vm sm h
theorem StoC.e {A : List Nat} {st s1 s2 s3 s4 : Nat} {fr fp fs fl : Nat → Option Nat} {pc sc lc : Nat} {pe vm sm : Int32} {h : xw_A} (K : StoC A st s1 s2 s3 s4 fr fp fs fl pc sc lc pe vm sm h) : StoE A st s1 s2 s3 s4 h := ⟨_, _, _, _, _, _, _, _, _, _, K⟩
/-- the answers ao: rows, scores, lengths, order -/
def AnsC (ao o1 o2 o3 o4 sz : Nat) (f1 : Nat → Int32) (f2 : Nat → UInt64) (f3 f4 : Nat → Int32) (h : xw_A) : Prop :=
  h ao = some (.inr (1, [.ref o1, .ref o2, .int (nI sz), .ref o3, .ref o4])) ∧ h o1 = some (.inl (0, 24, .inl f1)) ∧ h o2 = some (.inl (3, 24, .inr (.inr (.inr (.inl f2))))) ∧ h o3 = some (.inl (0, 24, .inl f3)) ∧ h o4 = some (.inl (0, 24, .inl f4)) ∧ sz ≤ 24 ∧ ∀ i, i < sz → ∃ j, f4 i = nI j ∧ j < sz
/-- how many of the rows 1 .. n are there -/
def cntS (f : Nat → Option Nat) : Nat → Nat
  | 0 => 0
  | i + 1 => cntS f i + (if f (i + 1) = none then 0 else 1)
theorem cntS_le (f : Nat → Option Nat) : ∀ i, cntS f i ≤ i := by
  intro i
  induction i with
  | zero => exact Nat.le_refl _
  | succ i ih =>
    rw [cntS]
    split <;> omega
theorem cntS_n {f : Nat → Option Nat} {i : Nat} (hi : 1 ≤ i) (h : f i = none) : cntS f (i + 1 - 1) = cntS f (i - 1) := by
  obtain ⟨k, rfl⟩ : ∃ k, i = k + 1 := ⟨i - 1, by omega⟩
  show cntS f (k + 1) = cntS f k
  rw [cntS, if_pos h, Nat.add_zero]
theorem cntS_s {f : Nat → Option Nat} {i a : Nat} (hi : 1 ≤ i) (h : f i = some a) : cntS f (i + 1 - 1) = cntS f (i - 1) + 1 := by
  obtain ⟨k, rfl⟩ : ∃ k, i = k + 1 := ⟨i - 1, by omega⟩
  show cntS f (k + 1) = cntS f k + 1
  rw [cntS, if_neg (show ¬ f (k + 1) = none from fun q => nomatch (h.symm.trans q))]
theorem row_rng {j : Nat} {r : Int32} (h1 : 1 ≤ j) (h2 : j ≤ 24) (e : r = nI j) : ¬ r < 1 ∧ ¬ 24 < r := by
  subst e
  exact ⟨nI_nlt (a := j) (b := 1) h1 (by omega), nI_nlt (a := 24) h2 (by decide)⟩
theorem nA9 {A B : List Nat} {a : Nat} (na : a ∉ A) (hB : ∀ q ∈ B, q ∈ A) : a ∉ B := fun z => na (hB a z)
/-- a store whose rows are fr -/
def StoR (A : List Nat) (st s1 s2 s3 s4 : Nat) (fr : Nat → Option Nat) (h : xw_A) : Prop := ∃ (fp fs fl : Nat → Option Nat) (pc sc lc : Nat) (pe vm sm : Int32), StoC A st s1 s2 s3 s4 fr fp fs fl pc sc lc pe vm sm h
theorem StoC.r {A : List Nat} {st s1 s2 s3 s4 : Nat} {fr fp fs fl : Nat → Option Nat} {pc sc lc : Nat} {pe vm sm : Int32} {h : xw_A} (K : StoC A st s1 s2 s3 s4 fr fp fs fl pc sc lc pe vm sm h) : StoR A st s1 s2 s3 s4 fr h := ⟨_, _, _, _, _, _, _, _, _, K⟩
theorem StoR.e {A : List Nat} {st s1 s2 s3 s4 : Nat} {fr : Nat → Option Nat} {h : xw_A} (K : StoR A st s1 s2 s3 s4 fr h) : StoE A st s1 s2 s3 s4 h := by
  obtain ⟨fp, fs, fl, pc, sc, lc, pe, vm, sm, K⟩ := K
  exact K.e
