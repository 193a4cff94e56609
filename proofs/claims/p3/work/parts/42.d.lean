/-! the class in general states: by program (wip/tools/gen.py) -/
/-! TIER G: what the store holds, as lists: a version is (v, row, entries), v + 1 its number -/
abbrev VT := Nat × Nat × Nat
abbrev SG := Nat × List VT
def VerV (A : List Nat) (h : xw_A) (b : Nat) (t : VT) : Prop := b ∉ A ∧ t.1 < 1000 ∧ t.2.2 < 1000 ∧ ∃ p q : Nat, h b = some (.inr (10, [.int (nI (t.1 + 1)), .int (nI t.2.1), .ref p, .ref q, .int (nI t.2.2)])) ∧ 1 ≤ t.2.1 ∧ t.2.1 ≤ 24
theorem VerV.fr {A B : List Nat} {h h' : xw_A} {b : Nat} {t : VT} (k : VerV A h b t) (r : FrO B h h') (hB : ∀ q ∈ B, q ∈ A) : VerV A h' b t := by
  obtain ⟨h0, h1, h2, p, q, e, h3⟩ := k
  exact ⟨h0, h1, h2, p, q, r _ _ (fun z => h0 (hB _ z)) e, h3⟩
theorem VerV.cell {A : List Nat} {h : xw_A} {b : Nat} {t : VT} {n r y : Int32} {p q : Nat} (k : VerV A h b t) (e : h b = some (.inr (10, [.int n, .int r, .ref p, .ref q, .int y]))) : n = nI (t.1 + 1) ∧ r = nI t.2.1 ∧ y = nI t.2.2 := by
  obtain ⟨-, -, -, p2, q2, e2, -⟩ := k
  have e3 := e.symm.trans e2
  simp only [Option.some.injEq, Sum.inr.injEq, Prod.mk.injEq, List.cons.injEq, Value.int.injEq, Value.ref.injEq, true_and, and_true] at e3
  exact ⟨e3.1, e3.2.1, e3.2.2.2.2⟩
theorem VerV.inj {A : List Nat} {h : xw_A} {b : Nat} {t u : VT} (k : VerV A h b t) (k2 : VerV A h b u) : t = u := by
  obtain ⟨-, h1, h2, p2, q2, e2, h3, h4⟩ := id k2
  obtain ⟨-, g1, g2, -, -, -, g3, g4⟩ := id k
  obtain ⟨a1, a2, a3⟩ := k.cell e2
  have b1 := (nI_eq (a := u.1 + 1) (b := t.1 + 1) (by omega) (by omega)).mp a1
  have b2 := (nI_eq (a := u.2.1) (b := t.2.1) (by omega) (by omega)).mp a2
  have b3 := (nI_eq (a := u.2.2) (b := t.2.2) (by omega) (by omega)).mp a3
  obtain ⟨t1, t2, t3⟩ := t
  obtain ⟨u1, u2, u3⟩ := u
  simp only at b1 b2 b3
  obtain rfl : u1 = t1 := by omega
  rw [b2, b3]
def PdV (A : List Nat) (h : xw_A) (f : Nat → Option Nat) (L : List VT) : Prop := ∀ i t, L[i]? = some t → ∃ b, f i = some b ∧ VerV A h b t
theorem PdV.fr {A B : List Nat} {h h' : xw_A} {f : Nat → Option Nat} {L : List VT} (k : PdV A h f L) (r : FrO B h h') (hB : ∀ q ∈ B, q ∈ A) : PdV A h' f L := fun i t q => by
  obtain ⟨b, h1, h2⟩ := k i t q
  exact ⟨b, h1, h2.fr r hB⟩
theorem PdV.nil {A : List Nat} {h : xw_A} {f : Nat → Option Nat} : PdV A h f [] := fun i t q => by simp at q
theorem PdV.app {A : List Nat} {h : xw_A} {f : Nat → Option Nat} {L : List VT} {n b : Nat} {t : VT} (k : PdV A h f L) (hn : L.length = n) (hb : VerV A h b t) : PdV A h (va_up f n (some b)) (L ++ [t]) := fun i u q => by
  by_cases e : i = n
  · subst e
    rw [List.getElem?_append_right (by omega), hn, Nat.sub_self] at q
    obtain rfl : t = u := by simpa using q
    exact ⟨b, va_up_self _ _ _, hb⟩
  · have hi : i < (L ++ [t]).length := (List.getElem?_eq_some_iff.mp q).1
    rw [List.length_append, List.length_singleton] at hi
    rw [List.getElem?_append_left (by omega)] at q
    obtain ⟨c, h1, h2⟩ := k i u q
    exact ⟨c, by rw [va_up_ne _ _ e]; exact h1, h2⟩
theorem PdV.congr {A : List Nat} {h : xw_A} {f g : Nat → Option Nat} {L : List VT} (k : PdV A h f L) (e : ∀ i, i < L.length → g i = f i) : PdV A h g L := fun i t q => by
  obtain ⟨b, h1, h2⟩ := k i t q
  exact ⟨b, (e i (List.getElem?_eq_some_iff.mp q).1).trans h1, h2⟩
def sumE : List VT → Nat
  | [] => 0
  | t :: L => t.2.2 + sumE L
theorem sumE_app (L M : List VT) : sumE (L ++ M) = sumE L + sumE M := by
  induction L with
  | nil => simp [sumE]
  | cons t L ih => simp only [List.cons_append, sumE, ih]; omega
theorem sumE_take {L : List VT} {i : Nat} {t : VT} (q : L[i]? = some t) : sumE (L.take (i + 1)) = sumE (L.take i) + t.2.2 := by
  rw [List.take_succ, q, sumE_app]
  simp [sumE]
/-- a segment: its level and its versions -/
def SgV (A : List Nat) (h : xw_A) (a : Nat) (s : SG) : Prop := a ∉ A ∧ s.1 ≤ 5 ∧ s.2.length ≤ 24 ∧ ∃ (vs : Nat) (f : Nat → Option Nat), vs ∉ A ∧ h a = some (.inr (6, [.int (nI s.1), .ref vs, .int (nI (sumE s.2))])) ∧ h vs = some (oa s.2.length 10 f) ∧ PdV A h f s.2
theorem SgV.fr {A B : List Nat} {h h' : xw_A} {a : Nat} {s : SG} (k : SgV A h a s) (r : FrO B h h') (hB : ∀ q ∈ B, q ∈ A) : SgV A h' a s := by
  obtain ⟨h0, h1, h1b, vs, f, h2, e1, e2, h3⟩ := k
  exact ⟨h0, h1, h1b, vs, f, h2, r _ _ (fun z => h0 (hB _ z)) e1, r _ _ (fun z => h2 (hB _ z)) e2, h3.fr r hB⟩
def SgL (A : List Nat) (h : xw_A) (f : Nat → Option Nat) (S : List SG) : Prop := ∀ i s, S[i]? = some s → ∃ a, f i = some a ∧ SgV A h a s
theorem SgL.fr {A B : List Nat} {h h' : xw_A} {f : Nat → Option Nat} {S : List SG} (k : SgL A h f S) (r : FrO B h h') (hB : ∀ q ∈ B, q ∈ A) : SgL A h' f S := fun i t q => by
  obtain ⟨b, h1, h2⟩ := k i t q
  exact ⟨b, h1, h2.fr r hB⟩
theorem SgL.app {A : List Nat} {h : xw_A} {f : Nat → Option Nat} {L : List SG} {n b : Nat} {t : SG} (k : SgL A h f L) (hn : L.length = n) (hb : SgV A h b t) : SgL A h (va_up f n (some b)) (L ++ [t]) := fun i u q => by
  by_cases e : i = n
  · subst e
    rw [List.getElem?_append_right (by omega), hn, Nat.sub_self] at q
    obtain rfl : t = u := by simpa using q
    exact ⟨b, va_up_self _ _ _, hb⟩
  · have hi : i < (L ++ [t]).length := (List.getElem?_eq_some_iff.mp q).1
    rw [List.length_append, List.length_singleton] at hi
    rw [List.getElem?_append_left (by omega)] at q
    obtain ⟨c, h1, h2⟩ := k i u q
    exact ⟨c, by rw [va_up_ne _ _ e]; exact h1, h2⟩
def RwV (A : List Nat) (h : xw_A) (fr : Nat → Option Nat) (R : Nat → Option VT) : Prop := ∀ i, 1 ≤ i → i ≤ 24 → (fr i = none ∧ R i = none) ∨ ∃ a t, fr i = some a ∧ R i = some t ∧ VerV A h a t
theorem RwV.fr {A B : List Nat} {h h' : xw_A} {f : Nat → Option Nat} {R : Nat → Option VT} (k : RwV A h f R) (r : FrO B h h') (hB : ∀ q ∈ B, q ∈ A) : RwV A h' f R := fun i h1 h2 => by
  rcases k i h1 h2 with q | ⟨a, t, e1, e2, e3⟩
  · exact Or.inl q
  · exact Or.inr ⟨a, t, e1, e2, e3.fr r hB⟩
/-- all of it -/
def StV (A : List Nat) (h : xw_A) (fr fp fs fl : Nat → Option Nat) (pc sc lc : Nat) (R : Nat → Option VT) (P : List VT) (S : List SG) (L : List VT) : Prop := RwV A h fr R ∧ (P.length = pc ∧ PdV A h fp P) ∧ (S.length = sc ∧ SgL A h fs S) ∧ L.length = lc ∧ PdV A h fl L
theorem StV.fr {A B : List Nat} {h h' : xw_A} {fr fp fs fl : Nat → Option Nat} {pc sc lc : Nat} {R : Nat → Option VT} {P : List VT} {S : List SG} {L : List VT} (k : StV A h fr fp fs fl pc sc lc R P S L) (r : FrO B h h') (hB : ∀ q ∈ B, q ∈ A) : StV A h' fr fp fs fl pc sc lc R P S L := ⟨k.1.fr r hB, ⟨k.2.1.1, k.2.1.2.fr r hB⟩, ⟨k.2.2.1.1, k.2.2.1.2.fr r hB⟩, k.2.2.2.1, k.2.2.2.2.fr r hB⟩
/-- the version is its row's -/
def alv (R : Nat → Option VT) (t : VT) : Bool := match R t.2.1 with
  | some u => u.1 == t.1
  | none => false
theorem alv_some {R : Nat → Option VT} {t u : VT} (e : R t.2.1 = some u) : alv R t = (u.1 == t.1) := by rw [alv, e]
theorem alv_none {R : Nat → Option VT} {t : VT} (e : R t.2.1 = none) : alv R t = false := by rw [alv, e]
/-- a version is gathered -/
def gat (R : Nat → Option VT) (L : List VT) (t : VT) : List VT := if alv R t = true ∧ L.length < 24 then L ++ [t] else L
def gats (R : Nat → Option VT) (L ts : List VT) : List VT := ts.foldl (gat R) L
theorem gats_take {R : Nat → Option VT} {L ts : List VT} {i : Nat} {t : VT} (q : ts[i]? = some t) : gats R L (ts.take (i + 1)) = gat R (gats R L (ts.take i)) t := by
  rw [List.take_succ, q]
  simp [gats, List.foldl_append]
theorem gat_none {A : List Nat} {h : xw_A} {fr : Nat → Option Nat} {R : Nat → Option VT} {L : List VT} {t : VT} (k : RwV A h fr R) (h1 : 1 ≤ t.2.1) (h2 : t.2.1 ≤ 24) (z : fr (nI t.2.1).toNatClampNeg = none) : gat R L t = L := by
  rw [nI_clamp (by omega)] at z
  rcases k t.2.1 h1 h2 with ⟨-, q⟩ | ⟨a, u, e1, -⟩
  · rw [gat, alv_none q, if_neg (by simp)]
  · rw [z] at e1; cases e1
theorem row_at {A : List Nat} {h : xw_A} {fr : Nat → Option Nat} {R : Nat → Option VT} {r c : Nat} {n y : Int32} {x : Int32} {p q : Nat} (k : RwV A h fr R) (h1 : 1 ≤ r) (h2 : r ≤ 24) (z : fr (nI r).toNatClampNeg = some c) (e : h c = some (.inr (10, [.int n, .int x, .ref p, .ref q, .int y]))) : ∃ u : VT, R r = some u ∧ n = nI (u.1 + 1) ∧ u.1 < 1000 := by
  rw [nI_clamp (by omega)] at z
  rcases k r h1 h2 with ⟨e1, -⟩ | ⟨a, u, e1, e2, e3⟩
  · rw [z] at e1; cases e1
  · obtain rfl : c = a := Option.some.inj (z.symm.trans e1)
    exact ⟨u, e2, (e3.cell e).1, e3.2.1⟩
theorem gat_ne {A : List Nat} {h : xw_A} {fr : Nat → Option Nat} {R : Nat → Option VT} {L : List VT} {t : VT} {c : Nat} {n y x : Int32} {p q : Nat} (k : RwV A h fr R) (h1 : 1 ≤ t.2.1) (h2 : t.2.1 ≤ 24) (z : fr (nI t.2.1).toNatClampNeg = some c) (e : h c = some (.inr (10, [.int n, .int x, .ref p, .ref q, .int y]))) (hn : ¬ n = nI (t.1 + 1)) : gat R L t = L := by
  obtain ⟨u, e1, e2, -⟩ := row_at k h1 h2 z e
  have h9 : ¬ u.1 = t.1 := fun q => hn (by rw [e2, q])
  rw [gat, alv_some e1, if_neg (by simp [h9])]
theorem gat_full {R : Nat → Option VT} {L : List VT} {t : VT} (h1 : 24 ≤ L.length) : gat R L t = L := by
  rw [gat, if_neg (fun z => absurd z.2 (by omega))]
theorem gat_yes {A : List Nat} {h : xw_A} {fr : Nat → Option Nat} {R : Nat → Option VT} {L : List VT} {t : VT} {c : Nat} {n y x : Int32} {p q : Nat} (k : RwV A h fr R) (h1 : 1 ≤ t.2.1) (h2 : t.2.1 ≤ 24) (ht : t.1 < 1000) (z : fr (nI t.2.1).toNatClampNeg = some c) (e : h c = some (.inr (10, [.int n, .int x, .ref p, .ref q, .int y]))) (hn : n = nI (t.1 + 1)) (hl : L.length < 24) : gat R L t = L ++ [t] := by
  obtain ⟨u, e1, e2, e3⟩ := row_at k h1 h2 z e
  have h9 := (nI_eq (a := u.1 + 1) (b := t.1 + 1) (by omega) (by omega)).mp (e2.symm.trans hn)
  have h8 : u.1 = t.1 := by omega
  rw [gat, alv_some e1, if_pos ⟨by simp [h8], hl⟩]
/-- a segment is added -/
def addS (lv : Nat) (L : List VT) (S : List SG) : List SG := if 0 < L.length ∧ S.length < 512 then S ++ [(lv, L)] else S
def addN (L : List VT) (S : List SG) (n : Nat) : Nat := if 0 < L.length ∧ S.length < 512 then n + 1 else n
/-- one segment of a merge: what stays, what is gathered -/
def mgs (R : Nat → Option VT) (lo hi : Nat) (st : List SG × List VT) (s : SG) : List SG × List VT := if s.1 < lo ∨ hi < s.1 then (st.1 ++ [s], st.2) else (st.1, gats R st.2 s.2)
def mgl (R : Nat → Option VT) (lo hi : Nat) (S : List SG) : List SG × List VT := S.foldl (mgs R lo hi) ([], [])
theorem mgl_take {R : Nat → Option VT} {lo hi : Nat} {S : List SG} {i : Nat} {s : SG} (q : S[i]? = some s) : mgl R lo hi (S.take (i + 1)) = mgs R lo hi (mgl R lo hi (S.take i)) s := by
  rw [List.take_succ, q]
  simp [mgl, List.foldl_append]
def mrgS (R : Nat → Option VT) (lo hi lv : Nat) (S : List SG) : List SG := addS lv (mgl R lo hi S).2 (mgl R lo hi S).1
def mrgN (R : Nat → Option VT) (lo hi : Nat) (S : List SG) (n : Nat) : Nat := addN (mgl R lo hi S).2 (mgl R lo hi S).1 n
/-- how many have that level -/
def cntG (lv : Nat) : List SG → Nat
  | [] => 0
  | s :: S => (if s.1 = lv then 1 else 0) + cntG lv S
theorem cntG_app (lv : Nat) (S T : List SG) : cntG lv (S ++ T) = cntG lv S + cntG lv T := by
  induction S with
  | nil => simp [cntG]
  | cons t L ih => simp only [List.cons_append, cntG, ih]; omega
theorem cntG_take {lv : Nat} {S : List SG} {i : Nat} {s : SG} (q : S[i]? = some s) : cntG lv (S.take (i + 1)) = cntG lv (S.take i) + (if s.1 = lv then 1 else 0) := by
  rw [List.take_succ, q, cntG_app]
  simp [cntG]
theorem cntG_le (lv : Nat) (S : List SG) : cntG lv S ≤ S.length := by
  induction S with
  | nil => simp [cntG]
  | cons t L ih => simp only [cntG, List.length_cons]; split <;> omega
/-- the levels of a flush, from l on, d of them -/
def fls (R : Nat → Option VT) (mo : Nat) : Nat → Nat → List SG × Nat → List SG × Nat
  | 0, _, X => X
  | d + 1, l, X => fls R mo d (l + 1) (if mo < cntG l X.1 then (mrgS R l l (l + 1) X.1, mrgN R l l X.1 X.2) else X)
def fluS (R : Nat → Option VT) (mo : Nat) (P : List VT) (S : List SG) (n : Nat) : List SG × Nat := fls R mo 5 0 (addS 0 (gats R [] P) S, addN (gats R [] P) S n)
/-- the highest level -/
def hiL : List SG → Nat → Nat
  | [], m => m
  | s :: S, m => hiL S (max m s.1)
theorem hiL_take {S : List SG} {m i : Nat} {s : SG} (q : S[i]? = some s) : hiL (S.take (i + 1)) m = max (hiL (S.take i) m) s.1 := by
  induction S generalizing m i with
  | nil => simp at q
  | cons t S ih =>
    cases i with
    | zero =>
      obtain rfl : t = s := by simpa using q
      simp [hiL]
    | succ i =>
      simp only [List.take_succ_cons, hiL]
      exact ih (by simpa using q)
/-- the store st with its lists -/
def StoG (A : List Nat) (st s1 s2 s3 s4 : Nat) (fr : Nat → Option Nat) (R : Nat → Option VT) (P : List VT) (S : List SG) (nv ns : Nat) (h : xw_A) : Prop := ∃ (fp fs fl : Nat → Option Nat) (pc sc lc : Nat) (Lv : List VT), StoC A st s1 s2 s3 s4 fr fp fs fl pc sc lc (nI (sumE P)) (nI nv) (nI ns) h ∧ StV A h fr fp fs fl pc sc lc R P S Lv
theorem StoG.r {A : List Nat} {st s1 s2 s3 s4 : Nat} {fr : Nat → Option Nat} {R : Nat → Option VT} {P : List VT} {S : List SG} {nv ns : Nat} {h : xw_A} (k : StoG A st s1 s2 s3 s4 fr R P S nv ns h) : StoR A st s1 s2 s3 s4 fr h := by
  obtain ⟨fp, fs, fl, pc, sc, lc, Lv, K, -⟩ := k
  exact K.r
theorem StoG.fr {A B : List Nat} {st s1 s2 s3 s4 : Nat} {fr : Nat → Option Nat} {R : Nat → Option VT} {P : List VT} {S : List SG} {nv ns : Nat} {h h' : xw_A} (k : StoG A st s1 s2 s3 s4 fr R P S nv ns h) (r : FrO B h h') (hB : ∀ q ∈ B, q ∈ A) (n : st ∉ B ∧ s1 ∉ B ∧ s2 ∉ B ∧ s3 ∉ B ∧ s4 ∉ B) (hx : ∀ q ∈ B, ∃ e, h' q = some e) : StoG A st s1 s2 s3 s4 fr R P S nv ns h' := by
  obtain ⟨fp, fs, fl, pc, sc, lc, Lv, K, V⟩ := k
  exact ⟨fp, fs, fl, pc, sc, lc, Lv, K.fr r hB n hx, V.fr r hB⟩
theorem sumE_le : ∀ {P : List VT}, (∀ (i : Nat) (t : VT), P[i]? = some t → t.2.2 < 1000) → sumE P ≤ 1000 * P.length := by
  intro P
  induction P with
  | nil => intro _; exact Nat.le_refl _
  | cons t P ih =>
    intro h
    have h0 := h 0 t rfl
    have h1 := ih (fun i s q => h (i + 1) s q)
    simp only [sumE, List.length_cons]
    omega
theorem PdV.sum {A : List Nat} {h : xw_A} {f : Nat → Option Nat} {P : List VT} (k : PdV A h f P) : sumE P ≤ 1000 * P.length := sumE_le (fun i t q => (k i t q).elim (fun _ z => z.2.2.2.1))
/-- a version becomes pending -/
def putP (P : List VT) (t : VT) : List VT := if 0 < t.2.2 ∧ P.length < 201 then P ++ [t] else P
theorem putP_len {P : List VT} {t : VT} (h : P.length ≤ 201) : (putP P t).length ≤ 201 := by
  rw [putP]
  split
  · simp only [List.length_append, List.length_singleton]; omega
  · exact h
theorem put_G {A B : List Nat} {h h' : xw_A} {st s1 s2 s3 s4 : Nat} {fr fp fs fl fp' : Nat → Option Nat} {pc sc lc nv ns pc' r a p q c : Nat} {pe' vm' nn : Int32} {R : Nat → Option VT} {P : List VT} {S : List SG} {Lv : List VT} (V : StV A h fr fp fs fl pc sc lc R P S Lv) (r9 : FrO B h h') (hB : ∀ q ∈ B, q ∈ A) (K1 : StoC A st s1 s2 s3 s4 (va_up fr r (some a)) fp' fs fl pc' sc lc pe' vm' (nI ns) h') (ea : h' a = some (.inr (10, [.int nn, .int (nI r), .ref p, .ref q, .int (nI c)])))
    (hT : nn = nI nv + 1 ∧ vm' = nI nv + 1 ∧ ((¬ nI c ≤ 0 ∧ pc < 201 ∧ fp' = va_up fp pc (some a) ∧ pc' = pc + 1 ∧ pe' = nI (sumE P) + nI c) ∨ ((nI c ≤ 0 ∨ 201 ≤ pc) ∧ fp' = fp ∧ pc' = pc ∧ pe' = nI (sumE P)))) (hc : c < 1000) (hn : nv < 999) (hr1 : 1 ≤ r) (hr2 : r ≤ 24) :
    StoC A st s1 s2 s3 s4 (va_up fr r (some a)) fp' fs fl pc' sc lc (nI (sumE (putP P (nv, r, c)))) (nI (nv + 1)) (nI ns) h' ∧ StV A h' (va_up fr r (some a)) fp' fs fl pc' sc lc (va_up R r (some (nv, r, c))) (putP P (nv, r, c)) S Lv := by
  have haA : a ∉ A := (K1.2.2.2.2.2.2.2.2.1 r a (va_up_self _ _ _)).1
  obtain ⟨t1, t2, t3⟩ := hT
  rw [nI_1] at t1 t2
  subst t1
  subst t2
  have hv : VerV A h' a (nv, r, c) := ⟨haA, (by show nv < 1000; omega), hc, p, q, ea, hr1, hr2⟩
  have V2 := V.fr r9 hB
  have hl := V.2.1.1
  have hR : RwV A h' (va_up fr r (some a)) (va_up R r (some (nv, r, c))) := fun i h1 h2 => by
    by_cases e : i = r
    · rw [e]; exact Or.inr ⟨a, _, va_up_self _ _ _, va_up_self _ _ _, hv⟩
    · rw [va_up_ne _ _ e, va_up_ne _ _ e]; exact V2.1 i h1 h2
  rcases t3 with ⟨q1, q2, rfl, rfl, rfl⟩ | ⟨q1, rfl, rfl, rfl⟩
  · have hc0 : 0 < c := Nat.pos_of_ne_zero (fun z => q1 (by rw [z]; decide))
    have e : putP P (nv, r, c) = P ++ [(nv, r, c)] := by rw [putP, if_pos ⟨hc0, by omega⟩]
    have es : nI (sumE P) + nI c = nI (sumE (putP P (nv, r, c))) := by rw [e, sumE_app, nI_add]; rfl
    rw [es] at K1
    refine ⟨K1, hR, ?_, V2.2.2⟩
    rw [e]
    exact ⟨by rw [List.length_append, hl]; rfl, V2.2.1.2.app hl hv⟩
  · have e : putP P (nv, r, c) = P := by
      rw [putP, if_neg]
      intro z
      rcases q1 with q | q
      · exact absurd q (nI_nle z.1 (by omega))
      · have := z.2; omega
    rw [e]
    exact ⟨K1, hR, V2.2⟩
/-- what is left to do for a new version -/
def GvR (R : Nat → Option VT) (mo li : Nat) (P : List VT) (S : List SG) (ns : Nat) (P2 : List VT) (S2 : List SG) (n2 : Nat) : Prop := (li < sumE P ∧ P2 = [] ∧ S2 = (fluS R mo P S ns).1 ∧ n2 = (fluS R mo P S ns).2) ∨ (¬ li < sumE P ∧ P2 = P ∧ S2 = S ∧ n2 = ns)
theorem clr_G {A : List Nat} {h : xw_A} {fr fp fs fl : Nat → Option Nat} {pc sc lc r : Nat} {R : Nat → Option VT} {P : List VT} {S : List SG} {Lv : List VT} (V : StV A h fr fp fs fl pc sc lc R P S Lv) : StV A h (va_up fr r none) fp fs fl pc sc lc (va_up R r none) P S Lv := ⟨fun i h1 h2 => by
    by_cases e : i = r
    · rw [e]; exact Or.inl ⟨va_up_self _ _ _, va_up_self _ _ _⟩
    · rw [va_up_ne _ _ e, va_up_ne _ _ e]; exact V.1 i h1 h2, V.2⟩
set_option maxHeartbeats 2000000 in
theorem g_gatherLiveV {G : xw_G} {F L : Nat} {h : xw_A} {a : Nat} {tt : VT} {A : List Nat} {st s1 s2 s3 s4 : Nat} {fr fp fs fl : Nat → Option Nat} {pc sc lc : Nat} {pe vm sm : Int32} (K : StoC A st s1 s2 s3 s4 fr fp fs fl pc sc lc pe vm sm h) {R : Nat → Option VT} {P : List VT} {S : List SG} {Lv : List VT} {sd : Nat} (V : StV A h fr fp fs fl pc sd lc R P S Lv) (SA : StA A st s1 s2 s3 s4) (hv : VerOK A h a) (hvv : VerV A h a tt) (hF : 1 ≤ F) (hL : 20 ≤ L) :
    xw_Met G m_Store_gatherLive F L 0 0 [.ref st, .ref a] h (fun v h' => v = none ∧ (∃ (fl' : Nat → Option Nat) (lc' : Nat), StoC A st s1 s2 s3 s4 fr fp fs fl' pc sc lc' pe vm sm h' ∧ StV A h' fr fp fs fl' pc sd lc' R P S (gat R Lv tt)) ∧ FrO [st, s4] h h') (fun _ _ => False) := by
  refine xw_Met.of rfl (by decide) (Nat.le_of_ble_eq_true rfl) ?_
  have K0 := K
  obtain ⟨e_st, e_s1, e_s2, e_s3, e_s4, hpc, hsc, hlc, hR, hP, hS, hV, hAO⟩ := K
  obtain ⟨va, hv1, hv2, vp, vq, ev, hr1, hr2⟩ := id hvv
  have r0 : FrO [st, s4] h h := FrO.rf
  refine s_Store_gatherLive_0 (pending_a0 := some s2) (segments_a0 := some s3) (live_a0 := some s4) (first_a1 := some vp) (second_a1 := some vq) e_st ev e_s1 (vp_in_nI (by omega) (by omega)) (fun z_1 => ?_) (fun a_2 z_3 => ?_)
  · skip
    refine s_Store_gatherLive_29 ?_
    refine s_Store_gatherLive_30 (fun z_4 => ?_) (fun z => absurd z (by decide))
    refine s_Store_gatherLive_67 ?_
    have g9 : gat R Lv tt = Lv := gat_none V.1 hr1 hr2 z_1
    rw [g9]
    exact ⟨rfl, ⟨fl, lc, K0, V⟩, r0⟩
  · skip
    obtain ⟨-, wn, we, wr, wp, wq, ew, -⟩ := hR _ _ z_3
    have rz9 := z_3
    rw [z_3]
    refine s_Store_gatherLive_14 (first_a2 := some wp) (second_a2 := some wq) (first_a1 := some vp) (second_a1 := some vq) ew ev (fun z_5 => ?_) (fun z_6 => ?_)
    · skip
      refine s_Store_gatherLive_29 ?_
      refine s_Store_gatherLive_30 (fun z_7 => ?_) (fun z => absurd z (by decide))
      refine s_Store_gatherLive_67 ?_
      have g9 : gat R Lv tt = Lv := gat_ne V.1 hr1 hr2 rz9 ew z_5
      rw [g9]
      exact ⟨rfl, ⟨fl, lc, K0, V⟩, r0⟩
    · skip
      refine s_Store_gatherLive_25 ?_
      refine s_Store_gatherLive_30 (fun z => absurd z (by decide)) (fun z_8 => ?_)
      refine s_Store_gatherLive_35 (rows_a0 := some s1) (pending_a0 := some s2) (segments_a0 := some s3) e_st e_s4 (fun z_9 => ?_) (fun z_10 => ?_)
      · skip
        refine s_Store_gatherLive_67 ?_
        have g9 : gat R Lv tt = Lv := gat_full (by rw [V.2.2.2.1]; exact Nat.le_of_not_lt (fun q => absurd z_9 (nI_ge (b := 24) q (by decide))))
        rw [g9]
        exact ⟨rfl, ⟨fl, lc, K0, V⟩, r0⟩
      · skip
        have hl1 : lc < 24 := Nat.lt_of_not_le (fun q => z_10 (nI_le q (by omega)))
        refine s_Store_gatherLive_47 (rows_a0 := some s1) (pending_a0 := some s2) (segments_a0 := some s3) (first_a1 := some vp) (second_a1 := some vq) e_st e_s4 (vp_in_nI hl1 (by decide)) ev ?_
        refine x_u2 (fun h_11 e_12 f_13 h_14 e_15 f_16 => ?_)
        have e_17 := (f_13 st (xw_neC e_st e_s4 (by simp))).trans e_st
        have e_18 := (f_13 s1 (xw_neC e_s1 e_s4 (by simp))).trans e_s1
        have e_19 := (f_13 s2 (xw_neC e_s2 e_s4 (by simp))).trans e_s2
        have e_20 := (f_13 s3 (xw_neC e_s3 e_s4 (by simp))).trans e_s3
        have e_21 := (f_13 a (xw_neC ev e_s4 (by simp))).trans ev
        have r_22 := r0.up (by simp) f_13
        have e_23 := (f_16 s1 (xw_neC e_18 e_17 (by simp))).trans e_18
        have e_24 := (f_16 s2 (xw_neC e_19 e_17 (by simp))).trans e_19
        have e_25 := (f_16 s3 (xw_neC e_20 e_17 (by simp))).trans e_20
        have e_26 := (f_16 s4 (xw_neC e_12 e_17 (by simp))).trans e_12
        have e_27 := (f_16 a (xw_neC ev e_st (by simp))).trans e_21
        have r_28 := r_22.up (by simp) f_16
        refine s_Store_gatherLive_67 ?_
        have g9 : gat R Lv tt = Lv ++ [tt] := gat_yes V.1 hr1 hr2 hv1 rz9 ew z_6 (by rw [V.2.2.2.1]; exact hl1)
        rw [g9]
        rw [nI_1] at e_15
        rw [nI_clamp (by omega)] at e_26
        have V9 := V.fr r_28 (fun q hq => (List.mem_cons.mp hq).elim (fun z => by rw [z]; exact SA.1) (fun z => by rw [List.mem_singleton.mp z]; exact SA.2.2.2.2))
        exact ⟨rfl, ⟨_, lc + 1, ⟨e_15, e_23, e_24, e_25, e_26, hpc, hsc, by omega, allR hR r_28 (fun q hq => (List.mem_cons.mp hq).elim (fun z => by rw [z]; exact SA.1) (fun z => by rw [List.mem_singleton.mp z]; exact SA.2.2.2.2)), allV hP r_28 (fun q hq => (List.mem_cons.mp hq).elim (fun z => by rw [z]; exact SA.1) (fun z => by rw [List.mem_singleton.mp z]; exact SA.2.2.2.2)), allS hS r_28 (fun q hq => (List.mem_cons.mp hq).elim (fun z => by rw [z]; exact SA.1) (fun z => by rw [List.mem_singleton.mp z]; exact SA.2.2.2.2)), allV (allU hV hv) r_28 (fun q hq => (List.mem_cons.mp hq).elim (fun z => by rw [z]; exact SA.1) (fun z => by rw [List.mem_singleton.mp z]; exact SA.2.2.2.2)), hAO.fr r_28 (exC e_15 (exC e_26 exN))⟩, V9.1, V9.2.1, V9.2.2.1, by rw [List.length_append, V9.2.2.2.1]; rfl, V9.2.2.2.2.app V9.2.2.2.1 (hvv.fr r_28 (fun q hq => (List.mem_cons.mp hq).elim (fun z => by rw [z]; exact SA.1) (fun z => by rw [List.mem_singleton.mp z]; exact SA.2.2.2.2)))⟩, r_28⟩
set_option maxHeartbeats 2000000 in
theorem lp_gatherAllV {G : xw_G} {F L bc bs : Nat} {pr : Option Value → xw_A → Prop} {px : String → xw_A → Prop} {h0 : xw_A} {A : List Nat} {st s1 s2 s3 s4 : Nat} {fr fp fs : Nat → Option Nat} {pc sc : Nat} {pe vm sm : Int32} {a vs n lv : Nat} {se : Int32} {f : Nat → Option Nat} {R : Nat → Option VT} {P : List VT} {S : List SG} {L0 ts : List VT} {sd : Nat} (SA : StA A st s1 s2 s3 s4) (haA : a ∉ A) (hvA : vs ∉ A) (hn : n ≤ 24) (hts : ts.length = n) (hF : 2 ≤ F) (hL : 43 ≤ L) (kk : ∀ (h : xw_A) (fl : Nat → Option Nat) (lc : Nat), StoC A st s1 s2 s3 s4 fr fp fs fl pc sc lc pe vm sm h → StV A h fr fp fs fl pc sd lc R P S (gats R L0 ts) → FrO [st, s4] h0 h → pr none h) :
    ∀ (dd i : Nat) (h : xw_A) (fl : Nat → Option Nat) (lc : Nat), i + dd = n → StoC A st s1 s2 s3 s4 fr fp fs fl pc sc lc pe vm sm h → StV A h fr fp fs fl pc sd lc R P S (gats R L0 (ts.take i)) → h a = some (.inr (6, [.int (nI lv), .ref vs, .int se])) → h vs = some (oa n 10 f) → (∀ t, t < n → ∃ b, f t = some b ∧ VerOK A h b) → PdV A h f ts → FrO [st, s4] h0 h → xw G m_Store_gatherAllLive F L bc bs pr px 2 [some (.ref st), some (.ref a), some (.int (nI i))] [] h := by
  intro dd
  induction dd with
  | zero =>
    intro i h fl lc hi K V e_a e_vs hv hvp r0
    obtain rfl : i = n := by omega
    have K0 := K
    obtain ⟨e_st, e_s1, e_s2, e_s3, e_s4, hpc, hsc, hlc, hR, hP, hS, hV, hAO⟩ := K0
    refine s_Store_gatherAllLive_2 e_a e_vs (fun z_1 => ?_) (fun z => absurd (nI_le (Nat.le_refl _) (by omega)) z)
    refine s_Store_gatherAllLive_27 ?_
    exact kk _ _ _ K (by rw [List.take_of_length_le (Nat.le_of_eq hts)] at V; exact V) r0
  | succ dd ih =>
    intro i h fl lc hi K V e_a e_vs hv hvp r0
    have K0 := K
    obtain ⟨e_st, e_s1, e_s2, e_s3, e_s4, hpc, hsc, hlc, hR, hP, hS, hV, hAO⟩ := K0
    refine s_Store_gatherAllLive_2 e_a e_vs (fun z => absurd z (nI_ge (b := n) (show i < n by omega) (by omega))) (fun z_1 => ?_)
    refine s_Store_gatherAllLive_11 e_a e_vs (vp_in_nI (by omega) (by omega)) ?_
    obtain ⟨tt, htt⟩ : ∃ tt, ts[i]? = some tt := ⟨_, List.getElem?_eq_getElem (by omega)⟩
    obtain ⟨b, hb, hbv⟩ := hv i (by omega)
    obtain ⟨b2, hb2, hbt⟩ := hvp i tt htt
    obtain rfl : b = b2 := Option.some.inj (hb.symm.trans hb2)
    rw [nI_clamp (by omega), hb]
    refine x_callV (As := [.ref b]) (b := st) (rest := []) (F1 := 1) (L1 := 20) (mc := 0) (ms := 0) d_Store_gatherAllLive_18 cV_Store_54 (g_gatherLiveV K V SA hbv hbt (by omega) (by omega)) e_st ⟨by decide, rfl⟩ ⟨by omega, by show 8 + (4 + 11) + 20 ≤ _; omega⟩ ⟨by omega, by omega⟩ (Nat.le_of_ble_eq_true rfl) (fun v_8 h_7 p_9 => ?_)
    obtain ⟨rfl, ⟨fl_2, lc_3, K_4, V_5⟩, fr_6⟩ := p_9
    have e_10 := fr_6 a _ (by simp only [List.mem_cons, List.not_mem_nil, or_false, not_or]; exact ⟨fun z => haA (by rw [z]; exact SA.1), fun z => haA (by rw [z]; exact SA.2.2.2.2)⟩) e_a
    have e_11 := fr_6 vs _ (by simp only [List.mem_cons, List.not_mem_nil, or_false, not_or]; exact ⟨fun z => hvA (by rw [z]; exact SA.1), fun z => hvA (by rw [z]; exact SA.2.2.2.2)⟩) e_vs
    have r_12 := r0.trans fr_6
    refine s_Store_gatherAllLive_21 ?_
    rw [nI_1]
    exact ih (i + 1) _ _ _ (by omega) K_4 (by rw [gats_take htt]; exact V_5) e_10 e_11 (allV hv fr_6 (fun q hq => (List.mem_cons.mp hq).elim (fun z => by rw [z]; exact SA.1) (fun z => by rw [List.mem_singleton.mp z]; exact SA.2.2.2.2))) (hvp.fr fr_6 (fun q hq => (List.mem_cons.mp hq).elim (fun z => by rw [z]; exact SA.1) (fun z => by rw [List.mem_singleton.mp z]; exact SA.2.2.2.2))) r_12
set_option maxHeartbeats 400000 in
theorem g_gatherAllV {G : xw_G} {F L : Nat} {h : xw_A} {a : Nat} {ss : SG} {A : List Nat} {st s1 s2 s3 s4 : Nat} {fr fp fs fl : Nat → Option Nat} {pc sc lc : Nat} {pe vm sm : Int32} (K : StoC A st s1 s2 s3 s4 fr fp fs fl pc sc lc pe vm sm h) {R : Nat → Option VT} {P : List VT} {S : List SG} {Lv : List VT} {sd : Nat} (V : StV A h fr fp fs fl pc sd lc R P S Lv) (SA : StA A st s1 s2 s3 s4) (hs : SegOK A h a) (hsv : SgV A h a ss) (hF : 2 ≤ F) (hL : 43 ≤ L) :
    xw_Met G m_Store_gatherAllLive F L 0 0 [.ref st, .ref a] h (fun v h' => v = none ∧ (∃ (fl' : Nat → Option Nat) (lc' : Nat), StoC A st s1 s2 s3 s4 fr fp fs fl' pc sc lc' pe vm sm h' ∧ StV A h' fr fp fs fl' pc sd lc' R P S (gats R Lv ss.2)) ∧ FrO [st, s4] h h') (fun _ _ => False) := by
  refine xw_Met.of rfl (by decide) (Nat.le_of_ble_eq_true rfl) ?_
  obtain ⟨haA, vs, n, lv, se, f, e_a, hlv, hvA, e_vs, hn, hv⟩ := hs
  obtain ⟨-, -, -, vs2, f2, -, e_a2, e_v2, hpd⟩ := hsv
  have e3 := e_a.symm.trans e_a2
  simp only [Option.some.injEq, Sum.inr.injEq, Prod.mk.injEq, List.cons.injEq, Value.int.injEq, Value.ref.injEq, true_and, and_true] at e3
  obtain ⟨-, rfl, -⟩ := e3
  have e4 := e_vs.symm.trans e_v2
  simp only [oa, Option.some.injEq, Sum.inl.injEq, Sum.inr.injEq, Prod.mk.injEq, true_and] at e4
  obtain ⟨hnl, rfl⟩ := e4
  replace hnl := hnl.symm
  refine s_Store_gatherAllLive_0 ?_
  exact lp_gatherAllV SA haA hvA hn hnl (by omega) (by omega) (fun h2 fl lc K2 V2 r2 => ⟨rfl, ⟨fl, lc, K2, V2⟩, r2⟩) n 0 _ _ _ (Nat.zero_add _) K V e_a e_vs hv hpd FrO.rf
set_option maxHeartbeats 1000000 in
theorem lp_segsOfV {G : xw_G} {F L bc bs : Nat} {pr : Option Value → xw_A → Prop} {px : String → xw_A → Prop} {h : xw_A} {y : Nat} {A : List Nat} {st s1 s2 s3 s4 : Nat} {fr fp fs fl : Nat → Option Nat} {pc sc lc : Nat} {pe vm sm : Int32} (K : StoC A st s1 s2 s3 s4 fr fp fs fl pc sc lc pe vm sm h) {R : Nat → Option VT} {P : List VT} {S : List SG} {Lv : List VT} (V : StV A h fr fp fs fl pc sc lc R P S Lv) (hy : y ≤ 5) (hSl : S.length = sc) (kk : pr (some (.int (nI (cntG y S)))) h) :
    ∀ (dd i : Nat) (r : Nat), i + dd = sc → r = cntG y (S.take i) → xw G m_Store_segmentsOf F L bc bs pr px 4 [some (.ref st), some (.int (nI y)), some (.int (nI r)), some (.int (nI i))] [] h := by
  obtain ⟨e_st, e_s1, e_s2, e_s3, e_s4, hpc, hsc, hlc, hR, hP, hS, hV, hAO⟩ := K
  intro dd
  induction dd with
  | zero =>
    intro i r hi hp
    obtain rfl : i = sc := by omega
    refine s_Store_segmentsOf_4 (rows_a0 := some s1) (pending_a0 := some s2) (segments_a0 := some s3) (live_a0 := some s4) e_st (fun z_1 => ?_) (fun z => absurd (nI_le (Nat.le_refl _) (by omega)) z)
    refine s_Store_segmentsOf_34 ?_
    rw [hp, List.take_of_length_le (Nat.le_of_eq hSl)]; exact kk
  | succ dd ih =>
    intro i r hi hp
    refine s_Store_segmentsOf_4 (rows_a0 := some s1) (pending_a0 := some s2) (segments_a0 := some s3) (live_a0 := some s4) e_st (fun z => absurd z (nI_ge (b := sc) (show i < sc by omega) (by omega))) (fun z_1 => ?_)
    obtain ⟨b, hb, -, vs, vn, lv, se, vf, eb, hlv5, -⟩ := hS i (by omega)
    obtain ⟨ss, hss⟩ : ∃ ss, S[i]? = some ss := ⟨_, List.getElem?_eq_getElem (by omega)⟩
    obtain ⟨b2, hb2, -, hl5, -, vs2, f2, -, eb2, -⟩ := V.2.2.1.2 i ss hss
    obtain rfl : b = b2 := Option.some.inj (hb.symm.trans hb2)
    have e3 := eb.symm.trans eb2
    simp only [Option.some.injEq, Sum.inr.injEq, Prod.mk.injEq, List.cons.injEq, Value.int.injEq, Value.ref.injEq, true_and, and_true] at e3
    have hlv : lv = ss.1 := (nI_eq (by omega) (by omega)).mp e3.1
    refine s_Store_segmentsOf_12 (g17 := b) (rows_a0 := some s1) (pending_a0 := some s2) (live_a0 := some s4) (versions_g17 := some vs) e_st e_s3 (vp_in_nI (by omega) (by omega)) (by rw [nI_clamp (by omega)]; exact hb) eb (fun z9 => ?_) (fun z9 => ?_)
    · skip
      refine s_Store_segmentsOf_28 ?_
      simp only [nI_1]
      exact ih (i + 1) _ (by omega) (by rw [cntG_take hss, if_neg (fun q => z9 (by rw [hlv, q])), hp, Nat.add_zero])
    · skip
      refine s_Store_segmentsOf_25 ?_
      refine s_Store_segmentsOf_28 ?_
      simp only [nI_1]
      exact ih (i + 1) _ (by omega) (by rw [cntG_take hss, if_pos ((hlv.symm.trans ((nI_eq (by omega) (by omega)).mp z9))), hp])
set_option maxHeartbeats 400000 in
theorem g_segsOfV {G : xw_G} {F L : Nat} {h : xw_A} {y : Nat} {A : List Nat} {st s1 s2 s3 s4 : Nat} {fr fp fs fl : Nat → Option Nat} {pc sc lc : Nat} {pe vm sm : Int32} (K : StoC A st s1 s2 s3 s4 fr fp fs fl pc sc lc pe vm sm h) {R : Nat → Option VT} {P : List VT} {S : List SG} {Lv : List VT} (V : StV A h fr fp fs fl pc sc lc R P S Lv) (hy : y ≤ 5) (hF : 1 ≤ F) (hL : 20 ≤ L) :
    xw_Met G m_Store_segmentsOf F L 0 0 [.ref st, .int (nI y)] h (fun v h' => v = some (.int (nI (cntG y S))) ∧ h = h') (fun _ _ => False) := by
  refine xw_Met.of rfl (by decide) (Nat.le_of_ble_eq_true rfl) ?_
  refine s_Store_segmentsOf_0 ?_
  exact lp_segsOfV K V hy V.2.2.1.1 ⟨rfl, rfl⟩ _ 0 0 (Nat.zero_add _) rfl
set_option maxHeartbeats 2000000 in
theorem lp_segInitV {G : xw_G} {F L bc bs : Nat} {pr : Option Value → xw_A → Prop} {px : String → xw_A → Prop} {hb : xw_A} {A : List Nat} {a s4 n vs : Nat} {lv : Int32} {fl : Nat → Option Nat} {ts : List VT} (hts : ts.length = n) (hpd : PdV A hb fl ts) (hn : n ≤ 24) (hba : hb a = some (.inr (6, [.int 0, .null, .int 0]))) (hbv : hb vs = none) (hb4 : hb s4 = some (oa 24 10 fl))
    (kk : ∀ (h : xw_A) (f : Nat → Option Nat), h a = some (.inr (6, [.int lv, .ref vs, .int (nI (sumE ts))])) → h vs = some (oa n 10 f) → (∀ i, i < n → f i = fl i) → FrO [a] hb h → pr none h) :
    ∀ (d i : Nat) (h : xw_A) (f : Nat → Option Nat) (r : Nat), i + d = n → r = sumE (ts.take i) → h a = some (.inr (6, [.int lv, .ref vs, .int 0])) → h vs = some (oa n 10 f) → (∀ t, t < i → f t = fl t) → FrO [a] hb h → xw G m_Segment_init F L bc bs pr px 23 [some (.ref a), none, some (.ref s4), some (.int (nI n)), some (.int (nI r)), some (.int (nI i))] [] h := by
  have n4a : s4 ≠ a := xw_neC hb4 hba (by simp)
  have n4v : s4 ≠ vs := xw_neN hb4 hbv
  intro d
  induction d with
  | zero =>
    intro i h f r hi hr e_a e_vs hf r0
    obtain rfl : i = n := by omega
    refine s_Segment_init_23 (fun _ => ?_) (fun z => absurd (nI_le (Nat.le_refl _) (by omega)) z)
    refine s_Segment_init_58 (versions_a0 := some vs) e_a ?_
    have nva : vs ≠ a := xw_neC e_vs e_a (by simp)
    rw [List.take_of_length_le (Nat.le_of_eq hts)] at hr
    rw [hr]
    exact kk _ f (xw_up_s _ _ _) ((xw_up_n _ _ nva).trans e_vs) hf (r0.up (by simp) (fun q hq => xw_up_n _ _ hq))
  | succ d ih =>
    intro i h f r hi hr e_a e_vs hf r0
    refine s_Segment_init_23 (fun z => absurd z (nI_ge (b := n) (show i < n by omega) (by omega))) (fun _ => ?_)
    obtain ⟨tt, htt⟩ : ∃ tt, ts[i]? = some tt := ⟨_, List.getElem?_eq_getElem (by omega)⟩
    obtain ⟨b, hb1, hb2⟩ := hpd i tt htt
    obtain ⟨-, -, -, vp, vq, ev, -⟩ := id hb2
    have nba : b ≠ a := xw_neC ev hba (by simp)
    have e_4 := r0 s4 _ (by simp [n4a]) hb4
    have e_b := r0 b _ (by simp [nba]) ev
    refine s_Segment_init_29 (g38 := b) (g45 := b) (first_g38 := some vp) (second_g38 := some vq) (first_g45 := some vp) (second_g45 := some vq) e_a e_4 (vp_in_nI (by omega) (by decide)) (by rw [nI_clamp (by omega)]; exact hb1) e_vs (vp_in_nI (by omega) (by omega)) e_b (vp_in_nI (by omega) (by decide)) (by rw [nI_clamp (by omega)]; exact hb1) n4v e_b ?_
    have nav : a ≠ vs := xw_neC e_a e_vs (by simp)
    rw [nI_1, nI_clamp (by omega), nI_add]
    refine ih (i + 1) _ _ _ (by omega) (by rw [sumE_take htt, hr]) ((xw_up_n _ _ nav).trans e_a) (xw_up_s _ _ _) (fun t ht => ?_) ?_
    · by_cases et : t = i
      · subst et
        rw [va_up_self, hb1]
      · rw [va_up_ne _ _ et]
        exact hf t (by omega)
    · exact FrO.newB FrO.rf hbv (by simp [Ne.symm nav]) r0 (fun q hq => xw_up_n _ _ hq)
set_option maxHeartbeats 1000000 in
theorem g_segInitV {G : xw_G} {F L : Nat} {h : xw_A} {A : List Nat} {a s4 n : Nat} {lv : Int32} {fl : Nat → Option Nat} {ts : List VT} (hts : ts.length = n) (hpd : PdV A h fl ts) (hn : n ≤ 24) (e_a : h a = some (.inr (6, [.int 0, .null, .int 0]))) (e_4 : h s4 = some (oa 24 10 fl)) (hF : 1 ≤ F) (hL : 20 ≤ L) :
    xw_Met G m_Segment_init F L 1 24 [.ref a, .int lv, .ref s4, .int (nI n)] h (fun v h' => v = none ∧ ∃ (vs : Nat) (f : Nat → Option Nat), h' a = some (.inr (6, [.int lv, .ref vs, .int (nI (sumE ts))])) ∧ h vs = none ∧ h' vs = some (oa n 10 f) ∧ (∀ i, i < n → f i = fl i) ∧ FrO [a] h h') (fun _ _ => False) := by
  have e1 : (nI n).toNatClampNeg = n := nI_clamp (by omega)
  refine xw_Met.of rfl (by decide) (Nat.le_of_ble_eq_true rfl) ?_
  refine s_Segment_init_0 (versions_a0 := none) ⟨hF, by omega⟩ e_a (nI_pos (by omega)) (by rw [e1]; omega) (by rw [e1]; omega) (fun q hq => ?_)
  obtain ⟨n1, y1⟩ := xw_upN hq
  rw [e1]
  refine lp_segInitV hts hpd hn e_a y1 e_4 (fun h2 f a1 a2 a3 a4 => ⟨rfl, q, f, a1, y1, a2, a3, a4⟩) n 0 _ (fun _ => none) 0 (Nat.zero_add _) rfl (xw_up_s _ _ _) ?_ (fun t ht => absurd ht (Nat.not_lt_zero _)) ?_
  · rw [xw_up_n _ _ n1, xw_up_s]
  · intro p e hp he
    simp only [List.mem_cons, List.not_mem_nil, or_false] at hp
    rw [xw_up_n _ _ hp, xw_up_n _ _ (xw_neN he y1), xw_up_n _ _ hp]
    exact he
set_option maxHeartbeats 2000000 in
theorem g_addSegV {G : xw_G} {F L : Nat} {h : xw_A} {lv ns : Nat} {A : List Nat} {st s1 s2 s3 s4 : Nat} {fr fp fs fl : Nat → Option Nat} {pc sc lc : Nat} {pe vm sm : Int32} (K : StoC A st s1 s2 s3 s4 fr fp fs fl pc sc lc pe vm sm h) {R : Nat → Option VT} {P : List VT} {S : List SG} {Lv : List VT} (V : StV A h fr fp fs fl pc sc lc R P S Lv) (hsm : sm = nI ns) (SA : StA A st s1 s2 s3 s4) (hlv : lv ≤ 5) (hF : 2 ≤ F) (hL : 60 ≤ L) :
    xw_Met G m_Store_addSegment F L 2 27 [.ref st, .int (nI lv)] h (fun v h' => v = none ∧ (∃ (fs' : Nat → Option Nat) (sc' : Nat), StoC A st s1 s2 s3 s4 fr fp fs' fl pc sc' lc pe vm (nI (addN Lv S ns)) h' ∧ StV A h' fr fp fs' fl pc sc' lc R P (addS lv Lv S) Lv) ∧ FrO [st, s3] h h') (fun _ _ => False) := by
  subst hsm
  have K0 := K
  obtain ⟨e_st, e_s1, e_s2, e_s3, e_s4, hpc, hsc, hlc, hR, hP, hS, hV, hAO⟩ := K
  have SB : ∀ q ∈ [st, s3], q ∈ A := suC SA.1 (suC SA.2.2.2.1 suN)
  refine xw_Met.of rfl (by decide) (Nat.le_of_ble_eq_true rfl) ?_
  refine s_Store_addSegment_0 (rows_a0 := some s1) (pending_a0 := some s2) (segments_a0 := some s3) (live_a0 := some s4) e_st (fun z0 => s_Store_addSegment_62 ?_) (fun z1 => ?_)
  · have q0 : ¬ (0 < Lv.length ∧ S.length < 512) := fun q => absurd z0 (nI_nle (by rw [← V.2.2.2.1]; exact q.1) (by omega))
    rw [addS, addN, if_neg q0, if_neg q0]
    exact ⟨rfl, ⟨fs, sc, K0, V⟩, FrO.rf⟩
  refine s_Store_addSegment_7 (rows_a0 := some s1) (pending_a0 := some s2) (segments_a0 := some s3) (live_a0 := some s4) e_st (fun z2 => s_Store_addSegment_62 ?_) (fun z2 => ?_)
  · have q0 : ¬ (0 < Lv.length ∧ S.length < 512) := fun q => absurd z2 (nI_ge (b := 512) (by rw [← V.2.2.1.1]; exact q.2) (by decide))
    rw [addS, addN, if_neg q0, if_neg q0]
    exact ⟨rfl, ⟨fs, sc, K0, V⟩, FrO.rf⟩
  have hs1 : sc < 512 := Nat.lt_of_not_le (fun q => z2 (nI_le q (by omega)))
  have hl1 : 0 < lc := Nat.pos_of_ne_zero (fun q => z1 (by rw [q]; decide))
  have q0 : 0 < Lv.length ∧ S.length < 512 := ⟨by rw [V.2.2.2.1]; exact hl1, by rw [V.2.2.1.1]; exact hs1⟩
  rw [addS, addN, if_pos q0, if_pos q0]
  refine s_Store_addSegment_17 (rows_a0 := some s1) (pending_a0 := some s2) (segments_a0 := some s3) (live_a0 := some s4) e_st ⟨by omega, by omega⟩ (fun q hq => ?_)
  have fz : FrO [] h (xw_up h q (.inr (6, [.int 0, .null, .int 0]))) := fun p e _ he => (xw_up_n _ _ (xw_neN he hq)).trans he
  refine x_callI (As := [.int (nI lv), .ref s4, .int (nI lc)]) (b := q) (rest := [.ref q, .int (nI sc), .ref s3]) (F1 := 1) (L1 := 20) (mc := 1) (ms := 24) d_Store_addSegment_38 cI_Store_95 (g_segInitV (A := A) (n := lc) V.2.2.2.1 (V.2.2.2.2.fr fz suN) hlc (xw_up_s _ _ _) (fz s4 _ (by simp) e_s4) (by omega) (by omega)) ⟨by omega, by show 8 + (6 + 11) + 20 ≤ _; omega⟩ ⟨by omega, by omega⟩ (Nat.le_of_ble_eq_true rfl) (fun v h2 p => ?_)
  obtain ⟨rfl, vs, f, e1, y1, e2, hv, fr9⟩ := p
  obtain ⟨nv, y2⟩ := xw_upN y1
  have F0 : FrO [] h h2 := fun p e _ he => fr9 p e (by simp only [List.mem_cons, List.not_mem_nil, or_false]; exact xw_neN he hq) ((xw_up_n _ _ (xw_neN he hq)).trans he)
  have E0 := F0 st _ (by simp) e_st
  have E1 := F0 s1 _ (by simp) e_s1
  have E2 := F0 s2 _ (by simp) e_s2
  have E3 := F0 s3 _ (by simp) e_s3
  have E4 := F0 s4 _ (by simp) e_s4
  refine x_le (xw_le_s (xw_le_n xw_le_e)) ?_
  refine s_Store_addSegment_41 (rows_a0 := some s1) (pending_a0 := some s2) (segments_a0 := some s3) (live_a0 := some s4) (versions_b0 := some vs) E3 (vp_in_nI hs1 (by decide)) e1 E0 ?_
  rw [xw_up_up, nI_1, nI_clamp (by omega), nI_1]
  refine s_Store_addSegment_62 ?_
  have n30 : s3 ≠ st := xw_neC e_s3 e_st (by simp)
  have nq0 : q ≠ st := Ne.symm (xw_neN e_st hq)
  have nq3 : q ≠ s3 := Ne.symm (xw_neN e_s3 hq)
  have nv0 : vs ≠ st := Ne.symm (xw_neN e_st y2)
  have nv3 : vs ≠ s3 := Ne.symm (xw_neN e_s3 y2)
  have up : ∀ {p : Nat}, p ≠ st → p ≠ s3 → ∀ {c d : xw_C}, xw_up (xw_up h2 s3 c) st d p = h2 p := fun h1 h3 _ _ => by rw [xw_up_n _ _ h1, xw_up_n _ _ h3]
  have F2 : ∀ {c d : xw_C}, FrO [st, s3] h2 (xw_up (xw_up h2 s3 c) st d) := fun p e hp he => by
    simp only [List.mem_cons, List.not_mem_nil, or_false, not_or] at hp
    rw [up hp.1 hp.2]
    exact he
  have F3 : ∀ {c d : xw_C}, FrO [st, s3] h (xw_up (xw_up h2 s3 c) st d) := (F0.mono (fun _ h => nomatch h)).trans F2
  refine ⟨rfl, ⟨va_up fs sc (some q), sc + 1, ⟨xw_up_s _ _ _, ?_, ?_, ?_, ?_, hpc, by omega, hlc, allR hR F3 SB, allV hP F3 SB, allU (allS hS F3 SB) ?_, allV hV F3 SB, ?_⟩, (V.fr F3 SB).1, (V.fr F3 SB).2.1, ⟨by rw [List.length_append, V.2.2.1.1]; rfl, (V.fr F3 SB).2.2.1.2.app V.2.2.1.1 ?_⟩, (V.fr F3 SB).2.2.2⟩, F3⟩
  · rw [up (xw_neC e_s1 e_st (by simp)) (xw_neC e_s1 e_s3 (by simp))]; exact E1
  · rw [up (xw_neC e_s2 e_st (by simp)) (xw_neC e_s2 e_s3 (by simp))]; exact E2
  · rw [xw_up_n _ _ n30, xw_up_s]
  · rw [up (xw_neC e_s4 e_st (by simp)) (xw_neC e_s4 e_s3 (by simp))]; exact E4
  · refine ⟨hAO.new hq, vs, lc, lv, nI (sumE Lv), f, ?_, hlv, hAO.new y2, ?_, hlc, fun t ht => ?_⟩
    · rw [up nq0 nq3]; exact e1
    · rw [up nv0 nv3]; exact e2
    · obtain ⟨b, b1, b2⟩ := hV t ht
      exact ⟨b, (hv t ht).trans b1, b2.fr F3 SB⟩
  · exact hAO.fr F3 (exC (xw_up_s _ _ _) (exC (by rw [xw_up_n _ _ n30]; exact xw_up_s _ _ _) exN))
  · refine ⟨hAO.new hq, hlv, by show Lv.length ≤ 24; rw [V.2.2.2.1]; exact hlc, vs, f, hAO.new y2, ?_, ?_, ?_⟩
    · rw [up nq0 nq3]; exact e1
    · rw [up nv0 nv3, e2]
      show some (oa lc 10 f) = some (oa Lv.length 10 f)
      rw [V.2.2.2.1]
    · exact (V.2.2.2.2.fr F3 SB).congr (fun i hi => hv i (by rw [← V.2.2.2.1]; exact hi))
theorem SgV.lev {A : List Nat} {h : xw_A} {a lw vs : Nat} {se : Int32} {s : SG} (k : SgV A h a s) (e : h a = some (.inr (6, [.int (nI lw), .ref vs, .int se]))) (hl : lw < 2 ^ 31) : lw = s.1 := by
  obtain ⟨-, h1, -, vs2, f, -, e2, -⟩ := k
  have e3 := e.symm.trans e2
  simp only [Option.some.injEq, Sum.inr.injEq, Prod.mk.injEq, List.cons.injEq, Value.int.injEq, Value.ref.injEq, true_and, and_true] at e3
  exact (nI_eq hl (by omega)).mp e3.1
/-- the merge's loop: what stays lies in front, what is still to come behind -/
def MgV (A : List Nat) (h : xw_A) (fr fp fs fl : Nat → Option Nat) (pc sc lc : Nat) (R : Nat → Option VT) (P : List VT) (S : List SG) (x y i t : Nat) : Prop := RwV A h fr R ∧ (P.length = pc ∧ PdV A h fp P) ∧ S.length = sc ∧ ((mgl R x y (S.take i)).1.length = t ∧ SgL A h fs (mgl R x y (S.take i)).1) ∧ (∀ j s, i ≤ j → S[j]? = some s → ∃ a, fs j = some a ∧ SgV A h a s) ∧ (mgl R x y (S.take i)).2.length = lc ∧ PdV A h fl (mgl R x y (S.take i)).2
theorem MgV.fr {A B : List Nat} {h h' : xw_A} {fr fp fs fl : Nat → Option Nat} {pc sc lc : Nat} {R : Nat → Option VT} {P : List VT} {S : List SG} {x y i t : Nat} (k : MgV A h fr fp fs fl pc sc lc R P S x y i t) (r : FrO B h h') (hB : ∀ q ∈ B, q ∈ A) : MgV A h' fr fp fs fl pc sc lc R P S x y i t := ⟨k.1.fr r hB, ⟨k.2.1.1, k.2.1.2.fr r hB⟩, k.2.2.1, ⟨k.2.2.2.1.1, k.2.2.2.1.2.fr r hB⟩, fun j s hj hs => (by obtain ⟨a, h1, h2⟩ := k.2.2.2.2.1 j s hj hs; exact ⟨a, h1, h2.fr r hB⟩), k.2.2.2.2.2.1, k.2.2.2.2.2.2.fr r hB⟩
theorem MgV.at {A : List Nat} {h : xw_A} {fr fp fs fl : Nat → Option Nat} {pc sc lc : Nat} {R : Nat → Option VT} {P : List VT} {S : List SG} {x y i t b : Nat} (k : MgV A h fr fp fs fl pc sc lc R P S x y i t) (hi : i < sc) (hb : fs i = some b) : ∃ s, S[i]? = some s ∧ SgV A h b s := by
  have hl := k.2.2.1
  obtain ⟨s, hs⟩ : ∃ s, S[i]? = some s := ⟨_, List.getElem?_eq_getElem (by omega)⟩
  obtain ⟨a, h1, h2⟩ := k.2.2.2.2.1 i s (Nat.le_refl _) hs
  obtain rfl : b = a := Option.some.inj (hb.symm.trans h1)
  exact ⟨s, hs, h2⟩
theorem MgV.stv {A : List Nat} {h : xw_A} {fr fp fs fl : Nat → Option Nat} {pc sc lc : Nat} {R : Nat → Option VT} {P : List VT} {S : List SG} {x y i t : Nat} (k : MgV A h fr fp fs fl pc sc lc R P S x y i t) : StV A h fr fp fs fl pc t lc R P (mgl R x y (S.take i)).1 (mgl R x y (S.take i)).2 := ⟨k.1, k.2.1, k.2.2.2.1, k.2.2.2.2.2⟩
theorem MgV.stay {A : List Nat} {h : xw_A} {fr fp fs fl : Nat → Option Nat} {pc sc lc : Nat} {R : Nat → Option VT} {P : List VT} {S : List SG} {x y i t b : Nat} {s : SG} (k : MgV A h fr fp fs fl pc sc lc R P S x y i t) (q : S[i]? = some s) (hb : SgV A h b s) (hl : s.1 < x ∨ y < s.1) (ht : t ≤ i) : MgV A h fr fp (va_up fs t (some b)) fl pc sc lc R P S x y (i + 1) (t + 1) := by
  obtain ⟨k1, k2, k3, ⟨k4, k5⟩, k6, k7, k8⟩ := k
  have e : mgl R x y (S.take (i + 1)) = ((mgl R x y (S.take i)).1 ++ [s], (mgl R x y (S.take i)).2) := by rw [mgl_take q, mgs, if_pos hl]
  refine ⟨k1, k2, k3, ?_, fun j u hj hu => ?_, ?_⟩
  · rw [e]
    exact ⟨by rw [List.length_append, k4]; rfl, k5.app k4 hb⟩
  · obtain ⟨a, h1, h2⟩ := k6 j u (by omega) hu
    exact ⟨a, by rw [va_up_ne _ _ (by omega)]; exact h1, h2⟩
  · rw [e]
    exact ⟨k7, k8⟩
theorem MgV.gath {A : List Nat} {h : xw_A} {fr fp fs fl : Nat → Option Nat} {pc sc lc : Nat} {R : Nat → Option VT} {P : List VT} {S : List SG} {x y i t : Nat} {s : SG} (k : RwV A h fr R ∧ (P.length = pc ∧ PdV A h fp P) ∧ S.length = sc ∧ ((mgl R x y (S.take i)).1.length = t ∧ SgL A h fs (mgl R x y (S.take i)).1) ∧ (∀ j s, i ≤ j → S[j]? = some s → ∃ a, fs j = some a ∧ SgV A h a s) ∧ (gats R (mgl R x y (S.take i)).2 s.2).length = lc ∧ PdV A h fl (gats R (mgl R x y (S.take i)).2 s.2)) (q : S[i]? = some s) (h1 : ¬ s.1 < x) (h2 : ¬ y < s.1) : MgV A h fr fp fs fl pc sc lc R P S x y (i + 1) t := by
  obtain ⟨k1, k2, k3, k4, k6, k7⟩ := k
  have e : mgl R x y (S.take (i + 1)) = ((mgl R x y (S.take i)).1, gats R (mgl R x y (S.take i)).2 s.2) := by rw [mgl_take q, mgs, if_neg (fun z => z.elim h1 h2)]
  refine ⟨k1, k2, k3, ?_, fun j u hj hu => k6 j u (by omega) hu, ?_⟩
  · rw [e]; exact k4
  · rw [e]; exact k7
theorem MgV.live {A : List Nat} {h : xw_A} {fr fp fs fl fl2 : Nat → Option Nat} {pc sc lc lc2 : Nat} {R : Nat → Option VT} {P : List VT} {S : List SG} {x y i t : Nat} {T : List SG} {L : List VT} (k : MgV A h fr fp fs fl pc sc lc R P S x y i t) (v : StV A h fr fp fs fl2 pc t lc2 R P T L) : RwV A h fr R ∧ (P.length = pc ∧ PdV A h fp P) ∧ S.length = sc ∧ ((mgl R x y (S.take i)).1.length = t ∧ SgL A h fs (mgl R x y (S.take i)).1) ∧ (∀ j s, i ≤ j → S[j]? = some s → ∃ a, fs j = some a ∧ SgV A h a s) ∧ L.length = lc2 ∧ PdV A h fl2 L := ⟨k.1, k.2.1, k.2.2.1, k.2.2.2.1, k.2.2.2.2.1, v.2.2.2⟩
theorem MgV.fin {A : List Nat} {h : xw_A} {fr fp fs fl : Nat → Option Nat} {pc lc : Nat} {R : Nat → Option VT} {P : List VT} {S : List SG} {x y t i : Nat} (k : MgV A h fr fp fs fl pc i lc R P S x y i t) : StV A h fr fp fs fl pc t lc R P (mgl R x y S).1 (mgl R x y S).2 := by
  have e := k.2.2.1
  have k2 := k.stv
  rw [List.take_of_length_le (Nat.le_of_eq e)] at k2
  exact k2
set_option maxHeartbeats 2000000 in
theorem lp_mergeV {G : xw_G} {F L bc bs : Nat} {pr : Option Value → xw_A → Prop} {px : String → xw_A → Prop} {h0 : xw_A} {A : List Nat} {st s1 s2 s3 s4 : Nat} {fr fp : Nat → Option Nat} {pc sc lv ns x y : Nat} {pe vm : Int32} {R : Nat → Option VT} {P : List VT} {S : List SG} (SA : StA A st s1 s2 s3 s4) (hlv : lv ≤ 5) (hxy : x ≤ 5 ∧ y ≤ 5) (hb2 : 2 ≤ bc ∧ 27 ≤ bs) (hF : 3 ≤ F) (hL : 100 ≤ L) (kk : ∀ (h : xw_A) (fs fl : Nat → Option Nat) (sc lc : Nat), StoC A st s1 s2 s3 s4 fr fp fs fl pc sc lc pe vm (nI (mrgN R x y S ns)) h → StV A h fr fp fs fl pc sc lc R P (mrgS R x y lv S) (mgl R x y S).2 → FrO [st, s3, s4] h0 h → pr none h) :
    ∀ (dd i : Nat) (h : xw_A) (fs : Nat → Option Nat) (fl : Nat → Option Nat) (lc : Nat) (t : Nat), i + dd = sc → StoC A st s1 s2 s3 s4 fr fp fs fl pc sc lc pe vm (nI ns) h → MgV A h fr fp fs fl pc sc lc R P S x y i t → t ≤ i → FrO [st, s3, s4] h0 h → xw G m_Store_mergeLevels F L bc bs pr px 11 [some (.ref st), some (.int (nI x)), some (.int (nI y)), some (.int (nI lv)), some (.int (nI t)), some (.int (nI i)), none] [] h := by
  intro dd
  induction dd with
  | zero =>
    intro i h fs fl lc t hi K V ht r0
    obtain rfl : i = sc := by omega
    have K0 := K
    obtain ⟨e_st, e_s1, e_s2, e_s3, e_s4, hpc, hsc, hlc, hR, hP, hS, hV, hAO⟩ := K0
    refine s_Store_mergeLevels_11 (rows_a0 := some s1) (pending_a0 := some s2) (segments_a0 := some s3) (live_a0 := some s4) e_st (fun z_1 => ?_) (fun z => absurd (nI_le (Nat.le_refl _) (by omega)) z)
    refine s_Store_mergeLevels_74 (rows_a0 := some s1) (pending_a0 := some s2) (segments_a0 := some s3) (live_a0 := some s4) e_st ?_
    refine x_u1 (fun h1 e1 f1 => ?_)
    have fq : FrO [st] h h1 := FrO.rf.up (by simp) f1
    have K1 : StoC A st s1 s2 s3 s4 fr fp fs fl pc t lc pe vm (nI ns) h1 := ⟨e1, (f1 s1 (xw_neC e_s1 e_st (by simp))).trans e_s1, (f1 s2 (xw_neC e_s2 e_st (by simp))).trans e_s2, (f1 s3 (xw_neC e_s3 e_st (by simp))).trans e_s3, (f1 s4 (xw_neC e_s4 e_st (by simp))).trans e_s4, hpc, by omega, hlc, allR hR fq (suC SA.1 suN), allV hP fq (suC SA.1 suN), fun j hj => allS hS fq (suC SA.1 suN) j (by omega), allV hV fq (suC SA.1 suN), hAO.fr fq (exC e1 exN)⟩
    have V1 := (V.fr fq (suC SA.1 suN)).fin
    refine x_callV (As := [.int (nI lv)]) (b := st) (rest := []) (F1 := 2) (L1 := 60) (mc := 2) (ms := 27) d_Store_mergeLevels_82 cV_Store_58 (g_addSegV K1 V1 rfl SA hlv (by omega) (by omega)) e1 ⟨by decide, rfl⟩ ⟨by omega, by show 8 + (2 + 11) + 60 ≤ _; omega⟩ ⟨by omega, by omega⟩ (Nat.le_of_ble_eq_true rfl) (fun v h2 p => ?_)
    obtain ⟨rfl, ⟨fs2, sc2, K2, V2⟩, r2⟩ := p
    refine x_le (xw_le_n (xw_le_n (xw_le_n (xw_le_n (xw_le_n (xw_le_n (xw_le_n xw_le_e))))))) ?_
    exact s_Store_mergeLevels_85 (kk _ _ _ _ _ K2 V2 ((r0.trans (fq.mono (by simp))).trans (r2.mono (by simp))))
  | succ dd ih =>
    intro i h fs fl lc t hi K V ht r0
    have K0 := K
    obtain ⟨e_st, e_s1, e_s2, e_s3, e_s4, hpc, hsc, hlc, hR, hP, hS, hV, hAO⟩ := K0
    refine s_Store_mergeLevels_11 (rows_a0 := some s1) (pending_a0 := some s2) (segments_a0 := some s3) (live_a0 := some s4) e_st (fun z => absurd z (nI_ge (b := sc) (show i < sc by omega) (by omega))) (fun z_1 => ?_)
    obtain ⟨b, hb, hbs⟩ := hS i (by omega)
    obtain ⟨hbA, vs, vn, lw, se, vf, eb, hlw5, -⟩ := id hbs
    obtain ⟨ss, hss, hsg⟩ := V.at (by omega) hb
    have hlw : lw = ss.1 := hsg.lev eb (by omega)
    refine s_Store_mergeLevels_20 (g26 := b) (rows_a0 := some s1) (pending_a0 := some s2) (live_a0 := some s4) (versions_g26 := some vs) e_st e_s3 (vp_in_nI (by omega) (by decide)) (by rw [nI_clamp (by omega)]; exact hb) eb (fun z1 => ?_) (fun z1 => ?_)
    · skip
      refine s_Store_mergeLevels_47 (rows_a0 := some s1) (pending_a0 := some s2) (live_a0 := some s4) (versions_a6 := some vs) e_st e_s3 (vp_in_nI (by omega) (by decide)) eb ?_
      refine x_u1 (fun h_2 e_3 f_4 => ?_)
      have e_5 := (f_4 st (xw_neC e_st e_s3 (by simp))).trans e_st
      have e_6 := (f_4 s1 (xw_neC e_s1 e_s3 (by simp))).trans e_s1
      have e_7 := (f_4 s2 (xw_neC e_s2 e_s3 (by simp))).trans e_s2
      have e_8 := (f_4 s4 (xw_neC e_s4 e_s3 (by simp))).trans e_s4
      have e_9 := (f_4 b (xw_neC eb e_s3 (by simp))).trans eb
      have r_10 := r0.up (by simp) f_4
      have fq_11 : FrO [s3] h h_2 := FrO.rf.up (by simp) f_4
      refine s_Store_mergeLevels_68 ?_
      rw [nI_clamp (by omega)] at e_3
      simp only [nI_1]
      exact ih (i + 1) _ _ _ _ _ (by omega) ⟨e_5, e_6, e_7, e_3, e_8, hpc, hsc, hlc, allR hR fq_11 (suC SA.2.2.2.1 suN), allV hP fq_11 (suC SA.2.2.2.1 suN), allS (allW hS hbs) fq_11 (suC SA.2.2.2.1 suN), allV hV fq_11 (suC SA.2.2.2.1 suN), hAO.fr fq_11 (exC e_3 exN)⟩ ((V.fr fq_11 (suC SA.2.2.2.1 suN)).stay hss (hsg.fr fq_11 (suC SA.2.2.2.1 suN)) (Or.inl (by rw [← hlw]; exact (nI_ltI (by omega) (by omega)).mp z1)) ht) (by omega) r_10
    · skip
      refine s_Store_mergeLevels_38 (versions_a6 := some vs) eb (fun z_12 => ?_) (fun z_13 => ?_)
      · skip
        refine s_Store_mergeLevels_62 ?_
        refine x_callV (As := [.ref b]) (b := st) (rest := []) (F1 := 2) (L1 := 43) (mc := 0) (ms := 0) d_Store_mergeLevels_65 cV_Store_82 (g_gatherAllV K V.stv SA hbs hsg (by omega) (by omega)) e_st ⟨by decide, rfl⟩ ⟨by omega, by show 8 + (3 + 11) + 43 ≤ _; omega⟩ ⟨by omega, by omega⟩ (Nat.le_of_ble_eq_true rfl) (fun v_20 h_19 p_21 => ?_)
        obtain ⟨rfl, ⟨fl_14, lc_15, K_16, V_17⟩, fr_18⟩ := p_21
        have r_22 := r0.trans (fr_18.mono (by simp))
        have V_23 := (V.fr fr_18 (fun q hq => (List.mem_cons.mp hq).elim (fun z => by rw [z]; exact SA.1) (fun z => by rw [List.mem_singleton.mp z]; exact SA.2.2.2.2))).live V_17
        refine x_le (xw_le_s (xw_le_s (xw_le_s (xw_le_s (xw_le_s (xw_le_s (xw_le_n xw_le_e))))))) ?_
        refine s_Store_mergeLevels_68 ?_
        rw [nI_1]
        exact ih (i + 1) _ _ _ _ _ (by omega) K_16 (MgV.gath V_23 hss (by rw [← hlw]; exact fun q => z1 (nI_lt q (by omega))) (by rw [← hlw]; exact Nat.not_lt.mpr ((nI_leI (by omega) (by omega)).mp z_12))) (by omega) r_22
      · skip
        refine s_Store_mergeLevels_47 (rows_a0 := some s1) (pending_a0 := some s2) (live_a0 := some s4) (versions_a6 := some vs) e_st e_s3 (vp_in_nI (by omega) (by decide)) eb ?_
        refine x_u1 (fun h_24 e_25 f_26 => ?_)
        have e_27 := (f_26 st (xw_neC e_st e_s3 (by simp))).trans e_st
        have e_28 := (f_26 s1 (xw_neC e_s1 e_s3 (by simp))).trans e_s1
        have e_29 := (f_26 s2 (xw_neC e_s2 e_s3 (by simp))).trans e_s2
        have e_30 := (f_26 s4 (xw_neC e_s4 e_s3 (by simp))).trans e_s4
        have e_31 := (f_26 b (xw_neC eb e_s3 (by simp))).trans eb
        have r_32 := r0.up (by simp) f_26
        have fq_33 : FrO [s3] h h_24 := FrO.rf.up (by simp) f_26
        refine s_Store_mergeLevels_68 ?_
        rw [nI_clamp (by omega)] at e_25
        simp only [nI_1]
        exact ih (i + 1) _ _ _ _ _ (by omega) ⟨e_27, e_28, e_29, e_25, e_30, hpc, hsc, hlc, allR hR fq_33 (suC SA.2.2.2.1 suN), allV hP fq_33 (suC SA.2.2.2.1 suN), allS (allW hS hbs) fq_33 (suC SA.2.2.2.1 suN), allV hV fq_33 (suC SA.2.2.2.1 suN), hAO.fr fq_33 (exC e_25 exN)⟩ ((V.fr fq_33 (suC SA.2.2.2.1 suN)).stay hss (hsg.fr fq_33 (suC SA.2.2.2.1 suN)) (Or.inr (by rw [← hlw]; exact Nat.lt_of_not_le (fun q => z_13 (nI_le q (by omega))))) ht) (by omega) r_32
set_option maxHeartbeats 400000 in
theorem g_mergeLevelsV {G : xw_G} {F L : Nat} {h : xw_A} {x y lv ns : Nat} {A : List Nat} {st s1 s2 s3 s4 : Nat} {fr fp fs fl : Nat → Option Nat} {pc sc lc : Nat} {pe vm : Int32} (K : StoC A st s1 s2 s3 s4 fr fp fs fl pc sc lc pe vm (nI ns) h) {R : Nat → Option VT} {P : List VT} {S : List SG} {Lv : List VT} (V : StV A h fr fp fs fl pc sc lc R P S Lv) (SA : StA A st s1 s2 s3 s4) (hlv : lv ≤ 5) (hxy : x ≤ 5 ∧ y ≤ 5) (hF : 3 ≤ F) (hL : 100 ≤ L) :
    xw_Met G m_Store_mergeLevels F L 2 27 [.ref st, .int (nI x), .int (nI y), .int (nI lv)] h (fun v h' => v = none ∧ (∃ (fs' fl' : Nat → Option Nat) (sc' lc' : Nat), StoC A st s1 s2 s3 s4 fr fp fs' fl' pc sc' lc' pe vm (nI (mrgN R x y S ns)) h' ∧ StV A h' fr fp fs' fl' pc sc' lc' R P (mrgS R x y lv S) (mgl R x y S).2) ∧ FrO [st, s3, s4] h h') (fun _ _ => False) := by
  refine xw_Met.of rfl (by decide) (Nat.le_of_ble_eq_true rfl) ?_
  obtain ⟨e_st, e_s1, e_s2, e_s3, e_s4, hpc, hsc, hlc, hR, hP, hS, hV, hAO⟩ := K
  have r0 : FrO [st, s3, s4] h h := FrO.rf
  refine s_Store_mergeLevels_0 (rows_a0 := some s1) (pending_a0 := some s2) (segments_a0 := some s3) (live_a0 := some s4) e_st ?_
  refine x_u1 (fun h_1 e_2 f_3 => ?_)
  have e_4 := (f_3 s1 (xw_neC e_s1 e_st (by simp))).trans e_s1
  have e_5 := (f_3 s2 (xw_neC e_s2 e_st (by simp))).trans e_s2
  have e_6 := (f_3 s3 (xw_neC e_s3 e_st (by simp))).trans e_s3
  have e_7 := (f_3 s4 (xw_neC e_s4 e_st (by simp))).trans e_s4
  have r_8 := r0.up (by simp) f_3
  have fq : FrO [st] h h_1 := FrO.rf.up (by simp) f_3
  have K1 : StoC A st s1 s2 s3 s4 fr fp fs fl pc sc 0 pe vm (nI ns) h_1 := ⟨e_2, e_4, e_5, e_6, e_7, hpc, hsc, (Nat.zero_le _), allR hR fq (suC SA.1 suN), allV hP fq (suC SA.1 suN), allS hS fq (suC SA.1 suN), allV (fun j hj => absurd hj (Nat.not_lt_zero _)) fq (suC SA.1 suN), hAO.fr fq (exC e_2 exN)⟩
  have V1 := V.fr fq (suC SA.1 suN)
  exact lp_mergeV SA hlv hxy ⟨by omega, by omega⟩ (by omega) (by omega) (fun h2 fs2 fl2 sc2 lc2 K2 V2 r2 => ⟨rfl, ⟨fs2, fl2, sc2, lc2, K2, V2⟩, r2⟩) sc 0 _ _ _ _ 0 (Nat.zero_add _) K1 ⟨V1.1, V1.2.1, V1.2.2.1.1, ⟨rfl, fun i s q => nomatch q⟩, fun j s _ hs => V1.2.2.1.2 j s hs, rfl, fun i s q => nomatch q⟩ (Nat.le_refl _) r_8
set_option maxHeartbeats 2000000 in
theorem lp_flush1V {G : xw_G} {F L bc bs : Nat} {pr : Option Value → xw_A → Prop} {px : String → xw_A → Prop} {h0 : xw_A} {A : List Nat} {st s1 s2 s3 s4 : Nat} {fr fp fs : Nat → Option Nat} {pc sc : Nat} {pe vm sm : Int32} {R : Nat → Option VT} {P : List VT} {S : List SG} {x : Int32} (SA : StA A st s1 s2 s3 s4) (hF : 2 ≤ F) (hL : 43 ≤ L) (kk : ∀ (h : xw_A) (fl : Nat → Option Nat) (lc : Nat), StoC A st s1 s2 s3 s4 fr fp fs fl pc sc lc pe vm sm h → StV A h fr fp fs fl pc sc lc R P S (gats R [] P) → FrO [st, s4] h0 h → xw G m_Store_flushPending F L bc bs pr px 31 [some (.ref st), some (.int x), none] [] h) :
    ∀ (dd i : Nat) (h : xw_A) (fl : Nat → Option Nat) (lc : Nat), i + dd = pc → StoC A st s1 s2 s3 s4 fr fp fs fl pc sc lc pe vm sm h → StV A h fr fp fs fl pc sc lc R P S (gats R [] (P.take i)) → FrO [st, s4] h0 h → xw G m_Store_flushPending F L bc bs pr px 7 [some (.ref st), some (.int x), some (.int (nI i))] [] h := by
  intro dd
  induction dd with
  | zero =>
    intro i h fl lc hi K V r0
    obtain rfl : i = pc := by omega
    have K0 := K
    obtain ⟨e_st, e_s1, e_s2, e_s3, e_s4, hpc, hsc, hlc, hR, hP, hS, hV, hAO⟩ := K0
    refine s_Store_flushPending_7 (rows_a0 := some s1) (pending_a0 := some s2) (segments_a0 := some s3) (live_a0 := some s4) e_st (fun z_1 => ?_) (fun z => absurd (nI_le (Nat.le_refl _) (by omega)) z)
    exact kk _ _ _ K (by have e := V.2.1.1; rw [List.take_of_length_le (Nat.le_of_eq e)] at V; exact V) r0
  | succ dd ih =>
    intro i h fl lc hi K V r0
    have K0 := K
    obtain ⟨e_st, e_s1, e_s2, e_s3, e_s4, hpc, hsc, hlc, hR, hP, hS, hV, hAO⟩ := K0
    refine s_Store_flushPending_7 (rows_a0 := some s1) (pending_a0 := some s2) (segments_a0 := some s3) (live_a0 := some s4) e_st (fun z => absurd z (nI_ge (b := pc) (show i < pc by omega) (by omega))) (fun z_1 => ?_)
    refine s_Store_flushPending_15 (rows_a0 := some s1) (segments_a0 := some s3) (live_a0 := some s4) e_st e_s2 (vp_in_nI (by omega) (by omega)) ?_
    obtain ⟨tt, htt⟩ : ∃ tt, P[i]? = some tt := ⟨_, List.getElem?_eq_getElem (by have := V.2.1.1; omega)⟩
    obtain ⟨b, hb, hbv⟩ := hP i (by omega)
    obtain ⟨b2, hb2, hbt⟩ := V.2.1.2 i tt htt
    obtain rfl : b = b2 := Option.some.inj (hb.symm.trans hb2)
    rw [nI_clamp (by omega), hb]
    refine x_callV (As := [.ref b]) (b := st) (rest := []) (F1 := 1) (L1 := 20) (mc := 0) (ms := 0) d_Store_flushPending_22 cV_Store_54 (g_gatherLiveV K V SA hbv hbt (by omega) (by omega)) e_st ⟨by decide, rfl⟩ ⟨by omega, by show 8 + (4 + 11) + 20 ≤ _; omega⟩ ⟨by omega, by omega⟩ (Nat.le_of_ble_eq_true rfl) (fun v_8 h_7 p_9 => ?_)
    obtain ⟨rfl, ⟨fl_2, lc_3, K_4, V_5⟩, fr_6⟩ := p_9
    have r_10 := r0.trans fr_6
    refine s_Store_flushPending_25 ?_
    rw [nI_1]
    exact ih (i + 1) _ _ _ (by omega) K_4 (by rw [gats_take htt]; exact V_5) r_10
set_option maxHeartbeats 2000000 in
theorem lp_flush2V {G : xw_G} {F L : Nat} {pr : Option Value → xw_A → Prop} {px : String → xw_A → Prop} {h0 : xw_A} {A : List Nat} {st s1 s2 s3 s4 : Nat} {fr fp : Nat → Option Nat} {pc : Nat} {pe vm : Int32} {R : Nat → Option VT} {P : List VT} {x : Nat} {X : List SG × Nat} (hx : x ≤ 9) (SA : StA A st s1 s2 s3 s4) (hF : 4 ≤ F) (hL : 126 ≤ L) (kk : ∀ (h : xw_A) (fs fl : Nat → Option Nat) (sc lc : Nat) (Lv : List VT), StoC A st s1 s2 s3 s4 fr fp fs fl pc sc lc pe vm (nI X.2) h → StV A h fr fp fs fl pc sc lc R P X.1 Lv → FrO [st, s3, s4] h0 h → pr none h) :
    ∀ (dd i : Nat) (h : xw_A) (bc : Nat) (bs : Nat) (fs : Nat → Option Nat) (fl : Nat → Option Nat) (sc : Nat) (lc : Nat) (ns : Nat) (S : List SG) (Lv : List VT), i + dd = 5 → StoC A st s1 s2 s3 s4 fr fp fs fl pc sc lc pe vm (nI ns) h → StV A h fr fp fs fl pc sc lc R P S Lv → fls R x (5 - i) i (S, ns) = X → (2 * (5 - i) ≤ bc ∧ 27 * (5 - i) ≤ bs) → FrO [st, s3, s4] h0 h → xw G m_Store_flushPending F L bc bs pr px 48 [some (.ref st), some (.int (nI x)), some (.int (nI i))] [] h := by
  intro dd
  induction dd with
  | zero =>
    intro i h bc bs fs fl sc lc ns S Lv hi K V hX hbb r0
    obtain rfl : i = 5 := by omega
    have K0 := K
    obtain ⟨e_st, e_s1, e_s2, e_s3, e_s4, hpc, hsc, hlc, hR, hP, hS, hV, hAO⟩ := K0
    refine s_Store_flushPending_48 (fun z_1 => ?_) (fun z => absurd z (by decide))
    refine s_Store_flushPending_77 ?_
    exact kk _ _ _ _ _ _ (by subst hX; exact K) (by subst hX; exact V) r0
  | succ dd ih =>
    intro i h bc bs fs fl sc lc ns S Lv hi K V hX hbb r0
    have K0 := K
    obtain ⟨e_st, e_s1, e_s2, e_s3, e_s4, hpc, hsc, hlc, hR, hP, hS, hV, hAO⟩ := K0
    refine s_Store_flushPending_48 (fun z => absurd z (nI_ge (b := 5) (show i < 5 by omega) (by decide))) (fun z_1 => ?_)
    refine s_Store_flushPending_53 ?_
    refine x_callV (As := [.int (nI i)]) (b := st) (rest := []) (F1 := 1) (L1 := 20) (mc := 0) (ms := 0) d_Store_flushPending_55 cV_Store_62 (g_segsOfV K V (show i ≤ 5 by omega) (by omega) (by omega)) e_st ⟨by decide, rfl⟩ ⟨by omega, by show 8 + (4 + 11) + 20 ≤ _; omega⟩ ⟨by omega, by omega⟩ (Nat.le_of_ble_eq_true rfl) (fun v_3 h_2 p_4 => ?_)
    obtain ⟨rfl, rfl⟩ := p_4
    have hcl : cntG i S < 2 ^ 31 := by have := cntG_le i S; have := V.2.2.1.1; omega
    refine s_Store_flushPending_58 (fun z_5 => ?_) (fun z_6 => ?_)
    · skip
      refine s_Store_flushPending_71 ?_
      rw [nI_1]
      have h5 : 5 - i = (5 - (i + 1)) + 1 := by omega
      rw [h5, fls] at hX
      dsimp only at hX
      rw [if_neg (show ¬ x < cntG i S from Nat.not_lt.mpr ((nI_leI (by omega) (by omega)).mp z_5))] at hX
      exact ih (i + 1) _ _ _ _ _ _ _ _ _ _ (by omega) K V hX ⟨by omega, by omega⟩ r0
    · skip
      refine s_Store_flushPending_62 ?_
      rw [nI_1]
      refine x_callV (As := [.int (nI i), .int (nI i), .int (nI (i + 1))]) (b := st) (rest := []) (F1 := 3) (L1 := 100) (mc := 2) (ms := 27) d_Store_flushPending_68 cV_Store_66 (g_mergeLevelsV K V SA (show i + 1 ≤ 5 by omega) (show i ≤ 5 ∧ i ≤ 5 by omega) (by omega) (by omega)) e_st ⟨by decide, rfl⟩ ⟨by omega, by show 8 + (7 + 11) + 100 ≤ _; omega⟩ ⟨by omega, by omega⟩ (Nat.le_of_ble_eq_true rfl) (fun v_15 h_14 p_16 => ?_)
      obtain ⟨rfl, ⟨fs_7, fl_8, sc_9, lc_10, K_11, V_12⟩, fr_13⟩ := p_16
      have r_17 := r0.trans fr_13
      refine s_Store_flushPending_71 ?_
      rw [nI_1]
      have h5 : 5 - i = (5 - (i + 1)) + 1 := by omega
      rw [h5, fls] at hX
      dsimp only at hX
      rw [if_pos (show x < cntG i S from Nat.lt_of_not_le (fun q => z_6 (nI_le q (by omega))))] at hX
      exact ih (i + 1) _ _ _ _ _ _ _ _ _ _ (by omega) K_11 V_12 hX ⟨by omega, by omega⟩ r_17
set_option maxHeartbeats 2000000 in
theorem g_flushV {G : xw_G} {F L : Nat} {h : xw_A} {x ns : Nat} {A : List Nat} {st s1 s2 s3 s4 : Nat} {fr fp fs fl : Nat → Option Nat} {pc sc lc : Nat} {pe vm : Int32} (K : StoC A st s1 s2 s3 s4 fr fp fs fl pc sc lc pe vm (nI ns) h) {R : Nat → Option VT} {P : List VT} {S : List SG} {Lv : List VT} (V : StV A h fr fp fs fl pc sc lc R P S Lv) (hx : x ≤ 9) (SA : StA A st s1 s2 s3 s4) (hF : 4 ≤ F) (hL : 126 ≤ L) :
    xw_Met G m_Store_flushPending F L 12 162 [.ref st, .int (nI x)] h (fun v h' => v = none ∧ (∃ (fs' fl' : Nat → Option Nat) (sc' lc' : Nat) (Lv' : List VT), StoC A st s1 s2 s3 s4 fr fp fs' fl' 0 sc' lc' 0 vm (nI (fluS R x P S ns).2) h' ∧ StV A h' fr fp fs' fl' 0 sc' lc' R [] (fluS R x P S ns).1 Lv') ∧ FrO [st, s3, s4] h h') (fun _ _ => False) := by
  obtain ⟨e_st, e_s1, e_s2, e_s3, e_s4, hpc, hsc, hlc, hR, hP, hS, hV, hAO⟩ := K
  refine xw_Met.of rfl (by decide) (Nat.le_of_ble_eq_true rfl) ?_
  refine s_Store_flushPending_0 (rows_a0 := some s1) (pending_a0 := some s2) (segments_a0 := some s3) (live_a0 := some s4) e_st ?_
  refine x_u1 (fun h1 e1 f1 => ?_)
  have fq : FrO [st] h h1 := FrO.rf.up (by simp) f1
  have K1 : StoC A st s1 s2 s3 s4 fr fp fs fl pc sc 0 pe vm (nI ns) h1 := ⟨e1, (f1 s1 (xw_neC e_s1 e_st (by simp))).trans e_s1, (f1 s2 (xw_neC e_s2 e_st (by simp))).trans e_s2, (f1 s3 (xw_neC e_s3 e_st (by simp))).trans e_s3, (f1 s4 (xw_neC e_s4 e_st (by simp))).trans e_s4, hpc, hsc, Nat.zero_le _, allR hR fq (suC SA.1 suN), allV hP fq (suC SA.1 suN), allS hS fq (suC SA.1 suN), fun j hj => absurd hj (Nat.not_lt_zero _), hAO.fr fq (exC e1 exN)⟩
  have V0 := V.fr fq (suC SA.1 suN)
  have V1 : StV A h1 fr fp fs fl pc sc 0 R P S (gats R [] (P.take 0)) := ⟨V0.1, V0.2.1, V0.2.2.1, rfl, fun i s q => nomatch q⟩
  refine lp_flush1V SA (by omega) (by omega) (fun h2 fl2 lc2 K2 V2 r2 => ?_) pc 0 _ _ _ (Nat.zero_add _) K1 V1 FrO.rf
  obtain ⟨g_st, g_s1, g_s2, g_s3, g_s4, hpc, hsc, hlc, hR, hP, hS, hV, hAO⟩ := K2
  refine s_Store_flushPending_31 (rows_a0 := some s1) (pending_a0 := some s2) (segments_a0 := some s3) (live_a0 := some s4) g_st ?_
  rw [xw_up_up]
  refine x_u1 (fun h3 e3 f3 => ?_)
  have fq3 : FrO [st] h2 h3 := FrO.rf.up (by simp) f3
  have K3 : StoC A st s1 s2 s3 s4 fr fp fs fl2 0 sc lc2 0 vm (nI ns) h3 := ⟨e3, (f3 s1 (xw_neC g_s1 g_st (by simp))).trans g_s1, (f3 s2 (xw_neC g_s2 g_st (by simp))).trans g_s2, (f3 s3 (xw_neC g_s3 g_st (by simp))).trans g_s3, (f3 s4 (xw_neC g_s4 g_st (by simp))).trans g_s4, Nat.zero_le _, hsc, hlc, allR hR fq3 (suC SA.1 suN), fun j hj => absurd hj (Nat.not_lt_zero _), allS hS fq3 (suC SA.1 suN), allV hV fq3 (suC SA.1 suN), hAO.fr fq3 (exC e3 exN)⟩
  have V3a := V2.fr fq3 (suC SA.1 suN)
  have V3 : StV A h3 fr fp fs fl2 0 sc lc2 R [] S (gats R [] P) := ⟨V3a.1, ⟨rfl, fun i s q => nomatch q⟩, V3a.2.2.1, V3a.2.2.2⟩
  refine x_callV (As := [.int 0]) (b := st) (rest := []) (F1 := 2) (L1 := 60) (mc := 2) (ms := 27) d_Store_flushPending_43 cV_Store_58 (g_addSegV (lv := 0) K3 V3 rfl SA (Nat.zero_le _) (by omega) (by omega)) e3 ⟨by decide, rfl⟩ ⟨by omega, by show 8 + (2 + 11) + 60 ≤ _; omega⟩ ⟨by omega, by omega⟩ (Nat.le_of_ble_eq_true rfl) (fun v h4 p => ?_)
  obtain ⟨rfl, ⟨fs4, sc4, K4, V4⟩, r4⟩ := p
  refine s_Store_flushPending_46 ?_
  refine lp_flush2V (h0 := h) (x := x) (X := fluS R x P S ns) hx SA (by omega) (by omega) (fun h5 fs5 fl5 sc5 lc5 Lv5 K5 V5 r5 => ⟨rfl, ⟨fs5, fl5, sc5, lc5, Lv5, K5, V5⟩, r5⟩) 5 0 _ _ _ _ _ _ _ _ _ _ rfl K4 V4 rfl ⟨by omega, by omega⟩ ?_
  exact (((fq.mono (by simp)).trans (r2.mono (by simp))).trans (fq3.mono (by simp))).trans (r4.mono (by simp))
theorem x_mmaxV {G : xw_G} {M : xw_M} {F L bc bs : Nat} {pr : Option Value → xw_A → Prop} {px : String → xw_A → Prop} {pc : Nat} {lv : List (Option Value)} {rest : List Value} {h : xw_A} {index : Nat} {a b : Nat} (ha : a < 2 ^ 31) (hb : b < 2 ^ 31) (d : decode M.2.1 pc = .ok (.invokestatic index, 3)) (hs : xw_mmax M.1.cls index) (hF : 1 ≤ F) (hL : (rest.map fun v => v.category).sum + 13 ≤ L)
    (k : xw G M F L bc bs pr px (pc + 3) lv (.int (nI (max a b)) :: rest) h) : xw G M F L bc bs pr px pc lv (.int (nI b) :: .int (nI a) :: rest) h := by
  have e : nI (max a b) = if nI a < nI b then nI b else nI a := by
    by_cases q : a < b
    · rw [if_pos (nI_lt q hb), Nat.max_eq_right (Nat.le_of_lt q)]
    · rw [if_neg (fun z => q ((nI_ltI ha hb).mp z)), Nat.max_eq_left (Nat.le_of_not_lt q)]
  rw [e] at k
  intro p e R s m args below meth c H locs cells slots ls C hR hB hH hS hl
  exact va_mmax C.1 C.2.1 (C.2.2.2.1.trans hl.1.symm) C.2.2.2.2.1 (C.2.2.2.2.2.1 _ (hs (.methodLink M.1.cls index Lib.Math.max.name) (by simp))) (C.2.2.2.2.2.1 _ (hs (.static Lib.Math.max.name) (by simp))) (C.2.2.2.2.2.1 _ (hs (.initialized "java/lang/Math") (by simp))) (C.2.2.2.2.2.1 _ (hs (.code Lib.Math.max.name Lib.Math.max.code 2 (some .int)) (by simp))) (Nat.le_trans hF hR.1) (Nat.le_trans hL hR.2) (by omega) (by omega) d (k p e R s m args below meth c H locs cells slots ls C hR hB hH hS hl)
theorem hiL_le {S : List SG} (h : ∀ (i : Nat) (s : SG), S[i]? = some s → s.1 ≤ 5) : ∀ m, m ≤ 5 → hiL S m ≤ 5 := by
  induction S with
  | nil => exact fun m hm => hm
  | cons t S ih =>
    intro m hm
    have h0 := h 0 t rfl
    exact ih (fun i s q => h (i + 1) s q) _ (Nat.max_le.mpr ⟨hm, h0⟩)
set_option maxHeartbeats 1000000 in
theorem lp_mergeAllV {G : xw_G} {F L bc bs : Nat} {pr : Option Value → xw_A → Prop} {px : String → xw_A → Prop} {h : xw_A} {x : Int32} {A : List Nat} {st s1 s2 s3 s4 : Nat} {fr fp fs fl : Nat → Option Nat} {pc sc lc : Nat} {pe vm sm : Int32} (K : StoC A st s1 s2 s3 s4 fr fp fs fl pc sc lc pe vm sm h) {R : Nat → Option VT} {P : List VT} {S : List SG} {Lv : List VT} (V : StV A h fr fp fs fl pc sc lc R P S Lv) (hF : 1 ≤ F) (hL : 21 ≤ L) (kk : xw G m_Store_mergeAll F L bc bs pr px 37 [some (.ref st), some (.int x), some (.int (nI (hiL S 0))), none] [] h) :
    ∀ (dd i : Nat) (c : Nat), i + dd = sc → c ≤ 5 ∧ c = hiL (S.take i) 0 → xw G m_Store_mergeAll F L bc bs pr px 9 [some (.ref st), some (.int x), some (.int (nI c)), some (.int (nI i))] [] h := by
  obtain ⟨e_st, e_s1, e_s2, e_s3, e_s4, hpc, hsc, hlc, hR, hP, hS, hV, hAO⟩ := K
  intro dd
  induction dd with
  | zero =>
    intro i c hi hp
    obtain rfl : i = sc := by omega
    refine s_Store_mergeAll_9 (rows_a0 := some s1) (pending_a0 := some s2) (segments_a0 := some s3) (live_a0 := some s4) e_st (fun z_1 => ?_) (fun z => absurd (nI_le (Nat.le_refl _) (by omega)) z)
    rw [hp.2, List.take_of_length_le (Nat.le_of_eq V.2.2.1.1)]
    exact kk
  | succ dd ih =>
    intro i c hi hp
    refine s_Store_mergeAll_9 (rows_a0 := some s1) (pending_a0 := some s2) (segments_a0 := some s3) (live_a0 := some s4) e_st (fun z => absurd z (nI_ge (b := sc) (show i < sc by omega) (by omega))) (fun z_1 => ?_)
    obtain ⟨b, hb, hbs⟩ := hS i (by omega)
    obtain ⟨hbA, vs, vn, lw, se, vf, eb, hlw, -⟩ := id hbs
    obtain ⟨ss, hss⟩ : ∃ ss, S[i]? = some ss := ⟨_, List.getElem?_eq_getElem (by have := V.2.2.1.1; omega)⟩
    obtain ⟨b2, hb2, hsg⟩ := V.2.2.1.2 i ss hss
    obtain rfl : b = b2 := Option.some.inj (hb.symm.trans hb2)
    have hlw2 : lw = ss.1 := hsg.lev eb (by omega)
    refine s_Store_mergeAll_17 (g23 := b) (rows_a0 := some s1) (pending_a0 := some s2) (live_a0 := some s4) (versions_g23 := some vs) e_st e_s3 (vp_in_nI (by omega) (by decide)) (by rw [nI_clamp (by omega)]; exact hb) eb ?_
    refine x_mmaxV (by omega) (by omega) d_Store_mergeAll_27 cM_Store_76 (by omega) (by show 0 + 13 ≤ _; omega) ?_
    refine x_le (xw_le_s (xw_le_s (xw_le_n (xw_le_s xw_le_e)))) ?_
    refine s_Store_mergeAll_30 ?_
    simp only [nI_1]
    exact ih (i + 1) _ (by omega) ⟨Nat.max_le.mpr ⟨hp.1, hlw⟩, by rw [hiL_take hss, hp.2, hlw2]⟩
set_option maxHeartbeats 400000 in
theorem g_mergeAllV {G : xw_G} {F L : Nat} {h : xw_A} {ns : Nat} {A : List Nat} {st s1 s2 s3 s4 : Nat} {fr fp fs fl : Nat → Option Nat} {pc sc lc : Nat} {pe vm : Int32} (K : StoC A st s1 s2 s3 s4 fr fp fs fl pc sc lc pe vm (nI ns) h) {R : Nat → Option VT} {P : List VT} {S : List SG} {Lv : List VT} (V : StV A h fr fp fs fl pc sc lc R P S Lv) (SA : StA A st s1 s2 s3 s4) (hF : 4 ≤ F) (hL : 126 ≤ L) :
    xw_Met G m_Store_mergeAll F L 2 27 [.ref st] h (fun v h' => v = some (.int (nI sc)) ∧ (∃ (fs' fl' : Nat → Option Nat) (sc' lc' : Nat) (Lv' : List VT), StoC A st s1 s2 s3 s4 fr fp fs' fl' pc sc' lc' pe vm (nI (mrgN R 0 5 S ns)) h' ∧ StV A h' fr fp fs' fl' pc sc' lc' R P (mrgS R 0 5 (hiL S 0) S) Lv') ∧ FrO [st, s3, s4] h h') (fun _ _ => False) := by
  refine xw_Met.of rfl (by decide) (Nat.le_of_ble_eq_true rfl) ?_
  have K0 := K
  obtain ⟨e_st, e_s1, e_s2, e_s3, e_s4, hpc, hsc, hlc, hR, hP, hS, hV, hAO⟩ := K
  refine s_Store_mergeAll_0 (rows_a0 := some s1) (pending_a0 := some s2) (segments_a0 := some s3) (live_a0 := some s4) e_st ?_
  refine lp_mergeAllV K0 V (by omega) (by omega) ?_ sc 0 0 (Nat.zero_add _) ⟨Nat.zero_le _, rfl⟩
  refine s_Store_mergeAll_37 ?_
  refine x_callV (As := [.int 0, .int 5, .int (nI (hiL S 0))]) (b := st) (rest := []) (F1 := 3) (L1 := 100) (mc := 2) (ms := 27) d_Store_mergeAll_41 cV_Store_66 ((show xw_Met _ _ _ _ 2 27 [.ref st, .int 0, .int 5, .int (nI (hiL S 0))] _ _ _ from g_mergeLevelsV (x := 0) (y := 5) K0 V SA (hiL_le (fun i s q => (V.2.2.1.2 i s q).elim (fun a h9 => h9.2.2.1)) 0 (Nat.zero_le _)) (by decide) (by omega) (by omega))) e_st ⟨by decide, rfl⟩ ⟨by omega, by show 8 + (7 + 11) + 100 ≤ _; omega⟩ ⟨by omega, by omega⟩ (Nat.le_of_ble_eq_true rfl) (fun v_9 h_8 p_10 => ?_)
  obtain ⟨rfl, ⟨fs_1, fl_2, sc_3, lc_4, K_5, V_6⟩, fr_7⟩ := p_10
  refine x_le (xw_le_n (xw_le_s (xw_le_n (xw_le_n xw_le_e)))) ?_
  refine s_Store_mergeAll_44 ?_
  exact ⟨rfl, ⟨_, _, _, _, _, K_5, V_6⟩, fr_7⟩
set_option maxHeartbeats 2000000 in
theorem lp_cp2V {G : xw_G} {F L bc bs : Nat} {pr : Option Value → xw_A → Prop} {px : String → xw_A → Prop} {h0 : xw_A} {A : List Nat} {sv v1 v2 v3 v4 st s1 s2 s3 s4 : Nat} {sc lc : Nat} {pe vm sm : Int32} {gr gp gs gl : Nat → Option Nat} {pd sd ld : Nat} {qe wm tm : Int32} (SA : StA A sv v1 v2 v3 v4) (NE : sv ≠ st ∧ v1 ≠ s1 ∧ v2 ≠ s2 ∧ v3 ≠ s3 ∧ v4 ≠ s4)
    (kk : ∀ (h : xw_A) (f : Nat → Option Nat), h sv = some (.inr (8, [.ref v1, .ref v2, .ref v3, .ref v4, .int (nI pd), .int pe, .int (nI sc), .int vm, .int sm, .int (nI lc)])) → h v2 = some (oa 201 10 f) → ((∀ t, t < pd → ∃ b, f t = some b ∧ VerOK A h b) ∧ ∀ t, t < pd → f t = gp t) → StoC A st s1 s2 s3 s4 gr gp gs gl pd sd ld qe wm tm h → FrO [v2] h0 h → xw G m_Store_copyFrom F L bc bs pr px 62 [some (.ref sv), some (.ref st), none] [] h) :
    ∀ (d i : Nat) (h : xw_A) (f : Nat → Option Nat), i + d = pd → h sv = some (.inr (8, [.ref v1, .ref v2, .ref v3, .ref v4, .int (nI pd), .int pe, .int (nI sc), .int vm, .int sm, .int (nI lc)])) → h v2 = some (oa 201 10 f) → ((∀ t, t < i → ∃ b, f t = some b ∧ VerOK A h b) ∧ ∀ t, t < i → f t = gp t) → StoC A st s1 s2 s3 s4 gr gp gs gl pd sd ld qe wm tm h → FrO [v2] h0 h → xw G m_Store_copyFrom F L bc bs pr px 36 [some (.ref sv), some (.ref st), some (.int (nI i))] [] h := by
  intro d
  induction d with
  | zero =>
    intro i h f hi e_sv e_v2 hf K2 r0
    obtain ⟨g_st, g_s1, g_s2, g_s3, g_s4, hpd, hsd, hld, gR, gP, gS, gV, -⟩ := id K2
    obtain rfl : i = pd := by omega
    refine s_Store_copyFrom_36 (rows_a0 := some v1) (pending_a0 := some v2) (segments_a0 := some v3) (live_a0 := some v4) e_sv (fun _ => ?_) (fun z => absurd (nI_le (Nat.le_refl _) (by omega)) z)
    exact kk _ _ e_sv e_v2 hf K2 r0
  | succ d ih =>
    intro i h f hi e_sv e_v2 hf K2 r0
    obtain ⟨g_st, g_s1, g_s2, g_s3, g_s4, hpd, hsd, hld, gR, gP, gS, gV, -⟩ := id K2
    have SB : ∀ q ∈ [v2], q ∈ A := suC SA.2.2.1 suN
    have n0 : sv ≠ v2 := xw_neC e_sv e_v2 (by simp)
    refine s_Store_copyFrom_36 (rows_a0 := some v1) (pending_a0 := some v2) (segments_a0 := some v3) (live_a0 := some v4) e_sv (fun z => absurd z (nI_ge (b := pd) (show i < pd by omega) (by omega))) (fun _ => ?_)
    obtain ⟨b, hb, hbv⟩ := gP i (by omega)
    obtain ⟨-, wn, we, wr, wp, wq, ew, -⟩ := id hbv
    refine s_Store_copyFrom_44 (g54 := b) (first_g54 := some wp) (second_g54 := some wq) (rows_a0 := some v1) (segments_a0 := some v3) (live_a0 := some v4) (rows_a1 := some s1) (segments_a1 := some s3) (live_a1 := some s4) e_sv g_st g_s2 (vp_in_nI (by omega) (by decide)) (by rw [nI_clamp (by omega)]; exact hb) e_v2 (vp_in_nI (by omega) (by decide)) ew ?_
    refine x_u1 (fun h1 e1 f1 => ?_)
    have fq : FrO [v2] h h1 := FrO.rf.up (by simp) f1
    have K3 := K2.fr fq SB ⟨(by simp only [List.mem_cons, List.not_mem_nil, or_false]; exact xw_neC g_st e_v2 (by simp)), (by simp only [List.mem_cons, List.not_mem_nil, or_false]; exact xw_neC g_s1 e_v2 (by simp)), (by simp only [List.mem_cons, List.not_mem_nil, or_false]; exact Ne.symm NE.2.2.1), (by simp only [List.mem_cons, List.not_mem_nil, or_false]; exact xw_neC g_s3 e_v2 (by simp)), (by simp only [List.mem_cons, List.not_mem_nil, or_false]; exact xw_neC g_s4 e_v2 (by simp))⟩ (exC e1 exN)
    rw [nI_clamp (by omega)] at e1
    rw [nI_1]
    exact ih (i + 1) _ _ (by omega) ((f1 _ n0).trans e_sv) e1 ⟨allU (allV hf.1 fq SB) (hbv.fr fq SB), fun t ht => by by_cases q : t = i; (rw [q, va_up_self, hb]); (rw [va_up_ne _ _ q]; exact hf.2 t (by omega))⟩ K3 (r0.trans fq)
set_option maxHeartbeats 2000000 in
theorem lp_cp3V {G : xw_G} {F L bc bs : Nat} {pr : Option Value → xw_A → Prop} {px : String → xw_A → Prop} {h0 : xw_A} {A : List Nat} {sv v1 v2 v3 v4 st s1 s2 s3 s4 : Nat} {sc lc : Nat} {pe vm sm : Int32} {gr gp gs gl : Nat → Option Nat} {pd sd ld : Nat} {qe wm tm : Int32} (SA : StA A sv v1 v2 v3 v4) (NE : sv ≠ st ∧ v1 ≠ s1 ∧ v2 ≠ s2 ∧ v3 ≠ s3 ∧ v4 ≠ s4)
    (kk : ∀ (h : xw_A) (f : Nat → Option Nat), h sv = some (.inr (8, [.ref v1, .ref v2, .ref v3, .ref v4, .int (nI pd), .int qe, .int (nI sd), .int vm, .int sm, .int (nI lc)])) → h v3 = some (oa 512 6 f) → ((∀ t, t < sd → ∃ b, f t = some b ∧ SegOK A h b) ∧ ∀ t, t < sd → f t = gs t) → StoC A st s1 s2 s3 s4 gr gp gs gl pd sd ld qe wm tm h → FrO [v3] h0 h → xw G m_Store_copyFrom F L bc bs pr px 106 [none, none, none] [] h) :
    ∀ (d i : Nat) (h : xw_A) (f : Nat → Option Nat), i + d = sd → h sv = some (.inr (8, [.ref v1, .ref v2, .ref v3, .ref v4, .int (nI pd), .int qe, .int (nI sd), .int vm, .int sm, .int (nI lc)])) → h v3 = some (oa 512 6 f) → ((∀ t, t < i → ∃ b, f t = some b ∧ SegOK A h b) ∧ ∀ t, t < i → f t = gs t) → StoC A st s1 s2 s3 s4 gr gp gs gl pd sd ld qe wm tm h → FrO [v3] h0 h → xw G m_Store_copyFrom F L bc bs pr px 80 [some (.ref sv), some (.ref st), some (.int (nI i))] [] h := by
  intro d
  induction d with
  | zero =>
    intro i h f hi e_sv e_v3 hf K2 r0
    obtain ⟨g_st, g_s1, g_s2, g_s3, g_s4, hpd, hsd, hld, gR, gP, gS, gV, -⟩ := id K2
    obtain rfl : i = sd := by omega
    refine s_Store_copyFrom_80 (rows_a0 := some v1) (pending_a0 := some v2) (segments_a0 := some v3) (live_a0 := some v4) e_sv (fun _ => ?_) (fun z => absurd (nI_le (Nat.le_refl _) (by omega)) z)
    exact kk _ _ e_sv e_v3 hf K2 r0
  | succ d ih =>
    intro i h f hi e_sv e_v3 hf K2 r0
    obtain ⟨g_st, g_s1, g_s2, g_s3, g_s4, hpd, hsd, hld, gR, gP, gS, gV, -⟩ := id K2
    have SB : ∀ q ∈ [v3], q ∈ A := suC SA.2.2.2.1 suN
    have n0 : sv ≠ v3 := xw_neC e_sv e_v3 (by simp)
    refine s_Store_copyFrom_80 (rows_a0 := some v1) (pending_a0 := some v2) (segments_a0 := some v3) (live_a0 := some v4) e_sv (fun z => absurd z (nI_ge (b := sd) (show i < sd by omega) (by omega))) (fun _ => ?_)
    obtain ⟨b, hb, hbv⟩ := gS i (by omega)
    obtain ⟨-, wv, wn, wl, we, wf, ew, -⟩ := id hbv
    refine s_Store_copyFrom_88 (g98 := b) (versions_g98 := some wv) (rows_a0 := some v1) (pending_a0 := some v2) (live_a0 := some v4) (rows_a1 := some s1) (pending_a1 := some s2) (live_a1 := some s4) e_sv g_st g_s3 (vp_in_nI (by omega) (by decide)) (by rw [nI_clamp (by omega)]; exact hb) e_v3 (vp_in_nI (by omega) (by decide)) ew ?_
    refine x_u1 (fun h1 e1 f1 => ?_)
    have fq : FrO [v3] h h1 := FrO.rf.up (by simp) f1
    have K3 := K2.fr fq SB ⟨(by simp only [List.mem_cons, List.not_mem_nil, or_false]; exact xw_neC g_st e_v3 (by simp)), (by simp only [List.mem_cons, List.not_mem_nil, or_false]; exact xw_neC g_s1 e_v3 (by simp)), (by simp only [List.mem_cons, List.not_mem_nil, or_false]; exact xw_neC g_s2 e_v3 (by simp)), (by simp only [List.mem_cons, List.not_mem_nil, or_false]; exact Ne.symm NE.2.2.2.1), (by simp only [List.mem_cons, List.not_mem_nil, or_false]; exact xw_neC g_s4 e_v3 (by simp))⟩ (exC e1 exN)
    rw [nI_clamp (by omega)] at e1
    rw [nI_1]
    exact ih (i + 1) _ _ (by omega) ((f1 _ n0).trans e_sv) e1 ⟨allU (allS hf.1 fq SB) (hbv.fr fq SB), fun t ht => by by_cases q : t = i; (rw [q, va_up_self, hb]); (rw [va_up_ne _ _ q]; exact hf.2 t (by omega))⟩ K3 (r0.trans fq)
set_option maxHeartbeats 4000000 in
theorem g_copyV {G : xw_G} {F L : Nat} {h : xw_A} {A : List Nat} {sv v1 v2 v3 v4 st s1 s2 s3 s4 : Nat} {fr fp fs fl : Nat → Option Nat} {pc sc lc : Nat} {pe vm sm : Int32} {gr gp gs gl : Nat → Option Nat} {pd sd ld : Nat} {qe wm tm : Int32} (K : StoC A sv v1 v2 v3 v4 fr fp fs fl pc sc lc pe vm sm h) (K2 : StoC A st s1 s2 s3 s4 gr gp gs gl pd sd ld qe wm tm h) (SA : StA A sv v1 v2 v3 v4) (NE : sv ≠ st ∧ v1 ≠ s1 ∧ v2 ≠ s2 ∧ v3 ≠ s3 ∧ v4 ≠ s4) (hF : 1 ≤ F) (hL : 20 ≤ L) :
    xw_Met G m_Store_copyFrom F L 0 0 [.ref sv, .ref st] h (fun v h' => v = none ∧ (∃ fr' fp' fs' : Nat → Option Nat, StoC A sv v1 v2 v3 v4 fr' fp' fs' fl pd sd lc qe vm sm h' ∧ (∀ j, 1 ≤ j → j ≤ 24 → fr' j = gr j) ∧ (∀ t, t < pd → fp' t = gp t) ∧ ∀ t, t < sd → fs' t = gs t) ∧ StoC A st s1 s2 s3 s4 gr gp gs gl pd sd ld qe wm tm h' ∧ FrO [sv, v1, v2, v3] h h') (fun _ _ => False) := by
  refine xw_Met.of rfl (by decide) (Nat.le_of_ble_eq_true rfl) ?_
  refine s_Store_copyFrom_0 ?_
  refine lp_cp1 SA NE (fun ha fra Ka K2a hca ra => ?_) 24 1 _ _ rfl K K2 (fun j h1 h2 => absurd h2 (by omega)) FrO.rf
  obtain ⟨a_sv, a_v1, a_v2, a_v3, a_v4, hpc, hsc, hlc, hR, hP, hS, hV, hAO⟩ := Ka
  obtain ⟨b_st, b_s1, b_s2, b_s3, b_s4, hpd, hsd, -⟩ := id K2a
  refine s_Store_copyFrom_26 (rows_a0 := some v1) (pending_a0 := some v2) (segments_a0 := some v3) (live_a0 := some v4) (rows_a1 := some s1) (pending_a1 := some s2) (segments_a1 := some s3) (live_a1 := some s4) b_st a_sv ?_
  refine x_u1 (fun hb eb fb => ?_)
  have qb : FrO [sv] ha hb := FrO.rf.up (by simp) fb
  have K2b := K2a.fr qb (suC SA.1 suN) ⟨(by simp only [List.mem_cons, List.not_mem_nil, or_false]; exact Ne.symm NE.1), (by simp only [List.mem_cons, List.not_mem_nil, or_false]; exact xw_neC b_s1 a_sv (by simp)), (by simp only [List.mem_cons, List.not_mem_nil, or_false]; exact xw_neC b_s2 a_sv (by simp)), (by simp only [List.mem_cons, List.not_mem_nil, or_false]; exact xw_neC b_s3 a_sv (by simp)), (by simp only [List.mem_cons, List.not_mem_nil, or_false]; exact xw_neC b_s4 a_sv (by simp))⟩ (exC eb exN)
  refine lp_cp2V SA NE (fun hc fc ec_sv ec_v2 hfc K2c rc => ?_) pd 0 _ _ (Nat.zero_add _) eb ((fb _ (xw_neC a_v2 a_sv (by simp))).trans a_v2) ⟨(fun t ht => absurd ht (Nat.not_lt_zero _)), (fun t ht => absurd ht (Nat.not_lt_zero _))⟩ K2b FrO.rf
  obtain ⟨c_st, c_s1, c_s2, c_s3, c_s4, -⟩ := id K2c
  refine s_Store_copyFrom_62 (rows_a0 := some v1) (pending_a0 := some v2) (segments_a0 := some v3) (live_a0 := some v4) (rows_a1 := some s1) (pending_a1 := some s2) (segments_a1 := some s3) (live_a1 := some s4) c_st ec_sv (Ne.symm NE.1) ?_
  rw [xw_up_up]
  refine x_u1 (fun hd ed fd => ?_)
  have qd : FrO [sv] hc hd := FrO.rf.up (by simp) fd
  have K2d := K2c.fr qd (suC SA.1 suN) ⟨(by simp only [List.mem_cons, List.not_mem_nil, or_false]; exact Ne.symm NE.1), (by simp only [List.mem_cons, List.not_mem_nil, or_false]; exact xw_neC c_s1 ec_sv (by simp)), (by simp only [List.mem_cons, List.not_mem_nil, or_false]; exact xw_neC c_s2 ec_sv (by simp)), (by simp only [List.mem_cons, List.not_mem_nil, or_false]; exact xw_neC c_s3 ec_sv (by simp)), (by simp only [List.mem_cons, List.not_mem_nil, or_false]; exact xw_neC c_s4 ec_sv (by simp))⟩ (exC ed exN)
  have n32 : v3 ≠ v2 := xw_neC a_v3 a_v2 (by simp)
  have n30 : v3 ≠ sv := xw_neC a_v3 a_sv (by simp)
  have n12 : v1 ≠ v2 := xw_neC a_v1 a_v2 (by simp)
  have n10 : v1 ≠ sv := xw_neC a_v1 a_sv (by simp)
  have n42 : v4 ≠ v2 := xw_neC a_v4 a_v2 (by simp)
  have n40 : v4 ≠ sv := xw_neC a_v4 a_sv (by simp)
  have n20 : v2 ≠ sv := xw_neC a_v2 a_sv (by simp)
  have n13 : v1 ≠ v3 := xw_neC a_v1 a_v3 (by simp)
  have n43 : v4 ≠ v3 := xw_neC a_v4 a_v3 (by simp)
  have c_v3 := rc v3 _ (by simp [n32]) ((fb _ n30).trans a_v3)
  have c_v1 := rc v1 _ (by simp [n12]) ((fb _ n10).trans a_v1)
  have c_v4 := rc v4 _ (by simp [n42]) ((fb _ n40).trans a_v4)
  refine lp_cp3V (sc := sc) (pe := pe) SA NE (fun he fe ee_sv ee_v3 hfe K2e re => ?_) sd 0 _ _ (Nat.zero_add _) ed ((fd _ n30).trans c_v3) ⟨(fun t ht => absurd ht (Nat.not_lt_zero _)), (fun t ht => absurd ht (Nat.not_lt_zero _))⟩ K2d FrO.rf
  have e_v1 := re v1 _ (by simp [n13]) ((fd _ n10).trans c_v1)
  have e_v4 := re v4 _ (by simp [n43]) ((fd _ n40).trans c_v4)
  have e_v2 := re v2 _ (by simp [Ne.symm n32]) ((fd _ n20).trans ec_v2)
  have R1 : FrO [sv, v1, v2, v3] ha he := (((qb.mono (by simp)).trans (rc.mono (by simp))).trans (qd.mono (by simp))).trans (re.mono (by simp))
  have R2 : FrO [sv, v1, v2, v3] hc he := (qd.mono (by simp)).trans (re.mono (by simp))
  have R0 : FrO [sv, v1, v2, v3] h he := (ra.mono (by simp)).trans R1
  have SB : ∀ q ∈ [sv, v1, v2, v3], q ∈ A := suC SA.1 (suC SA.2.1 (suC SA.2.2.1 (suC SA.2.2.2.1 suN)))
  refine s_Store_copyFrom_106 ⟨rfl, ⟨fra, fc, fe, ⟨ee_sv, e_v1, e_v2, ee_v3, e_v4, hpd, hsd, hlc, allR hR R1 SB, allV hfc.1 R2 SB, hfe.1, allV hV R1 SB, hAO.fr R1 (exC ee_sv (exC e_v1 (exC e_v2 (exC ee_v3 exN))))⟩, hca, hfc.2, hfe.2⟩, K2e, R0⟩
theorem StV.copy {A : List Nat} {h : xw_A} {fr fp fs fl fr2 fp2 fs2 gl : Nat → Option Nat} {pc sc lc ld : Nat} {R : Nat → Option VT} {P : List VT} {S : List SG} {L L2 : List VT} (k : StV A h fr fp fs fl pc sc lc R P S L) (hr : ∀ j, 1 ≤ j → j ≤ 24 → fr2 j = fr j) (hp : ∀ t, t < pc → fp2 t = fp t) (hs : ∀ t, t < sc → fs2 t = fs t) (hl : L2.length = ld ∧ PdV A h gl L2) : StV A h fr2 fp2 fs2 gl pc sc ld R P S L2 := by
  refine ⟨fun i h1 h2 => ?_, ⟨k.2.1.1, k.2.1.2.congr (fun i hi => hp i (by rw [← k.2.1.1]; exact hi))⟩, ⟨k.2.2.1.1, fun i s q => ?_⟩, hl⟩
  · rw [hr i h1 h2]; exact k.1 i h1 h2
  · obtain ⟨a, e, v⟩ := k.2.2.1.2 i s q
    exact ⟨a, (hs i (by rw [← k.2.2.1.1]; exact (List.getElem?_eq_some_iff.mp q).1)).trans e, v⟩
