/-! TIER S, reference: what its scores are made of -/
/-- how often phrase p stands in row r's column c -/
noncomputable def cnR (ws : List (List Int32)) (A N : Nat → Nat) (Bb : Nat → Bool) (ft fz : Nat → Int32) (p r c : Nat) : Nat := cP (SdP ws (A p) (N p) (Bb p) (Tw ft fz r c)) (Tw ft fz r c).length
/-- in how many rows -/
noncomputable def wiR (ws : List (List Int32)) (A N : Nat → Nat) (Bb : Nat → Bool) (ft fz fv : Nat → Int32) (p k : Nat) : Nat := cP (fun o => ¬ fv o < 0 ∧ 0 < cnR ws A N Bb ft fz p o 0 + cnR ws A N Bb ft fz p o 1) k
noncomputable def fqR (ws : List (List Int32)) (A N : Nat → Nat) (Bb : Nat → Bool) (ft fz : Nat → Int32) (w0 w1 p r : Nat) : Nat := w0 * cnR ws A N Bb ft fz p r 0 + w1 * cnR ws A N Bb ft fz p r 1
/-- the tokens of a row, of the first k rows -/
def tk1 (ft fz : Nat → Int32) (r : Nat) : Nat := (Tw ft fz r 0).length + (Tw ft fz r 1).length
def tkR (fv ft fz : Nat → Int32) : Nat → Nat
  | 0 => 0
  | k + 1 => tkR fv ft fz k + (if fv k < 0 then 0 else tk1 ft fz k)
theorem tkR_n {fv ft fz : Nat → Int32} {k : Nat} (h : fv k < 0) : tkR fv ft fz (k + 1) = tkR fv ft fz k := by rw [tkR, if_pos h, Nat.add_zero]
theorem tkR_y {fv ft fz : Nat → Int32} {k : Nat} (h : ¬ fv k < 0) : tkR fv ft fz (k + 1) = tkR fv ft fz k + tk1 ft fz k := by rw [tkR, if_neg h]
theorem tk1_eq {ft fz : Nat → Int32} {r k : Nat} (h : k = tokN (fun j => ft (96 * r + 48 * 0 + j)) (fz (2 * r + 0)).toNatClampNeg + tokN (fun j => ft (96 * r + 48 * 1 + j)) (fz (2 * r + 1)).toNatClampNeg) : k = tk1 ft fz r := by
  unfold tk1
  rw [Tw_len, Tw_len]
  exact h
noncomputable def scM (ws : List (List Int32)) (A N : Nat → Nat) (Bb : Nat → Bool) (ft fz fv : Nat → Int32) (w0 w1 P r : Nat) : UInt64 := scN (fun q => fqR ws A N Bb ft fz w0 w1 q r) (fun q => wiR ws A N Bb ft fz fv q 24) (cntL fv 24) (tk1 ft fz r) (avF (tkR fv ft fz 24) (cntL fv 24)) P
theorem cnR_le {ws : List (List Int32)} {A N : Nat → Nat} {Bb : Nat → Bool} {ft fz : Nat → Int32} {p r c : Nat} (hz : SZo fz 48) (hr : r < 24) (hc : c < 2) : cnR ws A N Bb ft fz p r c ≤ 24 := Nat.le_trans (cP_le _) (Tw_24 hz r c hr hc)
/-- the logarithm as the reference makes it -/
theorem ra_lg {r w : Nat} {y : UInt64} (hr : r < 25) (hw : w ≤ r) (h : lgF (lnA (nI r) (nI w)) = some y) : raF r w = if 0 < (Op.cmpValue (FP.dcmp y FP.dconst0) .l) then y else 4517329193108106637 := by
  rw [lgF_ln (lgE_all r hr w (by omega))] at h
  unfold raF
  rw [h]
  dsimp only
  by_cases q : 0 < (Op.cmpValue (FP.dcmp y FP.dconst0) .l)
  · rw [if_pos q, if_neg (Int32.not_le.mpr q)]
  · rw [if_neg q, if_pos (Int32.not_lt.mp q)]
/-- the answers and their scores -/
def FnS (P : Nat → Prop) (S : Nat → UInt64) (k fn : Nat) (fsc : Nat → UInt64) : Prop := ∀ j r : Nat, (fL P k)[j]? = some r → fsc j = S (r - 1)
theorem FnS.zero {P : Nat → Prop} {S : Nat → UInt64} {fsc : Nat → UInt64} : FnS P S 0 0 fsc := fun j r h => by rw [show fL P 0 = [] from rfl] at h; cases h
theorem FnS.no {P : Nat → Prop} {S : Nat → UInt64} {k fn : Nat} {fsc : Nat → UInt64} (h : FnS P S k fn fsc) (hp : ¬ P (k + 1)) : FnS P S (k + 1) fn fsc := by
  unfold FnS
  rw [fL_n hp]
  exact h
theorem FnS.yes {P : Nat → Prop} {S : Nat → UInt64} {k fn : Nat} {fsc : Nat → UInt64} {x : UInt64} (h : FnS P S k fn fsc) (hp : P (k + 1)) (hn : fn = (fL P k).length) (hx : x = S k) : FnS P S (k + 1) (fn + 1) (vf_upd fsc fn x) := by
  unfold FnS
  rw [fL_y hp]
  intro j r hr
  by_cases q : j = fn
  · subst q
    rw [hn, List.getElem?_append_right (Nat.le_refl _), Nat.sub_self] at hr
    obtain rfl : k + 1 = r := by simpa using hr
    rw [vf_us, hx]
    rfl
  · have hj : j < (fL P k).length := by
      have := (List.getElem?_eq_some_iff.mp hr).1
      rw [List.length_append, List.length_singleton] at this
      omega
    rw [List.getElem?_append_left hj] at hr
    rw [vf_un q]
    exact h j r hr
theorem cinjD {h : xw_A} {a n t : Nat} {f g : Nat → UInt64} (e1 : h a = some (.inl (t, n, .inr (.inr (.inr (.inl f)))))) (e2 : h a = some (.inl (t, n, .inr (.inr (.inr (.inl g)))))) : f = g := by
  have q := e1.symm.trans e2
  simp only [Option.some.injEq, Sum.inl.injEq, Prod.mk.injEq, Sum.inr.injEq, true_and] at q
  exact q
