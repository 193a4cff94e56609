/-! DOUBLES: numbers that are no NaN -/
def NNd (d : Jvm.FP.Core.Datum) : Prop := d = .inf false ∨ ∃ c q, d = .fin false c q
def POd (d : Jvm.FP.Core.Datum) : Prop := d = .inf false ∨ ∃ c q, d = .fin false c q ∧ 0 < c
/-- not negative -/
def NN (x : UInt64) : Prop := NNd (Jvm.FP.Core.val64 x)
/-- greater than 0 -/
def PO (x : UInt64) : Prop := POd (Jvm.FP.Core.val64 x)
/-- not negative, no infinity -/
def FI (x : UInt64) : Prop := ∃ c q, Jvm.FP.Core.val64 x = .fin false c q
def smB (x : UInt64) : Bool := match Jvm.FP.Core.val64 x with
  | .fin false _ q => decide (q ≤ 0)
  | _ => false
def meB (x : UInt64) : Bool := match Jvm.FP.Core.val64 x with
  | .fin false c q => decide (0 < c ∧ -100 ≤ q ∧ q ≤ 0)
  | _ => false
theorem smB.of {x : UInt64} (h : smB x = true) : ∃ c q, Jvm.FP.Core.val64 x = .fin false c q ∧ q ≤ 0 := by
  unfold smB at h
  split at h
  · exact ⟨_, _, by assumption, of_decide_eq_true h⟩
  · cases h
theorem meB.of {x : UInt64} (h : meB x = true) : ∃ c q, Jvm.FP.Core.val64 x = .fin false c q ∧ 0 < c ∧ -100 ≤ q ∧ q ≤ 0 := by
  unfold meB at h
  split at h
  · exact ⟨_, _, by assumption, of_decide_eq_true h⟩
  · cases h
theorem meB.sm {x : UInt64} (h : meB x = true) : smB x = true := by
  obtain ⟨c, q, e, -, -, h3⟩ := meB.of h
  unfold smB
  rw [e]
  exact decide_eq_true h3
theorem num64 {x : UInt64} (h : Jvm.FP.Core.val64 x ≠ .nan) : x &&& 0x7fffffffffffffff ≤ 0x7ff0000000000000 := by
  rw [UInt64.le_iff_toNat_le, UInt64.toNat_and]
  show x.toNat &&& 9223372036854775807 ≤ 9218868437227405312
  rw [show (9223372036854775807 : Nat) = 2 ^ 63 - 1 from rfl, Nat.and_two_pow_sub_one_eq_mod]
  refine Nat.le_of_not_lt (fun hlt => h ?_)
  have hn : x.toNat < 2 ^ 64 := x.toNat_lt
  generalize hx : x.toNat = n at hlt hn
  have e1 : Jvm.FP.Core.fieldE Jvm.FP.Core.b64 n = 2047 := by
    show n / 4503599627370496 % 2048 = 2047
    omega
  have e2 : ¬ Jvm.FP.Core.fieldT Jvm.FP.Core.b64 n = 0 := by
    show ¬ n % 4503599627370496 = 0
    omega
  unfold Jvm.FP.Core.val64 Jvm.FP.Core.decode
  rw [hx, if_pos (show Jvm.FP.Core.fieldE Jvm.FP.Core.b64 n = Jvm.FP.Core.b64.exps - 1 from e1), if_neg e2]
theorem NN.num {x : UInt64} (h : NN x) : x &&& 0x7fffffffffffffff ≤ 0x7ff0000000000000 := num64 (by
  rcases h with h | ⟨c, q, h⟩
  · rw [h]; exact fun z => nomatch z
  · rw [h]; exact fun z => nomatch z)
theorem PO.nn {x : UInt64} (h : PO x) : NN x := h.elim Or.inl (fun ⟨c, q, e, _⟩ => Or.inr ⟨c, q, e⟩)
theorem FI.nn {x : UInt64} (h : FI x) : NN x := Or.inr h
theorem smB.fi {x : UInt64} (h : smB x = true) : FI x := by
  obtain ⟨c, q, e, -⟩ := smB.of h
  exact ⟨c, q, e⟩
theorem meB.po {x : UInt64} (h : meB x = true) : PO x := by
  obtain ⟨c, q, e, h1, -⟩ := meB.of h
  exact Or.inr ⟨c, q, e, h1⟩
theorem bound_nn (f : Jvm.FP.Core.Fmt) (c : Nat) (q : Int) : NNd (Jvm.FP.Core.bound f false c q) := by
  unfold Jvm.FP.Core.bound
  split
  · exact Or.inr ⟨_, _, rfl⟩
  · exact Or.inl rfl
theorem rr_nn (f : Jvm.FP.Core.Fmt) (A B : Nat) (e : Int) : NNd (Jvm.FP.Core.roundRatio f false A B e) := by
  unfold Jvm.FP.Core.roundRatio
  split
  · exact Or.inr ⟨_, _, rfl⟩
  · unfold Jvm.FP.Core.roundAt Jvm.FP.Core.settle
    split
    · exact bound_nn _ _ _
    · exact bound_nn _ _ _
theorem bound_po (f : Jvm.FP.Core.Fmt) {c : Nat} (q : Int) (hc : 0 < c) : POd (Jvm.FP.Core.bound f false c q) := by
  unfold Jvm.FP.Core.bound
  split
  · exact Or.inr ⟨_, _, rfl, hc⟩
  · exact Or.inl rfl
theorem rr_po {A B : Nat} {e : Int} (hA : 0 < A) (hB : 0 < B) (h : ¬ Jvm.FP.Core.Below A B (Jvm.FP.Core.b64.qmin - e)) : POd (Jvm.FP.Core.roundRatio Jvm.FP.Core.b64 false A B e) := by
  unfold Jvm.FP.Core.roundRatio
  rw [if_neg (by omega)]
  unfold Jvm.FP.Core.roundAt
  have h1 : 1 ≤ Jvm.FP.Core.nearest (Jvm.FP.Core.unitsNum A e (Jvm.FP.Core.quantum Jvm.FP.Core.b64 A B e)) (Jvm.FP.Core.unitsDen B e (Jvm.FP.Core.quantum Jvm.FP.Core.b64 A B e)) := by
    refine Jvm.FP.Core.nearest_ge (Jvm.FP.Core.unitsDen_pos hB _ _) ?_
    refine Nat.le_of_not_lt (fun hlt => ?_)
    have h2 : Jvm.FP.Core.Below A B (Jvm.FP.Core.quantum Jvm.FP.Core.b64 A B e - e + (0 : Nat)) := (Jvm.FP.Core.units_below A B e _ 0).mp (by rw [Nat.pow_zero]; exact hlt)
    rcases Jvm.FP.Core.quantum_not_below (f := Jvm.FP.Core.b64) hA hB e with h3 | h3
    · rw [h3] at h2
      exact h (Jvm.FP.Core.below_mono (by omega) h2)
    · refine h3 (Jvm.FP.Core.below_mono ?_ h2)
      show _ ≤ _ + ((53 : Nat) - 1 : Int)
      omega
  unfold Jvm.FP.Core.settle
  split
  · exact bound_po _ _ h1
  · exact bound_po _ _ (by decide)
theorem q64 {x : UInt64} {s : Bool} {c : Nat} {q : Int} (h : Jvm.FP.Core.val64 x = .fin s c q) : c < 2 ^ 53 ∧ -1074 ≤ q := by
  have h1 := Jvm.FP.Core.val64_fits x
  rw [h] at h1
  exact ⟨h1.1, h1.2.1⟩
theorem sum64 {x y : UInt64} {c d : Nat} {q r : Int} (hx : Jvm.FP.Core.val64 x = .fin false c q) (hy : Jvm.FP.Core.val64 y = .fin false d r) : ∃ n, Jvm.FP.Core.val64 (Jvm.FP.dadd x y) = Jvm.FP.Core.roundRatio Jvm.FP.Core.b64 false n 1 (min q r) ∧ (0 < c → 0 < n) := by
  have e : Jvm.FP.Core.val64 (Jvm.FP.dadd x y) = _ := Jvm.FP.Core.val64_dadd x y
  rw [hx, hy] at e
  unfold Jvm.FP.Core.exactSum at e
  have v : Jvm.FP.Core.sumUnits false c q false d r (min q r) = ((Jvm.FP.Core.inUnits c q (min q r) + Jvm.FP.Core.inUnits d r (min q r) : Nat) : Int) := by
    unfold Jvm.FP.Core.sumUnits Jvm.FP.Core.signed
    simp
  dsimp only at e
  rw [v] at e
  have s : Jvm.FP.Core.sumSign false false ((Jvm.FP.Core.inUnits c q (min q r) + Jvm.FP.Core.inUnits d r (min q r) : Nat) : Int) = false := by
    unfold Jvm.FP.Core.sumSign
    split
    · rfl
    · exact decide_eq_false (by omega)
  rw [s, Int.natAbs_natCast] at e
  refine ⟨_, e, fun hc => ?_⟩
  have h1 : 0 < Jvm.FP.Core.inUnits c q (min q r) := Nat.mul_pos hc (Nat.two_pow_pos _)
  omega
theorem nn_dadd {x y : UInt64} (hx : NN x) (hy : NN y) : NN (Jvm.FP.dadd x y) := by
  have e : Jvm.FP.Core.val64 (Jvm.FP.dadd x y) = _ := Jvm.FP.Core.val64_dadd x y
  rcases hx with hx | ⟨c, q, hx⟩
  · rcases hy with hy | ⟨d, r, hy⟩
    · exact Or.inl (by rw [e, hx, hy]; rfl)
    · exact Or.inl (by rw [e, hx, hy]; rfl)
  · rcases hy with hy | ⟨d, r, hy⟩
    · exact Or.inl (by rw [e, hx, hy]; rfl)
    · obtain ⟨n, h1, -⟩ := sum64 hx hy
      show NNd _
      rw [h1]
      exact rr_nn _ _ _ _
theorem po_dadd {x y : UInt64} (hx : meB x = true) (hy : NN y) : PO (Jvm.FP.dadd x y) := by
  have e : Jvm.FP.Core.val64 (Jvm.FP.dadd x y) = _ := Jvm.FP.Core.val64_dadd x y
  obtain ⟨c, q, hx, hc, -⟩ := meB.of hx
  rcases hy with hy | ⟨d, r, hy⟩
  · exact Or.inl (by rw [e, hx, hy]; rfl)
  · obtain ⟨n, h1, h2⟩ := sum64 hx hy
    show POd _
    rw [h1]
    refine rr_po (h2 hc) (by decide) ?_
    have q1 := (q64 hx).2
    have q2 := (q64 hy).2
    unfold Jvm.FP.Core.Below
    have e1 : (Jvm.FP.Core.b64.qmin - min q r).toNat = 0 := by
      show ((-1074 : Int) - min q r).toNat = 0
      omega
    rw [e1]
    have h3 := h2 hc
    have h4 : 0 < n * 2 ^ (-(Jvm.FP.Core.b64.qmin - min q r)).toNat := Nat.mul_pos h3 (Nat.two_pow_pos _)
    omega
theorem nn_dmul {x y : UInt64} (hx : meB x = true) (hy : NN y) : NN (Jvm.FP.dmul x y) := by
  have e : Jvm.FP.Core.val64 (Jvm.FP.dmul x y) = _ := Jvm.FP.Core.val64_dmul x y
  obtain ⟨c, q, hx, hc, -⟩ := meB.of hx
  rcases hy with hy | ⟨d, r, hy⟩
  · refine Or.inl ?_
    rw [e, hx, hy]
    unfold Jvm.FP.Core.exactProduct
    dsimp only
    rw [if_neg (by omega)]
    rfl
  · show NNd _
    rw [e, hx, hy]
    exact rr_nn _ _ _ _
theorem nn_ddiv {x y : UInt64} (hx : FI x) (hy : PO y) : NN (Jvm.FP.ddiv x y) := by
  have e : Jvm.FP.Core.val64 (Jvm.FP.ddiv x y) = _ := Jvm.FP.Core.val64_ddiv x y
  obtain ⟨c, q, hx⟩ := hx
  show NNd _
  rw [e, hx]
  rcases hy with hy | ⟨d, r, hy, hd⟩
  · rw [hy]
    exact Or.inr ⟨_, _, rfl⟩
  · rw [hy]
    unfold Jvm.FP.Core.quotient
    dsimp only
    rw [if_neg (by omega)]
    exact rr_nn _ _ _ _
theorem fi_dmul {x y : UInt64} (hx : smB x = true) (hy : smB y = true) : FI (Jvm.FP.dmul x y) := by
  have e : Jvm.FP.Core.val64 (Jvm.FP.dmul x y) = _ := Jvm.FP.Core.val64_dmul x y
  obtain ⟨c, q, hx, hq⟩ := smB.of hx
  obtain ⟨d, r, hy, hr⟩ := smB.of hy
  rw [hx, hy] at e
  have hc := (q64 hx).1
  have hd := (q64 hy).1
  have hcd : c * d < 2 ^ 53 * 2 ^ 53 := Nat.mul_lt_mul'' hc hd
  unfold FI
  rw [e]
  show ∃ c' q', Jvm.FP.Core.roundRatio Jvm.FP.Core.b64 false (c * d) 1 (q + r) = .fin false c' q'
  unfold Jvm.FP.Core.roundRatio
  split
  · exact ⟨_, _, rfl⟩
  · rename_i h0
    have hl : Jvm.FP.Core.leading (c * d) 1 < 106 := Jvm.FP.Core.lt_of_below (Jvm.FP.Core.leading_spec (by omega) (by decide)).1 (show c * d * 2 ^ 0 < 1 * 2 ^ 106 by omega)
    have hqu : Jvm.FP.Core.quantum Jvm.FP.Core.b64 (c * d) 1 (q + r) + 1 ≤ Jvm.FP.Core.b64.qmax := by
      show max (-1074 : Int) (Jvm.FP.Core.leading (c * d) 1 + (q + r) - ((53 : Nat) - 1 : Int)) + 1 ≤ 971
      omega
    unfold Jvm.FP.Core.roundAt Jvm.FP.Core.settle
    split
    · unfold Jvm.FP.Core.bound
      rw [if_pos (by omega)]
      exact ⟨_, _, rfl⟩
    · unfold Jvm.FP.Core.bound
      rw [if_pos hqu]
      exact ⟨_, _, rfl⟩
theorem po_ddiv {x y : UInt64} (hx : meB x = true) (hy : meB y = true) : PO (Jvm.FP.ddiv x y) := by
  have e : Jvm.FP.Core.val64 (Jvm.FP.ddiv x y) = _ := Jvm.FP.Core.val64_ddiv x y
  obtain ⟨c, q, hx, hc, hq1, hq2⟩ := meB.of hx
  obtain ⟨d, r, hy, hd, hr1, hr2⟩ := meB.of hy
  have hd2 := (q64 hy).1
  show POd _
  rw [e, hx, hy]
  unfold Jvm.FP.Core.quotient
  dsimp only
  rw [if_neg (by omega)]
  refine rr_po hc hd ?_
  unfold Jvm.FP.Core.Below
  have e1 : (Jvm.FP.Core.b64.qmin - (q - r)).toNat = 0 := by
    show ((-1074 : Int) - (q - r)).toNat = 0
    omega
  rw [e1]
  obtain ⟨k, hk⟩ : ∃ k, (-(Jvm.FP.Core.b64.qmin - (q - r))).toNat = 53 + k := ⟨(-(Jvm.FP.Core.b64.qmin - (q - r))).toNat - 53, by
    show (-((-1074 : Int) - (q - r))).toNat = 53 + ((-((-1074 : Int) - (q - r))).toNat - 53)
    omega⟩
  rw [hk, Nat.pow_add]
  have h5 : 1 ≤ c * 2 ^ k := Nat.mul_pos hc (Nat.two_pow_pos _)
  have h6 : c * (2 ^ 53 * 2 ^ k) = 2 ^ 53 * (c * 2 ^ k) := by ac_rfl
  rw [h6]
  omega
/-! THE LOGARITHM as the class computes it -/
def n64 (x : UInt64) : Bool := decide (x &&& 0x7fffffffffffffff ≤ 0x7ff0000000000000)
theorem n64.of {x : UInt64} (h : n64 x = true) : vf_n64 x := (of_decide_eq_true h : x &&& 0x7fffffffffffffff ≤ 0x7ff0000000000000)
def lnU : Nat → UInt64 → Int32 → Option (UInt64 × Int32)
  | 0, x, k => some (x, k)
  | d + 1, x, k => if (Op.cmpValue (FP.dcmp x 4609434218613702656) .l) < 0 then some (x, k) else if n64 (FP.ddiv x 4611686018427387904) = true then lnU d (FP.ddiv x 4611686018427387904) (k + 1) else none
def lnD : Nat → UInt64 → Int32 → Option (UInt64 × Int32)
  | 0, x, k => some (x, k)
  | d + 1, x, k => if 0 ≤ (Op.cmpValue (FP.dcmp x 4604930618986332160) .g) then some (x, k) else if n64 (FP.dmul x 4611686018427387904) = true then lnD d (FP.dmul x 4611686018427387904) (k + (-1)) else none
def lnS (y : UInt64) : List Int32 → UInt64 → Option UInt64
  | [], s => some s
  | j :: l, s => if n64 (FP.dmul s y) = true ∧ n64 (FP.ddiv FP.dconst1 (FP.i2d j)) = true ∧ n64 (FP.dadd (FP.dmul s y) (FP.ddiv FP.dconst1 (FP.i2d j))) = true then lnS y l (FP.dadd (FP.dmul s y) (FP.ddiv FP.dconst1 (FP.i2d j))) else none
abbrev lnZ (x : UInt64) : UInt64 := FP.ddiv (FP.dsub x FP.dconst1) (FP.dadd x FP.dconst1)
def lnE (z : UInt64) (k : Int32) (s : UInt64) : Option UInt64 :=
  if n64 (FP.dmul 4611686018427387904 z) = true ∧ n64 (FP.dmul (FP.dmul 4611686018427387904 z) s) = true ∧ n64 (FP.dmul (FP.i2d k) 4604418534313441775) = true ∧ n64 (FP.dadd (FP.dmul (FP.dmul 4611686018427387904 z) s) (FP.dmul (FP.i2d k) 4604418534313441775)) = true then some (FP.dadd (FP.dmul (FP.dmul 4611686018427387904 z) s) (FP.dmul (FP.i2d k) 4604418534313441775)) else none
def lnT (x : UInt64) (k : Int32) : Option UInt64 :=
  if n64 (FP.dsub x FP.dconst1) = true ∧ n64 (FP.dadd x FP.dconst1) = true ∧ n64 (lnZ x) = true ∧ n64 (FP.dmul (lnZ x) (lnZ x)) = true then (lnS (FP.dmul (lnZ x) (lnZ x)) [19, 17, 15, 13, 11, 9, 7, 5, 3, 1] FP.dconst0).bind (fun s => lnE (lnZ x) k s) else none
def lnF (x : UInt64) : Option UInt64 := (lnU 64 x 0).bind (fun p => (lnD 64 p.1 p.2).bind (fun q => lnT q.1 q.2))
abbrev lnA (r w : Int32) : UInt64 := FP.ddiv (FP.dadd (FP.i2d (r - w)) 4602678819172646912) (FP.dadd (FP.i2d w) 4602678819172646912)
/-- what rarity gives is small and not negative, and nothing on the way is a NaN -/
def lnOK (r w : Int32) : Bool := n64 (FP.dadd (FP.i2d (r - w)) 4602678819172646912) && n64 (FP.dadd (FP.i2d w) 4602678819172646912) && n64 (lnA r w) && (match lnF (lnA r w) with
  | some y => decide ((Op.cmpValue (FP.dcmp y FP.dconst0) .l) ≤ 0) || smB y
  | none => false)
/-- the answers while they are made: their numbers, their lengths, their scores -/
def AnsR (ao o1 o2 o3 o4 sz : Nat) (f1 : Nat → Int32) (f2 : Nat → UInt64) (f3 f4 : Nat → Int32) (h : xw_A) : Prop :=
  h ao = some (.inr (1, [.ref o1, .ref o2, .int (nI sz), .ref o3, .ref o4])) ∧ h o1 = some (.inl (0, 24, .inl f1)) ∧ h o2 = some (.inl (3, 24, .inr (.inr (.inr (.inl f2))))) ∧ h o3 = some (.inl (0, 24, .inl f3)) ∧ h o4 = some (.inl (0, 24, .inl f4)) ∧ sz ≤ 24 ∧ ∀ i, i < sz → ∃ r len : Nat, f1 i = nI r ∧ 1 ≤ r ∧ r ≤ 24 ∧ f3 i = nI len ∧ len ≤ 96 ∧ NN (f2 i)
theorem vf_us {f : Nat → UInt64} {k : Nat} {x : UInt64} : vf_upd f k x k = x := if_pos rfl
theorem vf_un {f : Nat → UInt64} {k j : Nat} {x : UInt64} (h : j ≠ k) : vf_upd f k x j = f j := if_neg h
/-! the same, made so that the kernel has numbers in hand at every step -/
def fc {α : Type} (n : Nat) (f : Nat → α) : α := match n with
  | 0 => f 0
  | m + 1 => f (m + 1)
theorem fc_eq {α : Type} (n : Nat) (f : Nat → α) : fc n f = f n := by cases n <;> rfl
def fu {α : Type} (x : UInt64) (f : UInt64 → α) : α := fc x.toNat (fun n => f (UInt64.ofNat n))
theorem fu_eq {α : Type} (x : UInt64) (f : UInt64 → α) : fu x f = f x := by
  have e : UInt64.ofNat x.toNat = x := by simp
  unfold fu
  rw [fc_eq, e]
def lnUf : Nat → UInt64 → Int32 → Option (UInt64 × Int32)
  | 0, x, k => some (x, k)
  | d + 1, x, k => if (Op.cmpValue (FP.dcmp x 4609434218613702656) .l) < 0 then some (x, k) else fu (FP.ddiv x 4611686018427387904) (fun y => if n64 y = true then lnUf d y (k + 1) else none)
def lnDf : Nat → UInt64 → Int32 → Option (UInt64 × Int32)
  | 0, x, k => some (x, k)
  | d + 1, x, k => if 0 ≤ (Op.cmpValue (FP.dcmp x 4604930618986332160) .g) then some (x, k) else fu (FP.dmul x 4611686018427387904) (fun y => if n64 y = true then lnDf d y (k + (-1)) else none)
def lnSf (y : UInt64) : List Int32 → UInt64 → Option UInt64
  | [], s => some s
  | j :: l, s => fu (FP.dmul s y) (fun a => fu (FP.ddiv FP.dconst1 (FP.i2d j)) (fun b => fu (FP.dadd a b) (fun c => if n64 a = true ∧ n64 b = true ∧ n64 c = true then lnSf y l c else none)))
def lnEf (z : UInt64) (k : Int32) (s : UInt64) : Option UInt64 :=
  fu (FP.dmul 4611686018427387904 z) (fun a => fu (FP.dmul a s) (fun b => fu (FP.dmul (FP.i2d k) 4604418534313441775) (fun c => fu (FP.dadd b c) (fun d => if n64 a = true ∧ n64 b = true ∧ n64 c = true ∧ n64 d = true then some d else none))))
def lnTf (x : UInt64) (k : Int32) : Option UInt64 :=
  fu (FP.dsub x FP.dconst1) (fun a => fu (FP.dadd x FP.dconst1) (fun b => fu (FP.ddiv a b) (fun z => fu (FP.dmul z z) (fun y => if n64 a = true ∧ n64 b = true ∧ n64 z = true ∧ n64 y = true then (lnSf y [19, 17, 15, 13, 11, 9, 7, 5, 3, 1] FP.dconst0).bind (fun s => lnEf z k s) else none))))
def lnFf (x : UInt64) : Option UInt64 := (lnUf 64 x 0).bind (fun p => (lnDf 64 p.1 p.2).bind (fun q => lnTf q.1 q.2))
def lnOKf (r w : Int32) : Bool := fu (FP.dadd (FP.i2d (r - w)) 4602678819172646912) (fun a => fu (FP.dadd (FP.i2d w) 4602678819172646912) (fun b => fu (FP.ddiv a b) (fun x => n64 a && n64 b && n64 x && (match lnFf x with
  | some y => decide ((Op.cmpValue (FP.dcmp y FP.dconst0) .l) ≤ 0) || smB y
  | none => false))))
theorem lnUf_eq : ∀ d x k, lnUf d x k = lnU d x k := by
  intro d
  induction d with
  | zero => intro x k; rfl
  | succ d ih => intro x k; rw [lnUf, lnU, fu_eq, ih]
theorem lnDf_eq : ∀ d x k, lnDf d x k = lnD d x k := by
  intro d
  induction d with
  | zero => intro x k; rfl
  | succ d ih => intro x k; rw [lnDf, lnD, fu_eq, ih]
theorem lnSf_eq {y : UInt64} : ∀ l s, lnSf y l s = lnS y l s := by
  intro l
  induction l with
  | nil => intro s; rfl
  | cons j l ih => intro s; rw [lnSf, lnS, fu_eq, fu_eq, fu_eq, ih]
theorem lnEf_eq {z : UInt64} {k : Int32} {s : UInt64} : lnEf z k s = lnE z k s := by
  unfold lnEf lnE
  rw [fu_eq, fu_eq, fu_eq, fu_eq]
theorem lnTf_eq {x : UInt64} {k : Int32} : lnTf x k = lnT x k := by
  unfold lnTf lnT
  rw [fu_eq, fu_eq, fu_eq, fu_eq]
  simp only [lnSf_eq, lnEf_eq]
theorem lnFf_eq {x : UInt64} : lnFf x = lnF x := by
  unfold lnFf lnF
  simp only [lnUf_eq, lnDf_eq, lnTf_eq]
theorem lnOKf_eq {r w : Int32} : lnOKf r w = lnOK r w := by
  unfold lnOKf lnOK
  rw [fu_eq, fu_eq, fu_eq, lnFf_eq]
theorem me_i2d_f : ∀ t, t < 2401 → t = 0 ∨ fu (FP.i2d (nI t)) meB = true := by decide +kernel
theorem me_22_f : ∀ t, t < 1135 → t = 0 ∨ fu (FP.i2d (nI t)) (fun a => fu (FP.dmul a 4612136378390124954) meB) = true := by decide +kernel
theorem sm_len_f : ∀ t, t < 97 → fu (FP.i2d (nI t)) (fun a => fu (FP.dmul 4604930618986332160 a) smB) = true := by decide +kernel
theorem me_i2d (t : Nat) (h : t < 2401) : t = 0 ∨ meB (FP.i2d (nI t)) = true := by
  have q := me_i2d_f t h
  rw [fu_eq] at q
  exact q
theorem me_22 (t : Nat) (h : t < 1135) : t = 0 ∨ meB (FP.dmul (FP.i2d (nI t)) 4612136378390124954) = true := by
  have q := me_22_f t h
  rw [fu_eq, fu_eq] at q
  exact q
theorem sm_len (t : Nat) (h : t < 97) : smB (FP.dmul 4604930618986332160 (FP.i2d (nI t))) = true := by
  have q := sm_len_f t h
  rw [fu_eq, fu_eq] at q
  exact q
theorem lnOKf_r0 : ∀ w, w < 25 → lnOKf (nI 0) (nI w) = true := by decide +kernel
theorem lnOKf_r1 : ∀ w, w < 25 → lnOKf (nI 1) (nI w) = true := by decide +kernel
theorem lnOKf_r2 : ∀ w, w < 25 → lnOKf (nI 2) (nI w) = true := by decide +kernel
theorem lnOKf_r3 : ∀ w, w < 25 → lnOKf (nI 3) (nI w) = true := by decide +kernel
theorem lnOKf_r4 : ∀ w, w < 25 → lnOKf (nI 4) (nI w) = true := by decide +kernel
theorem lnOKf_r5 : ∀ w, w < 25 → lnOKf (nI 5) (nI w) = true := by decide +kernel
theorem lnOKf_r6 : ∀ w, w < 25 → lnOKf (nI 6) (nI w) = true := by decide +kernel
theorem lnOKf_r7 : ∀ w, w < 25 → lnOKf (nI 7) (nI w) = true := by decide +kernel
theorem lnOKf_r8 : ∀ w, w < 25 → lnOKf (nI 8) (nI w) = true := by decide +kernel
theorem lnOKf_r9 : ∀ w, w < 25 → lnOKf (nI 9) (nI w) = true := by decide +kernel
theorem lnOKf_r10 : ∀ w, w < 25 → lnOKf (nI 10) (nI w) = true := by decide +kernel
theorem lnOKf_r11 : ∀ w, w < 25 → lnOKf (nI 11) (nI w) = true := by decide +kernel
theorem lnOKf_r12 : ∀ w, w < 25 → lnOKf (nI 12) (nI w) = true := by decide +kernel
theorem lnOKf_r13 : ∀ w, w < 25 → lnOKf (nI 13) (nI w) = true := by decide +kernel
theorem lnOKf_r14 : ∀ w, w < 25 → lnOKf (nI 14) (nI w) = true := by decide +kernel
theorem lnOKf_r15 : ∀ w, w < 25 → lnOKf (nI 15) (nI w) = true := by decide +kernel
theorem lnOKf_r16 : ∀ w, w < 25 → lnOKf (nI 16) (nI w) = true := by decide +kernel
theorem lnOKf_r17 : ∀ w, w < 25 → lnOKf (nI 17) (nI w) = true := by decide +kernel
theorem lnOKf_r18 : ∀ w, w < 25 → lnOKf (nI 18) (nI w) = true := by decide +kernel
theorem lnOKf_r19 : ∀ w, w < 25 → lnOKf (nI 19) (nI w) = true := by decide +kernel
theorem lnOKf_r20 : ∀ w, w < 25 → lnOKf (nI 20) (nI w) = true := by decide +kernel
theorem lnOKf_r21 : ∀ w, w < 25 → lnOKf (nI 21) (nI w) = true := by decide +kernel
theorem lnOKf_r22 : ∀ w, w < 25 → lnOKf (nI 22) (nI w) = true := by decide +kernel
theorem lnOKf_r23 : ∀ w, w < 25 → lnOKf (nI 23) (nI w) = true := by decide +kernel
theorem lnOKf_r24 : ∀ w, w < 25 → lnOKf (nI 24) (nI w) = true := by decide +kernel
theorem lnOK_r0 (w : Nat) (h : w < 25) : lnOK (nI 0) (nI w) = true := by rw [← lnOKf_eq]; exact lnOKf_r0 w h
theorem lnOK_r1 (w : Nat) (h : w < 25) : lnOK (nI 1) (nI w) = true := by rw [← lnOKf_eq]; exact lnOKf_r1 w h
theorem lnOK_r2 (w : Nat) (h : w < 25) : lnOK (nI 2) (nI w) = true := by rw [← lnOKf_eq]; exact lnOKf_r2 w h
theorem lnOK_r3 (w : Nat) (h : w < 25) : lnOK (nI 3) (nI w) = true := by rw [← lnOKf_eq]; exact lnOKf_r3 w h
theorem lnOK_r4 (w : Nat) (h : w < 25) : lnOK (nI 4) (nI w) = true := by rw [← lnOKf_eq]; exact lnOKf_r4 w h
theorem lnOK_r5 (w : Nat) (h : w < 25) : lnOK (nI 5) (nI w) = true := by rw [← lnOKf_eq]; exact lnOKf_r5 w h
theorem lnOK_r6 (w : Nat) (h : w < 25) : lnOK (nI 6) (nI w) = true := by rw [← lnOKf_eq]; exact lnOKf_r6 w h
theorem lnOK_r7 (w : Nat) (h : w < 25) : lnOK (nI 7) (nI w) = true := by rw [← lnOKf_eq]; exact lnOKf_r7 w h
theorem lnOK_r8 (w : Nat) (h : w < 25) : lnOK (nI 8) (nI w) = true := by rw [← lnOKf_eq]; exact lnOKf_r8 w h
theorem lnOK_r9 (w : Nat) (h : w < 25) : lnOK (nI 9) (nI w) = true := by rw [← lnOKf_eq]; exact lnOKf_r9 w h
theorem lnOK_r10 (w : Nat) (h : w < 25) : lnOK (nI 10) (nI w) = true := by rw [← lnOKf_eq]; exact lnOKf_r10 w h
theorem lnOK_r11 (w : Nat) (h : w < 25) : lnOK (nI 11) (nI w) = true := by rw [← lnOKf_eq]; exact lnOKf_r11 w h
theorem lnOK_r12 (w : Nat) (h : w < 25) : lnOK (nI 12) (nI w) = true := by rw [← lnOKf_eq]; exact lnOKf_r12 w h
theorem lnOK_r13 (w : Nat) (h : w < 25) : lnOK (nI 13) (nI w) = true := by rw [← lnOKf_eq]; exact lnOKf_r13 w h
theorem lnOK_r14 (w : Nat) (h : w < 25) : lnOK (nI 14) (nI w) = true := by rw [← lnOKf_eq]; exact lnOKf_r14 w h
theorem lnOK_r15 (w : Nat) (h : w < 25) : lnOK (nI 15) (nI w) = true := by rw [← lnOKf_eq]; exact lnOKf_r15 w h
theorem lnOK_r16 (w : Nat) (h : w < 25) : lnOK (nI 16) (nI w) = true := by rw [← lnOKf_eq]; exact lnOKf_r16 w h
theorem lnOK_r17 (w : Nat) (h : w < 25) : lnOK (nI 17) (nI w) = true := by rw [← lnOKf_eq]; exact lnOKf_r17 w h
theorem lnOK_r18 (w : Nat) (h : w < 25) : lnOK (nI 18) (nI w) = true := by rw [← lnOKf_eq]; exact lnOKf_r18 w h
theorem lnOK_r19 (w : Nat) (h : w < 25) : lnOK (nI 19) (nI w) = true := by rw [← lnOKf_eq]; exact lnOKf_r19 w h
theorem lnOK_r20 (w : Nat) (h : w < 25) : lnOK (nI 20) (nI w) = true := by rw [← lnOKf_eq]; exact lnOKf_r20 w h
theorem lnOK_r21 (w : Nat) (h : w < 25) : lnOK (nI 21) (nI w) = true := by rw [← lnOKf_eq]; exact lnOKf_r21 w h
theorem lnOK_r22 (w : Nat) (h : w < 25) : lnOK (nI 22) (nI w) = true := by rw [← lnOKf_eq]; exact lnOKf_r22 w h
theorem lnOK_r23 (w : Nat) (h : w < 25) : lnOK (nI 23) (nI w) = true := by rw [← lnOKf_eq]; exact lnOKf_r23 w h
theorem lnOK_r24 (w : Nat) (h : w < 25) : lnOK (nI 24) (nI w) = true := by rw [← lnOKf_eq]; exact lnOKf_r24 w h
theorem lnOK_all : ∀ r, r < 25 → ∀ w, w < 25 → lnOK (nI r) (nI w) = true
  | 0, _ => fun w h => lnOK_r0 w h
  | 1, _ => fun w h => lnOK_r1 w h
  | 2, _ => fun w h => lnOK_r2 w h
  | 3, _ => fun w h => lnOK_r3 w h
  | 4, _ => fun w h => lnOK_r4 w h
  | 5, _ => fun w h => lnOK_r5 w h
  | 6, _ => fun w h => lnOK_r6 w h
  | 7, _ => fun w h => lnOK_r7 w h
  | 8, _ => fun w h => lnOK_r8 w h
  | 9, _ => fun w h => lnOK_r9 w h
  | 10, _ => fun w h => lnOK_r10 w h
  | 11, _ => fun w h => lnOK_r11 w h
  | 12, _ => fun w h => lnOK_r12 w h
  | 13, _ => fun w h => lnOK_r13 w h
  | 14, _ => fun w h => lnOK_r14 w h
  | 15, _ => fun w h => lnOK_r15 w h
  | 16, _ => fun w h => lnOK_r16 w h
  | 17, _ => fun w h => lnOK_r17 w h
  | 18, _ => fun w h => lnOK_r18 w h
  | 19, _ => fun w h => lnOK_r19 w h
  | 20, _ => fun w h => lnOK_r20 w h
  | 21, _ => fun w h => lnOK_r21 w h
  | 22, _ => fun w h => lnOK_r22 w h
  | 23, _ => fun w h => lnOK_r23 w h
  | 24, _ => fun w h => lnOK_r24 w h
  | n + 25, h => absurd h (by omega)
