/-! the reference in general states: by program (wip/tools/gen3.py, gen4.py, gen5.py) -/
/-! THE REFERENCE: the stack of a question and what comes out -/
def cntJ (f : Nat → Int32) : Nat → Nat
  | 0 => 0
  | n + 1 => cntJ f n + (if f n < 5 then 1 else 0)
def cntD (f : Nat → Int32) : Nat → Nat
  | 0 => 0
  | n + 1 => cntD f n + (if f n < 5 then 0 else 1)
/-- how high the sequence stands, if it may be counted -/
def hgt (f : Nat → Int32) : Nat → Option Nat
  | 0 => some 0
  | n + 1 => (hgt f n).bind (fun k => if f n < 0 then (if 2 ≤ k then some (k - 1) else none) else some (k + 1))
theorem hgt_congr {f g : Nat → Int32} : ∀ n, (∀ k, k < n → f k = g k) → hgt f n = hgt g n := by
  intro n
  induction n with
  | zero => intro _; rfl
  | succ n ih => intro h; rw [hgt, hgt, ih (fun k hk => h k (by omega)), h n (by omega)]
theorem hgt_op {f : Nat → Int32} {n k : Nat} {y : Int32} (h : hgt f n = some k) (hk : 2 ≤ k) (hy : y < 0) : hgt (upd f n y) (n + 1) = some (k - 1) := by
  rw [hgt, hgt_congr (g := f) n (fun j hj => pk_un (by omega)), h, pk_us, Option.bind_some, if_pos hy, if_pos hk]
theorem neg_lt {y : Int32} (h1 : ¬ y < 1) (h5 : ¬ 5 ≤ y) : -y < 0 := by
  obtain ⟨n, hn1, hn4, rfl⟩ := ix_of (a := 1) (b := 4) (by decide) (by decide) h1 (fun q => h5 (by
    have := Int32.lt_iff_toInt_lt.mp q
    rw [Int32.le_iff_toInt_le]
    have e4 : (nI 4).toInt = 4 := by decide
    have e5 : (5 : Int32).toInt = 5 := by decide
    omega))
  rcases (show n = 1 ∨ n = 2 ∨ n = 3 ∨ n = 4 by omega) with rfl | rfl | rfl | rfl <;> decide
theorem lt1 {y l : Int32} (hl : ¬ l < 1) (h : ¬ y < l) : ¬ y < 1 := fun q => h (Int32.lt_of_lt_of_le q (Int32.not_lt.mp hl))
theorem lt5 {y : Int32} (h : ¬ 5 ≤ y) : y < 5 := Int32.not_le.mp h
/-- within a part, with the token that is open -/
def JJ (fa : Nat → Int32) (asz t x k : Nat) : Prop := JI fa asz t x k ∧ (x < k → isW (qv fa asz (k - 1)) = true → 1 ≤ t)
theorem JJ.new {fa : Nat → Int32} {asz t x k : Nat} (h : JJ fa asz t x k) (hk : isW (qv fa asz k) = true) (hn : k = x ∨ isW (qv fa asz (k - 1)) = false) (hx : x ≤ k) : JJ fa asz (t + 1) x (k + 1) :=
  ⟨⟨by have := h.1.2 hk hn; omega, fun _ q => q.elim (fun z => by omega) (fun z => by rw [Nat.add_sub_cancel, hk] at z; cases z)⟩, fun _ _ => by omega⟩
theorem JJ.ext {fa : Nat → Int32} {asz t x k : Nat} (h : JJ fa asz t x k) (hk : isW (qv fa asz k) = true) (ht : 1 ≤ t) (hx : x ≤ k) : JJ fa asz t x (k + 1) :=
  ⟨⟨by have := h.1.1; omega, fun _ q => q.elim (fun z => by omega) (fun z => by rw [Nat.add_sub_cancel, hk] at z; cases z)⟩, fun _ _ => ht⟩
theorem JJ.no {fa : Nat → Int32} {asz t x k : Nat} (h : JJ fa asz t x k) (hk : isW (qv fa asz k) = false) : JJ fa asz t x (k + 1) :=
  ⟨⟨by have := h.1.1; omega, fun _ _ => by have := h.1.1; omega⟩, fun _ q => by rw [Nat.add_sub_cancel, hk] at q; cases q⟩
theorem JJ.fin {fa : Nat → Int32} {asz t x y : Nat} {kd : Int32} (h : JJ fa asz t x y) (hp : PtO fa asz x y kd) (hk : kd = 1 ∨ kd = 2) : JO fa asz t y :=
  ⟨h.1.1, fun q => hk.elim (fun z => by rw [hp.2.2.2.1 z] at q; cases q) (fun z => h.1.2 q (Or.inr (hp.2.2.2.2 z).2))⟩
