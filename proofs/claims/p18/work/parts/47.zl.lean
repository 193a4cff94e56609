/-! TIER H: Integer.bitCount counts the bits -/
def cB (P : Nat → Bool) : Nat → Nat
  | 0 => 0
  | n + 1 => cB P n + (if P n = true then 1 else 0)
theorem cB_cg {P Q : Nat → Bool} : ∀ n, (∀ i, i < n → P i = Q i) → cB P n = cB Q n := by
  intro n
  induction n with
  | zero => intro _; rfl
  | succ n ih =>
    intro h
    rw [cB, cB, ih (fun i hi => h i (by omega)), h n (Nat.lt_succ_self n)]
theorem cB_add {P : Nat → Bool} (k : Nat) : ∀ n, cB P (k + n) = cB P k + cB (fun i => P (k + i)) n := by
  intro n
  induction n with
  | zero => rfl
  | succ n ih =>
    rw [← Nat.add_assoc, cB, ih, cB]
    omega
theorem cB_le {P : Nat → Bool} : ∀ n, cB P n ≤ n := by
  intro n
  induction n with
  | zero => exact Nat.le_refl _
  | succ n ih =>
    rw [cB]
    split <;> omega
def by1 (p : Nat) : Nat := p - ((p / 2) &&& 85)
def by2 (p : Nat) : Nat := (p &&& 51) + ((p / 4) &&& 51)
def by3 (p : Nat) : Nat := (p + p / 16) &&& 15
theorem by_ok : ∀ p, p < 256 → by1 p < 256 ∧ (by2 (by1 p) ≤ 68 ∧ by2 (by1 p) % 16 ≤ 4) ∧ by3 (by2 (by1 p)) = cB p.testBit 8 := by decide +kernel
/-- bytes -/
theorem ad_and {p q m M : Nat} (hp : p < 256) (hm : m < 256) : (p + 256 * q) &&& (m + 256 * M) = (p &&& m) + 256 * (q &&& M) := by
  have h1 : ((p + 256 * q) &&& (m + 256 * M)) % 2 ^ 8 = p &&& m := by
    rw [Nat.and_mod_two_pow]
    congr 1 <;> omega
  have h2 : ((p + 256 * q) &&& (m + 256 * M)) / 2 ^ 8 = q &&& M := by
    rw [Nat.and_div_two_pow]
    congr 1 <;> omega
  have h3 := Nat.div_add_mod ((p + 256 * q) &&& (m + 256 * M)) (2 ^ 8)
  rw [h1, h2] at h3
  omega
theorem lo_and {p m k : Nat} (j : Nat) (hm : m < 2 ^ k) : (p + 2 ^ k * j) &&& m = p &&& m := by
  have e : ∀ y, y &&& m = (y % 2 ^ k) &&& m := fun y => by
    have h1 : (y &&& m) % 2 ^ k = (y % 2 ^ k) &&& (m % 2 ^ k) := Nat.and_mod_two_pow
    have h2 : y &&& m < 2 ^ k := Nat.lt_of_le_of_lt Nat.and_le_right hm
    rw [Nat.mod_eq_of_lt h2, Nat.mod_eq_of_lt hm] at h1
    exact h1
  rw [e (p + 2 ^ k * j), e p, Nat.add_mul_mod_self_left]
theorem sh1 {p q M : Nat} (hp : p < 256) : ((p + 256 * q) / 2) &&& (85 + 256 * M) = ((p / 2) &&& 85) + 256 * ((q / 2) &&& M) := by
  have e : (p + 256 * q) / 2 = (p / 2 + 2 ^ 7 * (q % 2)) + 256 * (q / 2) := by omega
  rw [e, ad_and (by omega) (by decide), lo_and (k := 7) _ (by decide)]
theorem sh2 {p q M : Nat} (hp : p < 256) : ((p + 256 * q) / 4) &&& (51 + 256 * M) = ((p / 4) &&& 51) + 256 * ((q / 4) &&& M) := by
  have e : (p + 256 * q) / 4 = (p / 4 + 2 ^ 6 * (q % 4)) + 256 * (q / 4) := by omega
  rw [e, ad_and (by omega) (by decide), lo_and (k := 6) _ (by decide)]
theorem st1 {p q M : Nat} (hp : p < 256) : (p + 256 * q) - (((p + 256 * q) / 2) &&& (85 + 256 * M)) = by1 p + 256 * (q - ((q / 2) &&& M)) := by
  rw [sh1 hp]
  have h1 : (p / 2) &&& 85 ≤ p / 2 := Nat.and_le_left
  have h2 : (q / 2) &&& M ≤ q / 2 := Nat.and_le_left
  unfold by1
  omega
theorem st2 {p q M : Nat} (hp : p < 256) : ((p + 256 * q) &&& (51 + 256 * M)) + (((p + 256 * q) / 4) &&& (51 + 256 * M)) = by2 p + 256 * ((q &&& M) + ((q / 4) &&& M)) := by
  rw [sh2 hp, ad_and hp (by decide)]
  unfold by2
  omega
theorem st3 {p q M : Nat} (hp : p ≤ 68) (hq : q % 16 ≤ 4) : ((p + 256 * q) + (p + 256 * q) / 16) &&& (15 + 256 * M) = by3 p + 256 * ((q + q / 16) &&& M) := by
  have e : (p + 256 * q) + (p + 256 * q) / 16 = ((p + p / 16) + 2 ^ 4 * (q % 16)) + 256 * (q + q / 16) := by omega
  rw [e, ad_and (by omega) (by decide), lo_and (k := 4) _ (by decide)]
  rfl
/-- a word of four bytes -/
def w4 (a b c d : Nat) : Nat := a + 256 * (b + 256 * (c + 256 * d))
theorem w4_1 {a b c d : Nat} (ha : a < 256) (hb : b < 256) (hc : c < 256) (hd : d < 256) : w4 a b c d - ((w4 a b c d / 2) &&& 1431655765) = w4 (by1 a) (by1 b) (by1 c) (by1 d) := by
  unfold w4
  rw [show (1431655765 : Nat) = 85 + 256 * (85 + 256 * (85 + 256 * 85)) from rfl, st1 ha, st1 hb, st1 hc]
  rfl
theorem w4_2 {a b c d : Nat} (ha : a < 256) (hb : b < 256) (hc : c < 256) (hd : d < 256) : (w4 a b c d &&& 858993459) + ((w4 a b c d / 4) &&& 858993459) = w4 (by2 a) (by2 b) (by2 c) (by2 d) := by
  unfold w4
  rw [show (858993459 : Nat) = 51 + 256 * (51 + 256 * (51 + 256 * 51)) from rfl, st2 ha, st2 hb, st2 hc]
  rfl
theorem w4_3 {a b c d : Nat} (ha : a ≤ 68 ∧ a % 16 ≤ 4) (hb : b ≤ 68 ∧ b % 16 ≤ 4) (hc : c ≤ 68 ∧ c % 16 ≤ 4) (hd : d ≤ 68 ∧ d % 16 ≤ 4) : (w4 a b c d + w4 a b c d / 16) &&& 252645135 = w4 (by3 a) (by3 b) (by3 c) (by3 d) := by
  unfold w4
  rw [show (252645135 : Nat) = 15 + 256 * (15 + 256 * (15 + 256 * 15)) from rfl, st3 ha.1 (by omega), st3 hb.1 (by omega), st3 hc.1 (by omega)]
  rfl
theorem w4_of (n : Nat) (h : n < 2 ^ 32) : ∃ a b c d, a < 256 ∧ b < 256 ∧ c < 256 ∧ d < 256 ∧ n = w4 a b c d := ⟨n % 256, n / 256 % 256, n / 65536 % 256, n / 16777216, by omega, by omega, by omega, by omega, by unfold w4; omega⟩
theorem tb_8 {p q i : Nat} (hp : p < 256) : (p + 256 * q).testBit (8 + i) = q.testBit i := by
  have e : (p + 256 * q) / 2 ^ 8 = q := by omega
  have := Nat.testBit_div_two_pow (n := 8) (p + 256 * q) i
  rw [e] at this
  rw [this, Nat.add_comm 8 i]
theorem tb_7 {p q i : Nat} (hp : p < 256) (hi : i < 8) : (p + 256 * q).testBit i = p.testBit i := by
  have e : (p + 256 * q) % 2 ^ 8 = p := by omega
  have := Nat.testBit_mod_two_pow (p + 256 * q) 8 i
  rw [e, decide_eq_true hi, Bool.true_and] at this
  exact this.symm
theorem cB_w {p q n : Nat} (hp : p < 256) : cB (p + 256 * q).testBit (8 + n) = cB p.testBit 8 + cB q.testBit n := by
  rw [cB_add, cB_cg 8 (fun i hi => tb_7 hp hi), cB_cg n (fun i _ => tb_8 hp)]
theorem cB_w4 {a b c d : Nat} (ha : a < 256) (hb : b < 256) (hc : c < 256) (hd : d < 256) : cB (w4 a b c d).testBit 32 = cB a.testBit 8 + cB b.testBit 8 + cB c.testBit 8 + cB d.testBit 8 := by
  unfold w4
  rw [show (32 : Nat) = 8 + (8 + (8 + 8)) from rfl, cB_w ha, cB_w hb, cB_w hc]
  omega
/-- an int as a number -/
def nU (x : Int32) : Nat := x.toUInt32.toNat
theorem nU_lt (x : Int32) : nU x < 2 ^ 32 := x.toUInt32.toNat_lt
theorem nU_and (x y : Int32) : nU (x &&& y) = nU x &&& nU y := UInt32.toNat_and x.toUInt32 y.toUInt32
theorem nU_add {x y : Int32} (h : nU x + nU y < 2 ^ 32) : nU (x + y) = nU x + nU y := by
  have : nU (x + y) = (nU x + nU y) % 2 ^ 32 := UInt32.toNat_add x.toUInt32 y.toUInt32
  rw [this, Nat.mod_eq_of_lt h]
theorem nU_sub {x y : Int32} (h : nU y ≤ nU x) : nU (x - y) = nU x - nU y := UInt32.toNat_sub_of_le x.toUInt32 y.toUInt32 h
theorem nU_shr {x : Int32} {s : UInt32} {k : Nat} (hs : s.toNat % 32 = k) : nU (x.toUInt32 >>> s).toInt32 = nU x / 2 ^ k := by
  have : nU (x.toUInt32 >>> s).toInt32 = nU x >>> (s.toNat % 32) := UInt32.toNat_shiftRight x.toUInt32 s
  rw [this, hs, Nat.shiftRight_eq_div_pow]
theorem nU_inj {x y : Int32} (h : nU x = nU y) : x = y := by
  have h1 : x.toUInt32 = y.toUInt32 := UInt32.toNat_inj.mp h
  have h2 := congrArg UInt32.toInt32 h1
  exact h2
theorem nU_nI {n : Nat} (h : n < 2 ^ 31) : nU (nI n) = n := by
  show (BitVec.ofNat 32 n).toNat = n
  rw [BitVec.toNat_ofNat]
  omega
theorem nU_bit (x : Int32) (i : Nat) : btx x i = (nU x).testBit i := rfl
/-- what bitCount makes of its argument -/
def bcF (x : Int32) : Int32 :=
  let a := x - ((x.toUInt32 >>> ((1 : Int32).toUInt32 &&& Int32.toUInt32 31)).toInt32 &&& 1431655765)
  let b := (a &&& 858993459) + ((a.toUInt32 >>> ((2 : Int32).toUInt32 &&& Int32.toUInt32 31)).toInt32 &&& 858993459)
  let c := (b + (b.toUInt32 >>> ((4 : Int32).toUInt32 &&& Int32.toUInt32 31)).toInt32) &&& 252645135
  let d := c + (c.toUInt32 >>> ((8 : Int32).toUInt32 &&& Int32.toUInt32 31)).toInt32
  let e := d + (d.toUInt32 >>> ((16 : Int32).toUInt32 &&& Int32.toUInt32 31)).toInt32
  e &&& 63
theorem bc_ok (x : Int32) : bcF x = nI (cB (btx x) 32) := by
  obtain ⟨a, b, c, d, ha, hb, hc, hd, hn⟩ := w4_of (nU x) (nU_lt x)
  obtain ⟨a1, a2, a3⟩ := by_ok a ha
  obtain ⟨b1, b2, b3⟩ := by_ok b hb
  obtain ⟨c1, c2, c3⟩ := by_ok c hc
  obtain ⟨d1, d2, d3⟩ := by_ok d hd
  have l8 : ∀ p : Nat, cB p.testBit 8 ≤ 8 := fun p => cB_le 8
  have la := l8 a
  have lb := l8 b
  have lc := l8 c
  have ld := l8 d
  have hcnt : cB (btx x) 32 = cB a.testBit 8 + cB b.testBit 8 + cB c.testBit 8 + cB d.testBit 8 := by
    rw [← cB_w4 ha hb hc hd, ← hn]
    exact cB_cg 32 (fun i _ => nU_bit x i)
  unfold bcF
  dsimp only
  generalize e1 : x - ((x.toUInt32 >>> ((1 : Int32).toUInt32 &&& Int32.toUInt32 31)).toInt32 &&& 1431655765) = y1
  have h1 : nU y1 = w4 (by1 a) (by1 b) (by1 c) (by1 d) := by
    have hm : nU ((x.toUInt32 >>> ((1 : Int32).toUInt32 &&& Int32.toUInt32 31)).toInt32 &&& 1431655765) = (nU x / 2) &&& 1431655765 := by
      rw [nU_and, nU_shr (k := 1) (by decide)]
      rfl
    rw [← e1, nU_sub (by rw [hm]; exact Nat.le_trans Nat.and_le_left (Nat.div_le_self _ _)), hm, hn, w4_1 ha hb hc hd]
  generalize e2 : (y1 &&& 858993459) + ((y1.toUInt32 >>> ((2 : Int32).toUInt32 &&& Int32.toUInt32 31)).toInt32 &&& 858993459) = y2
  have h2 : nU y2 = w4 (by2 (by1 a)) (by2 (by1 b)) (by2 (by1 c)) (by2 (by1 d)) := by
    have hm1 : nU (y1 &&& 858993459) = nU y1 &&& 858993459 := by
      rw [nU_and]
      rfl
    have hm2 : nU ((y1.toUInt32 >>> ((2 : Int32).toUInt32 &&& Int32.toUInt32 31)).toInt32 &&& 858993459) = (nU y1 / 4) &&& 858993459 := by
      rw [nU_and, nU_shr (k := 2) (by decide)]
      rfl
    have q1 : nU y1 &&& 858993459 ≤ 858993459 := Nat.and_le_right
    have q2 : (nU y1 / 4) &&& 858993459 ≤ 858993459 := Nat.and_le_right
    rw [← e2, nU_add (by rw [hm1, hm2]; omega), hm1, hm2, h1, w4_2 a1 b1 c1 d1]
  generalize e3 : (y2 + (y2.toUInt32 >>> ((4 : Int32).toUInt32 &&& Int32.toUInt32 31)).toInt32) &&& 252645135 = y3
  have h3 : nU y3 = w4 (cB a.testBit 8) (cB b.testBit 8) (cB c.testBit 8) (cB d.testBit 8) := by
    have hm : nU (y2.toUInt32 >>> ((4 : Int32).toUInt32 &&& Int32.toUInt32 31)).toInt32 = nU y2 / 16 := nU_shr (k := 4) (by decide)
    have q : nU y2 + nU y2 / 16 < 2 ^ 32 := by
      rw [h2]
      unfold w4
      omega
    rw [← e3, nU_and, nU_add (by rw [hm]; exact q), hm, h2]
    have := w4_3 a2 b2 c2 d2
    rw [a3, b3, c3, d3] at this
    exact this
  generalize e4 : y3 + (y3.toUInt32 >>> ((8 : Int32).toUInt32 &&& Int32.toUInt32 31)).toInt32 = y4
  have h4 : nU y4 = nU y3 + nU y3 / 256 := by
    have hm : nU (y3.toUInt32 >>> ((8 : Int32).toUInt32 &&& Int32.toUInt32 31)).toInt32 = nU y3 / 256 := nU_shr (k := 8) (by decide)
    rw [← e4, nU_add (by rw [hm, h3]; unfold w4; omega), hm]
  generalize e5 : y4 + (y4.toUInt32 >>> ((16 : Int32).toUInt32 &&& Int32.toUInt32 31)).toInt32 = y5
  have h5 : nU y5 = nU y4 + nU y4 / 65536 := by
    have hm : nU (y4.toUInt32 >>> ((16 : Int32).toUInt32 &&& Int32.toUInt32 31)).toInt32 = nU y4 / 65536 := nU_shr (k := 16) (by decide)
    rw [← e5, nU_add (by rw [hm, h4, h3]; unfold w4; omega), hm]
  refine nU_inj ?_
  rw [nU_nI (by omega), nU_and, hcnt]
  show nU y5 &&& 63 = _
  have s1 : w4 (cB a.testBit 8) (cB b.testBit 8) (cB c.testBit 8) (cB d.testBit 8) / 256 = (cB b.testBit 8) + 256 * ((cB c.testBit 8) + 256 * (cB d.testBit 8)) := by
    unfold w4
    omega
  have s2 : (w4 (cB a.testBit 8) (cB b.testBit 8) (cB c.testBit 8) (cB d.testBit 8) + ((cB b.testBit 8) + 256 * ((cB c.testBit 8) + 256 * (cB d.testBit 8)))) / 65536 = (cB c.testBit 8) + (cB d.testBit 8) + 256 * (cB d.testBit 8) := by
    unfold w4
    omega
  have h6 : nU y5 = (cB a.testBit 8 + cB b.testBit 8 + cB c.testBit 8 + cB d.testBit 8) + 2 ^ 6 * (4 * ((cB b.testBit 8) + (cB c.testBit 8) + (cB d.testBit 8)) + 1024 * ((cB c.testBit 8) + (cB d.testBit 8)) + 262144 * (cB d.testBit 8)) := by
    rw [h5, h4, h3, s1, s2]
    unfold w4
    omega
  rw [h6, lo_and (k := 6) _ (by decide)]
  have h7 := Nat.and_two_pow_sub_one_eq_mod (cB a.testBit 8 + cB b.testBit 8 + cB c.testBit 8 + cB d.testBit 8) 6
  rw [show (2 ^ 6 - 1 : Nat) = 63 from rfl] at h7
  rw [h7]
  omega
/-! TIER H: counts, scores, their order -/
noncomputable def pB (P : Prop) : Bool := (Classical.propDecidable P).decide
theorem pB_iff {P : Prop} : pB P = true ↔ P := by
  unfold pB
  exact @decide_eq_true_iff _ (Classical.propDecidable _)
/-- how many numbers below n are P -/
noncomputable def cP (P : Nat → Prop) (n : Nat) : Nat := cB (fun i => pB (P i)) n
theorem cP_cg {P Q : Nat → Prop} (n : Nat) (h : ∀ i, i < n → (P i ↔ Q i)) : cP P n = cP Q n := cB_cg n (fun i hi => by
  rw [Bool.eq_iff_iff, pB_iff, pB_iff]
  exact h i hi)
theorem cP_y {P : Nat → Prop} {n : Nat} (h : P n) : cP P (n + 1) = cP P n + 1 := by
  unfold cP
  rw [cB, if_pos (pB_iff.mpr h)]
theorem cP_n {P : Nat → Prop} {n : Nat} (h : ¬ P n) : cP P (n + 1) = cP P n := by
  unfold cP
  rw [cB, if_neg (fun z => h (pB_iff.mp z)), Nat.add_zero]
theorem cP_le {P : Nat → Prop} (n : Nat) : cP P n ≤ n := cB_le n
theorem cP_ext {P : Nat → Prop} {n : Nat} (h : ∀ i, n ≤ i → ¬ P i) : ∀ d, cP P (n + d) = cP P n := by
  intro d
  induction d with
  | zero => rfl
  | succ d ih => rw [← Nat.add_assoc, cP_n (h (n + d) (by omega)), ih]
theorem cP_zero {P : Nat → Prop} : ∀ n, cP P n = 0 ↔ ∀ i, i < n → ¬ P i := by
  intro n
  induction n with
  | zero => exact ⟨fun _ i hi => absurd hi (Nat.not_lt_zero _), fun _ => rfl⟩
  | succ n ih =>
    by_cases q : P n
    · rw [cP_y q]
      exact ⟨fun z => by omega, fun z => absurd q (z n (Nat.lt_succ_self n))⟩
    · rw [cP_n q, ih]
      exact ⟨fun z i hi => by by_cases e : i = n; (rw [e]; exact q); (exact z i (by omega)), fun z i hi => z i (by omega)⟩
theorem BW.cnt {x : Int32} {Q : Nat → Prop} (h : BW x Q) : cB (btx x) 32 = cP Q 32 := cB_cg 32 (fun i hi => by
  rw [Bool.eq_iff_iff, pB_iff]
  exact h i hi)
/-- one phrase's share of a score -/
def scT (ra : UInt64) (f len : Nat) (av : UInt64) : UInt64 := FP.ddiv (FP.dmul ra (FP.dmul (FP.i2d (nI f)) 4612136378390124954)) (FP.dadd (FP.i2d (nI f)) (FP.dmul 4608083138725491507 (FP.dadd 4598175219545276416 (FP.ddiv (FP.dmul 4604930618986332160 (FP.i2d (nI len))) av))))
/-- how rare a phrase is -/
def raF (rc w : Nat) : UInt64 := match lnF (lnA (nI rc) (nI w)) with
  | some y => if (Op.cmpValue (FP.dcmp y FP.dconst0) .l) ≤ 0 then 4517329193108106637 else y
  | none => 4517329193108106637
/-- the score of a row by the phrases below p: fr how often each stands there (weighed), wi how many rows have it -/
def scN (fr wi : Nat → Nat) (rc len : Nat) (av : UInt64) : Nat → UInt64
  | 0 => FP.dconst0
  | p + 1 => if fr p = 0 then scN fr wi rc len av p else FP.dadd (scN fr wi rc len av p) (scT (raF rc (wi p)) (fr p) len av)
theorem scN_y {fr wi : Nat → Nat} {rc len p : Nat} {av : UInt64} (h : ¬ fr p = 0) : scN fr wi rc len av (p + 1) = FP.dadd (scN fr wi rc len av p) (scT (raF rc (wi p)) (fr p) len av) := by rw [scN, if_neg h]
theorem scN_n {fr wi : Nat → Nat} {rc len p : Nat} {av : UInt64} (h : fr p = 0) : scN fr wi rc len av (p + 1) = scN fr wi rc len av p := by rw [scN, if_pos h]
theorem scN_cg {fr fr' wi wi' : Nat → Nat} {rc len : Nat} {av : UInt64} : ∀ p, (∀ i, i < p → fr i = fr' i ∧ wi i = wi' i) → scN fr wi rc len av p = scN fr' wi' rc len av p := by
  intro p
  induction p with
  | zero => intro _; rfl
  | succ p ih =>
    intro h
    have h1 := h p (Nat.lt_succ_self p)
    rw [scN, scN, ih (fun i hi => h i (by omega)), h1.1, h1.2]
theorem scN_0 {fr wi : Nat → Nat} {rc len : Nat} {av : UInt64} : ∀ p, (∀ i, i < p → fr i = 0) → scN fr wi rc len av p = FP.dconst0 := by
  intro p
  induction p with
  | zero => intro _; rfl
  | succ p ih =>
    intro h
    rw [scN_n (h p (Nat.lt_succ_self p)), ih (fun i hi => h i (by omega))]
/-- j stands behind k by its score -/
abbrev ltS (sc : Nat → UInt64) (j k : Nat) : Prop := ¬ 0 ≤ (Op.cmpValue (FP.dcmp (sc j) (sc k)) .g)
/-- where k goes in L, from t on to the front -/
def insT (sc : Nat → UInt64) (k : Nat) (L : List Nat) : Nat → Nat
  | 0 => 0
  | t + 1 => if ltS sc ((L[t]?).getD 0) k then insT sc k L t else t + 1
def insK (sc : Nat → UInt64) (k : Nat) (L : List Nat) : List Nat := L.take (insT sc k L L.length) ++ k :: L.drop (insT sc k L L.length)
def ordL (sc : Nat → UInt64) : Nat → List Nat
  | 0 => []
  | k + 1 => insK sc k (ordL sc k)
theorem insT_le {sc : Nat → UInt64} {k : Nat} {L : List Nat} : ∀ t, insT sc k L t ≤ t := by
  intro t
  induction t with
  | zero => exact Nat.le_refl _
  | succ t ih =>
    rw [insT]
    split <;> omega
theorem insK_len {sc : Nat → UInt64} {k : Nat} {L : List Nat} : (insK sc k L).length = L.length + 1 := by
  unfold insK
  have := insT_le (sc := sc) (k := k) (L := L) L.length
  rw [List.length_append, List.length_cons, List.length_take, List.length_drop]
  omega
theorem ordL_len {sc : Nat → UInt64} : ∀ k, (ordL sc k).length = k := by
  intro k
  induction k with
  | zero => rfl
  | succ k ih => rw [ordL, insK_len, ih]
theorem ordL_lt {sc : Nat → UInt64} : ∀ k i, i ∈ ordL sc k → i < k := by
  intro k
  induction k with
  | zero => intro i hi; cases hi
  | succ k ih =>
    intro i hi
    rw [ordL, insK] at hi
    rcases List.mem_append.mp hi with q | q
    · have := ih i (List.mem_of_mem_take q); omega
    · rcases List.mem_cons.mp q with q | q
      · omega
      · have := ih i (List.mem_of_mem_drop q); omega
theorem insT_cg {sc sc' : Nat → UInt64} {k : Nat} {L : List Nat} (h : ∀ i, i ∈ L → sc i = sc' i) (hk : sc k = sc' k) : ∀ t, t ≤ L.length → insT sc k L t = insT sc' k L t := by
  intro t
  induction t with
  | zero => intro _; rfl
  | succ t ih =>
    intro ht
    have e : ltS sc ((L[t]?).getD 0) k ↔ ltS sc' ((L[t]?).getD 0) k := by
      have hl : t < L.length := by omega
      rw [List.getElem?_eq_getElem hl]
      show ltS sc L[t] k ↔ ltS sc' L[t] k
      rw [ltS, ltS, h _ (List.getElem_mem hl), hk]
    rw [insT, insT]
    by_cases q : ltS sc' ((L[t]?).getD 0) k
    · rw [if_pos q, if_pos (e.mpr q), ih (by omega)]
    · rw [if_neg q, if_neg (fun z => q (e.mp z))]
theorem ordL_cg {sc sc' : Nat → UInt64} : ∀ k, (∀ i, i < k → sc i = sc' i) → ordL sc k = ordL sc' k := by
  intro k
  induction k with
  | zero => intro _; rfl
  | succ k ih =>
    intro h
    have e := ih (fun i hi => h i (by omega))
    rw [ordL, ordL, e]
    unfold insK
    rw [insT_cg (fun i hi => h i (by have := ordL_lt k i hi; omega)) (h k (Nat.lt_succ_self k)) _ (Nat.le_refl _)]
/-- an array that holds the list -/
def OrR (fo : Nat → Int32) (L : List Nat) : Prop := ∀ i j : Nat, L[i]? = some j → fo i = nI j
/-- the array while k goes to the front: a hole at t -/
def OrH (sc : Nat → UInt64) (k : Nat) (fo : Nat → Int32) (L : List Nat) (t : Nat) : Prop := t ≤ L.length ∧ insT sc k L L.length = insT sc k L t ∧ (∀ i j : Nat, i < t → L[i]? = some j → fo i = nI j) ∧ ∀ i j : Nat, t ≤ i → L[i]? = some j → fo (i + 1) = nI j
theorem OrH.start {sc : Nat → UInt64} {k : Nat} {fo : Nat → Int32} {L : List Nat} (h : OrR fo L) : OrH sc k fo L L.length := ⟨Nat.le_refl _, rfl, fun i j _ hj => h i j hj, fun i j hi hj => by
  rw [List.getElem?_eq_none hi] at hj
  cases hj⟩
theorem OrH.step {sc : Nat → UInt64} {k t j : Nat} {fo : Nat → Int32} {L : List Nat} (h : OrH sc k fo L (t + 1)) (hj : L[t]? = some j) (hl : ltS sc j k) : OrH sc k (upd fo (t + 1) (nI j)) L t := by
  obtain ⟨h1, h2, h3, h4⟩ := h
  refine ⟨by omega, ?_, fun i x hi hx => ?_, fun i x hi hx => ?_⟩
  · rw [h2, insT, hj]
    exact if_pos hl
  · rw [pk_un (by omega)]
    exact h3 i x (by omega) hx
  · by_cases q : i = t
    · subst q
      obtain rfl := Option.some.inj (hj.symm.trans hx)
      exact pk_us
    · rw [pk_un (by omega)]
      exact h4 i x (by omega) hx
theorem OrH.fin {sc : Nat → UInt64} {k t : Nat} {fo : Nat → Int32} {L : List Nat} (h : OrH sc k fo L t) (he : insT sc k L t = t) : OrR (upd fo t (nI k)) (insK sc k L) := fun i j hij => by
  obtain ⟨h1, h2, h3, h4⟩ := h
  unfold insK at hij
  rw [h2, he] at hij
  have hl : (L.take t).length = t := by rw [List.length_take]; omega
  by_cases q : i < t
  · rw [List.getElem?_append_left (by omega), List.getElem?_take_of_lt q] at hij
    rw [pk_un (by omega)]
    exact h3 i j q hij
  · rw [List.getElem?_append_right (by omega), hl] at hij
    by_cases q2 : i = t
    · subst q2
      rw [Nat.sub_self] at hij
      obtain rfl : k = j := by simpa using hij
      exact pk_us
    · obtain ⟨d, rfl⟩ : ∃ d, i = t + d + 1 := ⟨i - t - 1, by omega⟩
      rw [show t + d + 1 - t = d + 1 by omega, List.getElem?_cons_succ, List.getElem?_drop] at hij
      rw [pk_un (by omega)]
      exact h4 (t + d) j (by omega) hij
theorem insT_0 {sc : Nat → UInt64} {k : Nat} {L : List Nat} : insT sc k L 0 = 0 := rfl
theorem insT_n {sc : Nat → UInt64} {k t j : Nat} {L : List Nat} (hj : L[t]? = some j) (hl : ¬ ltS sc j k) : insT sc k L (t + 1) = t + 1 := by
  rw [insT, hj]
  exact if_neg hl
theorem OrR.ix {sc : Nat → UInt64} {f : Nat → Int32} {k : Nat} (h : OrR f (ordL sc k)) : ∀ i, i < k → ∃ j, f i = nI j ∧ j < k := fun i hi => by
  obtain ⟨j, hj⟩ : ∃ j, (ordL sc k)[i]? = some j := ⟨_, List.getElem?_eq_getElem (by rw [ordL_len]; exact hi)⟩
  exact ⟨j, h i j hj, ordL_lt k j (List.mem_of_getElem? hj)⟩
theorem OrR.nil {sc : Nat → UInt64} {f : Nat → Int32} : OrR f (ordL sc 0) := fun i j hj => absurd hj (by rw [show ordL sc 0 = [] from rfl]; simp)
/-- where the k-th answer is held -/
def plF (fo : Nat → Int32) (b : Int32) (k : Nat) : Nat := if b = 0 then k else (fo k).toNatClampNeg
theorem plF_0 {fo : Nat → Int32} {b : Int32} {k : Nat} (h : b = 0) : plF fo b k = k := if_pos h
theorem plF_1 {fo : Nat → Int32} {b : Int32} {k : Nat} (h : ¬ b = 0) : plF fo b k = (fo k).toNatClampNeg := if_neg h
/-! TIER S: what a score is made of -/
def PSI (Q : Nat → Nat → Nat → Nat → Prop) (a r : Nat) : Prop := ∃ c, c < 2 ∧ ∃ i, i < 32 ∧ Q a r c i
theorem FLs.sin {Q : Nat → Nat → Nat → Nat → Prop} {pf : Nat → Int32} {k a r : Nat} (FL : FLs Q pf k) (hr1 : 1 ≤ r) (hr2 : r ≤ 24) (hk : (a * 24 + r - 1) * 2 + 1 < k) : (pf ((a * 24 + r - 1) * 2 + 0) ||| pf ((a * 24 + r - 1) * 2 + 1) = 0) ↔ ¬ PSI Q a r := by
  have b0 := FL a r 0 hr1 hr2 (by decide) (by omega)
  have b1 := FL a r 1 hr1 hr2 (by decide) (by omega)
  rw [(b0.or b1).zero_iff]
  constructor
  · rintro h ⟨c, hc, i, hi, q⟩
    rcases (show c = 0 ∨ c = 1 by omega) with rfl | rfl
    · exact h i hi (Or.inl q)
    · exact h i hi (Or.inr q)
  · intro h i hi q
    exact q.elim (fun q => h ⟨0, by decide, i, hi, q⟩) (fun q => h ⟨1, by decide, i, hi, q⟩)
/-- how often phrase a stands in row r, weighed -/
noncomputable def frq (Q : Nat → Nat → Nat → Nat → Prop) (w0 w1 a r : Nat) : Nat := cP (Q a r 0) 32 * w0 + cP (Q a r 1) 32 * w1
/-- in how many rows it stands -/
noncomputable def wiQ (Q : Nat → Nat → Nat → Nat → Prop) (a : Nat) : Nat := cP (fun k => PSI Q a (k + 1)) 24
theorem wiQ_le {Q : Nat → Nat → Nat → Nat → Prop} {a : Nat} : wiQ Q a ≤ 24 := cP_le 24
/-- the tokens of the first k rows -/
def tkT (er : Nat → Option Nat) (TW : Nat → Nat → List (List Int32)) : Nat → Nat
  | 0 => 0
  | k + 1 => tkT er TW k + (match er (k + 1) with
    | none => 0
    | some _ => (TW (k + 1) 0).length + (TW (k + 1) 1).length)
theorem tkT_n {er : Nat → Option Nat} {TW : Nat → Nat → List (List Int32)} {i : Nat} (hi : 1 ≤ i) (h : er i = none) : tkT er TW (i + 1 - 1) = tkT er TW (i - 1) := by
  obtain ⟨k, rfl⟩ : ∃ k, i = k + 1 := ⟨i - 1, by omega⟩
  rw [Nat.add_sub_cancel, Nat.add_sub_cancel, tkT, h]
  rfl
theorem tkT_y {er : Nat → Option Nat} {TW : Nat → Nat → List (List Int32)} {i a : Nat} (hi : 1 ≤ i) (h : er i = some a) : tkT er TW (i + 1 - 1) = tkT er TW (i - 1) + ((TW i 0).length + (TW i 1).length) := by
  obtain ⟨k, rfl⟩ : ∃ k, i = k + 1 := ⟨i - 1, by omega⟩
  rw [Nat.add_sub_cancel, Nat.add_sub_cancel, tkT, h]
/-- the average length of a row -/
def avF (tc rc : Nat) : UInt64 := FP.ddiv (FP.i2d (nI tc)) (FP.i2d (nI rc))
/-- the score of row r -/
noncomputable def scR (Q : Nat → Nat → Nat → Nat → Prop) (w0 w1 rc tc P len r : Nat) : UInt64 := if 0 < rc ∧ 0 < tc then scN (fun p => frq Q w0 w1 p r) (fun p => wiQ Q p) rc len (avF tc rc) P else FP.dconst0
/-- the scores behind one more phrase -/
noncomputable def nxS (Q : Nat → Nat → Nat → Nat → Prop) (w0 w1 a : Nat) (ra av : UInt64) (rwf lf : Nat → Nat) (g2 : Nat → UInt64) (j : Nat) : UInt64 := if frq Q w0 w1 a (rwf j) = 0 then g2 j else FP.dadd (g2 j) (scT ra (frq Q w0 w1 a (rwf j)) (lf j) av)
theorem ra_sm {r w : Nat} (hr : r < 25) (hw : w < 25) : smB (raF r w) = true := by
  have hk := lnOK_all r hr w hw
  rw [lnOK] at hk
  simp only [Bool.and_eq_true] at hk
  obtain ⟨⟨⟨-, -⟩, -⟩, k4⟩ := hk
  unfold raF
  cases hF2 : lnF (lnA (nI r) (nI w)) with
  | none => rw [hF2] at k4; cases k4
  | some y =>
    rw [hF2] at k4
    dsimp only
    by_cases z : (Op.cmpValue (FP.dcmp y FP.dconst0) .l) ≤ 0
    · rw [if_pos z]; decide +kernel
    · rw [if_neg z]
      rcases Bool.or_eq_true _ _ |>.mp k4 with q | q
      · exact absurd (of_decide_eq_true q) z
      · exact q
theorem fL_mem {P : Nat → Prop} : ∀ k r, r ∈ fL P k → 1 ≤ r ∧ r ≤ k ∧ P r := by
  intro k
  induction k with
  | zero => intro r h; rw [show fL P 0 = [] from rfl] at h; cases h
  | succ k ih =>
    intro r h
    by_cases q : P (k + 1)
    · rw [fL_y q] at h
      rcases List.mem_append.mp h with h | h
      · have := ih r h; exact ⟨this.1, by omega, this.2.2⟩
      · rw [List.mem_singleton.mp h]
        exact ⟨by omega, Nat.le_refl _, q⟩
    · rw [fL_n q] at h
      have := ih r h
      exact ⟨this.1, by omega, this.2.2⟩
noncomputable def rwF (P : Nat → Prop) (j : Nat) : Nat := ((fL P 24)[j]?).getD 0
theorem rwF_at {P : Nat → Prop} {j r : Nat} (h : (fL P 24)[j]? = some r) : rwF P j = r := by
  unfold rwF
  rw [h]
  rfl
theorem TkF.rw {P : Nat → Prop} {TL : Nat → Nat} {sz : Nat} {f1 f3 : Nat → Int32} {f2 : Nat → UInt64} (h : TkF P TL 24 sz f1 f2 f3) (hT : ∀ r, 1 ≤ r → r ≤ 24 → P r → TL r ≤ 96) : (∀ j, j < sz → f1 j = nI (rwF P j) ∧ 1 ≤ rwF P j ∧ rwF P j ≤ 24 ∧ f3 j = nI (TL (rwF P j)) ∧ TL (rwF P j) ≤ 96) ∧ ∀ j, j < sz → f2 j = FP.dconst0 := by
  have at9 : ∀ j, j < sz → ∃ r, (fL P 24)[j]? = some r := fun j hj => ⟨_, List.getElem?_eq_getElem (by rw [← h.1]; exact hj)⟩
  refine ⟨fun j hj => ?_, fun j hj => ?_⟩
  · obtain ⟨r, hr⟩ := at9 j hj
    obtain ⟨a1, a2, a3⟩ := fL_mem 24 r (List.mem_of_getElem? hr)
    obtain ⟨b1, b2, -⟩ := h.2 j r hr
    rw [rwF_at hr]
    exact ⟨b1, a1, a2, b2, hT r a1 a2 a3⟩
  · obtain ⟨r, hr⟩ := at9 j hj
    exact (h.2 j r hr).2.2
