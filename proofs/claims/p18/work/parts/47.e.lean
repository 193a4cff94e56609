/-! the reference in general states: by program (wip/tools/gen5.py, gen6.py, gen7.py) -/
theorem fi_i2d {t : Nat} (h : t < 2401) : FI (FP.i2d (nI t)) := by
  rcases me_i2d t h with q | q
  · rw [q]; exact smB.fi (by decide +kernel)
  · exact smB.fi (meB.sm q)
theorem cmp0 : (Op.cmpValue (FP.dcmp (FP.i2d (nI 0)) FP.dconst0) .l) = 0 := by decide +kernel
theorem wq {w0 w1 q0 q1 : Nat} (h0 : w0 ≤ 9) (h1 : w1 ≤ 9) (k0 : q0 ≤ 24) (k1 : q1 ≤ 24) : w0 * q0 + w1 * q1 ≤ 432 ∧ (1 ≤ w0 * q0 + w1 * q1 → 1 ≤ q0 + q1) := by
  have a := Nat.mul_le_mul h0 k0
  have b := Nat.mul_le_mul h1 k1
  refine ⟨by omega, fun h => ?_⟩
  rcases Nat.eq_zero_or_pos q0 with q | q
  · rcases Nat.eq_zero_or_pos q1 with p | p
    · rw [q, p] at h; simp at h
    · omega
  · omega
theorem cntL_pos {f : Nat → Int32} {r : Nat} (h : ¬ f r < 0) : ∀ n, r < n → 1 ≤ cntL f n := by
  intro n
  induction n with
  | zero => intro q; omega
  | succ n ih =>
    intro q
    rw [cntL]
    by_cases q2 : r = n
    · subst q2; rw [if_pos h]; omega
    · have := ih (by omega); omega
theorem cntL_mono (f : Nat → Int32) (i : Nat) : cntL f i ≤ cntL f (i + 1) := by
  rw [cntL]; omega
theorem cntL_live {f : Nat → Int32} {i : Nat} (h : ¬ f i < 0) : cntL f (i + 1) = cntL f i + 1 := by
  rw [cntL, if_pos h]
theorem lg_of {r w : Nat} (hr : r < 25) (hw : w ≤ r) : n64 (FP.dadd (FP.i2d (nI r - nI w)) 4602678819172646912) = true ∧ n64 (FP.dadd (FP.i2d (nI w)) 4602678819172646912) = true ∧ n64 (lnA (nI r) (nI w)) = true ∧ ∃ y, lgF (lnA (nI r) (nI w)) = some y ∧ ((Op.cmpValue (FP.dcmp y FP.dconst0) .l) ≤ 0 ∨ smB y = true) := by
  have hk := lnOK_all r hr w (by omega)
  rw [lnOK] at hk
  simp only [Bool.and_eq_true] at hk
  obtain ⟨⟨⟨k1, k2⟩, k3⟩, k4⟩ := hk
  refine ⟨k1, k2, k3, ?_⟩
  rw [lgF_ln (lgE_all r hr w (by omega))]
  cases hF2 : lnF (lnA (nI r) (nI w)) with
  | none => rw [hF2] at k4; cases k4
  | some y =>
    rw [hF2] at k4
    refine ⟨y, rfl, ?_⟩
    rcases Bool.or_eq_true _ _ |>.mp k4 with q | q
    · exact Or.inl (of_decide_eq_true q)
    · exact Or.inr q
theorem sc_all {t d al rw' : Nat} {x14 x2 : UInt64} (ht : 1 ≤ t) (ht2 : t < 1135) (hd : d < 97) (ha : 1 ≤ al) (ha2 : al < 2401) (hr : 1 ≤ rw') (hr2 : rw' < 2401) (h14 : smB x14 = true) (h2 : NN x2) :
    NN (FP.dmul (FP.i2d (nI t)) 4612136378390124954) ∧ NN (FP.dmul x14 (FP.dmul (FP.i2d (nI t)) 4612136378390124954)) ∧ NN (FP.dmul 4604930618986332160 (FP.i2d (nI d))) ∧ NN (FP.ddiv (FP.dmul 4604930618986332160 (FP.i2d (nI d))) (FP.ddiv (FP.i2d (nI al)) (FP.i2d (nI rw')))) ∧ NN (FP.dadd 4598175219545276416 (FP.ddiv (FP.dmul 4604930618986332160 (FP.i2d (nI d))) (FP.ddiv (FP.i2d (nI al)) (FP.i2d (nI rw'))))) ∧ NN (FP.dmul 4608083138725491507 (FP.dadd 4598175219545276416 (FP.ddiv (FP.dmul 4604930618986332160 (FP.i2d (nI d))) (FP.ddiv (FP.i2d (nI al)) (FP.i2d (nI rw')))))) ∧ NN (FP.dadd (FP.i2d (nI t)) (FP.dmul 4608083138725491507 (FP.dadd 4598175219545276416 (FP.ddiv (FP.dmul 4604930618986332160 (FP.i2d (nI d))) (FP.ddiv (FP.i2d (nI al)) (FP.i2d (nI rw'))))))) ∧ NN (FP.ddiv (FP.dmul x14 (FP.dmul (FP.i2d (nI t)) 4612136378390124954)) (FP.dadd (FP.i2d (nI t)) (FP.dmul 4608083138725491507 (FP.dadd 4598175219545276416 (FP.ddiv (FP.dmul 4604930618986332160 (FP.i2d (nI d))) (FP.ddiv (FP.i2d (nI al)) (FP.i2d (nI rw')))))))) ∧ NN (FP.dadd x2 (FP.ddiv (FP.dmul x14 (FP.dmul (FP.i2d (nI t)) 4612136378390124954)) (FP.dadd (FP.i2d (nI t)) (FP.dmul 4608083138725491507 (FP.dadd 4598175219545276416 (FP.ddiv (FP.dmul 4604930618986332160 (FP.i2d (nI d))) (FP.ddiv (FP.i2d (nI al)) (FP.i2d (nI rw'))))))))) := by
  have m22 := (me_22 t ht2).resolve_left (by omega)
  have mf := (me_i2d t (by omega)).resolve_left (by omega)
  have sd := sm_len d hd
  have a := po_ddiv ((me_i2d al ha2).resolve_left (by omega)) ((me_i2d rw' hr2).resolve_left (by omega))
  have A1 := fi_dmul h14 (meB.sm m22)
  have A2 := nn_ddiv (smB.fi sd) a
  have A3 := po_dadd (x := 4598175219545276416) (by decide +kernel) A2
  have A4 := nn_dmul (x := 4608083138725491507) (by decide +kernel) A3.nn
  have A5 := po_dadd mf A4
  have A6 := nn_ddiv A1 A5
  have A7 := nn_dadd h2 A6
  exact ⟨(meB.po m22).nn, A1.nn, (smB.fi sd).nn, A2, A3.nn, A4, A5.nn, A6, A7⟩
