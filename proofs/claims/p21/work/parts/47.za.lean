/-! TIER H, without heaps: two ways to read an expression. The class goes down by ranks (OR 1, AND 2, NOT 3, side by side 4); the reference keeps a stack. Both give the same events in postfix: (0, g) a group, (j, 0) a join -/
abbrev EV := Nat × Nat
def dpr (k : Nat) : Bool := k == 9 || k == 11 || k == 3
def bga (k : Nat) : Bool := dpr k || k == 2 || k == 4 || k == 12 || k == 8
def goes (r k : Nat) : Bool := if r = 4 then bga k else k == r + 4
def ngo (r k : Nat) : Prop := ∀ j, r < j → j ≤ 4 → goes j k = false
section Exprs
variable {S : Type} (kd : S → Nat) (sk : S → S) (gp : Nat → S → Option (S × Nat)) (fl : S → Option (Nat × S))
/-- the loop of a rank: x reads its operands -/
def lpJ (x : S → Option (S × List EV)) (r : Nat) : Nat → S → List EV → Option (S × List EV)
  | 0, s, e => some (s, e)
  | f + 1, s, e => if goes r (kd s) = true then (match x (if r = 4 then s else sk s) with
    | none => none
    | some (s', e') => lpJ x r f s' (e ++ e' ++ [(r, 0)])) else some (s, e)
def jnX (x : S → Option (S × List EV)) (r f : Nat) (s : S) : Option (S × List EV) := match x s with
  | none => none
  | some (s', e) => lpJ kd sk x r f s' e
/-- all ranks over the atoms -/
def jn1 (f : Nat) (at_ : S → Option (S × List EV)) : S → Option (S × List EV) := jnX kd sk (jnX kd sk (jnX kd sk (jnX kd sk at_ 4 f) 3 f) 2 f) 1 f
def atm (b : Nat) : Nat → Nat → Nat → S → Option (S × List EV)
  | 0, _, _, _ => none
  | f + 1, c, d, s => if dpr (kd s) = true then (if 8 ≤ d then none else if kd s = 9 then (match jn1 kd sk b (atm b f c (d + 1)) (sk s) with
    | none => none
    | some (s', e) => if kd s' = 10 then some (sk s', e) else none) else (match fl s with
    | none => none
    | some (pm, s') => atm b f (c &&& pm) (d + 1) s')) else (match gp c s with
    | none => none
    | some (s', g) => some (s', [(0, g)]))
/-- the stack: ops of rank l and more are taken off -/
def redS (l : Nat) : List EV → List EV → List EV × List EV
  | [], o => ([], o)
  | p :: st, o => if p.1 < 5 ∧ l ≤ p.1 then redS l st (o ++ [(p.1, 0)]) else (p :: st, o)
def cfS : List EV → Nat → List EV × Nat
  | [], c => ([], c)
  | p :: st, c => if p.1 = 6 then cfS st p.2 else (p :: st, c)
def depS : List EV → Nat
  | [] => 0
  | p :: st => (if 5 ≤ p.1 then 1 else 0) + depS st
abbrev CF (S : Type) := Bool × S × List EV × Nat × List EV
def jnt (k : Nat) : Nat := if k = 5 then 1 else if k = 6 then 2 else if k = 7 then 3 else 4
def stp (z : CF S) : Option (CF S) := match z with
  | (false, s, st, c, o) => if kd s = 9 then (if depS st = 8 then none else some (false, sk s, (5, c) :: st, c, o)) else if dpr (kd s) = true then (match fl s with
    | none => none
    | some (pm, s') => if depS st = 8 then none else some (false, s', (6, c) :: st, c &&& pm, o)) else (match gp c s with
    | none => none
    | some (s', g) => some (true, s', (cfS st c).1, (cfS st c).2, o ++ [(0, g)]))
  | (true, s, st, c, o) => if kd s = 10 then (match redS 1 st o with
    | ([], _) => none
    | (p :: st', o') => some (true, sk s, (cfS st' p.2).1, (cfS st' p.2).2, o')) else if jnt (kd s) = 4 ∧ bga (kd s) = false then none else some (false, (if jnt (kd s) = 4 then s else sk s), (jnt (kd s), c) :: (redS (jnt (kd s)) st o).1, c, (redS (jnt (kd s)) st o).2)
def runM : Nat → CF S → Option (S × List EV)
  | 0, _ => none
  | f + 1, z => if z.1 = true ∧ kd z.2.1 = 0 then (match redS 1 z.2.2.1 z.2.2.2.2 with
    | ([], o) => some (z.2.1, o)
    | (_ :: _, _) => none) else (match stp kd sk gp fl z with
    | none => none
    | some z' => runM f z')
/-- for all bounds that are large enough -/
def Rto (z : CF S) (r : Option (S × List EV)) : Prop := ∃ n, ∀ f, n ≤ f → runM kd sk gp fl f z = r
theorem Rto.step {z z' : CF S} {r : Option (S × List EV)} (h : stp kd sk gp fl z = some z') (hn : ¬ (z.1 = true ∧ kd z.2.1 = 0)) (k : Rto kd sk gp fl z' r) : Rto kd sk gp fl z r := by
  obtain ⟨n, hk⟩ := k
  refine ⟨n + 1, fun f hf => ?_⟩
  obtain ⟨f', rfl⟩ : ∃ f', f = f' + 1 := ⟨f - 1, by omega⟩
  rw [runM, if_neg hn, h]
  exact hk f' (by omega)
theorem Rto.bad {z : CF S} (h : stp kd sk gp fl z = none) (hn : ¬ (z.1 = true ∧ kd z.2.1 = 0)) : Rto kd sk gp fl z none := by
  refine ⟨1, fun f hf => ?_⟩
  obtain ⟨f', rfl⟩ : ∃ f', f = f' + 1 := ⟨f - 1, by omega⟩
  rw [runM, if_neg hn, h]
theorem Rto.fin {s : S} {st : List EV} {c : Nat} {o : List EV} (h : kd s = 0) : Rto kd sk gp fl (true, s, st, c, o) (match redS 1 st o with
    | ([], o) => some (s, o)
    | (_ :: _, _) => none) := by
  refine ⟨1, fun f hf => ?_⟩
  obtain ⟨f', rfl⟩ : ∃ f', f = f' + 1 := ⟨f - 1, by omega⟩
  rw [runM, if_pos ⟨rfl, h⟩]
def okr (st : List EV) (r : Nat) : Prop := ∀ p st', st = p :: st' → 5 ≤ p.1 ∨ p.1 < r
def nfl (st : List EV) : Prop := ∀ p st', st = p :: st' → ¬ p.1 = 6
def ops (t : List EV) : List EV := t.map (fun p => (p.1, 0))
theorem red_app {r : Nat} {st : List EV} (hk : okr st r) : ∀ (t o : List EV), (∀ p ∈ t, r ≤ p.1 ∧ p.1 < 5) → redS r (t ++ st) o = (st, o ++ ops t) := by
  intro t
  induction t with
  | nil =>
    intro o _
    cases st with
    | nil => simp [redS, ops]
    | cons p st =>
      have h := hk p st rfl
      rw [List.nil_append, redS, if_neg (by omega)]
      simp [ops]
  | cons p t ih =>
    intro o h
    have h0 := h p List.mem_cons_self
    rw [List.cons_append, redS, if_pos ⟨h0.2, h0.1⟩, ih _ (fun q hq => h q (List.mem_cons_of_mem _ hq))]
    simp [ops]
theorem cf_nf {st : List EV} {c : Nat} (h : nfl st) : cfS st c = (st, c) := by
  cases st with
  | nil => rfl
  | cons p st => rw [cfS, if_neg (h p st rfl)]
/-- x reads an operand: the machine goes along -/
def PX (x : S → Option (S × List EV)) (r c d : Nat) : Prop := ∀ (s : S) (st o : List EV), depS st = d → okr st (r + 1) → (r < 4 → nfl st) →
  (x s = none → Rto kd sk gp fl (false, s, st, c, o) none) ∧
  ∀ s' e, x s = some (s', e) → ngo r (kd s') ∧ ∃ t o1 : List EV, (∀ p ∈ t, r < p.1 ∧ p.1 < 5) ∧ o1 ++ ops t = o ++ e ∧ ∀ res, Rto kd sk gp fl (true, s', t ++ (cfS st c).1, (cfS st c).2, o1) res → Rto kd sk gp fl (false, s, st, c, o) res
theorem goes_jnt {r k : Nat} (h1 : 1 ≤ r) (h4 : r ≤ 4) (h : goes r k = true) : jnt k = r ∧ ¬ k = 10 ∧ ¬ k = 0 ∧ ¬ (jnt k = 4 ∧ bga k = false) := by
  unfold goes at h
  by_cases q : r = 4
  · rw [if_pos q] at h
    have hk : k = 9 ∨ k = 11 ∨ k = 3 ∨ k = 2 ∨ k = 4 ∨ k = 12 ∨ k = 8 := by
      simp [bga, dpr] at h
      omega
    have hj : jnt k = 4 := by
      unfold jnt
      rw [if_neg (by omega), if_neg (by omega), if_neg (by omega)]
    exact ⟨by rw [hj, q], by omega, by omega, fun z => by rw [h] at z; cases z.2⟩
  · rw [if_neg q] at h
    have hk : k = r + 4 := by simpa using h
    have hj : jnt k = r := by
      unfold jnt
      rcases (show r = 1 ∨ r = 2 ∨ r = 3 by omega) with rfl | rfl | rfl <;> subst hk <;> decide
    exact ⟨hj, by omega, by omega, fun z => by omega⟩
theorem lp_PX {x : S → Option (S × List EV)} {r c d : Nat} (h1 : 1 ≤ r) (h4 : r ≤ 4) (hx : PX kd sk gp fl x r c d) (ln : S → Nat) (hl : ∀ s s' e, x s = some (s', e) → ln s' < ln s) (hs : ∀ s, goes r (kd s) = true → ln (sk s) ≤ ln s) (h0 : ∀ s, ln s = 0 → goes r (kd s) = false) :
    ∀ (f : Nat) (s : S) (e st o t o1 : List EV), ln s ≤ f → depS st = d → okr st r → nfl st → ngo r (kd s) → (∀ p ∈ t, r ≤ p.1 ∧ p.1 < 5) → o1 ++ ops t = o ++ e →
    (lpJ kd sk x r f s e = none → Rto kd sk gp fl (true, s, t ++ st, c, o1) none) ∧
    ∀ s' e', lpJ kd sk x r f s e = some (s', e') → ngo (r - 1) (kd s') ∧ ∃ t' o' : List EV, (∀ p ∈ t', r ≤ p.1 ∧ p.1 < 5) ∧ o' ++ ops t' = o ++ e' ∧ ∀ res, Rto kd sk gp fl (true, s', t' ++ st, c, o') res → Rto kd sk gp fl (true, s, t ++ st, c, o1) res := by
  intro f
  induction f with
  | zero =>
    intro s e st o t o1 hf hd hk hn hg ht ho
    refine ⟨(fun q => by rw [lpJ] at q; cases q), fun s' e' q => ?_⟩
    rw [lpJ] at q
    obtain ⟨rfl, rfl⟩ : s = s' ∧ e = e' := by simpa using q
    refine ⟨fun j hj hj4 => ?_, t, o1, ht, ho, fun res k => k⟩
    by_cases e1 : j = r
    · rw [e1]; exact h0 s (by omega)
    · exact hg j (by omega) hj4
  | succ f ih =>
    intro s e st o t o1 hf hd hk hn hg ht ho
    by_cases q : goes r (kd s) = true
    · obtain ⟨j1, j2, j3, j4⟩ := goes_jnt h1 h4 q
      have e1 : stp kd sk gp fl (true, s, t ++ st, c, o1) = some (false, (if r = 4 then s else sk s), (r, c) :: st, c, o1 ++ ops t) := by
        rw [stp, if_neg j2, if_neg j4, j1, red_app hk t o1 ht]
      have hst : depS ((r, c) :: st) = d := by
        rw [depS, if_neg (by show ¬ 5 ≤ r; omega), Nat.zero_add]
        exact hd
      have hok : okr ((r, c) :: st) (r + 1) := fun p st' e2 => by
        obtain ⟨rfl, -⟩ := List.cons.inj e2
        exact Or.inr (Nat.lt_succ_self r)
      have hnf : nfl ((r, c) :: st) := fun p st' e2 => by
        obtain ⟨rfl, -⟩ := List.cons.inj e2
        show ¬ r = 6
        omega
      obtain ⟨p1, p2⟩ := hx (if r = 4 then s else sk s) ((r, c) :: st) (o1 ++ ops t) hst hok (fun _ => hnf)
      rw [lpJ, if_pos q]
      cases hxs : x (if r = 4 then s else sk s) with
      | none => exact ⟨fun _ => Rto.step kd sk gp fl e1 (fun z => j3 z.2) (p1 hxs), fun s' e' z => by simp at z⟩
      | some y =>
        obtain ⟨s2, e2⟩ := y
        obtain ⟨g2, t2, o2, ht2, ho2, hr2⟩ := p2 s2 e2 hxs
        rw [cf_nf hnf] at hr2
        have hlen : ln s2 ≤ f := by
          have := hl _ _ _ hxs
          have h5 : ln (if r = 4 then s else sk s) ≤ ln s := by
            split
            · exact Nat.le_refl _
            · exact hs s q
          omega
        have hap : t2 ++ (r, c) :: st = (t2 ++ [(r, c)]) ++ st := by simp
        dsimp only at hr2
        rw [hap] at hr2
        obtain ⟨i1, i2⟩ := ih s2 (e ++ e2 ++ [(r, 0)]) st o (t2 ++ [(r, c)]) o2 hlen hd hk hn g2 (fun p hp => by
          rcases List.mem_append.mp hp with z | z
          · have := ht2 p z; omega
          · rw [List.mem_singleton.mp z]; exact ⟨Nat.le_refl _, by show r < 5; omega⟩) (by
          have : ops (t2 ++ [(r, c)]) = ops t2 ++ [(r, 0)] := by simp [ops]
          rw [this, ← List.append_assoc, ho2, ho]
          simp)
        dsimp only
        exact ⟨fun z => Rto.step kd sk gp fl e1 (fun z => j3 z.2) (hr2 _ (i1 z)), fun s' e' z => by
          obtain ⟨a1, t', o', a2, a3, a4⟩ := i2 s' e' z
          exact ⟨a1, t', o', a2, a3, fun res k => Rto.step kd sk gp fl e1 (fun z => j3 z.2) (hr2 _ (a4 res k))⟩⟩
    · rw [lpJ, if_neg q]
      refine ⟨fun z => (by cases z), fun s' e' z => ?_⟩
      obtain ⟨rfl, rfl⟩ : s = s' ∧ e = e' := by simpa using z
      refine ⟨fun j hj hj4 => ?_, t, o1, ht, ho, fun res k => k⟩
      by_cases e1 : j = r
      · rw [e1]; simpa using q
      · exact hg j (by omega) hj4
/-- what the pieces must keep -/
def LNX (x : S → Option (S × List EV)) (ln : S → Nat) : Prop := ∀ s s' e, x s = some (s', e) → ln s' < ln s
theorem lp_ln {x : S → Option (S × List EV)} {r : Nat} {ln : S → Nat} (hl : LNX x ln) (hs : ∀ s, goes r (kd s) = true → ln (sk s) ≤ ln s) : ∀ (f : Nat) (s : S) (e : List EV) (s' : S) (e' : List EV), lpJ kd sk x r f s e = some (s', e') → ln s' ≤ ln s := by
  intro f
  induction f with
  | zero =>
    intro s e s' e' h
    rw [lpJ] at h
    obtain ⟨rfl, rfl⟩ : s = s' ∧ e = e' := by simpa using h
    exact Nat.le_refl _
  | succ f ih =>
    intro s e s' e' h
    rw [lpJ] at h
    by_cases q : goes r (kd s) = true
    · rw [if_pos q] at h
      cases hxs : x (if r = 4 then s else sk s) with
      | none => rw [hxs] at h; simp at h
      | some y =>
        obtain ⟨s2, e2⟩ := y
        rw [hxs] at h
        have h1 := ih s2 _ s' e' h
        have h2 := hl _ _ _ hxs
        have h5 : ln (if r = 4 then s else sk s) ≤ ln s := by
          split
          · exact Nat.le_refl _
          · exact hs s q
        omega
    · rw [if_neg q] at h
      obtain ⟨rfl, rfl⟩ : s = s' ∧ e = e' := by simpa using h
      exact Nat.le_refl _
theorem jn_ln {x : S → Option (S × List EV)} {r f : Nat} {ln : S → Nat} (hl : LNX x ln) (hs : ∀ s, goes r (kd s) = true → ln (sk s) ≤ ln s) : LNX (jnX kd sk x r f) ln := fun s s' e h => by
  rw [jnX] at h
  cases hxs : x s with
  | none => rw [hxs] at h; simp at h
  | some y =>
    obtain ⟨s2, e2⟩ := y
    rw [hxs] at h
    have h1 := lp_ln kd sk hl hs f s2 e2 s' e h
    have h2 := hl _ _ _ hxs
    omega
theorem jn_PX {x : S → Option (S × List EV)} {r c d f : Nat} (h1 : 1 ≤ r) (h4 : r ≤ 4) (hx : PX kd sk gp fl x r c d) (ln : S → Nat) (hl : LNX x ln) (hs : ∀ s, goes r (kd s) = true → ln (sk s) ≤ ln s) (h0 : ∀ s, ln s = 0 → goes r (kd s) = false) (hf : ∀ s, ln s ≤ f) : PX kd sk gp fl (jnX kd sk x r f) (r - 1) c d := by
  intro s st o hd hk hn
  have hn := hn (by omega)
  have hk1 : okr st r := by rw [show r - 1 + 1 = r by omega] at hk; exact hk
  obtain ⟨p1, p2⟩ := hx s st o hd (fun p st' e => (hk1 p st' e).imp id (fun z => by omega)) (fun _ => hn)
  rw [jnX]
  cases hxs : x s with
  | none => exact ⟨fun _ => p1 hxs, fun s' e' z => by simp at z⟩
  | some y =>
    obtain ⟨s2, e2⟩ := y
    obtain ⟨g2, t2, o2, ht2, ho2, hr2⟩ := p2 s2 e2 hxs
    rw [cf_nf hn] at hr2
    obtain ⟨i1, i2⟩ := lp_PX kd sk gp fl h1 h4 hx ln hl hs h0 f s2 e2 st o t2 o2 (hf s2) hd hk1 hn g2 (fun p hp => by have := ht2 p hp; omega) ho2
    dsimp only
    refine ⟨fun z => hr2 _ (i1 z), fun s' e' z => ?_⟩
    obtain ⟨a1, t', o', a2, a3, a4⟩ := i2 s' e' z
    rw [cf_nf hn]
    exact ⟨a1, t', o', (fun p hp => by have := a2 p hp; omega), a3, fun res k => hr2 _ (a4 res k)⟩
theorem goes0 {r k : Nat} (h1 : 1 ≤ r) (h : k = 0 ∨ k = 1) : goes r k = false := by
  unfold goes
  rcases h with rfl | rfl
  · split
    · decide
    · simp
  · split
    · decide
    · simp
theorem ngo0 {k : Nat} (h : ngo 0 k) : jnt k = 4 ∧ bga k = false := by
  have h1 := h 1 (by omega) (by omega)
  have h2 := h 2 (by omega) (by omega)
  have h3 := h 3 (by omega) (by omega)
  have h4 := h 4 (by omega) (by omega)
  simp [goes] at h1 h2 h3 h4
  refine ⟨?_, h4⟩
  unfold jnt
  rw [if_neg (by omega), if_neg (by omega), if_neg (by omega)]
/-- a config behind an operand of no rank, where nothing closes and nothing ends -/
theorem stuck {s : S} {st : List EV} {c : Nat} {o : List EV} (h : ngo 0 (kd s)) (h10 : ¬ kd s = 10) (h0 : ¬ kd s = 0) : Rto kd sk gp fl (true, s, st, c, o) none := by
  obtain ⟨j1, j2⟩ := ngo0 h
  refine Rto.bad kd sk gp fl ?_ (fun z => h0 z.2)
  rw [stp, if_neg h10, if_pos ⟨j1, j2⟩]
theorem jn1_PX {at_ : S → Option (S × List EV)} {b c d : Nat} {ln : S → Nat} (hx : PX kd sk gp fl at_ 4 c d) (hl : LNX at_ ln) (hs : ∀ s, ln (sk s) ≤ ln s) (h0 : ∀ s, ln s = 0 → kd s = 0 ∨ kd s = 1) (hb : ∀ s, ln s ≤ b) : PX kd sk gp fl (jn1 kd sk b at_) 0 c d ∧ LNX (jn1 kd sk b at_) ln := by
  have k4 := jn_PX kd sk gp fl (by omega) (by omega) hx ln hl (fun s _ => hs s) (fun s q => goes0 (by omega) (h0 s q)) hb
  have l4 : LNX (jnX kd sk at_ 4 b) ln := jn_ln kd sk hl (fun s _ => hs s)
  have k3 := jn_PX kd sk gp fl (r := 3) (by omega) (by omega) k4 ln l4 (fun s _ => hs s) (fun s q => goes0 (by omega) (h0 s q)) hb
  have l3 : LNX (jnX kd sk (jnX kd sk at_ 4 b) 3 b) ln := jn_ln kd sk l4 (fun s _ => hs s)
  have k2 := jn_PX kd sk gp fl (r := 2) (by omega) (by omega) k3 ln l3 (fun s _ => hs s) (fun s q => goes0 (by omega) (h0 s q)) hb
  have l2 : LNX (jnX kd sk (jnX kd sk (jnX kd sk at_ 4 b) 3 b) 2 b) ln := jn_ln kd sk l3 (fun s _ => hs s)
  exact ⟨jn_PX kd sk gp fl (r := 1) (by omega) (by omega) k2 ln l2 (fun s _ => hs s) (fun s q => goes0 (by omega) (h0 s q)) hb, jn_ln kd sk l2 (fun s _ => hs s)⟩
theorem atm_PX {b : Nat} {ln : S → Nat} (hg : ∀ c s s' g, gp c s = some (s', g) → ln s' < ln s) (hfl : ∀ s pm s', fl s = some (pm, s') → ln s' < ln s) (hs : ∀ s, ln (sk s) ≤ ln s) (h0 : ∀ s, ln s = 0 → kd s = 0 ∨ kd s = 1) (hb : ∀ s, ln s ≤ b) :
    ∀ (f c d : Nat), 8 < f + d → d ≤ 8 → PX kd sk gp fl (atm kd sk gp fl b f c d) 4 c d ∧ LNX (atm kd sk gp fl b f c d) ln := by
  intro f
  induction f with
  | zero => intro c d h1 h2; omega
  | succ f ih =>
    intro c d h1 h2
    have n4 : ∀ k, ngo 4 k := fun k j a b => by omega
    refine ⟨fun s st o hd hk _ => ?_, fun s s' e h => ?_⟩
    · by_cases hp : dpr (kd s) = true
      · by_cases h8 : 8 ≤ d
        · have e0 : atm kd sk gp fl b (f + 1) c d s = none := by rw [atm, if_pos hp, if_pos h8]
          rw [e0]
          refine ⟨fun _ => ?_, fun s' e z => by cases z⟩
          refine Rto.bad kd sk gp fl ?_ (fun z => by cases z.1)
          have e8 : depS st = 8 := by omega
          rw [stp]
          by_cases h9 : kd s = 9
          · rw [if_pos h9, if_pos e8]
          · rw [if_neg h9, if_pos hp]
            cases hf : fl s with
            | none => rfl
            | some y => obtain ⟨pm, s2⟩ := y; dsimp only; rw [if_pos e8]
        · have e8 : ¬ depS st = 8 := by omega
          by_cases h9 : kd s = 9
          · obtain ⟨kA, lA⟩ := ih c (d + 1) (by omega) (by omega)
            obtain ⟨kJ, lJ⟩ := jn1_PX kd sk gp fl kA lA hs h0 hb
            have e1 : stp kd sk gp fl (false, s, st, c, o) = some (false, sk s, (5, c) :: st, c, o) := by rw [stp, if_pos h9, if_neg e8]
            have ok5 : okr ((5, c) :: st) 1 := fun p st' z => by
              obtain ⟨rfl, -⟩ := List.cons.inj z
              exact Or.inl (Nat.le_refl _)
            have nf5 : nfl ((5, c) :: st) := fun p st' z => by
              obtain ⟨rfl, -⟩ := List.cons.inj z
              show ¬ 5 = 6
              omega
            obtain ⟨q1, q2⟩ := kJ (sk s) ((5, c) :: st) o (by rw [depS, if_pos (by show 5 ≤ 5; omega)]; omega) ok5 (fun _ => nf5)
            have e0 : atm kd sk gp fl b (f + 1) c d s = (match jn1 kd sk b (atm kd sk gp fl b f c (d + 1)) (sk s) with
              | none => none
              | some (s', e) => if kd s' = 10 then some (sk s', e) else none) := by rw [atm, if_pos hp, if_neg h8, if_pos h9]
            rw [e0]
            cases hj : jn1 kd sk b (atm kd sk gp fl b f c (d + 1)) (sk s) with
            | none => exact ⟨fun _ => Rto.step kd sk gp fl e1 (fun z => by cases z.1) (q1 hj), fun s' e z => by cases z⟩
            | some y =>
              obtain ⟨s2, e2⟩ := y
              obtain ⟨g2, t2, o2, ht2, ho2, hr2⟩ := q2 s2 e2 hj
              rw [cf_nf nf5] at hr2
              dsimp only at hr2 ⊢
              have ht3 : ∀ p ∈ t2, 1 ≤ p.1 ∧ p.1 < 5 := fun p hp => by have := ht2 p hp; omega
              by_cases h10 : kd s2 = 10
              · rw [if_pos h10]
                refine ⟨(fun z => by cases z), fun s' e z => ?_⟩
                obtain ⟨rfl, rfl⟩ : sk s2 = s' ∧ e2 = e := by simpa using z
                refine ⟨n4 _, [], o ++ e2, (fun p hp => by cases hp), by simp [ops], fun res k => ?_⟩
                refine Rto.step kd sk gp fl e1 (fun z => by cases z.1) (hr2 _ (Rto.step kd sk gp fl ?_ (fun z => by rw [h10] at z; cases z.2) k))
                rw [stp, if_pos h10, red_app ok5 t2 o2 ht3, ho2]
                rfl
              · rw [if_neg h10]
                refine ⟨fun _ => ?_, fun s' e z => by cases z⟩
                refine Rto.step kd sk gp fl e1 (fun z => by cases z.1) (hr2 _ ?_)
                by_cases hz : kd s2 = 0
                · have := Rto.fin kd sk gp fl (st := t2 ++ (5, c) :: st) (c := c) (o := o2) hz
                  rw [red_app ok5 t2 o2 ht3] at this
                  exact this
                · exact stuck kd sk gp fl g2 h10 hz
          · cases hf : fl s with
            | none =>
              have e0 : atm kd sk gp fl b (f + 1) c d s = none := by rw [atm, if_pos hp, if_neg h8, if_neg h9, hf]
              rw [e0]
              exact ⟨fun _ => Rto.bad kd sk gp fl (by rw [stp, if_neg h9, if_pos hp, hf]) (fun z => by cases z.1), fun s' e z => by cases z⟩
            | some y =>
              obtain ⟨pm, s2⟩ := y
              have e0 : atm kd sk gp fl b (f + 1) c d s = atm kd sk gp fl b f (c &&& pm) (d + 1) s2 := by rw [atm, if_pos hp, if_neg h8, if_neg h9, hf]
              have e1 : stp kd sk gp fl (false, s, st, c, o) = some (false, s2, (6, c) :: st, c &&& pm, o) := by
                rw [stp, if_neg h9, if_pos hp, hf]
                dsimp only
                rw [if_neg e8]
              rw [e0]
              obtain ⟨kA, lA⟩ := ih (c &&& pm) (d + 1) (by omega) (by omega)
              have ok6 : okr ((6, c) :: st) 5 := fun p st' z => by
                obtain ⟨rfl, -⟩ := List.cons.inj z
                exact Or.inl (by show 5 ≤ 6; omega)
              obtain ⟨q1, q2⟩ := kA s2 ((6, c) :: st) o (by rw [depS, if_pos (by show 5 ≤ 6; omega)]; omega) ok6 (fun z => by omega)
              have ec : cfS ((6, c) :: st) (c &&& pm) = cfS st c := by rw [cfS, if_pos rfl]
              rw [ec] at q2
              exact ⟨fun z => Rto.step kd sk gp fl e1 (fun z => by cases z.1) (q1 z), fun s' e z => by
                obtain ⟨a1, t, o1, a2, a3, a4⟩ := q2 s' e z
                exact ⟨a1, t, o1, a2, a3, fun res k => Rto.step kd sk gp fl e1 (fun z => by cases z.1) (a4 res k)⟩⟩
      · have h9 : ¬ kd s = 9 := fun z => hp (by rw [z]; decide)
        cases hgs : gp c s with
        | none =>
          have e0 : atm kd sk gp fl b (f + 1) c d s = none := by rw [atm, if_neg hp, hgs]
          rw [e0]
          exact ⟨fun _ => Rto.bad kd sk gp fl (by rw [stp, if_neg h9, if_neg hp, hgs]) (fun z => by cases z.1), fun s' e z => by cases z⟩
        | some y =>
          obtain ⟨s2, g⟩ := y
          have e0 : atm kd sk gp fl b (f + 1) c d s = some (s2, [(0, g)]) := by rw [atm, if_neg hp, hgs]
          rw [e0]
          refine ⟨(fun z => by cases z), fun s' e z => ?_⟩
          obtain ⟨rfl, rfl⟩ : s2 = s' ∧ [(0, g)] = e := by simpa using z
          refine ⟨n4 _, [], o ++ [(0, g)], (fun p hp => by cases hp), by simp [ops], fun res k => Rto.step kd sk gp fl ?_ (fun z => by cases z.1) k⟩
          rw [stp, if_neg h9, if_neg hp, hgs]
          rfl
    · rw [atm] at h
      by_cases hp : dpr (kd s) = true
      · rw [if_pos hp] at h
        by_cases h8 : 8 ≤ d
        · rw [if_pos h8] at h; cases h
        · rw [if_neg h8] at h
          by_cases h9 : kd s = 9
          · rw [if_pos h9] at h
            obtain ⟨kA, lA⟩ := ih c (d + 1) (by omega) (by omega)
            obtain ⟨kJ, lJ⟩ := jn1_PX kd sk gp fl kA lA hs h0 hb
            cases hj : jn1 kd sk b (atm kd sk gp fl b f c (d + 1)) (sk s) with
            | none => rw [hj] at h; cases h
            | some y =>
              obtain ⟨s2, e2⟩ := y
              rw [hj] at h
              dsimp only at h
              by_cases h10 : kd s2 = 10
              · rw [if_pos h10] at h
                obtain ⟨rfl, rfl⟩ : sk s2 = s' ∧ e2 = e := by simpa using h
                have a1 := lJ _ _ _ hj
                have a2 := hs s
                have a3 := hs s2
                omega
              · rw [if_neg h10] at h; cases h
          · rw [if_neg h9] at h
            cases hf : fl s with
            | none => rw [hf] at h; cases h
            | some y =>
              obtain ⟨pm, s2⟩ := y
              rw [hf] at h
              have a1 := hfl _ _ _ hf
              have a2 := (ih (c &&& pm) (d + 1) (by omega) (by omega)).2 _ _ _ h
              omega
      · rw [if_neg hp] at h
        cases hgs : gp c s with
        | none => rw [hgs] at h; cases h
        | some y =>
          obtain ⟨s2, g⟩ := y
          rw [hgs] at h
          obtain ⟨rfl, rfl⟩ : s2 = s' ∧ [(0, g)] = e := by simpa using h
          exact hg _ _ _ _ hgs
def resJ : Option (S × List EV) → Option (S × List EV)
  | none => none
  | some y => if kd y.1 = 0 then some y else none
/-- both ways give the same -/
theorem read_eq {b c : Nat} {ln : S → Nat} (hg : ∀ c s s' g, gp c s = some (s', g) → ln s' < ln s) (hfl : ∀ s pm s', fl s = some (pm, s') → ln s' < ln s) (hs : ∀ s, ln (sk s) ≤ ln s) (h0 : ∀ s, ln s = 0 → kd s = 0 ∨ kd s = 1) (hb : ∀ s, ln s ≤ b) (s : S) :
    Rto kd sk gp fl (false, s, [], c, []) (resJ kd (jn1 kd sk b (atm kd sk gp fl b 9 c 0) s)) := by
  obtain ⟨kA, lA⟩ := atm_PX kd sk gp fl (b := b) hg hfl hs h0 hb 9 c 0 (by omega) (by omega)
  obtain ⟨kJ, -⟩ := jn1_PX kd sk gp fl kA lA hs h0 hb
  have okn : okr [] 1 := fun p st' z => by cases z
  obtain ⟨q1, q2⟩ := kJ s [] [] rfl okn (fun _ p st' z => by cases z)
  cases hj : jn1 kd sk b (atm kd sk gp fl b 9 c 0) s with
  | none => exact q1 hj
  | some y =>
    obtain ⟨s2, e2⟩ := y
    obtain ⟨g2, t2, o2, ht2, ho2, hr2⟩ := q2 s2 e2 hj
    have ht3 : ∀ p ∈ t2, 1 ≤ p.1 ∧ p.1 < 5 := fun p hp => by have := ht2 p hp; omega
    have hc : cfS [] c = ([], c) := rfl
    rw [hc] at hr2
    dsimp only at hr2
    refine hr2 _ ?_
    rw [resJ]
    dsimp only
    by_cases hz : kd s2 = 0
    · rw [if_pos hz]
      have := Rto.fin kd sk gp fl (st := t2 ++ []) (c := c) (o := o2) hz
      rw [red_app okn t2 o2 ht3, ho2] at this
      exact this
    · rw [if_neg hz]
      by_cases h10 : kd s2 = 10
      · refine Rto.bad kd sk gp fl ?_ (fun z => hz z.2)
        rw [stp, if_pos h10, red_app okn t2 o2 ht3]
      · exact stuck kd sk gp fl g2 h10 hz
end Exprs
/-! TIER H: the class's nodes, linked, against the reference's stack of truths -/
abbrev NDt := Nat × Nat × Nat
def opB (j : Nat) (a b : Bool) : Bool := if j = 1 then a || b else if j = 3 then a && !b else a && b
def jS {V : Type} (f : V → V → V) : List V → List V
  | [] => []
  | [a] => [a]
  | b :: a :: st => f a b :: st
def evE (G : Nat → Bool) : List EV → List Bool → List Bool
  | [], st => st
  | p :: es, st => evE G es (if p.1 = 0 then G p.2 :: st else jS (opB p.1) st)
/-- the same with places of nodes in the stack -/
def ixS (p : EV) (n : Nat) (st : List Nat) : List Nat := if p.1 = 0 then n :: st else jS (fun _ _ => n) st
def ixs : List EV → Nat → List Nat → List Nat
  | [], _, st => st
  | p :: es, n, st => ixs es (n + 1) (ixS p n st)
/-- the nodes: a group, or a join of two nodes made before -/
def ndS (p : EV) (st : List Nat) : NDt := if p.1 = 0 then (0, p.2, 0) else (p.1, (st[1]?).getD 0, (st[0]?).getD 0)
def lks : List EV → Nat → List Nat → List NDt
  | [], _, _ => []
  | p :: es, n, st => ndS p st :: lks es (n + 1) (ixS p n st)
theorem ixs_app : ∀ (e1 e2 : List EV) (n : Nat) (st : List Nat), ixs (e1 ++ e2) n st = ixs e2 (n + e1.length) (ixs e1 n st) := by
  intro e1
  induction e1 with
  | nil => intro e2 n st; rfl
  | cons p e1 ih =>
    intro e2 n st
    have hl : n + (p :: e1).length = n + 1 + e1.length := by simp only [List.length_cons]; omega
    rw [List.cons_append, ixs, ixs, hl, ih]
theorem lks_app : ∀ (e1 e2 : List EV) (n : Nat) (st : List Nat), lks (e1 ++ e2) n st = lks e1 n st ++ lks e2 (n + e1.length) (ixs e1 n st) := by
  intro e1
  induction e1 with
  | nil => intro e2 n st; rfl
  | cons p e1 ih =>
    intro e2 n st
    have hl : n + (p :: e1).length = n + 1 + e1.length := by simp only [List.length_cons]; omega
    rw [List.cons_append, lks, lks, ixs, hl, ih, List.cons_append]
theorem lks_len : ∀ (e : List EV) (n : Nat) (st : List Nat), (lks e n st).length = e.length := by
  intro e
  induction e with
  | nil => intro n st; rfl
  | cons p e ih => intro n st; rw [lks, List.length_cons, ih, List.length_cons]
/-- events of one whole expression -/
def WFe (e : List EV) : Prop := 0 < e.length ∧ ∀ n st, ixs e n st = (n + e.length - 1) :: st
theorem WFe.grp {g : Nat} : WFe [(0, g)] := ⟨Nat.zero_lt_one, fun n st => by
  rw [ixs, ixs, ixS, if_pos rfl]
  rfl⟩
theorem WFe.join {e1 e2 : List EV} {r : Nat} (hr : 1 ≤ r) (h1 : WFe e1) (h2 : WFe e2) : WFe (e1 ++ e2 ++ [(r, 0)]) := by
  refine ⟨by simp only [List.length_append, List.length_singleton]; omega, fun n st => ?_⟩
  rw [ixs_app, ixs_app, h1.2, h2.2, ixs, ixs, ixS, if_neg (by show ¬ r = 0; omega), jS]
  simp only [List.length_append, List.length_singleton, List.cons.injEq, and_true]
  omega
/-- and its nodes: the last one stands for it -/
theorem lks_join {e1 e2 : List EV} {r n : Nat} {st : List Nat} (hr : 1 ≤ r) (h1 : WFe e1) (h2 : WFe e2) : lks (e1 ++ e2 ++ [(r, 0)]) n st = lks e1 n st ++ lks e2 (n + e1.length) ((n + e1.length - 1) :: st) ++ [(r, n + e1.length - 1, n + e1.length + e2.length - 1)] := by
  rw [lks_app, lks_app, ixs_app, h1.2, h2.2, lks, lks, ndS, if_neg (by show ¬ r = 0; omega)]
  rfl
/-- the nodes' values, one after the other -/
def vl1 (G : Nat → Bool) (p : NDt) (vs : List Bool) : Bool := if p.1 = 0 then G p.2.1 else opB p.1 ((vs[p.2.1]?).getD false) ((vs[p.2.2]?).getD false)
def vlN (G : Nat → Bool) : List NDt → List Bool → List Bool
  | [], vs => vs
  | p :: nd, vs => vlN G nd (vs ++ [vl1 G p vs])
theorem vlN_len (G : Nat → Bool) : ∀ (nd : List NDt) (vs : List Bool), (vlN G nd vs).length = vs.length + nd.length := by
  intro nd
  induction nd with
  | nil => intro vs; rfl
  | cons p nd ih => intro vs; rw [vlN, ih, List.length_append, List.length_singleton, List.length_cons]; omega
theorem vlN_old (G : Nat → Bool) : ∀ (nd : List NDt) (vs : List Bool) (i : Nat), i < vs.length → (vlN G nd vs)[i]? = vs[i]? := by
  intro nd
  induction nd with
  | nil => intro vs i _; rfl
  | cons p nd ih =>
    intro vs i hi
    rw [vlN, ih _ i (by rw [List.length_append, List.length_singleton]; omega), List.getElem?_append_left hi]
abbrev vAt (vs : List Bool) (i : Nat) : Bool := (vs[i]?).getD false
theorem map_old {vs : List Bool} {x : Bool} {st : List Nat} (h : ∀ i ∈ st, i < vs.length) : st.map (vAt (vs ++ [x])) = st.map (vAt vs) := List.map_congr_left (fun i hi => by
  show ((vs ++ [x])[i]?).getD false = (vs[i]?).getD false
  rw [List.getElem?_append_left (h i hi)])
theorem v_new {vs : List Bool} {x : Bool} : vAt (vs ++ [x]) vs.length = x := by
  show ((vs ++ [x])[vs.length]?).getD false = x
  simp
theorem ev_nodes (G : Nat → Bool) : ∀ (e : List EV) (vs : List Bool) (st : List Nat), (∀ i ∈ st, i < vs.length) → evE G e (st.map (vAt vs)) = (ixs e vs.length st).map (vAt (vlN G (lks e vs.length st) vs)) := by
  intro e
  induction e with
  | nil => intro vs st _; rfl
  | cons p e ih =>
    intro vs st hst
    have hlen : (vs ++ [vl1 G (ndS p st) vs]).length = vs.length + 1 := by rw [List.length_append, List.length_singleton]
    have hst2 : ∀ i ∈ ixS p vs.length st, i < (vs ++ [vl1 G (ndS p st) vs]).length := fun i hi => by
      rw [hlen]
      rw [ixS] at hi
      by_cases q : p.1 = 0
      · rw [if_pos q] at hi
        rcases List.mem_cons.mp hi with rfl | hi
        · omega
        · have := hst i hi; omega
      · rw [if_neg q] at hi
        cases st with
        | nil => cases hi
        | cons b st =>
          cases st with
          | nil => have := hst i hi; omega
          | cons a st =>
            rcases List.mem_cons.mp hi with hi | hi
            · rw [hi]; exact Nat.lt_succ_self _
            · have := hst i (List.mem_cons_of_mem _ (List.mem_cons_of_mem _ hi)); omega
    have h := ih _ _ hst2
    rw [hlen] at h
    rw [evE, ixs, lks, vlN, ← h]
    congr 1
    rw [ixS]
    by_cases q : p.1 = 0
    · have e1 : vl1 G (ndS p st) vs = G p.2 := by
        rw [ndS, if_pos q, vl1]
        rfl
      rw [if_pos q, if_pos q, List.map_cons, e1, v_new, map_old hst]
    · rw [if_neg q, if_neg q]
      cases st with
      | nil => rfl
      | cons b st =>
        cases st with
        | nil =>
          show [vAt vs b] = [vAt (vs ++ [_]) b]
          have := map_old (x := vl1 G (ndS p [b]) vs) hst
          simpa using this.symm
        | cons a st =>
          have e1 : vl1 G (ndS p (b :: a :: st)) vs = opB p.1 (vAt vs a) (vAt vs b) := by
            rw [ndS, if_neg q, vl1, if_neg q]
            rfl
          show opB p.1 (vAt vs a) (vAt vs b) :: st.map (vAt vs) = vAt (vs ++ [_]) vs.length :: st.map (vAt (vs ++ [_]))
          rw [v_new, map_old (fun i hi => hst i (List.mem_cons_of_mem _ (List.mem_cons_of_mem _ hi))), e1]
/-- a whole question: the last node's value is what is left on the stack -/
theorem ev_last (G : Nat → Bool) {e : List EV} (h : WFe e) : evE G e [] = [vAt (vlN G (lks e 0 []) []) (e.length - 1)] := by
  have := ev_nodes G e [] [] (fun i hi => by cases hi)
  rw [List.map_nil, List.length_nil, h.2] at this
  rw [this]
  simp
section ExprsW
variable {S : Type} (kd : S → Nat) (sk : S → S) (gp : Nat → S → Option (S × Nat)) (fl : S → Option (Nat × S))
def WFX (x : S → Option (S × List EV)) : Prop := ∀ s s' e, x s = some (s', e) → WFe e
theorem lp_WF {x : S → Option (S × List EV)} {r : Nat} (hr : 1 ≤ r) (hx : WFX x) : ∀ (f : Nat) (s : S) (e : List EV) (s' : S) (e' : List EV), WFe e → lpJ kd sk x r f s e = some (s', e') → WFe e' := by
  intro f
  induction f with
  | zero =>
    intro s e s' e' he h
    rw [lpJ] at h
    obtain ⟨rfl, rfl⟩ : s = s' ∧ e = e' := by simpa using h
    exact he
  | succ f ih =>
    intro s e s' e' he h
    rw [lpJ] at h
    by_cases q : goes r (kd s) = true
    · rw [if_pos q] at h
      cases hxs : x (if r = 4 then s else sk s) with
      | none => rw [hxs] at h; simp at h
      | some y =>
        obtain ⟨s2, e2⟩ := y
        rw [hxs] at h
        exact ih s2 _ s' e' (he.join hr (hx _ _ _ hxs)) h
    · rw [if_neg q] at h
      obtain ⟨rfl, rfl⟩ : s = s' ∧ e = e' := by simpa using h
      exact he
theorem jn_WF {x : S → Option (S × List EV)} {r f : Nat} (hr : 1 ≤ r) (hx : WFX x) : WFX (jnX kd sk x r f) := fun s s' e h => by
  rw [jnX] at h
  cases hxs : x s with
  | none => rw [hxs] at h; simp at h
  | some y =>
    obtain ⟨s2, e2⟩ := y
    rw [hxs] at h
    exact lp_WF kd sk hr hx f s2 e2 s' e (hx _ _ _ hxs) h
theorem jn1_WF {x : S → Option (S × List EV)} {b : Nat} (hx : WFX x) : WFX (jn1 kd sk b x) := jn_WF kd sk (by omega) (jn_WF kd sk (by omega) (jn_WF kd sk (by omega) (jn_WF kd sk (by omega) hx)))
theorem atm_WF {b : Nat} : ∀ (f c d : Nat), WFX (atm kd sk gp fl b f c d) := by
  intro f
  induction f with
  | zero => intro c d s s' e h; rw [atm] at h; cases h
  | succ f ih =>
    intro c d s s' e h
    rw [atm] at h
    by_cases hp : dpr (kd s) = true
    · rw [if_pos hp] at h
      by_cases h8 : 8 ≤ d
      · rw [if_pos h8] at h; cases h
      · rw [if_neg h8] at h
        by_cases h9 : kd s = 9
        · rw [if_pos h9] at h
          cases hj : jn1 kd sk b (atm kd sk gp fl b f c (d + 1)) (sk s) with
          | none => rw [hj] at h; cases h
          | some y =>
            obtain ⟨s2, e2⟩ := y
            rw [hj] at h
            dsimp only at h
            by_cases h10 : kd s2 = 10
            · rw [if_pos h10] at h
              obtain ⟨rfl, rfl⟩ : sk s2 = s' ∧ e2 = e := by simpa using h
              exact jn1_WF kd sk (ih c (d + 1)) _ _ _ hj
            · rw [if_neg h10] at h; cases h
        · rw [if_neg h9] at h
          cases hf : fl s with
          | none => rw [hf] at h; cases h
          | some y =>
            obtain ⟨pm, s2⟩ := y
            rw [hf] at h
            exact ih _ _ _ _ _ h
    · rw [if_neg hp] at h
      cases hgs : gp c s with
      | none => rw [hgs] at h; cases h
      | some y =>
        obtain ⟨s2, g⟩ := y
        rw [hgs] at h
        obtain ⟨rfl, rfl⟩ : s2 = s' ∧ [(0, g)] = e := by simpa using h
        exact WFe.grp
end ExprsW
/-! TIER H: the parts of a question, by the class's codes: 0 end, 1 none, 2 word, 3 filter, 4 quoted, 5 OR, 6 AND, 7 NOT, 8 NEAR, 9 ( 10 ) 11 - 12 ^ 13 , 14 + 15 * 16 : -/
def blkE (t : Nat → Int32) (n : Nat) : Nat → Nat → Nat
  | 0, p => p
  | f + 1, p => if p < n ∧ t p = 32 then blkE t n f (p + 1) else p
def wrdE (t : Nat → Int32) (n : Nat) : Nat → Nat → Nat
  | 0, p => p
  | f + 1, p => if p < n ∧ isW (t p) = true then wrdE t n f (p + 1) else p
def quoE (t : Nat → Int32) (n : Nat) : Nat → Nat → Nat
  | 0, p => p
  | f + 1, p => if p < n ∧ ¬ t p = 34 then quoE t n f (p + 1) else p
/-- the name between s and e -/
def isN (t : Nat → Int32) (s e : Nat) (w : List Int32) : Prop := e = s + w.length ∧ ∀ i x, w[i]? = some x → t (s + i) = x
noncomputable def wkd (t : Nat → Int32) (n s e : Nat) : Nat := (Classical.propDecidable (isN t s e [79, 82])).casesOn (fun _ => (Classical.propDecidable (isN t s e [65, 78, 68])).casesOn (fun _ => (Classical.propDecidable (isN t s e [78, 79, 84])).casesOn (fun _ => (Classical.propDecidable (isN t s e [78, 69, 65, 82])).casesOn (fun _ => if e < n ∧ t e = 58 then 3 else 2) (fun _ => 8)) (fun _ => 7)) (fun _ => 6)) (fun _ => 5)
def sgn (c : Int32) : Nat := if c = 40 then 9 else if c = 41 then 10 else if c = 45 then 11 else if c = 94 then 12 else if c = 44 then 13 else if c = 43 then 14 else if c = 42 then 15 else if c = 58 then 16 else 1
/-- the part that begins at s: its kind, where it ends -/
noncomputable def lexK (t : Nat → Int32) (n s : Nat) : Nat × Nat := if n ≤ s then (0, s) else if isW (t s) = true then (wkd t n s (wrdE t n (n - s) s), wrdE t n (n - s) s) else if t s = 34 then (if quoE t n (n - (s + 1)) (s + 1) < n then (4, quoE t n (n - (s + 1)) (s + 1) + 1) else (1, s)) else (sgn (t s), s + 1)
def bl (t : Nat → Int32) (n p : Nat) : Nat := blkE t n (n - p) p
noncomputable def kdP (t : Nat → Int32) (n p : Nat) : Nat := (lexK t n (bl t n p)).1
noncomputable def skP (t : Nat → Int32) (n p : Nat) : Nat := (lexK t n (bl t n p)).2
theorem blkE_ge (t : Nat → Int32) (n : Nat) : ∀ f p, p ≤ blkE t n f p ∧ blkE t n f p ≤ p + f := by
  intro f
  induction f with
  | zero => intro p; exact ⟨Nat.le_refl _, Nat.le_refl _⟩
  | succ f ih =>
    intro p
    rw [blkE]
    split
    · have := ih (p + 1); omega
    · omega
theorem wrdE_ge (t : Nat → Int32) (n : Nat) : ∀ f p, p ≤ wrdE t n f p ∧ wrdE t n f p ≤ p + f := by
  intro f
  induction f with
  | zero => intro p; exact ⟨Nat.le_refl _, Nat.le_refl _⟩
  | succ f ih =>
    intro p
    rw [wrdE]
    split
    · have := ih (p + 1); omega
    · omega
theorem quoE_ge (t : Nat → Int32) (n : Nat) : ∀ f p, p ≤ quoE t n f p ∧ quoE t n f p ≤ p + f := by
  intro f
  induction f with
  | zero => intro p; exact ⟨Nat.le_refl _, Nat.le_refl _⟩
  | succ f ih =>
    intro p
    rw [quoE]
    split
    · have := ih (p + 1); omega
    · omega
/-- where blanks, a word, a quote end: what stands there -/
theorem blkE_end (t : Nat → Int32) (n : Nat) : ∀ f p, n ≤ p + f → ¬ (blkE t n f p < n ∧ t (blkE t n f p) = 32) := by
  intro f
  induction f with
  | zero => intro p h z; rw [blkE] at z; omega
  | succ f ih =>
    intro p h
    rw [blkE]
    by_cases q : p < n ∧ t p = 32
    · rw [if_pos q]; exact ih (p + 1) (by omega)
    · rw [if_neg q]; exact q
theorem wrdE_end (t : Nat → Int32) (n : Nat) : ∀ f p, n ≤ p + f → ¬ (wrdE t n f p < n ∧ isW (t (wrdE t n f p)) = true) := by
  intro f
  induction f with
  | zero => intro p h z; rw [wrdE] at z; omega
  | succ f ih =>
    intro p h
    rw [wrdE]
    by_cases q : p < n ∧ isW (t p) = true
    · rw [if_pos q]; exact ih (p + 1) (by omega)
    · rw [if_neg q]; exact q
theorem wrdE_in (t : Nat → Int32) (n : Nat) : ∀ f p i, p ≤ i → i < wrdE t n f p → i < n ∧ isW (t i) = true := by
  intro f
  induction f with
  | zero => intro p i h1 h2; rw [wrdE] at h2; omega
  | succ f ih =>
    intro p i h1 h2
    rw [wrdE] at h2
    by_cases q : p < n ∧ isW (t p) = true
    · rw [if_pos q] at h2
      by_cases e : i = p
      · rw [e]; exact q
      · exact ih (p + 1) i (by omega) h2
    · rw [if_neg q] at h2; omega
/-- an end that is reached step by step is the end -/
theorem blkE_step {t : Nat → Int32} {n p : Nat} (h : p < n ∧ t p = 32) : bl t n p = bl t n (p + 1) := by
  unfold bl
  obtain ⟨f, hf⟩ : ∃ f, n - p = f + 1 := ⟨n - p - 1, by omega⟩
  rw [hf, blkE, if_pos h, show n - (p + 1) = f by omega]
theorem blkE_stop {t : Nat → Int32} {n p : Nat} (h : ¬ (p < n ∧ t p = 32)) : bl t n p = p := by
  unfold bl
  cases hf : n - p with
  | zero => rfl
  | succ f => rw [blkE, if_neg h]
theorem lex_end {t : Nat → Int32} {n s : Nat} (h : ¬ (lexK t n s).1 = 0) (h1 : ¬ (lexK t n s).1 = 1) : s < n ∧ s < (lexK t n s).2 ∧ (lexK t n s).2 ≤ n := by
  unfold lexK at h h1 ⊢
  by_cases q0 : n ≤ s
  · rw [if_pos q0] at h; exact absurd rfl h
  · rw [if_neg q0] at h h1 ⊢
    refine ⟨by omega, ?_⟩
    by_cases q1 : isW (t s) = true
    · rw [if_pos q1]
      have g := wrdE_ge t n (n - s) s
      have g2 : s < wrdE t n (n - s) s := by
        obtain ⟨f, hf⟩ : ∃ f, n - s = f + 1 := ⟨n - s - 1, by omega⟩
        rw [hf, wrdE, if_pos ⟨by omega, q1⟩]
        have := wrdE_ge t n f (s + 1)
        omega
      exact ⟨g2, by show wrdE t n (n - s) s ≤ n; omega⟩
    · rw [if_neg q1] at h h1 ⊢
      by_cases q2 : t s = 34
      · rw [if_pos q2] at h1 ⊢
        by_cases q3 : quoE t n (n - (s + 1)) (s + 1) < n
        · rw [if_pos q3]
          have g := quoE_ge t n (n - (s + 1)) (s + 1)
          exact ⟨by show s < quoE t n (n - (s + 1)) (s + 1) + 1; omega, by show quoE t n (n - (s + 1)) (s + 1) + 1 ≤ n; omega⟩
        · rw [if_neg q3] at h1; exact absurd rfl h1
      · rw [if_neg q2]
        exact ⟨by show s < s + 1; omega, by show s + 1 ≤ n; omega⟩
def wr (t : Nat → Int32) (n p : Nat) : Nat := wrdE t n (n - p) p
def qu (t : Nat → Int32) (n p : Nat) : Nat := quoE t n (n - p) p
theorem wr_step {t : Nat → Int32} {n p : Nat} (h : p < n ∧ isW (t p) = true) : wr t n p = wr t n (p + 1) := by
  unfold wr
  obtain ⟨f, hf⟩ : ∃ f, n - p = f + 1 := ⟨n - p - 1, by omega⟩
  rw [hf, wrdE, if_pos h, show n - (p + 1) = f by omega]
theorem wr_stop {t : Nat → Int32} {n p : Nat} (h : ¬ (p < n ∧ isW (t p) = true)) : wr t n p = p := by
  unfold wr
  cases hf : n - p with
  | zero => rfl
  | succ f => rw [wrdE, if_neg h]
theorem qu_step {t : Nat → Int32} {n p : Nat} (h : p < n ∧ ¬ t p = 34) : qu t n p = qu t n (p + 1) := by
  unfold qu
  obtain ⟨f, hf⟩ : ∃ f, n - p = f + 1 := ⟨n - p - 1, by omega⟩
  rw [hf, quoE, if_pos h, show n - (p + 1) = f by omega]
theorem qu_stop {t : Nat → Int32} {n p : Nat} (h : ¬ (p < n ∧ ¬ t p = 34)) : qu t n p = p := by
  unfold qu
  cases hf : n - p with
  | zero => rfl
  | succ f => rw [quoE, if_neg h]
/-! TIER H: strings, phrases, groups, filters, as both read them. The place is the end of the part before -/
abbrev PHt := List (Nat × Nat) × Bool
abbrev GRt := Nat × Nat × Nat × Nat × Nat
abbrev PSt := Nat × List PHt × List GRt
def isS (k : Nat) : Bool := k == 2 || k == 4
noncomputable def rdS (t : Nat → Int32) (n p : Nat) : Option ((Nat × Nat) × Nat) := if isS (kdP t n p) = true then some ((bl t n p, skP t n p), skP t n p) else none
noncomputable def rdP (t : Nat → Int32) (n : Nat) : Nat → Nat → List (Nat × Nat) → Option (Nat × List (Nat × Nat))
  | 0, p, sp => some (p, sp)
  | f + 1, p, sp => if kdP t n p = 14 then (match rdS t n (skP t n p) with
    | none => none
    | some (x, p') => rdP t n f p' (sp ++ [x])) else some (p, sp)
/-- a phrase, k of them are there -/
noncomputable def rdPh (t : Nat → Int32) (n k p : Nat) : Option (Nat × PHt) := if 12 ≤ k then none else (match rdS t n p with
  | none => none
  | some (x, p1) => (match rdP t n 96 p1 [x] with
    | none => none
    | some (p2, sp) => if kdP t n p2 = 15 then some (skP t n p2, (sp, true)) else some (p2, (sp, false))))
/-- phrases as long as there are strings -/
noncomputable def rdPs (t : Nat → Int32) (n : Nat) : Nat → Nat → List PHt → Option (Nat × List PHt)
  | 0, p, ph => some (p, ph)
  | f + 1, p, ph => if isS (kdP t n p) = true then (match rdPh t n ph.length p with
    | none => none
    | some (p', x) => rdPs t n f p' (ph ++ [x])) else some (p, ph)
/-- a number of one or two digits -/
def dig (c : Int32) : Bool := decide (¬ c < 48) && decide (¬ 57 < c)
noncomputable def rdN (t : Nat → Int32) (n p : Nat) : Option Nat := if (kdP t n p = 2 ∨ kdP t n p = 3) ∧ dig (t (bl t n p)) = true ∧ (skP t n p = bl t n p + 1 ∨ (skP t n p = bl t n p + 2 ∧ dig (t (bl t n p + 1)) = true)) then some (if skP t n p = bl t n p + 1 then (t (bl t n p)).toNatClampNeg - 48 else 10 * ((t (bl t n p)).toNatClampNeg - 48) + ((t (bl t n p + 1)).toNatClampNeg - 48)) else none
/-- behind NEAR: the place, the phrases, the reach -/
noncomputable def rdNear (t : Nat → Int32) (n p : Nat) (ph : List PHt) : Option (Nat × List PHt × Nat) := if kdP t n p = 9 then (match rdPh t n ph.length (skP t n p) with
  | none => none
  | some (p1, x) => (match rdPs t n 96 p1 (ph ++ [x]) with
    | none => none
    | some (p2, ph2) => if kdP t n p2 = 13 then (match rdN t n (skP t n p2) with
      | none => none
      | some d => if kdP t n (skP t n (skP t n p2)) = 10 then some (skP t n (skP t n (skP t n p2)), ph2, d) else none) else if kdP t n p2 = 10 then some (skP t n p2, ph2, 10) else none)) else none
noncomputable def gpP (t : Nat → Int32) (n c : Nat) (s : PSt) : Option (PSt × Nat) := if kdP t n s.1 = 8 then (match rdNear t n (skP t n s.1) s.2.1 with
  | none => none
  | some (p', ph, d) => some ((p', ph, s.2.2 ++ [(2, s.2.1.length, ph.length, c, d)]), s.2.2.length)) else (match rdPh t n s.2.1.length (if kdP t n s.1 = 12 then skP t n s.1 else s.1) with
  | none => none
  | some (p', x) => some ((p', s.2.1 ++ [x], s.2.2 ++ [((if kdP t n s.1 = 12 then 1 else 0), s.2.1.length, s.2.1.length + 1, c, 10)]), s.2.2.length))
noncomputable def flN (t : Nat → Int32) (n p : Nat) : Option (Bool × Nat) := if kdP t n p = 3 ∧ skP t n p = bl t n p + 1 ∧ (t (bl t n p) = 97 ∨ t (bl t n p) = 98) then some (decide (t (bl t n p) = 97), skP t n (skP t n p)) else none
noncomputable def flP (t : Nat → Int32) (n : Nat) (s : PSt) : Option (Nat × PSt) := (match flN t n (if kdP t n s.1 = 11 then skP t n s.1 else s.1) with
  | none => none
  | some (a, p') => some ((if a = decide (kdP t n s.1 = 11) then 2 else 1), (p', s.2)))
noncomputable def kdS (t : Nat → Int32) (n : Nat) (s : PSt) : Nat := kdP t n s.1
noncomputable def skS (t : Nat → Int32) (n : Nat) (s : PSt) : PSt := (skP t n s.1, s.2)
def lnP (n : Nat) (s : PSt) : Nat := min (n - s.1) 96
/-- places go on -/
theorem bl_ge (t : Nat → Int32) (n p : Nat) : p ≤ bl t n p ∧ (p ≤ n → bl t n p ≤ n) := by
  have := blkE_ge t n (n - p) p
  unfold bl
  omega
theorem sk_ge (t : Nat → Int32) (n p : Nat) : p ≤ skP t n p := by
  have h := bl_ge t n p
  have : bl t n p ≤ (lexK t n (bl t n p)).2 := by
    unfold lexK
    split
    · exact Nat.le_refl _
    · split
      · exact (wrdE_ge t n _ _).1
      · split
        · split
          · have := quoE_ge t n (n - (bl t n p + 1)) (bl t n p + 1)
            show bl t n p ≤ quoE t n (n - (bl t n p + 1)) (bl t n p + 1) + 1
            omega
          · exact Nat.le_refl _
        · show bl t n p ≤ bl t n p + 1
          omega
  unfold skP
  omega
theorem sk_gt {t : Nat → Int32} {n p : Nat} (h0 : ¬ kdP t n p = 0) (h1 : ¬ kdP t n p = 1) : p < n ∧ p < skP t n p ∧ skP t n p ≤ n := by
  have h := bl_ge t n p
  have := lex_end h0 h1
  unfold skP
  omega
theorem isS_k {k : Nat} (h : isS k = true) : ¬ k = 0 ∧ ¬ k = 1 := by
  simp [isS] at h
  omega
theorem rdS_gt {t : Nat → Int32} {n p p' : Nat} {x : Nat × Nat} (h : rdS t n p = some (x, p')) : p < n ∧ p < p' := by
  unfold rdS at h
  by_cases q : isS (kdP t n p) = true
  · rw [if_pos q] at h
    have := sk_gt (isS_k q).1 (isS_k q).2
    simp only [Option.some.injEq, Prod.mk.injEq] at h
    omega
  · rw [if_neg q] at h; cases h
theorem rdP_ge {t : Nat → Int32} {n : Nat} : ∀ (f p : Nat) (sp : List (Nat × Nat)) (p' : Nat) (sp' : List (Nat × Nat)), rdP t n f p sp = some (p', sp') → p ≤ p' := by
  intro f
  induction f with
  | zero =>
    intro p sp p' sp' h
    rw [rdP] at h
    simp only [Option.some.injEq, Prod.mk.injEq] at h
    omega
  | succ f ih =>
    intro p sp p' sp' h
    rw [rdP] at h
    by_cases q : kdP t n p = 14
    · rw [if_pos q] at h
      cases hs : rdS t n (skP t n p) with
      | none => rw [hs] at h; cases h
      | some y =>
        obtain ⟨x, p1⟩ := y
        rw [hs] at h
        have a := ih _ _ _ _ h
        have b := rdS_gt hs
        have c := sk_ge t n p
        omega
    · rw [if_neg q] at h
      simp only [Option.some.injEq, Prod.mk.injEq] at h
      omega
theorem rdPh_gt {t : Nat → Int32} {n k p p' : Nat} {x : PHt} (h : rdPh t n k p = some (p', x)) : p < n ∧ p < p' := by
  unfold rdPh at h
  by_cases q : 12 ≤ k
  · rw [if_pos q] at h; cases h
  · rw [if_neg q] at h
    cases hs : rdS t n p with
    | none => rw [hs] at h; cases h
    | some y =>
      obtain ⟨x1, p1⟩ := y
      rw [hs] at h
      dsimp only at h
      have b := rdS_gt hs
      cases hp : rdP t n 96 p1 [x1] with
      | none => rw [hp] at h; cases h
      | some y =>
        obtain ⟨p2, sp⟩ := y
        rw [hp] at h
        dsimp only at h
        have a := rdP_ge _ _ _ _ _ hp
        have c := sk_ge t n p2
        by_cases q2 : kdP t n p2 = 15
        · rw [if_pos q2] at h
          simp only [Option.some.injEq, Prod.mk.injEq] at h
          omega
        · rw [if_neg q2] at h
          simp only [Option.some.injEq, Prod.mk.injEq] at h
          omega
theorem rdPs_ge {t : Nat → Int32} {n : Nat} : ∀ (f p : Nat) (ph : List PHt) (p' : Nat) (ph' : List PHt), rdPs t n f p ph = some (p', ph') → p ≤ p' := by
  intro f
  induction f with
  | zero =>
    intro p sp p' sp' h
    rw [rdPs] at h
    simp only [Option.some.injEq, Prod.mk.injEq] at h
    omega
  | succ f ih =>
    intro p sp p' sp' h
    rw [rdPs] at h
    by_cases q : isS (kdP t n p) = true
    · rw [if_pos q] at h
      cases hs : rdPh t n sp.length p with
      | none => rw [hs] at h; cases h
      | some y =>
        obtain ⟨p1, x⟩ := y
        rw [hs] at h
        have a := ih _ _ _ _ h
        have b := rdPh_gt hs
        omega
    · rw [if_neg q] at h
      simp only [Option.some.injEq, Prod.mk.injEq] at h
      omega
theorem rdNear_ge {t : Nat → Int32} {n p p' d : Nat} {ph ph' : List PHt} (h : rdNear t n p ph = some (p', ph', d)) : p < p' := by
  unfold rdNear at h
  by_cases q : kdP t n p = 9
  · rw [if_pos q] at h
    cases hs : rdPh t n ph.length (skP t n p) with
    | none => rw [hs] at h; cases h
    | some y =>
      obtain ⟨p1, x⟩ := y
      rw [hs] at h
      dsimp only at h
      have b := rdPh_gt hs
      have b2 := sk_ge t n p
      cases hp : rdPs t n 96 p1 (ph ++ [x]) with
      | none => rw [hp] at h; cases h
      | some y =>
        obtain ⟨p2, ph2⟩ := y
        rw [hp] at h
        dsimp only at h
        have a := rdPs_ge _ _ _ _ _ hp
        have c1 := sk_ge t n p2
        have c2 := sk_ge t n (skP t n p2)
        have c3 := sk_ge t n (skP t n (skP t n p2))
        by_cases q2 : kdP t n p2 = 13
        · rw [if_pos q2] at h
          cases hn : rdN t n (skP t n p2) with
          | none => rw [hn] at h; cases h
          | some y =>
            rw [hn] at h
            dsimp only at h
            by_cases q3 : kdP t n (skP t n (skP t n p2)) = 10
            · rw [if_pos q3] at h
              simp only [Option.some.injEq, Prod.mk.injEq] at h
              omega
            · rw [if_neg q3] at h; cases h
        · rw [if_neg q2] at h
          by_cases q3 : kdP t n p2 = 10
          · rw [if_pos q3] at h
            simp only [Option.some.injEq, Prod.mk.injEq] at h
            omega
          · rw [if_neg q3] at h; cases h
  · rw [if_neg q] at h; cases h
/-- what read_eq asks of the pieces -/
theorem gp_ln {t : Nat → Int32} {n : Nat} (hn : n ≤ 96) (c : Nat) (s s' : PSt) (g : Nat) (h : gpP t n c s = some (s', g)) : lnP n s' < lnP n s := by
  unfold gpP at h
  unfold lnP
  by_cases q : kdP t n s.1 = 8
  · rw [if_pos q] at h
    have a := sk_gt (t := t) (n := n) (p := s.1) (by omega) (by omega)
    cases hs : rdNear t n (skP t n s.1) s.2.1 with
    | none => rw [hs] at h; cases h
    | some y =>
      obtain ⟨p1, ph, d⟩ := y
      rw [hs] at h
      have b := rdNear_ge hs
      simp only [Option.some.injEq, Prod.mk.injEq] at h
      rw [← h.1]
      show min (n - p1) 96 < min (n - s.1) 96
      omega
  · rw [if_neg q] at h
    cases hs : rdPh t n s.2.1.length (if kdP t n s.1 = 12 then skP t n s.1 else s.1) with
    | none => rw [hs] at h; cases h
    | some y =>
      obtain ⟨p1, x⟩ := y
      rw [hs] at h
      have b := rdPh_gt hs
      have e : s.1 ≤ (if kdP t n s.1 = 12 then skP t n s.1 else s.1) := by
        split
        · exact sk_ge t n s.1
        · exact Nat.le_refl _
      simp only [Option.some.injEq, Prod.mk.injEq] at h
      rw [← h.1]
      show min (n - p1) 96 < min (n - s.1) 96
      omega
theorem fl_ln {t : Nat → Int32} {n : Nat} (hn : n ≤ 96) (s : PSt) (pm : Nat) (s' : PSt) (h : flP t n s = some (pm, s')) : lnP n s' < lnP n s := by
  unfold flP at h
  unfold lnP
  cases hs : flN t n (if kdP t n s.1 = 11 then skP t n s.1 else s.1) with
  | none => rw [hs] at h; cases h
  | some y =>
    obtain ⟨a, p1⟩ := y
    rw [hs] at h
    have e : s.1 ≤ (if kdP t n s.1 = 11 then skP t n s.1 else s.1) := by
      split
      · exact sk_ge t n s.1
      · exact Nat.le_refl _
    unfold flN at hs
    generalize (if kdP t n s.1 = 11 then skP t n s.1 else s.1) = p at hs e
    by_cases q : kdP t n p = 3 ∧ skP t n p = bl t n p + 1 ∧ (t (bl t n p) = 97 ∨ t (bl t n p) = 98)
    · rw [if_pos q] at hs
      have b := sk_gt (t := t) (n := n) (p := p) (by omega) (by omega)
      have c := sk_ge t n (skP t n p)
      simp only [Option.some.injEq, Prod.mk.injEq] at hs h
      rw [← h.2]
      show min (n - p1) 96 < min (n - s.1) 96
      omega
    · rw [if_neg q] at hs; cases hs
theorem sk_ln {t : Nat → Int32} {n : Nat} (s : PSt) : lnP n (skS t n s) ≤ lnP n s := by
  have := sk_ge t n s.1
  show min (n - skP t n s.1) 96 ≤ min (n - s.1) 96
  omega
theorem ln0 {t : Nat → Int32} {n : Nat} (s : PSt) (h : lnP n s = 0) : kdS t n s = 0 ∨ kdS t n s = 1 := by
  left
  have h1 : n ≤ s.1 := by unfold lnP at h; omega
  have h2 := bl_ge t n s.1
  show (lexK t n (bl t n s.1)).1 = 0
  unfold lexK
  rw [if_pos (by omega)]
/-- a question, read by the class and by the reference -/
theorem read_q (t : Nat → Int32) {n : Nat} (hn : n ≤ 96) (s : PSt) : Rto (kdS t n) (skS t n) (gpP t n) (flP t n) (false, s, [], 3, []) (resJ (kdS t n) (jn1 (kdS t n) (skS t n) 96 (atm (kdS t n) (skS t n) (gpP t n) (flP t n) 96 9 3 0) s)) := read_eq (kdS t n) (skS t n) (gpP t n) (flP t n) (ln := lnP n) (fun c s s' g h => gp_ln hn c s s' g h) (fun s pm s' h => fl_ln hn s pm s' h) sk_ln ln0 (fun s => Nat.min_le_right _ _) s
/-! TIER H: a group holds here: the reference's way and the class's -/
theorem near_eq {B : Nat → Nat → Prop} {len : Nat → Nat} {a b col far : Nat} (hab : a < b) (hc : col ≤ 24) (hB : ∀ p i, B p i → 0 < len p ∧ i + len p ≤ col) :
    (∃ e, e ≤ col ∧ ∀ p, a ≤ p → p < b → ∃ i, i < col ∧ i ≤ e + far ∧ e ≤ i + len p ∧ B p i) ↔ ((∀ p, a ≤ p → p < b → ∃ i, B p i) ∧ (b = a + 1 ∨ ∃ e, 1 ≤ e ∧ e ≤ 24 ∧ ∀ p, a ≤ p → p < b → ∃ i, e - len p ≤ i ∧ i ≤ min 24 (e + far) ∧ B p i)) := by
  constructor
  · rintro ⟨e, he, h⟩
    refine ⟨fun p h1 h2 => ?_, Or.inr ⟨max e 1, by omega, by omega, fun p h1 h2 => ?_⟩⟩
    · obtain ⟨i, -, -, -, hb⟩ := h p h1 h2
      exact ⟨i, hb⟩
    · obtain ⟨i, i1, i2, i3, hb⟩ := h p h1 h2
      have := hB p i hb
      exact ⟨i, by omega, by omega, hb⟩
  · rintro ⟨h1, h2 | ⟨e, e1, e2, h⟩⟩
    · obtain ⟨i, hb⟩ := h1 a (Nat.le_refl _) hab
      have := hB a i hb
      refine ⟨i, by omega, fun p p1 p2 => ?_⟩
      obtain rfl : p = a := by omega
      exact ⟨i, by omega, by omega, by omega, hb⟩
    · refine ⟨e, ?_, fun p p1 p2 => ?_⟩
      · obtain ⟨i, i1, i2, hb⟩ := h a (Nat.le_refl _) hab
        have := hB a i hb
        omega
      · obtain ⟨i, i1, i2, hb⟩ := h p p1 p2
        have := hB p i hb
        exact ⟨i, by omega, by omega, by omega, hb⟩
theorem one_eq {B : Nat → Nat → Prop} {len : Nat → Nat} {p col : Nat} (hc : col ≤ 24) (hB : ∀ p i, B p i → 0 < len p ∧ i + len p ≤ col) : (∃ i, i < col ∧ i ≤ 48 ∧ 0 ≤ i + len p ∧ B p i) ↔ ∃ i, B p i := by
  constructor
  · rintro ⟨i, -, -, -, hb⟩
    exact ⟨i, hb⟩
  · rintro ⟨i, hb⟩
    have := hB p i hb
    exact ⟨i, by omega, by omega, Nat.zero_le _, hb⟩
