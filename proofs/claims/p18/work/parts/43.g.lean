/-! the class in general states: by program (wip/tools/gen2.py) -/
set_option maxHeartbeats 400000 in
theorem lp_lnU {G : xw_G} {F L bc bs : Nat} {pr : Option Value → xw_A → Prop} {px : String → xw_A → Prop} {h : xw_A} {r : UInt64 × Int32} (kk : xw G m_Answers_ln F L bc bs pr px 38 [none, none, some (.double r.1), none, some (.int r.2), none, none, none, none, none, none, none] [] h) :
    ∀ (dd i : Nat) (x : UInt64) (k : Int32), i + dd = 64 → lnU dd x k = some r → xw G m_Answers_ln F L bc bs pr px 8 [none, none, some (.double x), none, some (.int k), some (.int (nI i)), none, none, none, none, none, none] [] h := by
  intro dd
  induction dd with
  | zero =>
    intro i x k hi hp
    obtain rfl : i = 64 := by omega
    refine s_Answers_ln_8 (fun _ => ?_) (fun z => absurd (by decide) z)
    rw [lnU] at hp
    rw [← Option.some.inj hp] at kk
    exact kk
  | succ dd ih =>
    intro i x k hi hp
    rw [lnU] at hp
    refine s_Answers_ln_8 (fun z => absurd z (nI_ge (b := 64) (show i < 64 by omega) (by decide))) (fun _ => ?_)
    refine s_Answers_ln_15 (fun z => ?_) (fun z => ?_)
    · rw [if_pos z] at hp
      rw [← Option.some.inj hp] at kk
      exact kk
    · rw [if_neg z] at hp
      by_cases hw : n64 (FP.ddiv x 4611686018427387904) = true
      · rw [if_pos hw] at hp
        refine s_Answers_ln_23 (n64.of hw) ?_
        rw [nI_1]
        exact ih (i + 1) _ _ (by omega) hp
      · rw [if_neg hw] at hp
        cases hp
set_option maxHeartbeats 400000 in
theorem lp_lnD {G : xw_G} {F L bc bs : Nat} {pr : Option Value → xw_A → Prop} {px : String → xw_A → Prop} {h : xw_A} {r : UInt64 × Int32} (kk : xw G m_Answers_ln F L bc bs pr px 71 [none, none, some (.double r.1), none, some (.int r.2), none, none, none, none, none, none, none] [] h) :
    ∀ (dd i : Nat) (x : UInt64) (k : Int32), i + dd = 64 → lnD dd x k = some r → xw G m_Answers_ln F L bc bs pr px 41 [none, none, some (.double x), none, some (.int k), some (.int (nI i)), none, none, none, none, none, none] [] h := by
  intro dd
  induction dd with
  | zero =>
    intro i x k hi hp
    obtain rfl : i = 64 := by omega
    refine s_Answers_ln_41 (fun _ => ?_) (fun z => absurd (by decide) z)
    rw [lnD] at hp
    rw [← Option.some.inj hp] at kk
    exact kk
  | succ dd ih =>
    intro i x k hi hp
    rw [lnD] at hp
    refine s_Answers_ln_41 (fun z => absurd z (nI_ge (b := 64) (show i < 64 by omega) (by decide))) (fun _ => ?_)
    refine s_Answers_ln_48 (fun z => ?_) (fun z => ?_)
    · rw [if_pos z] at hp
      rw [← Option.some.inj hp] at kk
      exact kk
    · rw [if_neg z] at hp
      by_cases hw : n64 (FP.dmul x 4611686018427387904) = true
      · rw [if_pos hw] at hp
        refine s_Answers_ln_56 (n64.of hw) ?_
        rw [nI_1]
        exact ih (i + 1) _ _ (by omega) hp
      · rw [if_neg hw] at hp
        cases hp
def jLst : Nat → List Int32
  | 0 => []
  | n + 1 => nI (2 * n + 1) :: jLst n
def jVal : Nat → Int32
  | 0 => -1
  | n + 1 => nI (2 * n + 1)
theorem jVal_next : ∀ n, n < 10 → jVal (n + 1) + (-2) = jVal n := by decide
set_option maxHeartbeats 400000 in
theorem lp_lnS {G : xw_G} {F L bc bs : Nat} {pr : Option Value → xw_A → Prop} {px : String → xw_A → Prop} {h : xw_A} {k : Int32} {y z t : UInt64} (kk : xw G m_Answers_ln F L bc bs pr px 119 [none, none, none, none, some (.int k), some (.double z), none, none, none, some (.double t), none, none] [] h) :
    ∀ (n : Nat), n ≤ 10 → ∀ s : UInt64, lnS y (jLst n) s = some t → xw G m_Answers_ln F L bc bs pr px 94 [none, none, none, none, some (.int k), some (.double z), none, some (.double y), none, some (.double s), none, some (.int (jVal n))] [] h := by
  intro n
  induction n with
  | zero =>
    intro _ s hp
    refine s_Answers_ln_94 (fun _ => ?_) (fun z => absurd (by decide) z)
    rw [jLst, lnS] at hp
    rw [← Option.some.inj hp] at kk
    exact kk
  | succ n ih =>
    intro hn s hp
    refine s_Answers_ln_94 (fun z => absurd z (nI_nlt (a := 2 * n + 1) (b := 1) (by omega) (by omega))) (fun _ => ?_)
    rw [jLst, lnS] at hp
    by_cases hw : n64 (FP.dmul s y) = true ∧ n64 (FP.ddiv FP.dconst1 (FP.i2d (nI (2 * n + 1)))) = true ∧ n64 (FP.dadd (FP.dmul s y) (FP.ddiv FP.dconst1 (FP.i2d (nI (2 * n + 1))))) = true
    · rw [if_pos hw] at hp
      refine s_Answers_ln_100 (n64.of hw.1) (n64.of hw.2.1) (n64.of hw.2.2) ?_
      rw [jVal_next n (by omega)]
      exact ih (by omega) _ hp
    · rw [if_neg hw] at hp
      cases hp
set_option maxHeartbeats 400000 in
theorem g_ln {G : xw_G} {F L : Nat} {h : xw_A} {x y : UInt64} (hy : lnF x = some y) (hF : 1 ≤ F) (hL : 20 ≤ L) : xw_Met G m_Answers_ln F L 0 0 [.double x] h (fun v h' => v = some (.double y) ∧ h = h') (fun _ _ => False) := by
  refine xw_Met.of rfl (by decide) (Nat.le_of_ble_eq_true rfl) ?_
  rw [lnF] at hy
  cases hU : lnU 64 x 0 with
  | none => rw [hU] at hy; cases hy
  | some p =>
    rw [hU] at hy
    change (lnD 64 p.1 p.2).bind (fun q => lnT q.1 q.2) = some y at hy
    cases hD : lnD 64 p.1 p.2 with
    | none => rw [hD] at hy; cases hy
    | some q =>
      rw [hD] at hy
      change lnT q.1 q.2 = some y at hy
      rw [lnT] at hy
      by_cases hw : n64 (FP.dsub q.1 FP.dconst1) = true ∧ n64 (FP.dadd q.1 FP.dconst1) = true ∧ n64 (lnZ q.1) = true ∧ n64 (FP.dmul (lnZ q.1) (lnZ q.1)) = true
      · rw [if_pos hw] at hy
        cases hS : lnS (FP.dmul (lnZ q.1) (lnZ q.1)) [19, 17, 15, 13, 11, 9, 7, 5, 3, 1] FP.dconst0 with
        | none => rw [hS] at hy; cases hy
        | some t =>
          rw [hS] at hy
          change lnE (lnZ q.1) q.2 t = some y at hy
          rw [lnE] at hy
          by_cases hv : n64 (FP.dmul 4611686018427387904 (lnZ q.1)) = true ∧ n64 (FP.dmul (FP.dmul 4611686018427387904 (lnZ q.1)) t) = true ∧ n64 (FP.dmul (FP.i2d q.2) 4604418534313441775) = true ∧ n64 (FP.dadd (FP.dmul (FP.dmul 4611686018427387904 (lnZ q.1)) t) (FP.dmul (FP.i2d q.2) 4604418534313441775)) = true
          · rw [if_pos hv] at hy
            refine s_Answers_ln_0 ?_
            refine lp_lnU ?_ 64 0 _ _ rfl hU
            refine s_Answers_ln_38 ?_
            refine lp_lnD ?_ 64 0 _ _ rfl hD
            refine s_Answers_ln_71 (n64.of hw.1) (n64.of hw.2.1) (n64.of hw.2.2.1) (n64.of hw.2.2.2) ?_
            refine lp_lnS (t := t) ?_ 10 (Nat.le_refl _) _ hS
            refine s_Answers_ln_119 (n64.of hv.1) (n64.of hv.2.1) (n64.of hv.2.2.1) (n64.of hv.2.2.2) ?_
            exact ⟨congrArg (fun z => some (Value.double z)) (Option.some.inj hy), rfl⟩
          · rw [if_neg hv] at hy
            cases hy
      · rw [if_neg hw] at hy
        cases hy
theorem nn0 : NN FP.dconst0 := FI.nn (smB.fi (by decide +kernel))
