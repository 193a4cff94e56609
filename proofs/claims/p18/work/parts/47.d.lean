def lgU : Nat → UInt64 → Int32 → Option (UInt64 × Int32)
  | 0, _, _ => none
  | d + 1, x, k => if (Op.cmpValue (FP.dcmp x 4609434218613702656) .l) < 0 then some (x, k) else if n64 (FP.ddiv x 4611686018427387904) = true then lgU d (FP.ddiv x 4611686018427387904) (k + 1) else none
def lgD : Nat → UInt64 → Int32 → Option (UInt64 × Int32)
  | 0, _, _ => none
  | d + 1, x, k => if 0 ≤ (Op.cmpValue (FP.dcmp x 4604930618986332160) .g) then some (x, k) else if n64 (FP.dmul x 4611686018427387904) = true then lgD d (FP.dmul x 4611686018427387904) (k + (-1)) else none
def lgF (x : UInt64) : Option UInt64 := (lgU 16 x 0).bind (fun p => (lgD 16 p.1 p.2).bind (fun q => lnT q.1 q.2))
def lgE (x : UInt64) : Bool := match lgU 16 x 0 with
  | none => false
  | some p => (lgD 16 p.1 p.2).isSome
theorem lgU_ln : ∀ (d e : Nat) (x : UInt64) (k : Int32) (r : UInt64 × Int32), lgU d x k = some r → lnU (d + e) x k = some r := by
  intro d
  induction d with
  | zero => intro e x k r h; rw [lgU] at h; cases h
  | succ d ih =>
    intro e x k r h
    rw [lgU] at h
    rw [show d + 1 + e = (d + e) + 1 by omega, lnU]
    split at h
    · rename_i q; rw [if_pos q]; exact h
    · rename_i q
      rw [if_neg q]
      split at h
      · rename_i q2; rw [if_pos q2]; exact ih e _ _ _ h
      · cases h
theorem lgD_ln : ∀ (d e : Nat) (x : UInt64) (k : Int32) (r : UInt64 × Int32), lgD d x k = some r → lnD (d + e) x k = some r := by
  intro d
  induction d with
  | zero => intro e x k r h; rw [lgD] at h; cases h
  | succ d ih =>
    intro e x k r h
    rw [lgD] at h
    rw [show d + 1 + e = (d + e) + 1 by omega, lnD]
    split at h
    · rename_i q; rw [if_pos q]; exact h
    · rename_i q
      rw [if_neg q]
      split at h
      · rename_i q2; rw [if_pos q2]; exact ih e _ _ _ h
      · cases h
theorem lgF_ln {x : UInt64} (h : lgE x = true) : lgF x = lnF x := by
  unfold lgE at h
  cases hU : lgU 16 x 0 with
  | none => rw [hU] at h; cases h
  | some p =>
    rw [hU] at h
    have h' : (lgD 16 p.1 p.2).isSome = true := h
    cases hD : lgD 16 p.1 p.2 with
    | none => rw [hD] at h'; cases h'
    | some q =>
      have e1 : lnU 64 x 0 = some p := lgU_ln 16 48 _ _ _ hU
      have e2 : lnD 64 p.1 p.2 = some q := lgD_ln 16 48 _ _ _ hD
      rw [lgF, lnF, hU, e1]
      show (lgD 16 p.1 p.2).bind _ = (lnD 64 p.1 p.2).bind _
      rw [hD, e2]
theorem lgE_r0 : ∀ w, w < 1 → lgE (lnA (nI 0) (nI w)) = true := by decide +kernel
theorem lgE_r1 : ∀ w, w < 2 → lgE (lnA (nI 1) (nI w)) = true := by decide +kernel
theorem lgE_r2 : ∀ w, w < 3 → lgE (lnA (nI 2) (nI w)) = true := by decide +kernel
theorem lgE_r3 : ∀ w, w < 4 → lgE (lnA (nI 3) (nI w)) = true := by decide +kernel
theorem lgE_r4 : ∀ w, w < 5 → lgE (lnA (nI 4) (nI w)) = true := by decide +kernel
theorem lgE_r5 : ∀ w, w < 6 → lgE (lnA (nI 5) (nI w)) = true := by decide +kernel
theorem lgE_r6 : ∀ w, w < 7 → lgE (lnA (nI 6) (nI w)) = true := by decide +kernel
theorem lgE_r7 : ∀ w, w < 8 → lgE (lnA (nI 7) (nI w)) = true := by decide +kernel
theorem lgE_r8 : ∀ w, w < 9 → lgE (lnA (nI 8) (nI w)) = true := by decide +kernel
theorem lgE_r9 : ∀ w, w < 10 → lgE (lnA (nI 9) (nI w)) = true := by decide +kernel
theorem lgE_r10 : ∀ w, w < 11 → lgE (lnA (nI 10) (nI w)) = true := by decide +kernel
theorem lgE_r11 : ∀ w, w < 12 → lgE (lnA (nI 11) (nI w)) = true := by decide +kernel
theorem lgE_r12 : ∀ w, w < 13 → lgE (lnA (nI 12) (nI w)) = true := by decide +kernel
theorem lgE_r13 : ∀ w, w < 14 → lgE (lnA (nI 13) (nI w)) = true := by decide +kernel
theorem lgE_r14 : ∀ w, w < 15 → lgE (lnA (nI 14) (nI w)) = true := by decide +kernel
theorem lgE_r15 : ∀ w, w < 16 → lgE (lnA (nI 15) (nI w)) = true := by decide +kernel
theorem lgE_r16 : ∀ w, w < 17 → lgE (lnA (nI 16) (nI w)) = true := by decide +kernel
theorem lgE_r17 : ∀ w, w < 18 → lgE (lnA (nI 17) (nI w)) = true := by decide +kernel
theorem lgE_r18 : ∀ w, w < 19 → lgE (lnA (nI 18) (nI w)) = true := by decide +kernel
theorem lgE_r19 : ∀ w, w < 20 → lgE (lnA (nI 19) (nI w)) = true := by decide +kernel
theorem lgE_r20 : ∀ w, w < 21 → lgE (lnA (nI 20) (nI w)) = true := by decide +kernel
theorem lgE_r21 : ∀ w, w < 22 → lgE (lnA (nI 21) (nI w)) = true := by decide +kernel
theorem lgE_r22 : ∀ w, w < 23 → lgE (lnA (nI 22) (nI w)) = true := by decide +kernel
theorem lgE_r23 : ∀ w, w < 24 → lgE (lnA (nI 23) (nI w)) = true := by decide +kernel
theorem lgE_r24 : ∀ w, w < 25 → lgE (lnA (nI 24) (nI w)) = true := by decide +kernel
theorem lgE_all : ∀ r, r < 25 → ∀ w, w < r + 1 → lgE (lnA (nI r) (nI w)) = true
  | 0, _ => lgE_r0
  | 1, _ => lgE_r1
  | 2, _ => lgE_r2
  | 3, _ => lgE_r3
  | 4, _ => lgE_r4
  | 5, _ => lgE_r5
  | 6, _ => lgE_r6
  | 7, _ => lgE_r7
  | 8, _ => lgE_r8
  | 9, _ => lgE_r9
  | 10, _ => lgE_r10
  | 11, _ => lgE_r11
  | 12, _ => lgE_r12
  | 13, _ => lgE_r13
  | 14, _ => lgE_r14
  | 15, _ => lgE_r15
  | 16, _ => lgE_r16
  | 17, _ => lgE_r17
  | 18, _ => lgE_r18
  | 19, _ => lgE_r19
  | 20, _ => lgE_r20
  | 21, _ => lgE_r21
  | 22, _ => lgE_r22
  | 23, _ => lgE_r23
  | 24, _ => lgE_r24
  | n + 25, h => absurd h (by omega)
set_option maxHeartbeats 400000 in
theorem lp_lgU {G : xw_G} {F L bc bs : Nat} {pr : Option Value → xw_A → Prop} {px : String → xw_A → Prop} {h : xw_A} {r : UInt64 × Int32} (kk : xw G m_Model_logarithm F L bc bs pr px 25 [none, none, some (.double r.1), none, some (.int r.2), none, none, none, none, none, none, none] [] h) :
    ∀ (dd : Nat) (x : UInt64) (k : Int32), lgU dd x k = some r → xw G m_Model_logarithm F L bc bs pr px 5 [none, none, some (.double x), none, some (.int k), none, none, none, none, none, none, none] [] h := by
  intro dd
  induction dd with
  | zero =>
    intro x k hp
    rw [lgU] at hp
    cases hp
  | succ dd ih =>
    intro x k hp
    rw [lgU] at hp
    refine s_Model_logarithm_5 (fun z => ?_) (fun z => ?_)
    · rw [if_pos z] at hp
      rw [← Option.some.inj hp] at kk
      exact kk
    · rw [if_neg z] at hp
      by_cases hw : n64 (FP.ddiv x 4611686018427387904) = true
      · rw [if_pos hw] at hp
        refine s_Model_logarithm_13 (n64.of hw) ?_
        exact ih _ _ hp
      · rw [if_neg hw] at hp
        cases hp
set_option maxHeartbeats 400000 in
theorem lp_lgD {G : xw_G} {F L bc bs : Nat} {pr : Option Value → xw_A → Prop} {px : String → xw_A → Prop} {h : xw_A} {r : UInt64 × Int32} (kk : xw G m_Model_logarithm F L bc bs pr px 45 [none, none, some (.double r.1), none, some (.int r.2), none, none, none, none, none, none, none] [] h) :
    ∀ (dd : Nat) (x : UInt64) (k : Int32), lgD dd x k = some r → xw G m_Model_logarithm F L bc bs pr px 25 [none, none, some (.double x), none, some (.int k), none, none, none, none, none, none, none] [] h := by
  intro dd
  induction dd with
  | zero =>
    intro x k hp
    rw [lgD] at hp
    cases hp
  | succ dd ih =>
    intro x k hp
    rw [lgD] at hp
    refine s_Model_logarithm_25 (fun z => ?_) (fun z => ?_)
    · rw [if_pos z] at hp
      rw [← Option.some.inj hp] at kk
      exact kk
    · rw [if_neg z] at hp
      by_cases hw : n64 (FP.dmul x 4611686018427387904) = true
      · rw [if_pos hw] at hp
        refine s_Model_logarithm_33 (n64.of hw) ?_
        exact ih _ _ hp
      · rw [if_neg hw] at hp
        cases hp
set_option maxHeartbeats 400000 in
theorem lp_lgS {G : xw_G} {F L bc bs : Nat} {pr : Option Value → xw_A → Prop} {px : String → xw_A → Prop} {h : xw_A} {k : Int32} {y z t : UInt64} (kk : xw G m_Model_logarithm F L bc bs pr px 92 [none, none, none, none, some (.int k), some (.double z), none, none, none, some (.double t), none, none] [] h) :
    ∀ (n : Nat), n ≤ 10 → ∀ s : UInt64, lnS y (jLst n) s = some t → xw G m_Model_logarithm F L bc bs pr px 68 [none, none, none, none, some (.int k), some (.double z), none, some (.double y), none, some (.double s), none, some (.int (jVal n))] [] h := by
  intro n
  induction n with
  | zero =>
    intro _ s hp
    refine s_Model_logarithm_68 (fun _ => ?_) (fun z => absurd (by decide) z)
    rw [jLst, lnS] at hp
    rw [← Option.some.inj hp] at kk
    exact kk
  | succ n ih =>
    intro hn s hp
    refine s_Model_logarithm_68 (fun z => absurd z (nI_ge (a := 0) (b := 2 * n + 1) (by omega) (by omega))) (fun _ => ?_)
    rw [jLst, lnS] at hp
    by_cases hw : n64 (FP.dmul s y) = true ∧ n64 (FP.ddiv FP.dconst1 (FP.i2d (nI (2 * n + 1)))) = true ∧ n64 (FP.dadd (FP.dmul s y) (FP.ddiv FP.dconst1 (FP.i2d (nI (2 * n + 1))))) = true
    · rw [if_pos hw] at hp
      refine s_Model_logarithm_73 (n64.of hw.1) (n64.of hw.2.1) (n64.of hw.2.2) ?_
      rw [jVal_next n (by omega)]
      exact ih (by omega) _ hp
    · rw [if_neg hw] at hp
      cases hp
set_option maxHeartbeats 400000 in
theorem f_logarithm {G : xw_G} {F L : Nat} {h : xw_A} {x y : UInt64} (hy : lgF x = some y) (hF : 1 ≤ F) (hL : 20 ≤ L) : xw_Met G m_Model_logarithm F L 0 0 [.double x] h (fun v h' => v = some (.double y) ∧ h = h') (fun _ _ => False) := by
  refine xw_Met.of rfl (by decide) (Nat.le_of_ble_eq_true rfl) ?_
  rw [lgF] at hy
  cases hU : lgU 16 x 0 with
  | none => rw [hU] at hy; cases hy
  | some p =>
    rw [hU] at hy
    change (lgD 16 p.1 p.2).bind (fun q => lnT q.1 q.2) = some y at hy
    cases hD : lgD 16 p.1 p.2 with
    | none => rw [hD] at hy; cases hy
    | some q =>
      rw [hD] at hy
      change lnT q.1 q.2 = some y at hy
      rw [lnT] at hy
      by_cases hw : n64 (FP.dsub q.1 FP.dconst1) = true ∧ n64 (FP.dadd q.1 FP.dconst1) = true ∧ n64 (lnZ q.1) = true ∧ n64 (FP.dmul (lnZ q.1) (lnZ q.1)) = true
      · rw [if_pos hw] at hy
        cases hS : lnS (FP.dmul (lnZ q.1) (lnZ q.1)) [19, 17, 15, 13, 11, 9, 7, 5, 3, 1] FP.dconst0 with
        | none => rw [hS] at hy; cases hy
        | some t =>
          rw [hS] at hy
          change lnE (lnZ q.1) q.2 t = some y at hy
          rw [lnE] at hy
          by_cases hv : n64 (FP.dmul 4611686018427387904 (lnZ q.1)) = true ∧ n64 (FP.dmul (FP.dmul 4611686018427387904 (lnZ q.1)) t) = true ∧ n64 (FP.dmul (FP.i2d q.2) 4604418534313441775) = true ∧ n64 (FP.dadd (FP.dmul (FP.dmul 4611686018427387904 (lnZ q.1)) t) (FP.dmul (FP.i2d q.2) 4604418534313441775)) = true
          · rw [if_pos hv] at hy
            refine s_Model_logarithm_0 ?_
            refine lp_lgU ?_ 16 _ _ hU
            refine lp_lgD ?_ 16 _ _ hD
            refine s_Model_logarithm_45 (n64.of hw.1) (n64.of hw.2.1) (n64.of hw.2.2.1) (n64.of hw.2.2.2) ?_
            refine lp_lgS (t := t) ?_ 10 (Nat.le_refl _) _ hS
            refine s_Model_logarithm_92 (n64.of hv.1) (n64.of hv.2.1) (n64.of hv.2.2.1) (n64.of hv.2.2.2) ?_
            exact ⟨congrArg (fun z => some (Value.double z)) (Option.some.inj hy), rfl⟩
          · rw [if_neg hv] at hy
            cases hy
      · rw [if_neg hw] at hy
        cases hy
