/-! TIER H: bits of an int -/
def btx (x : Int32) (i : Nat) : Bool := x.toBitVec.getLsbD i
def BW (x : Int32) (Q : Nat → Prop) : Prop := ∀ i, i < 32 → (btx x i = true ↔ Q i)
theorem tb_or (x y : Int32) (i : Nat) : btx (x ||| y) i = (btx x i || btx y i) := by
  unfold btx
  rw [Int32.toBitVec_or, BitVec.getLsbD_or]
theorem tb_and (x y : Int32) (i : Nat) : btx (x &&& y) i = (btx x i && btx y i) := by
  unfold btx
  rw [Int32.toBitVec_and, BitVec.getLsbD_and]
theorem tb_xor (x y : Int32) (i : Nat) : btx (x ^^^ y) i = (btx x i ^^ btx y i) := by
  unfold btx
  rw [Int32.toBitVec_xor, BitVec.getLsbD_xor]
theorem tb_0 (i : Nat) : btx 0 i = false := by
  unfold btx
  show (BitVec.ofNat 32 0).getLsbD i = false
  simp
theorem tb_m1 : ∀ i, i < 32 → btx (-1) i = true := by decide
theorem tb_1 : ∀ i, i < 32 → (btx 1 i = true ↔ i = 0) := by decide
theorem tb_eq {x y : Int32} (h : ∀ i, i < 32 → btx x i = btx y i) : x = y := by
  apply Int32.toBitVec_inj.mp
  apply BitVec.eq_of_getLsbD_eq
  exact h
set_option maxRecDepth 8000 in
theorem tb_sh : ∀ n, n < 26 → ∀ i, i < 32 → (btx ((1 : Int32) <<< (nI n &&& 31)) i = true ↔ i = n) := by decide +kernel
set_option maxRecDepth 8000 in
theorem tb_span : ∀ b, b < 25 → ∀ a, a ≤ b → ∀ i, i < 32 → (btx (((1 : Int32) <<< ((nI b + 1) &&& 31)) - ((1 : Int32) <<< (nI a &&& 31))) i = true ↔ a ≤ i ∧ i ≤ b) := by decide +kernel
theorem BW.congr {x : Int32} {Q R : Nat → Prop} (h : BW x Q) (e : ∀ i, i < 32 → (Q i ↔ R i)) : BW x R := fun i hi => (h i hi).trans (e i hi)
theorem BW.zero : BW 0 (fun _ => False) := fun i _ => by rw [tb_0]; simp
theorem BW.set {x : Int32} {Q : Nat → Prop} {n : Nat} (h : BW x Q) (hn : n < 26) : BW (x ||| ((1 : Int32) <<< (nI n &&& 31))) (fun i => Q i ∨ i = n) := fun i hi => by
  rw [tb_or, Bool.or_eq_true, h i hi, tb_sh n hn i hi]
theorem BW.or {x y : Int32} {Q R : Nat → Prop} (h : BW x Q) (k : BW y R) : BW (x ||| y) (fun i => Q i ∨ R i) := fun i hi => by
  rw [tb_or, Bool.or_eq_true, h i hi, k i hi]
theorem BW.and {x y : Int32} {Q R : Nat → Prop} (h : BW x Q) (k : BW y R) : BW (x &&& y) (fun i => Q i ∧ R i) := fun i hi => by
  rw [tb_and, Bool.and_eq_true, h i hi, k i hi]
theorem BW.not {x : Int32} {Q : Nat → Prop} (h : BW x Q) : BW (x ^^^ (-1)) (fun i => ¬ Q i) := fun i hi => by
  show _ ↔ ¬ Q i
  rw [tb_xor, tb_m1 i hi, ← h i hi]
  cases btx x i <;> simp
theorem BW.all {x : Int32} (h : x = -1) : BW x (fun _ => True) := fun i hi => by rw [h, tb_m1 i hi]; simp
theorem BW.one {x : Int32} (h : x = 1) : BW x (fun i => i = 0) := fun i hi => by rw [h]; exact tb_1 i hi
theorem BW.zero_iff {x : Int32} {Q : Nat → Prop} (h : BW x Q) : x = 0 ↔ ∀ i, i < 32 → ¬ Q i := by
  constructor
  · intro e i hi q
    have := (h i hi).mpr q
    rw [e, tb_0] at this
    cases this
  · intro hq
    refine tb_eq (fun i hi => ?_)
    rw [tb_0]
    cases e : btx x i with
    | false => rfl
    | true => exact absurd ((h i hi).mp e) (hq i hi)
theorem BW.and0 {x y : Int32} {Q R : Nat → Prop} (h : BW x Q) (k : BW y R) : x &&& y = 0 ↔ ∀ i, i < 32 → ¬ (Q i ∧ R i) := (h.and k).zero_iff
/-- bit r of an int, as it is asked for -/
theorem tb_ask : ∀ r, r < 25 → ∀ x : Int32, ((x >>> (nI r &&& 31)) &&& 1 = 1 ↔ btx x r = true) := by
  intro r hr x
  have e : btx (x >>> (nI r &&& 31)) 0 = btx x r := by
    have hs : ((nI r &&& 31).toBitVec.smod 32).toNat = r := by
      revert hr
      revert r
      decide
    unfold btx
    rw [Int32.toBitVec_shiftRight, BitVec.sshiftRight']
    rw [hs, BitVec.getLsbD_sshiftRight]
    simp
    omega
  constructor
  · intro h
    have h2 : btx ((x >>> (nI r &&& 31)) &&& 1) 0 = true := by rw [h]; decide
    rw [tb_and, e] at h2
    exact (Bool.and_eq_true _ _ |>.mp h2).1
  · intro h
    refine tb_eq (fun i hi => ?_)
    rw [tb_and]
    by_cases q : i = 0
    · subst q
      rw [e, h]
      decide
    · have h1 : btx 1 i = false := by
        cases hq : btx 1 i with
        | false => rfl
        | true => exact absurd ((tb_1 i hi).mp hq) q
      rw [h1, Bool.and_false]
theorem col_ask : ∀ cc, cc ≤ 3 → ∀ c, c < 2 → ((nI cc >>> (nI c &&& 31)) &&& 1 = 1 ↔ cc.testBit c = true) := by decide
/-! TIER H: a word fits a word; a phrase stands at a place -/
def FtW (b : Prop) (w x : List Int32) : Prop := w.length ≤ x.length ∧ (b ∨ w.length = x.length) ∧ ∀ k, k < w.length → w[k]? = x[k]?
def SdA (ws : List (List Int32)) (u v : Nat) (b : Bool) (T : List (List Int32)) (pl : Nat) : Prop := ∀ k, k < v → ∀ w x, ws[u + k]? = some w → T[pl + k]? = some x → FtW (b = true ∧ k + 1 = v) w x
theorem TkW.at {ws : List (List Int32)} {n W i : Nat} {f g : Nat → Int32} {w : List Int32} (h : TkW ws n W f g) (hw : ws[i]? = some w) : ∃ p, p + w.length ≤ W ∧ g i = nI p ∧ g (i + 1) = nI (p + w.length) ∧ ∀ k, k < w.length → w[k]? = some (f (p + k)) := by
  obtain ⟨hn, G, -, h1, h2, h3, h4⟩ := h
  have hi : i < n := by rw [hn]; exact (List.getElem?_eq_some_iff.mp hw).1
  obtain ⟨a1, a2⟩ := h4 i w hw
  refine ⟨G i, ?_, h1 i (by omega), by rw [h1 (i + 1) (by omega), a1], fun k hk => ?_⟩
  · have := mono_le h2 (n - (i + 1)) (i + 1) (by omega)
    omega
  · rw [a2 k w[k] (List.getElem?_eq_getElem hk)]
    exact List.getElem?_eq_getElem hk
theorem fit_W {ws T : List (List Int32)} {n W n2 W2 i j : Nat} {f g f2 g2 : Nat → Int32} {b c : Int32} {w x : List Int32} (F : fitT f g f2 g2 i j b c) (h : TkW ws n W f g) (h2 : TkW T n2 W2 f2 g2) (hW : W ≤ 96) (hW2 : W2 ≤ 96) (hw : ws[i]? = some w) (hx : T[j]? = some x) : c = 1 ↔ FtW (¬ b = 0) w x := by
  obtain ⟨p, p1, p2, p3, p4⟩ := h.at hw
  obtain ⟨q, q1, q2, q3, q4⟩ := h2.at hx
  have e := F p (p + w.length) q (q + x.length) (by omega) (by omega) (by omega) (by omega) p2 p3 q2 q3
  rw [Nat.add_sub_cancel_left, Nat.add_sub_cancel_left] at e
  rw [e]
  constructor
  · rintro ⟨⟨a1, a2⟩, a3⟩
    refine ⟨a2, ?_, fun k hk => ?_⟩
    · by_cases z : b = 0
      · exact Or.inr (a1 z)
      · exact Or.inl z
    · rw [p4 k hk, q4 k (by omega), a3 k hk]
  · rintro ⟨a1, a2, a3⟩
    refine ⟨⟨fun z => a2.resolve_left (fun q => q z), a1⟩, fun k hk => ?_⟩
    have := a3 k hk
    rw [p4 k hk, q4 k (by omega)] at this
    exact Option.some.inj this
theorem FtW.cg {b b' : Prop} {w x : List Int32} (e : b ↔ b') : FtW b w x ↔ FtW b' w x := by
  unfold FtW
  rw [e]
section MathH
variable {G : xw_G} {M : xw_M} {F L bc bs : Nat} {pr : Option Value → xw_A → Prop} {px : String → xw_A → Prop} {pc : Nat} {lv : List (Option Value)} {rest : List Value} {h : xw_A}
/-- Math.max of 0 and a difference -/
theorem x_mmaxH {index : Nat} {e s : Nat} (he : e < 2 ^ 30) (hs0 : s < 2 ^ 30) (d : decode M.2.1 pc = .ok (.invokestatic index, 3)) (hs : xw_mmax M.1.cls index) (hF : 1 ≤ F) (hL : (rest.map fun v => v.category).sum + 13 ≤ L)
    (k : xw G M F L bc bs pr px (pc + 3) lv (.int (nI (e - s)) :: rest) h) : xw G M F L bc bs pr px pc lv (.int (nI e - nI s) :: .int 0 :: rest) h := by
  have e9 : nI (e - s) = if (0 : Int32) < nI e - nI s then nI e - nI s else 0 := by
    by_cases q : s < e
    · rw [pk_sub (by omega), if_pos (by rw [← nI_0]; exact nI_lt (by omega) (by omega))]
    · rw [if_neg, show e - s = 0 by omega, nI_0]
      intro z
      by_cases q2 : e < s
      · have := pk_sneg (a := e) (b := s) hs0 q2
        exact absurd z (Int32.lt_asymm this)
      · rw [show e = s by omega, Int32.sub_self] at z
        exact absurd z (by decide)
  rw [e9] at k
  intro p e R s m args below meth c H locs cells slots ls C hR hB hH hS hl
  exact va_mmax C.1 C.2.1 (C.2.2.2.1.trans hl.1.symm) C.2.2.2.2.1 (C.2.2.2.2.2.1 _ (hs (.methodLink M.1.cls index Lib.Math.max.name) (by simp))) (C.2.2.2.2.2.1 _ (hs (.static Lib.Math.max.name) (by simp))) (C.2.2.2.2.2.1 _ (hs (.initialized "java/lang/Math") (by simp))) (C.2.2.2.2.2.1 _ (hs (.code Lib.Math.max.name Lib.Math.max.code 2 (some .int)) (by simp))) (Nat.le_trans hF hR.1) (Nat.le_trans hL hR.2) (by omega) (by omega) d (k p e R s m args below meth c H locs cells slots ls C hR hB hH hS hl)
theorem x_mminH {index : Nat} {a b : Nat} (ha : a < 2 ^ 31) (hb : b < 2 ^ 31) (d : decode M.2.1 pc = .ok (.invokestatic index, 3)) (hs : xw_mmin M.1.cls index) (hF : 1 ≤ F) (hL : (rest.map fun v => v.category).sum + 13 ≤ L)
    (k : xw G M F L bc bs pr px (pc + 3) lv (.int (nI (min a b)) :: rest) h) : xw G M F L bc bs pr px pc lv (.int (nI b) :: .int (nI a) :: rest) h := by
  have k2 : ∀ z : Int32, ((z = nI a ∧ ¬ nI b < nI a) ∨ (z = nI b ∧ ¬ nI a < nI b)) → xw G M F L bc bs pr px (pc + 3) lv (.int z :: rest) h := fun z hz => by
    have e : z = nI (min a b) := by
      rcases hz with ⟨e, q⟩ | ⟨e, q⟩
      · rw [e, Nat.min_eq_left (Nat.le_of_not_lt (fun w => q (nI_lt w ha)))]
      · rw [e, Nat.min_eq_right (Nat.le_of_not_lt (fun w => q (nI_lt w hb)))]
    rw [e]
    exact k
  intro p e R s m args below meth c H locs cells slots ls C hR hB hH hS hl
  refine va_mmin C.1 C.2.1 (C.2.2.2.1.trans hl.1.symm) C.2.2.2.2.1 (C.2.2.2.2.2.1 _ (hs (.methodLink M.1.cls index Lib.Math.min.name) (by simp))) (C.2.2.2.2.2.1 _ (hs (.static Lib.Math.min.name) (by simp))) (C.2.2.2.2.2.1 _ (hs (.initialized "java/lang/Math") (by simp))) (C.2.2.2.2.2.1 _ (hs (.code Lib.Math.min.name Lib.Math.min.code 2 (some .int)) (by simp))) (Nat.le_trans hF hR.1) (Nat.le_trans hL hR.2) (by omega) (by omega) d (k2 _ ?_ p e R s m args below meth c H locs cells slots ls C hR hB hH hS hl)
  split
  · rename_i z
    first
      | exact Or.inl ⟨rfl, Int32.lt_asymm z⟩
      | exact Or.inl ⟨rfl, Int32.not_lt.mpr z⟩
      | exact Or.inr ⟨rfl, Int32.lt_asymm z⟩
      | exact Or.inr ⟨rfl, Int32.not_lt.mpr z⟩
  · rename_i z
    first
      | exact Or.inr ⟨rfl, z⟩
      | exact Or.inl ⟨rfl, z⟩
      | exact Or.inr ⟨rfl, fun q => z (Int32.le_of_lt q)⟩
      | exact Or.inl ⟨rfl, fun q => z (Int32.le_of_lt q)⟩
end MathH
/-! TIER H: the texts' words; where the phrases stand -/
def TkX (A : List Nat) (h : xw_A) (a : Nat) (T : List (List Int32)) : Prop := a ∉ A ∧ T.length ≤ 24 ∧ ∃ (l z m k n W : Nat) (f g : Nat → Int32), l ∉ A ∧ z ∉ A ∧ TokC a l z m k n f g h ∧ TkW T n W f g ∧ W ≤ 96
theorem TkX.fr {A B : List Nat} {h h' : xw_A} {a : Nat} {T : List (List Int32)} (k : TkX A h a T) (r : FrO B h h') (hB : ∀ q ∈ B, q ∈ A) : TkX A h' a T := by
  obtain ⟨h0, h1, l, z, m, k, n, W, f, g, hl, hz, K, w⟩ := k
  exact ⟨h0, h1, l, z, m, k, n, W, f, g, hl, hz, K.frq r ⟨fun q => h0 (hB _ q), fun q => hl (hB _ q), fun q => hz (hB _ q)⟩, w⟩
def VrX (A : List Nat) (h : xw_A) (a : Nat) (T0 T1 : List (List Int32)) : Prop := a ∉ A ∧ ∃ (vn ve : Int32) (vr p q : Nat), h a = some (.inr (10, [.int vn, .int (nI vr), .ref p, .ref q, .int ve])) ∧ TkX A h p T0 ∧ TkX A h q T1
theorem VrX.fr {A B : List Nat} {h h' : xw_A} {a : Nat} {T0 T1 : List (List Int32)} (k : VrX A h a T0 T1) (r : FrO B h h') (hB : ∀ q ∈ B, q ∈ A) : VrX A h' a T0 T1 := by
  obtain ⟨h0, vn, ve, vr, p, q, e, k1, k2⟩ := k
  exact ⟨h0, vn, ve, vr, p, q, r _ _ (fun q => h0 (hB _ q)) e, k1.fr r hB, k2.fr r hB⟩
/-- phrase p stands in the text of row r and column c at place i -/
def QP (t : Nat → Int32) (ph : List PHt) (TW : Nat → Nat → List (List Int32)) (er : Nat → Option Nat) (p r c i : Nat) : Prop := er r ≠ none ∧ ∃ x, ph[p]? = some x ∧ 0 < (wds t x.1).length ∧ i + (wds t x.1).length ≤ (TW r c).length ∧ SdA (wds t (spn ph)) (wds t (spn (ph.take p))).length (wds t x.1).length x.2 (TW r c) i
def FLs (Q : Nat → Nat → Nat → Nat → Prop) (pf : Nat → Int32) (k : Nat) : Prop := ∀ p r c, 1 ≤ r → r ≤ 24 → c < 2 → (p * 24 + r - 1) * 2 + c < k → BW (pf ((p * 24 + r - 1) * 2 + c)) (Q p r c)
theorem FLs.step {Q : Nat → Nat → Nat → Nat → Prop} {pf : Nat → Int32} {a r c : Nat} {x : Int32} (h : FLs Q pf ((a * 24 + r - 1) * 2 + c)) (hr1 : 1 ≤ r) (hr2 : r ≤ 24) (hc : c < 2) (hx : BW x (Q a r c)) : FLs Q (upd pf ((a * 24 + r - 1) * 2 + c) x) ((a * 24 + r - 1) * 2 + c + 1) := fun p r' c' h1 h2 h3 h4 => by
  by_cases q : (p * 24 + r' - 1) * 2 + c' = (a * 24 + r - 1) * 2 + c
  · obtain ⟨rfl, rfl, rfl⟩ : p = a ∧ r' = r ∧ c' = c := by omega
    rw [pk_us]
    exact hx
  · rw [pk_un q]
    exact h p r' c' h1 h2 h3 (by omega)
theorem FLs.cg {Q : Nat → Nat → Nat → Nat → Prop} {pf : Nat → Int32} {k k2 : Nat} (h : FLs Q pf k) (e : k2 = k) : FLs Q pf k2 := by rw [e]; exact h
/-- the words of a phrase stand in the words of all -/
theorem spn_take {t : Nat → Int32} {ph : List PHt} {p : Nat} {x : PHt} (h : ph[p]? = some x) : (wds t (spn (ph.take p))).length + (wds t x.1).length ≤ (wds t (spn ph)).length := by
  have e : ph = ph.take p ++ x :: ph.drop (p + 1) := by
    obtain ⟨h1, h2⟩ := List.getElem?_eq_some_iff.mp h
    rw [← h2, List.getElem_cons_drop, List.take_append_drop]
  have e2 : wds t (spn ph) = wds t (spn (ph.take p)) ++ (wds t x.1 ++ wds t (spn (ph.drop (p + 1)))) := by
    conv => lhs; rw [e]
    rw [spn_app, wds_app]
    show _ ++ wds t (x.1 ++ spn (ph.drop (p + 1))) = _
    rw [wds_app]
  rw [e2, List.length_append, List.length_append]
  omega
theorem QP.no {t : Nat → Int32} {ph : List PHt} {TW : Nat → Nat → List (List Int32)} {er : Nat → Option Nat} {p r c : Nat} (h : er r = none) : BW 0 (QP t ph TW er p r c) := BW.zero.congr (fun _ _ => ⟨fun q => q.elim, fun q => absurd h q.1⟩)
theorem QP.yes {t : Nat → Int32} {ph : List PHt} {TW : Nat → Nat → List (List Int32)} {er : Nat → Option Nat} {p r c n2 a : Nat} {x : PHt} {y : Int32} (h : er r = some a) (hx : ph[p]? = some x) (hn : n2 = (TW r c).length) (b : BW y (fun j => 0 < (wds t x.1).length ∧ j + (wds t x.1).length ≤ n2 ∧ SdA (wds t (spn ph)) (wds t (spn (ph.take p))).length (wds t x.1).length x.2 (TW r c) j)) : BW y (QP t ph TW er p r c) := by
  subst hn
  refine b.congr (fun j _ => ⟨fun q => ⟨(by rw [h]; exact fun z => (nomatch z)), x, hx, q⟩, ?_⟩)
  rintro ⟨-, x', hx', q⟩
  rw [hx] at hx'
  cases hx'
  exact q
/-! TIER H: what a question's nodes say of a row -/
theorem vlN_app (G : Nat → Bool) : ∀ (a b : List NDt) (vs : List Bool), vlN G (a ++ b) vs = vlN G b (vlN G a vs) := by
  intro a
  induction a with
  | nil => intro b vs; rfl
  | cons p a ih => intro b vs; rw [List.cons_append, vlN, ih, vlN]
theorem vl_at (G : Nat → Bool) {nds : List NDt} {i : Nat} {x : NDt} (h : nds[i]? = some x) (hl : ¬ x.1 = 0 → x.2.1 < i ∧ x.2.2 < i) : vAt (vlN G nds []) i = if x.1 = 0 then G x.2.1 else opB x.1 (vAt (vlN G nds []) x.2.1) (vAt (vlN G nds []) x.2.2) := by
  obtain ⟨h1, h2⟩ := List.getElem?_eq_some_iff.mp h
  have e : nds = nds.take i ++ x :: nds.drop (i + 1) := by rw [← h2, List.getElem_cons_drop, List.take_append_drop]
  obtain ⟨V, hV⟩ : ∃ V, V = vlN G (nds.take i) [] := ⟨_, rfl⟩
  have hVl : V.length = i := by rw [hV, vlN_len, List.length_nil, List.length_take]; omega
  have e2 : vlN G nds [] = vlN G (nds.drop (i + 1)) (V ++ [vl1 G x V]) := by
    conv => lhs; rw [e]
    rw [vlN_app, vlN, ← hV]
  have old : ∀ j, j < i → (vlN G nds [])[j]? = V[j]? := fun j hj => by
    rw [e2, vlN_old _ _ _ _ (by rw [List.length_append, List.length_singleton]; omega), List.getElem?_append_left (by omega)]
  have new : (vlN G nds [])[i]? = some (vl1 G x V) := by
    rw [e2, vlN_old _ _ _ _ (by rw [List.length_append, List.length_singleton]; omega), List.getElem?_append_right (by omega), hVl, Nat.sub_self]
    rfl
  show ((vlN G nds [])[i]?).getD false = _
  rw [new]
  show vl1 G x V = _
  unfold vl1
  by_cases q : x.1 = 0
  · rw [if_pos q, if_pos q]
  · rw [if_neg q, if_neg q]
    obtain ⟨a1, a2⟩ := hl q
    show _ = opB x.1 (((vlN G nds [])[x.2.1]?).getD false) (((vlN G nds [])[x.2.2]?).getD false)
    rw [old _ a1, old _ a2]
/-- the group y holds in the row r and the column c, as the class asks -/
def RAp (Q : Nat → Nat → Nat → Nat → Prop) (lq : Nat → Nat) (ua ub far r c e : Nat) : Prop := ∀ p, ua ≤ p → p < ub → ∃ i, e - lq p ≤ i ∧ i ≤ min 24 (e + far) ∧ Q p r c i
def HOp (Q : Nat → Nat → Nat → Nat → Prop) (lq : Nat → Nat) (ua ub far : Nat) (PL : Nat → Prop) (r c : Nat) : Prop := (∀ p, ua ≤ p → p < ub → ∃ j, j < 32 ∧ Q p r c j ∧ PL j) ∧ (ub = ua + 1 ∨ ∃ e, 1 ≤ e ∧ e ≤ 24 ∧ RAp Q lq ua ub far r c e)
def GOp (Q : Nat → Nat → Nat → Nat → Prop) (lq : Nat → Nat) (ua ub far : Nat) (PL : Nat → Prop) (cc r : Nat) : Prop := ∃ c, c < 2 ∧ cc.testBit c = true ∧ HOp Q lq ua ub far PL r c
def PLy (y : GRt) (j : Nat) : Prop := y.1 = 1 → j = 0
def GGp (Q : Nat → Nat → Nat → Nat → Prop) (lq : Nat → Nat) (gr : List GRt) (g r : Nat) : Prop := ∃ y : GRt, gr[g]? = some y ∧ GOp Q lq y.2.1 y.2.2.1 (if y.1 = 2 then y.2.2.2.2 else 0) (PLy y) y.2.2.2.1 r
noncomputable def gB (Q : Nat → Nat → Nat → Nat → Prop) (lq : Nat → Nat) (gr : List GRt) (r g : Nat) : Bool := (Classical.propDecidable (GGp Q lq gr g r)).decide
theorem gB_iff {Q : Nat → Nat → Nat → Nat → Prop} {lq : Nat → Nat} {gr : List GRt} {r g : Nat} : gB Q lq gr r g = true ↔ GGp Q lq gr g r := by
  unfold gB
  exact @decide_eq_true_iff _ (Classical.propDecidable _)
theorem PLy.bw {y : GRt} {z : Int32} (h : z = (if y.1 = 1 then 1 else -1)) : BW z (PLy y) := by
  by_cases q : y.1 = 1
  · rw [if_pos q] at h
    exact (BW.one h).congr (fun i _ => ⟨fun z _ => z, fun z => z q⟩)
  · rw [if_neg q] at h
    exact (BW.all h).congr (fun i _ => ⟨fun _ z => absurd z q, fun _ => trivial⟩)
/-- the rows' bits of a join -/
theorem opB_or {R : Prop} {a b : Bool} : ((R ∧ a = true) ∨ (R ∧ b = true)) ↔ (R ∧ opB 1 a b = true) := by cases a <;> cases b <;> simp [opB]
theorem opB_not {R : Prop} {a b : Bool} : ((R ∧ a = true) ∧ ¬ (R ∧ b = true)) ↔ (R ∧ opB 3 a b = true) := by cases a <;> cases b <;> simp [opB]
theorem opB_and {R : Prop} {a b : Bool} {r : Nat} (h1 : ¬ r = 1) (h3 : ¬ r = 3) : ((R ∧ a = true) ∧ (R ∧ b = true)) ↔ (R ∧ opB r a b = true) := by
  unfold opB
  rw [if_neg h1, if_neg h3]
  cases a <;> cases b <;> simp
/-- the rows that a node found -/
def NRw (fn : Nat → Option Nat) (V : Nat → Nat → Bool) (k : Nat) (h : xw_A) : Prop := ∀ i, i < k → ∃ (a : Nat) (l r : Option Nat) (z0 z1 z2 z3 z4 z5 z6 : Int32), fn i = some a ∧ h a = some (.inr (2, [.int z0, va_rf l, va_rf r, .int z1, .int z2, .int z3, .int z4, .int z5, .int z6])) ∧ BW z6 (fun q => (1 ≤ q ∧ q ≤ 24) ∧ V q i = true)
theorem NdT.rows {fn : Nat → Option Nat} {gr : List GRt} {nds : List NDt} {h h' : xw_A} {a i : Nat} {l r : Option Nat} {k z0 z1 z2 z3 z4 z5 w5 : Int32} (K : NdT fn gr nds h) (rr : FrO [a] h h') (hi : i < 24) (ha : fn i = some a) (inj : ∀ i j, i < 24 → j < 24 → fn i = fn j → i = j) (hn : nds.length ≤ 24) (e : h a = some (.inr (2, [.int k, va_rf l, va_rf r, .int z0, .int z1, .int z2, .int z3, .int z4, .int z5]))) (e' : h' a = some (.inr (2, [.int k, va_rf l, va_rf r, .int z0, .int z1, .int z2, .int z3, .int z4, .int w5]))) : NdT fn gr nds h' := fun j x hx => by
  obtain ⟨b, l2, r2, k2, y0, y1, y2, y3, y4, y5, e1, e2, e3⟩ := K j x hx
  by_cases q : b = a
  · subst q
    rw [e] at e2
    simp only [Option.some.injEq, Sum.inr.injEq, Prod.mk.injEq, List.cons.injEq, Value.int.injEq, true_and, and_true] at e2
    obtain ⟨rfl, hl, hr, rfl, rfl, rfl, rfl, rfl, rfl⟩ := e2
    refine ⟨b, l2, r2, k, z0, z1, z2, z3, z4, w5, e1, ?_, e3⟩
    rw [e', hl, hr]
  · exact ⟨b, l2, r2, k2, y0, y1, y2, y3, y4, y5, e1, rr _ _ (nm1 q) e2, e3⟩
theorem NRw.rows {fn : Nat → Option Nat} {V : Nat → Nat → Bool} {i : Nat} {h h' : xw_A} {a : Nat} {l r : Option Nat} {k z0 z1 z2 z3 z4 w5 : Int32} (K : NRw fn V i h) (rr : FrO [a] h h') (hi : i < 24) (ha : fn i = some a) (inj : ∀ i j, i < 24 → j < 24 → fn i = fn j → i = j) (e' : h' a = some (.inr (2, [.int k, va_rf l, va_rf r, .int z0, .int z1, .int z2, .int z3, .int z4, .int w5]))) (hb : BW w5 (fun q => (1 ≤ q ∧ q ≤ 24) ∧ V q i = true)) : NRw fn V (i + 1) h' := fun j hj => by
  by_cases q : j = i
  · subst q
    exact ⟨a, l, r, k, z0, z1, z2, z3, z4, w5, ha, e', hb⟩
  · obtain ⟨b, l2, r2, y0, y1, y2, y3, y4, y5, y6, e1, e2, e3⟩ := K j (by omega)
    exact ⟨b, l2, r2, y0, y1, y2, y3, y4, y5, y6, e1, rr _ _ (nm1 (fun z => q (inj j i (by omega) hi (by rw [e1, ha, z])))) e2, e3⟩
/-- the groups that are read are in order -/
def OKg (y : GRt) (k : Nat) : Prop := y.2.1 < y.2.2.1 ∧ y.2.2.1 ≤ k ∧ y.2.2.2.1 ≤ 3 ∧ y.2.2.2.2 < 100 ∧ (y.1 = 2 ∨ (y.1 ≤ 1 ∧ y.2.2.1 = y.2.1 + 1))
def OKS (s : PSt) : Prop := ∀ (g : Nat) (y : GRt), s.2.2[g]? = some y → OKg y s.2.1.length
theorem OKS.add {p p' : Nat} {ph ph' : List PHt} {gr : List GRt} {y : GRt} (h : OKS (p, ph, gr)) (hl : ph.length ≤ ph'.length) (hy : OKg y ph'.length) : OKS (p', ph', gr ++ [y]) := fun g z hz => by
  by_cases q : g < gr.length
  · have hz2 : gr[g]? = some z := by rw [← hz]; exact (List.getElem?_append_left q).symm
    obtain ⟨a1, a2, a3⟩ := h g z hz2
    exact ⟨a1, Nat.le_trans a2 hl, a3⟩
  · have hz2 : (gr ++ [y])[g]? = some z := hz
    rw [List.getElem?_append_right (by omega)] at hz2
    have hg : g - gr.length = 0 := by
      have := (List.getElem?_eq_some_iff.mp hz2).1
      simp only [List.length_cons, List.length_nil] at this
      omega
    rw [hg] at hz2
    obtain rfl : y = z := by simpa using hz2
    exact hy
theorem dig_le {c : Int32} (h : dig c = true) : c.toNatClampNeg - 48 ≤ 9 := by
  unfold dig at h
  simp only [Bool.and_eq_true, decide_eq_true_eq] at h
  have h2 := h.2
  have e : c.toInt ≤ 57 := by
    have := Int32.not_lt.mp h2
    rw [Int32.le_iff_toInt_le] at this
    exact this
  have e2 : c.toNatClampNeg = c.toInt.toNat := rfl
  rw [e2]
  omega
theorem rdN_lt {t : Nat → Int32} {n p d : Nat} (h : rdN t n p = some d) : d < 100 := by
  unfold rdN at h
  by_cases q : (kdP t n p = 2 ∨ kdP t n p = 3) ∧ dig (t (bl t n p)) = true ∧ (skP t n p = bl t n p + 1 ∨ (skP t n p = bl t n p + 2 ∧ dig (t (bl t n p + 1)) = true))
  · rw [if_pos q] at h
    have d1 := dig_le q.2.1
    by_cases q2 : skP t n p = bl t n p + 1
    · rw [if_pos q2] at h
      have := Option.some.inj h
      omega
    · rw [if_neg q2] at h
      have d2 := dig_le (q.2.2.resolve_left q2).2
      have := Option.some.inj h
      omega
  · rw [if_neg q] at h; cases h
theorem near_ok {t : Nat → Int32} {n p p' d : Nat} {ph ph' : List PHt} (h : rdNear t n p ph = some (p', ph', d)) : ph.length < ph'.length ∧ d < 100 := by
  unfold rdNear at h
  by_cases q : kdP t n p = 9
  · rw [if_pos q] at h
    cases hs : rdPh t n ph.length (skP t n p) with
    | none => rw [hs] at h; cases h
    | some y =>
      obtain ⟨p1, x⟩ := y
      rw [hs] at h
      dsimp only at h
      cases hp : rdPs t n 96 p1 (ph ++ [x]) with
      | none => rw [hp] at h; cases h
      | some y =>
        obtain ⟨p2, ph2⟩ := y
        rw [hp] at h
        dsimp only at h
        have l := ps_len hp
        rw [List.length_append, List.length_singleton] at l
        by_cases q2 : kdP t n p2 = 13
        · rw [if_pos q2] at h
          cases hn : rdN t n (skP t n p2) with
          | none => rw [hn] at h; cases h
          | some y =>
            rw [hn] at h
            dsimp only at h
            have hd := rdN_lt hn
            by_cases q3 : kdP t n (skP t n (skP t n p2)) = 10
            · rw [if_pos q3] at h
              simp only [Option.some.injEq, Prod.mk.injEq] at h
              obtain ⟨-, rfl, rfl⟩ := h
              exact ⟨by omega, hd⟩
            · rw [if_neg q3] at h; cases h
        · rw [if_neg q2] at h
          by_cases q3 : kdP t n p2 = 10
          · rw [if_pos q3] at h
            simp only [Option.some.injEq, Prod.mk.injEq] at h
            obtain ⟨-, rfl, rfl⟩ := h
            exact ⟨by omega, by omega⟩
          · rw [if_neg q3] at h; cases h
  · rw [if_neg q] at h; cases h
theorem gp_ok {t : Nat → Int32} {n c : Nat} {s s' : PSt} {g : Nat} (hc : c ≤ 3) (hs : OKS s) (h : gpP t n c s = some (s', g)) : OKS s' := by
  obtain ⟨p, ph, gr⟩ := s
  unfold gpP at h
  by_cases q : kdP t n p = 8
  · rw [if_pos (show kdP t n (p, ph, gr).1 = 8 from q)] at h
    cases hr : rdNear t n (skP t n (p, ph, gr).1) (p, ph, gr).2.1 with
    | none => rw [hr] at h; cases h
    | some y =>
      obtain ⟨p1, ph1, d⟩ := y
      rw [hr] at h
      obtain ⟨l, hd⟩ := near_ok hr
      have l2 : ph.length < ph1.length := l
      simp only [Option.some.injEq, Prod.mk.injEq] at h
      rw [← h.1]
      exact hs.add (by omega) ⟨l2, Nat.le_refl _, hc, hd, Or.inl rfl⟩
  · rw [if_neg (show ¬ kdP t n (p, ph, gr).1 = 8 from q)] at h
    cases hr : rdPh t n (p, ph, gr).2.1.length (if kdP t n (p, ph, gr).1 = 12 then skP t n (p, ph, gr).1 else (p, ph, gr).1) with
    | none => rw [hr] at h; cases h
    | some y =>
      obtain ⟨p1, x⟩ := y
      rw [hr] at h
      simp only [Option.some.injEq, Prod.mk.injEq] at h
      rw [← h.1]
      refine hs.add (by rw [List.length_append]; omega) ⟨Nat.lt_succ_self _, by rw [List.length_append]; exact Nat.le_refl _, hc, by show 10 < 100; omega, Or.inr ⟨?_, rfl⟩⟩
      show (if kdP t n p = 12 then 1 else 0) ≤ 1
      split <;> omega
theorem fl_ok {t : Nat → Int32} {n pm : Nat} {s s' : PSt} (hs : OKS s) (h : flP t n s = some (pm, s')) : OKS s' := by
  unfold flP at h
  cases hr : flN t n (if kdP t n s.1 = 11 then skP t n s.1 else s.1) with
  | none => rw [hr] at h; cases h
  | some y =>
    obtain ⟨a, p'⟩ := y
    rw [hr] at h
    simp only [Option.some.injEq, Prod.mk.injEq] at h
    rw [← h.2]
    exact hs
def IVX (x : PSt → Option (PSt × List EV)) : Prop := ∀ s s' e, OKS s → x s = some (s', e) → OKS s'
section IvH
variable {t : Nat → Int32} {n : Nat}
theorem lp_IV {x : PSt → Option (PSt × List EV)} {r : Nat} (hx : IVX x) : ∀ (f : Nat) (s : PSt) (e : List EV) (s' : PSt) (e' : List EV), OKS s → lpJ (kdS t n) (skS t n) x r f s e = some (s', e') → OKS s' := by
  intro f
  induction f with
  | zero =>
    intro s e s' e' hs h
    rw [lpJ] at h
    obtain ⟨rfl, -⟩ : s = s' ∧ e = e' := by simpa using h
    exact hs
  | succ f ih =>
    intro s e s' e' hs h
    rw [lpJ] at h
    by_cases q : goes r (kdS t n s) = true
    · rw [if_pos q] at h
      have hs2 : OKS (if r = 4 then s else skS t n s) := by
        split
        · exact hs
        · exact hs
      cases hxs : x (if r = 4 then s else skS t n s) with
      | none => rw [hxs] at h; simp at h
      | some y =>
        obtain ⟨s2, e2⟩ := y
        rw [hxs] at h
        exact ih s2 _ s' e' (hx _ _ _ hs2 hxs) h
    · rw [if_neg q] at h
      obtain ⟨rfl, -⟩ : s = s' ∧ e = e' := by simpa using h
      exact hs
theorem jn_IV {x : PSt → Option (PSt × List EV)} {r f : Nat} (hx : IVX x) : IVX (jnX (kdS t n) (skS t n) x r f) := fun s s' e hs h => by
  rw [jnX] at h
  cases hxs : x s with
  | none => rw [hxs] at h; simp at h
  | some y =>
    obtain ⟨s2, e2⟩ := y
    rw [hxs] at h
    exact lp_IV hx f s2 e2 s' e (hx _ _ _ hs hxs) h
theorem jn1_IV {x : PSt → Option (PSt × List EV)} {b : Nat} (hx : IVX x) : IVX (jn1 (kdS t n) (skS t n) b x) := jn_IV (jn_IV (jn_IV (jn_IV hx)))
theorem at_IV : ∀ (f c d : Nat), c ≤ 3 → IVX (aT t n f c d) := by
  intro f
  induction f with
  | zero => intro c d _ s s' e _ h; exact absurd (show (none : Option (PSt × List EV)) = some (s', e) from h) (fun z => nomatch z)
  | succ f ih =>
    intro c d hc s s' e hs h
    by_cases hp : dpr (kdS t n s) = true
    · by_cases h8 : 8 ≤ d
      · rw [at_8 hp h8] at h; cases h
      · rw [at_d hp (by omega)] at h
        unfold dpF at h
        by_cases h9 : kdS t n s = 9
        · rw [if_pos h9] at h
          cases hj : j1T t n f c (d + 1) (skS t n s) with
          | none => rw [hj] at h; cases h
          | some y =>
            obtain ⟨s2, e2⟩ := y
            rw [hj] at h
            dsimp only at h
            have k2 : OKS s2 := jn1_IV (ih c (d + 1) hc) (skS t n s) s2 e2 hs hj
            by_cases h10 : kdS t n s2 = 10
            · rw [if_pos h10] at h
              obtain ⟨rfl, -⟩ : skS t n s2 = s' ∧ e2 = e := by simpa using h
              exact k2
            · rw [if_neg h10] at h; cases h
        · rw [if_neg h9] at h
          cases hf : flP t n s with
          | none => rw [hf] at h; cases h
          | some y =>
            obtain ⟨pm, s2⟩ := y
            rw [hf] at h
            exact ih _ _ (and3 hc) _ _ _ (fl_ok hs hf) h
    · cases hgs : gpP t n c s with
      | none => rw [at_gn (bF hp) hgs] at h; cases h
      | some y =>
        obtain ⟨s2, g⟩ := y
        rw [at_gy (bF hp) hgs] at h
        obtain ⟨rfl, -⟩ : s2 = s' ∧ [(0, g)] = e := by simpa using h
        exact gp_ok hc hs hgs
theorem read_ok {s' : PSt} {e : List EV} (h : j1T t n 9 3 0 (0, [], []) = some (s', e)) : OKS s' := jn1_IV (at_IV 9 3 0 (by omega)) _ _ _ (fun g y hy => by cases hy) h
end IvH
theorem va_rf_inj {a b : Option Nat} (h : va_rf a = va_rf b) : a = b := by
  cases a with
  | none => cases b with
    | none => rfl
    | some b => cases h
  | some a => cases b with
    | none => cases h
    | some b => cases h; rfl
/-- the rows from 1 to k that P names -/
noncomputable def fL (P : Nat → Prop) : Nat → List Nat
  | 0 => []
  | k + 1 => (Classical.propDecidable (P (k + 1))).casesOn (fun _ => fL P k) (fun _ => fL P k ++ [k + 1])
theorem fL_y {P : Nat → Prop} {k : Nat} (h : P (k + 1)) : fL P (k + 1) = fL P k ++ [k + 1] := by
  rw [fL]
  cases Classical.propDecidable (P (k + 1)) with
  | isFalse q => exact absurd h q
  | isTrue q => rfl
theorem fL_n {P : Nat → Prop} {k : Nat} (h : ¬ P (k + 1)) : fL P (k + 1) = fL P k := by
  rw [fL]
  cases Classical.propDecidable (P (k + 1)) with
  | isFalse q => rfl
  | isTrue q => exact absurd q h
theorem fL_congr {P R : Nat → Prop} : ∀ k, (∀ r, 1 ≤ r → r ≤ k → (P r ↔ R r)) → fL P k = fL R k := by
  intro k
  induction k with
  | zero => intro _; rfl
  | succ k ih =>
    intro h
    have e := ih (fun r h1 h2 => h r h1 (by omega))
    by_cases q : P (k + 1)
    · rw [fL_y q, fL_y ((h (k + 1) (by omega) (by omega)).mp q), e]
    · rw [fL_n q, fL_n (fun z => q ((h (k + 1) (by omega) (by omega)).mpr z)), e]
def TkF (P : Nat → Prop) (TL : Nat → Nat) (k sz : Nat) (f1 : Nat → Int32) (f2 : Nat → UInt64) (f3 : Nat → Int32) : Prop := sz = (fL P k).length ∧ ∀ j r : Nat, (fL P k)[j]? = some r → f1 j = nI r ∧ f3 j = nI (TL r) ∧ f2 j = FP.dconst0
theorem TkF.no {P : Nat → Prop} {TL : Nat → Nat} {i sz : Nat} {f1 f3 : Nat → Int32} {f2 : Nat → UInt64} (h : TkF P TL (i - 1) sz f1 f2 f3) (hi : 1 ≤ i) (hp : ¬ P i) : TkF P TL (i + 1 - 1) sz f1 f2 f3 := by
  obtain ⟨k, rfl⟩ : ∃ k, i = k + 1 := ⟨i - 1, by omega⟩
  rw [Nat.add_sub_cancel] at h ⊢
  unfold TkF
  rw [fL_n hp]
  exact h
theorem TkF.yes {P : Nat → Prop} {TL : Nat → Nat} {i sz : Nat} {f1 f3 : Nat → Int32} {f2 : Nat → UInt64} {x3 : Int32} (h : TkF P TL (i - 1) sz f1 f2 f3) (hi : 1 ≤ i) (hp : P i) (h3 : x3 = nI (TL i)) : TkF P TL (i + 1 - 1) (sz + 1) (upd f1 sz (nI i)) (vf_upd f2 sz FP.dconst0) (upd f3 sz x3) := by
  obtain ⟨k, rfl⟩ : ∃ k, i = k + 1 := ⟨i - 1, by omega⟩
  rw [Nat.add_sub_cancel] at h ⊢
  unfold TkF
  rw [fL_y hp]
  refine ⟨by rw [List.length_append, List.length_singleton, ← h.1], fun j r hr => ?_⟩
  by_cases q : j = sz
  · subst q
    rw [h.1, List.getElem?_append_right (Nat.le_refl _), Nat.sub_self] at hr
    obtain rfl : k + 1 = r := by simpa using hr
    rw [pk_us, pk_us, vf_us]
    exact ⟨rfl, h3, rfl⟩
  · have hj : j < (fL P k).length := by
      have := (List.getElem?_eq_some_iff.mp hr).1
      rw [List.length_append, List.length_singleton, ← h.1] at this
      rw [← h.1]
      omega
    rw [List.getElem?_append_left hj] at hr
    rw [pk_un q, pk_un q, vf_un q]
    exact h.2 j r hr
def lqW (t : Nat → Int32) (ph : List PHt) (i : Nat) : Nat := match ph[i]? with
  | some x => (wds t x.1).length
  | none => 0
theorem lqW_at {t : Nat → Int32} {ph : List PHt} {i : Nat} {x : PHt} (h : ph[i]? = some x) : lqW t ph i = (wds t x.1).length := by
  unfold lqW
  rw [h]
/-- what the row r is to the question -/
def FdP (fd : Nat → Int32) (sg : PSt) (e : List EV) (TW : Nat → Nat → List (List Int32)) (er : Nat → Option Nat) (r : Nat) : Prop := er r ≠ none ∧ vAt (vlN (gB (QP fd sg.2.1 TW er) (lqW fd sg.2.1) sg.2.2 r) (lks e 0 []) []) (e.length - 1) = true
theorem lks_r {e : List EV} (hr : ∀ p ∈ e, p.1 ≤ 4) : ∀ (n : Nat) (st : List Nat) (i : Nat) (x : NDt), (lks e n st)[i]? = some x → x.1 ≤ 4 := by
  induction e with
  | nil => intro n st i x h; cases i <;> cases h
  | cons p e ih =>
    intro n st i x h
    rw [lks] at h
    cases i with
    | zero =>
      obtain rfl : ndS p st = x := by simpa using h
      unfold ndS
      split
      · exact Nat.zero_le _
      · exact hr p List.mem_cons_self
    | succ i => exact ih (fun q hq => hr q (List.mem_cons_of_mem _ hq)) _ _ i x (by simpa using h)
def R4X {S : Type} (x : S → Option (S × List EV)) : Prop := ∀ s s' e, x s = some (s', e) → ∀ p ∈ e, p.1 ≤ 4
section R4H
variable {S : Type} {kd : S → Nat} {sk : S → S}
theorem lp_R4 {x : S → Option (S × List EV)} {r : Nat} (hr : r ≤ 4) (hx : R4X x) : ∀ (f : Nat) (s : S) (e : List EV) (s' : S) (e' : List EV), (∀ p ∈ e, p.1 ≤ 4) → lpJ kd sk x r f s e = some (s', e') → ∀ p ∈ e', p.1 ≤ 4 := by
  intro f
  induction f with
  | zero =>
    intro s e s' e' he h
    rw [lpJ] at h
    obtain ⟨-, rfl⟩ : s = s' ∧ e = e' := by simpa using h
    exact he
  | succ f ih =>
    intro s e s' e' he h
    rw [lpJ] at h
    by_cases q : goes r (kd s) = true
    · rw [if_pos q] at h
      cases hxs : x (if r = 4 then s else sk s) with
      | none => rw [hxs] at h; simp at h
      | some y =>
        obtain ⟨s2, e2⟩ := y
        rw [hxs] at h
        refine ih s2 _ s' e' (fun p hp => ?_) h
        rcases List.mem_append.mp hp with hp | hp
        · rcases List.mem_append.mp hp with hp | hp
          · exact he p hp
          · exact hx _ _ _ hxs p hp
        · rw [List.mem_singleton.mp hp]; exact hr
    · rw [if_neg q] at h
      obtain ⟨-, rfl⟩ : s = s' ∧ e = e' := by simpa using h
      exact he
theorem jn_R4 {x : S → Option (S × List EV)} {r f : Nat} (hr : r ≤ 4) (hx : R4X x) : R4X (jnX kd sk x r f) := fun s s' e h => by
  rw [jnX] at h
  cases hxs : x s with
  | none => rw [hxs] at h; simp at h
  | some y =>
    obtain ⟨s2, e2⟩ := y
    rw [hxs] at h
    exact lp_R4 hr hx f s2 e2 s' e (hx _ _ _ hxs) h
end R4H
section R4I
variable {t : Nat → Int32} {n : Nat}
theorem j1_R4 {x : PSt → Option (PSt × List EV)} {b : Nat} (hx : R4X x) : R4X (jn1 (kdS t n) (skS t n) b x) := jn_R4 (by omega) (jn_R4 (by omega) (jn_R4 (by omega) (jn_R4 (by omega) hx)))
theorem at_R4 : ∀ (f c d : Nat), R4X (aT t n f c d) := by
  intro f
  induction f with
  | zero => intro c d s s' e h; exact absurd (show (none : Option (PSt × List EV)) = some (s', e) from h) (fun z => nomatch z)
  | succ f ih =>
    intro c d s s' e h
    by_cases hp : dpr (kdS t n s) = true
    · by_cases h8 : 8 ≤ d
      · rw [at_8 hp h8] at h; cases h
      · rw [at_d hp (by omega)] at h
        unfold dpF at h
        by_cases h9 : kdS t n s = 9
        · rw [if_pos h9] at h
          cases hj : j1T t n f c (d + 1) (skS t n s) with
          | none => rw [hj] at h; cases h
          | some y =>
            obtain ⟨s2, e2⟩ := y
            rw [hj] at h
            dsimp only at h
            by_cases h10 : kdS t n s2 = 10
            · rw [if_pos h10] at h
              obtain ⟨-, rfl⟩ : skS t n s2 = s' ∧ e2 = e := by simpa using h
              exact j1_R4 (ih c (d + 1)) _ _ _ hj
            · rw [if_neg h10] at h; cases h
        · rw [if_neg h9] at h
          cases hf : flP t n s with
          | none => rw [hf] at h; cases h
          | some y =>
            obtain ⟨pm, s2⟩ := y
            rw [hf] at h
            exact ih _ _ _ _ _ h
    · cases hgs : gpP t n c s with
      | none => rw [at_gn (bF hp) hgs] at h; cases h
      | some y =>
        obtain ⟨s2, g⟩ := y
        rw [at_gy (bF hp) hgs] at h
        obtain ⟨-, rfl⟩ : s2 = s' ∧ [(0, g)] = e := by simpa using h
        intro p hp2
        rw [List.mem_singleton.mp hp2]
        exact Nat.zero_le _
/-- the nodes of a question that was read -/
theorem read_lk {s' : PSt} {e : List EV} (h : j1T t n 9 3 0 (0, [], []) = some (s', e)) : ∀ (i : Nat) (x : NDt), (lks e 0 [])[i]? = some x → ¬ x.1 = 0 → (x.2.1 < i ∧ x.2.2 < i) ∧ 1 ≤ x.1 ∧ x.1 ≤ 4 := fun i x hx h0 => by
  have L := dp_LK.1 _ _ _ h
  have l := L.2.2 0 i x hx h0
  have r := lks_r (j1_R4 (at_R4 9 3 0) _ _ _ h) 0 [] i x hx
  omega
end R4I
