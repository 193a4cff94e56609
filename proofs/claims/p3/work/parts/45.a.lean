/-! the reference in general states: by program (wip/tools/gen3.py, gen4.py, gen5.py) -/
/-! THE REFERENCE: tokens of a text -/
/-- k tokens that stand in the letters from b on, i of them -/
def TokW (fb fl : Nat → Int32) (k b i : Nat) : Prop := ∀ j, j < k → ∃ x y, fb j = nI x ∧ fl j = nI y ∧ b ≤ x ∧ x < y ∧ y ≤ b + i
theorem TokW.mono {fb fl : Nat → Int32} {k b i : Nat} (h : TokW fb fl k b i) : TokW fb fl k b (i + 1) := fun j hj => by
  obtain ⟨x, y, h1, h2, h3, h4, h5⟩ := h j hj
  exact ⟨x, y, h1, h2, h3, h4, by omega⟩
theorem TokW.new {fb fl : Nat → Int32} {k b i : Nat} (h : TokW fb fl k b i) : TokW (upd fb k (nI (b + i))) (upd fl k (nI (b + i + 1))) (k + 1) b (i + 1) := fun j hj => by
  by_cases q : j = k
  · subst q
    exact ⟨b + i, b + i + 1, pk_us, pk_us, by omega, by omega, by omega⟩
  · obtain ⟨x, y, h1, h2, h3, h4, h5⟩ := h j (by omega)
    exact ⟨x, y, by rw [pk_un q]; exact h1, by rw [pk_un q]; exact h2, h3, h4, by omega⟩
theorem TokW.ext {fb fl : Nat → Int32} {k b i : Nat} (h : TokW fb fl (k + 1) b i) : TokW fb (upd fl k (nI (b + i + 1))) (k + 1) b (i + 1) := fun j hj => by
  obtain ⟨x, y, h1, h2, h3, h4, h5⟩ := h j hj
  by_cases q : j = k
  · subst q
    exact ⟨x, b + i + 1, h1, pk_us, h3, by omega, by omega⟩
  · exact ⟨x, y, h1, by rw [pk_un q]; exact h2, h3, h4, by omega⟩
/-- the reference's tokens of the letters from b on, i of them: where they begin and end, their letters -/
def TokX (ft : Nat → Int32) (b : Nat) (fb fl : Nat → Int32) (i : Nat) : Prop := ∀ s, s < tokN (fun j => ft (b + j)) i → ∃ x, fb s = nI x ∧ fl s = nI (x + tkL (fun j => ft (b + j)) i s) ∧ b ≤ x ∧ x + tkL (fun j => ft (b + j)) i s ≤ b + i ∧ (s + 1 = tokN (fun j => ft (b + j)) i → ¬ i = 0 → isW (ft (b + (i - 1))) = true → x + tkL (fun j => ft (b + j)) i s = b + i) ∧ ∀ k, k < tkL (fun j => ft (b + j)) i s → lowc (ft (x + k)) = tkC (fun j => ft (b + j)) i s k
theorem TokX.no {ft : Nat → Int32} {b i : Nat} {fb fl : Nat → Int32} (h : TokX ft b fb fl i) (w : isW (ft (b + i)) = false) : TokX ft b fb fl (i + 1) := fun s hs => by
  have w2 : isW ((fun j => ft (b + j)) i) = false := w
  rw [tokN_n (t := fun j => ft (b + j)) (i := i) (Or.inl w2)] at hs
  obtain ⟨x, h1, h2, h3, h4, h5, h6⟩ := h s hs
  have e1 : tkL (fun j => ft (b + j)) (i + 1) s = tkL (fun j => ft (b + j)) i s := tkL_n (fun q => by rw [w2] at q; exact absurd q.1 (by decide))
  refine ⟨x, h1, by rw [e1]; exact h2, h3, by rw [e1]; omega, fun _ _ q => ?_, fun k hk => ?_⟩
  · rw [Nat.add_sub_cancel, w] at q
    exact absurd q (by decide)
  · rw [e1] at hk
    rw [tkC_n (fun q => by rw [w2] at q; exact absurd q.1 (by decide))]
    exact h6 k hk
theorem TokX.ext {ft : Nat → Int32} {b i k0 : Nat} {fb fl : Nat → Int32} (h : TokX ft b fb fl i) (w : isW (ft (b + i)) = true) (hi : ¬ i = 0) (hp : isW (ft (b + (i - 1))) = true) (hk : k0 + 1 = tokN (fun j => ft (b + j)) i) : TokX ft b fb (upd fl k0 (nI (b + i + 1))) (i + 1) := fun s hs => by
  have w2 : isW ((fun j => ft (b + j)) i) = true := w
  have et : tokN (fun j => ft (b + j)) (i + 1) = tokN (fun j => ft (b + j)) i := tokN_n (t := fun j => ft (b + j)) (i := i) (Or.inr ⟨hi, hp⟩)
  rw [et] at hs
  obtain ⟨x, h1, h2, h3, h4, h5, h6⟩ := h s hs
  by_cases q : s = k0
  · subst q
    have e0 := h5 hk hi hp
    have e1 : tkL (fun j => ft (b + j)) (i + 1) s = tkL (fun j => ft (b + j)) i s + 1 := tkL_y w2 (by rw [et]; exact hk)
    refine ⟨x, h1, ?_, h3, by omega, fun _ _ _ => by omega, fun k hk2 => ?_⟩
    · rw [pk_us, e1]
      congr 1
      omega
    · by_cases qk : k = tkL (fun j => ft (b + j)) i s
      · subst qk
        rw [tkC_y (t := fun j => ft (b + j)) (i := i) (s := s) w2 (by rw [et]; exact hk), e0]
      · rw [tkC_n (fun z => qk z.2.2)]
        exact h6 k (by omega)
  · have e1 : tkL (fun j => ft (b + j)) (i + 1) s = tkL (fun j => ft (b + j)) i s := tkL_n (fun z => q (by have := z.2; rw [et] at this; omega))
    refine ⟨x, h1, by rw [pk_un q, e1]; exact h2, h3, by omega, fun z => absurd z (by rw [et]; omega), fun k hk2 => ?_⟩
    rw [tkC_n (fun z => q (by have := z.2.1; rw [et] at this; omega))]
    exact h6 k (by omega)
theorem TokX.new {ft : Nat → Int32} {b i k : Nat} {fb fl : Nat → Int32} (h : TokX ft b fb fl i) (w : isW (ft (b + i)) = true) (hp : i = 0 ∨ isW (ft (b + (i - 1))) = false) (hk : k = tokN (fun j => ft (b + j)) i) : TokX ft b (upd fb k (nI (b + i))) (upd fl k (nI (b + i + 1))) (i + 1) := fun s hs => by
  have w2 : isW ((fun j => ft (b + j)) i) = true := w
  have et : tokN (fun j => ft (b + j)) (i + 1) = tokN (fun j => ft (b + j)) i + 1 := tokN_y (t := fun j => ft (b + j)) (i := i) w2 hp
  rw [et] at hs
  by_cases q : s = k
  · subst q
    have e0 : tkL (fun j => ft (b + j)) i s = 0 := tkL_0 _ i s (by omega)
    have e1 : tkL (fun j => ft (b + j)) (i + 1) s = 1 := by rw [tkL_y (t := fun j => ft (b + j)) (i := i) (s := s) w2 (by rw [et]; omega), e0]
    refine ⟨b + i, pk_us, by rw [pk_us, e1], by omega, by omega, fun _ _ _ => by omega, fun k2 hk2 => ?_⟩
    obtain rfl : k2 = 0 := by omega
    have e2 := tkC_y (t := fun j => ft (b + j)) (i := i) (s := s) w2 (by rw [et]; omega)
    rw [e0] at e2
    rw [e2]
    rfl
  · obtain ⟨x, h1, h2, h3, h4, h5, h6⟩ := h s (by omega)
    have e1 : tkL (fun j => ft (b + j)) (i + 1) s = tkL (fun j => ft (b + j)) i s := tkL_n (fun z => by have := z.2; omega)
    refine ⟨x, by rw [pk_un q]; exact h1, by rw [pk_un q, e1]; exact h2, h3, by omega, fun z => absurd z (by rw [et]; omega), fun k2 hk2 => ?_⟩
    rw [tkC_n (fun z => by have := z.2.1; omega)]
    exact h6 k2 (by omega)
theorem TokX.alike {ft : Nat → Int32} {b n u j x1 y1 x2 y2 : Nat} {fb fl : Nat → Int32} (h : TokX ft b fb fl n) (hu : u < tokN (fun j => ft (b + j)) n) (hj : j < tokN (fun j => ft (b + j)) n) (hbn : b + n ≤ 2304) (hx1 : fb u = nI x1) (hy1 : fl u = nI y1) (hx2 : fb j = nI x2) (hy2 : fl j = nI y2) (b1 : x1 ≤ 2304) (b2 : y1 ≤ 2304) (b3 : x2 ≤ 2304) (b4 : y2 ≤ 2304) :
    (y1 - x1 = y2 - x2 ∧ ∀ k, k < y1 - x1 → lowc (ft (x1 + k)) = lowc (ft (x2 + k))) ↔ tkE (fun j => ft (b + j)) n u j := by
  obtain ⟨x, c1, c2, c3, c4, -, c6⟩ := h u hu
  obtain ⟨x', d1, d2, d3, d4, -, d6⟩ := h j hj
  obtain rfl : x1 = x := (nI_eq (by omega) (by omega)).mp (hx1.symm.trans c1)
  obtain rfl : x2 = x' := (nI_eq (by omega) (by omega)).mp (hx2.symm.trans d1)
  have e1 := (nI_eq (by omega) (by omega)).mp (hy1.symm.trans c2)
  have e2 := (nI_eq (by omega) (by omega)).mp (hy2.symm.trans d2)
  refine ⟨fun z => ⟨by omega, fun k hk => ?_⟩, fun z => ⟨by have := z.1; omega, fun k hk => ?_⟩⟩
  · rw [← c6 k hk, ← d6 k (by omega)]
    exact z.2 k (by omega)
  · have := z.1
    rw [c6 k (by omega), d6 k (by omega)]
    exact z.2 k (by omega)
/-- how many entries the first c columns of the row r have -/
noncomputable def tkS2 (ft fz : Nat → Int32) (r : Nat) : Nat → Nat
  | 0 => 0
  | c + 1 => tkS2 ft fz r c + tkD (fun j => ft (96 * r + 48 * c + j)) (fz (2 * r + c)).toNatClampNeg (tokN (fun j => ft (96 * r + 48 * c + j)) (fz (2 * r + c)).toNatClampNeg)
def OpP (m begins_ lasts_ : Nat) (gs : List Value) (ft : Nat → Int32) (b n : Nat) (h0 h : xw_A) : Prop := ∃ (k : Nat) (fb fl : Nat → Int32) (fs : List Value), fs.length = 62 ∧ h m = some (.inr (11, fs)) ∧ fs[(55 : Nat)]? = some (.int (nI k)) ∧ (∀ i : Nat, i ∉ [55] → fs[i]? = gs[i]?) ∧ h begins_ = some (.inl (0, 24, .inl fb)) ∧ h lasts_ = some (.inl (0, 24, .inl fl)) ∧ TokW fb fl k b n ∧ k = tokN (fun j => ft (b + j)) n ∧ TokX ft b fb fl n ∧ FrO [m, begins_, lasts_] h0 h
/-- how many of the first rows are live -/
def cntL (f : Nat → Int32) : Nat → Nat
  | 0 => 0
  | i + 1 => cntL f i + (if ¬ f i < 0 then 1 else 0)
theorem cntL_le (f : Nat → Int32) : ∀ i, cntL f i ≤ i := by
  intro i
  induction i with
  | zero => exact Nat.le_refl _
  | succ i ih =>
    rw [cntL]
    split <;> omega
/-! SEGMENTS: how many of a level, what a gathering leaves -/
def cntE (g : Nat → Int32) : Nat → Int32 → Nat
  | 0, _ => 0
  | n + 1, x => cntE g n x + (if g n = x then 1 else 0)
theorem cntE_congr {g g' : Nat → Int32} {x : Int32} : ∀ n, (∀ k, k < n → g k = g' k) → cntE g n x = cntE g' n x := by
  intro n
  induction n with
  | zero => intro _; rfl
  | succ n ih =>
    intro h
    rw [cntE, cntE, ih (fun k hk => h k (by omega)), h n (by omega)]
theorem cntE_le (g : Nat → Int32) (x : Int32) : ∀ n, cntE g n x ≤ n := by
  intro n
  induction n with
  | zero => exact Nat.le_refl _
  | succ n ih =>
    rw [cntE]
    split <;> omega
abbrev kpx (wh x : Int32) : Prop := wh = -2 ∨ (¬ wh < 0 ∧ ¬ x = wh)
def lev (fL fr : Nat → Int32) (k : Nat) : Int32 := fL (fr k).toNatClampNeg
def RowI (wh : Int32) (fL fr0 fr : Nat → Int32) (md i lf : Nat) : Prop :=
  lf ≤ i ∧ (∀ k, i ≤ k → fr k = fr0 k) ∧ (∀ k, k < lf → ∃ s, s < md ∧ fr k = nI s) ∧ (∀ x, cntE (lev fL fr) lf x = if kpx wh x then cntE (lev fL fr0) i x else 0) ∧ (wh = -2 → lf = i) ∧ (¬ wh < 0 → lf + cntE (lev fL fr0) i wh = i) ∧ (wh = -1 → lf = 0)
theorem RowI.zero {wh : Int32} {fL fr0 : Nat → Int32} {md : Nat} : RowI wh fL fr0 fr0 md 0 0 :=
  ⟨Nat.le_refl _, fun _ _ => rfl, fun k hk => absurd hk (Nat.not_lt_zero _), fun x => by show 0 = if kpx wh x then 0 else 0; split <;> rfl, fun _ => rfl, fun _ => rfl, fun _ => rfl⟩
theorem RowI.keep {wh : Int32} {fL fr0 fr : Nat → Int32} {md i lf : Nat} (R : RowI wh fL fr0 fr md i lf) (hk : kpx wh (lev fL fr0 i)) (hs : ∃ s, s < md ∧ fr0 i = nI s) : RowI wh fL fr0 (upd fr lf (fr i)) md (i + 1) (lf + 1) := by
  obtain ⟨h1, h2, h3, h4, h5, h6, h7⟩ := R
  have e : fr i = fr0 i := h2 i (Nat.le_refl _)
  refine ⟨by omega, fun k hq => ?_, fun k hq => ?_, fun x => ?_, fun q => by rw [h5 q], fun q => ?_, fun q => ?_⟩
  · rw [pk_un (by omega)]
    exact h2 k (by omega)
  · by_cases q : k = lf
    · subst q
      rw [pk_us, e]
      exact hs
    · rw [pk_un q]
      exact h3 k (by omega)
  · have c1 : cntE (lev fL (upd fr lf (fr i))) lf x = cntE (lev fL fr) lf x := cntE_congr lf (fun k hq => by unfold lev; rw [pk_un (by omega)])
    have c2 : lev fL (upd fr lf (fr i)) lf = lev fL fr0 i := by unfold lev; rw [pk_us, e]
    rw [cntE, c1, h4 x, c2, cntE]
    by_cases q : kpx wh x
    · rw [if_pos q, if_pos q]
    · rw [if_neg q, if_neg q, if_neg (fun z => q (by rw [← z]; exact hk))]
  · rw [cntE]
    have h8 := h6 q
    rw [if_neg (fun z => hk.elim (fun w => absurd q (by rw [w]; decide)) (fun w => w.2 z))]
    omega
  · rw [q] at hk
    exact absurd hk (fun w => w.elim (fun u => absurd u (by decide)) (fun u => u.1 (by decide)))
theorem RowI.skip {wh : Int32} {fL fr0 fr : Nat → Int32} {md i lf : Nat} (R : RowI wh fL fr0 fr md i lf) (hk : ¬ kpx wh (lev fL fr0 i)) : RowI wh fL fr0 fr md (i + 1) lf := by
  obtain ⟨h1, h2, h3, h4, h5, h6, h7⟩ := R
  refine ⟨by omega, fun k hq => h2 k (by omega), h3, fun x => ?_, fun q => absurd (Or.inl q) hk, fun q => ?_, h7⟩
  · rw [h4 x, cntE]
    by_cases q : kpx wh x
    · rw [if_pos q, if_pos q, if_neg (fun z => hk (by rw [z]; exact q)), Nat.add_zero]
    · rw [if_neg q, if_neg q]
  · have h8 := h6 q
    have e : lev fL fr0 i = wh := Decidable.not_not.mp (fun z => hk (Or.inr ⟨q, z⟩))
    rw [cntE, if_pos e]
    omega
/-- where the versions lie -/
def LieI (fi : Nat → Int32) (vs md c : Nat) : Prop := (∀ v, v < vs → fi v < 0 ∨ ∃ s, s < md + 1 ∧ fi v = nI s) ∧ (c = 0 → ∀ v, v < vs → fi v < 0 ∨ ∃ s, s < md ∧ fi v = nI s)
theorem LieI.stay {fi : Nat → Int32} {vs md c v : Nat} (h : LieI fi vs md c) : LieI (upd fi v (nI md)) vs md (c + 1) := ⟨fun w hw => by
  by_cases q : w = v
  · subst q
    exact Or.inr ⟨md, Nat.lt_succ_self _, pk_us⟩
  · rw [pk_un q]
    exact h.1 w hw, fun z => absurd z (Nat.succ_ne_zero _)⟩
theorem LieI.gone {fi : Nat → Int32} {vs md c v : Nat} (h : LieI fi vs md c) : LieI (upd fi v (-1)) vs md c := ⟨fun w hw => by
  by_cases q : w = v
  · subst q
    rw [pk_us]
    exact Or.inl (by decide)
  · rw [pk_un q]
    exact h.1 w hw, fun z w hw => by
  by_cases q : w = v
  · subst q
    rw [pk_us]
    exact Or.inl (by decide)
  · rw [pk_un q]
    exact h.2 z w hw⟩
theorem cntE_new {fL fr : Nat → Int32} {md lf : Nat} {to x : Int32} (h : ∀ k, k < lf → ∃ s, s < md ∧ fr k = nI s) (hm : md < 2 ^ 31) : cntE (lev (upd fL md to) (upd fr lf (nI md))) (lf + 1) x = cntE (lev fL fr) lf x + (if to = x then 1 else 0) := by
  have c1 : cntE (lev (upd fL md to) (upd fr lf (nI md))) lf x = cntE (lev fL fr) lf x := cntE_congr lf (fun k hk => by
    obtain ⟨s, h1, h2⟩ := h k hk
    have e1 : upd fr lf (nI md) k = fr k := pk_un (by omega)
    unfold lev
    rw [e1, h2, nI_clamp (by omega)]
    exact pk_un (by omega))
  have c2 : lev (upd fL md to) (upd fr lf (nI md)) lf = to := by unfold lev; rw [pk_us, nI_clamp hm, pk_us]
  rw [cntE, c1, c2]
/-! what a gathering tells -/
def liv (fv : Nat → Int32) (x : Int32) : Prop := ∃ r, r < 24 ∧ fv r = x
def hre (wh : Int32) (fL fi : Nat → Int32) (v : Nat) : Prop := (wh = -2 ∧ fi v = -2) ∨ (¬ wh = -2 ∧ ¬ fi v < 0 ∧ (wh < 0 ∨ fL (fi v).toNatClampNeg = wh))
theorem hre_eq {wh : Int32} {fL fi fj : Nat → Int32} {v : Nat} (e : fi v = fj v) : hre wh fL fi v ↔ hre wh fL fj v := by unfold hre; rw [e]
def stq (fe fv : Nat → Int32) (v : Nat) : Prop := liv fv (nI v) ∧ ¬ fe v ≤ 0
def LieV (fe fv fL fi0 : Nat → Int32) (wh : Int32) (md : Nat) (fi : Nat → Int32) (i c : Nat) : Prop :=
  (∀ v, i ≤ v → fi v = fi0 v) ∧ (∀ v, v < i → (¬ hre wh fL fi0 v ∧ fi v = fi0 v) ∨ (hre wh fL fi0 v ∧ stq fe fv v ∧ fi v = nI md) ∨ (hre wh fL fi0 v ∧ ¬ stq fe fv v ∧ fi v = -1)) ∧ (c = 0 ↔ ∀ v, v < i → ¬ (hre wh fL fi0 v ∧ stq fe fv v))
theorem LieV.zero {fe fv fL fi0 : Nat → Int32} {wh : Int32} {md : Nat} : LieV fe fv fL fi0 wh md fi0 0 0 := ⟨fun _ _ => rfl, fun v hv => absurd hv (Nat.not_lt_zero _), fun _ v hv => absurd hv (Nat.not_lt_zero _), fun _ => rfl⟩
theorem LieV.skip {fe fv fL fi0 fi : Nat → Int32} {wh : Int32} {md i c : Nat} (k : LieV fe fv fL fi0 wh md fi i c) (hn : ¬ hre wh fL fi i) : LieV fe fv fL fi0 wh md fi (i + 1) c := by
  have e := k.1 i (Nat.le_refl _)
  rw [hre_eq e] at hn
  refine ⟨fun v hv => k.1 v (by omega), fun v hv => ?_, ⟨fun q v hv => ?_, fun q => k.2.2.mpr (fun v hv => q v (by omega))⟩⟩
  · by_cases q : v = i
    · rw [q]; exact Or.inl ⟨hn, e⟩
    · exact k.2.1 v (by omega)
  · by_cases q2 : v = i
    · rw [q2]; exact fun z => hn z.1
    · exact k.2.2.mp q v (by omega)
theorem LieV.gone {fe fv fL fi0 fi : Nat → Int32} {wh : Int32} {md i c : Nat} (k : LieV fe fv fL fi0 wh md fi i c) (hn : hre wh fL fi i) (hs : ¬ stq fe fv i) : LieV fe fv fL fi0 wh md (upd fi i (-1)) (i + 1) c := by
  have e := k.1 i (Nat.le_refl _)
  rw [hre_eq e] at hn
  refine ⟨fun v hv => by rw [pk_un (by omega)]; exact k.1 v (by omega), fun v hv => ?_, ⟨fun q v hv => ?_, fun q => k.2.2.mpr (fun v hv => q v (by omega))⟩⟩
  · by_cases q : v = i
    · rw [q]; exact Or.inr (Or.inr ⟨hn, hs, pk_us⟩)
    · rw [pk_un q]; exact k.2.1 v (by omega)
  · by_cases q2 : v = i
    · rw [q2]; exact fun z => hs z.2
    · exact k.2.2.mp q v (by omega)
theorem LieV.stay {fe fv fL fi0 fi : Nat → Int32} {wh : Int32} {md i c : Nat} (k : LieV fe fv fL fi0 wh md fi i c) (hn : hre wh fL fi i) (hs : stq fe fv i) : LieV fe fv fL fi0 wh md (upd fi i (nI md)) (i + 1) (c + 1) := by
  have e := k.1 i (Nat.le_refl _)
  rw [hre_eq e] at hn
  refine ⟨fun v hv => by rw [pk_un (by omega)]; exact k.1 v (by omega), fun v hv => ?_, ⟨fun q => absurd q (Nat.succ_ne_zero _), fun q => absurd ⟨hn, hs⟩ (q i (Nat.lt_succ_self _))⟩⟩
  · by_cases q : v = i
    · rw [q]; exact Or.inr (Or.inl ⟨hn, hs, pk_us⟩)
    · rw [pk_un q]; exact k.2.1 v (by omega)
theorem LieV.one {fe fv fL fi0 fi : Nat → Int32} {wh : Int32} {md i c : Nat} (k : LieV fe fv fL fi0 wh md fi i c) (hc : ¬ c = 0) : LieV fe fv fL fi0 wh md fi i 1 := ⟨k.1, k.2.1, fun q => absurd q (by decide), fun q => absurd (k.2.2.mpr q) hc⟩
def tb (f : Nat → Int32) : Nat → List Int32
  | 0 => []
  | n + 1 => tb f n ++ [f n]
theorem tb_congr {f g : Nat → Int32} : ∀ n, (∀ k, k < n → f k = g k) → tb f n = tb g n := by
  intro n
  induction n with
  | zero => intro _; rfl
  | succ n ih => intro h; rw [tb, tb, ih (fun k hk => h k (by omega)), h n (by omega)]
def kpB (wh : Int32) (fL : Nat → Int32) (x : Int32) : Bool := decide (kpx wh (fL x.toNatClampNeg))
def RowV (wh : Int32) (fL fr0 fr : Nat → Int32) (i lf : Nat) : Prop := tb fr lf = (tb fr0 i).filter (kpB wh fL)
theorem RowV.keep {wh : Int32} {fL fr0 fr : Nat → Int32} {i lf : Nat} (k : RowV wh fL fr0 fr i lf) (hk : kpx wh (lev fL fr0 i)) (e : fr i = fr0 i) : RowV wh fL fr0 (upd fr lf (fr i)) (i + 1) (lf + 1) := by
  unfold RowV at k ⊢
  have hb : kpB wh fL (fr0 i) = true := decide_eq_true hk
  rw [tb, tb, tb_congr lf (fun k hk => pk_un (by omega)), k, pk_us, e, List.filter_append, List.filter_cons_of_pos hb, List.filter_nil]
theorem RowV.skip {wh : Int32} {fL fr0 fr : Nat → Int32} {i lf : Nat} (k : RowV wh fL fr0 fr i lf) (hk : ¬ kpx wh (lev fL fr0 i)) : RowV wh fL fr0 fr (i + 1) lf := by
  unfold RowV at k ⊢
  have hb : ¬ kpB wh fL (fr0 i) = true := fun z => hk (of_decide_eq_true z)
  rw [tb, k, List.filter_append, List.filter_cons_of_neg hb, List.filter_nil, List.append_nil]
def GaV (fe fv fi fr fL : Nat → Int32) (wh to : Int32) (vs md sg : Nat) (fi' fr' fL' : Nat → Int32) (dl lf : Nat) : Prop := LieV fe fv fL fi wh md fi' vs dl ∧ tb fr' (lf + dl) = (tb fr sg).filter (kpB wh fL) ++ (if dl = 1 then [nI md] else []) ∧ fL' = if dl = 1 then upd fL md to else fL
theorem GaV.no {fe fv fi fr fL fi' fr' : Nat → Int32} {wh to : Int32} {vs md sg lf : Nat} (k : LieV fe fv fL fi wh md fi' vs 0) (r : RowV wh fL fr fr' sg lf) : GaV fe fv fi fr fL wh to vs md sg fi' fr' fL 0 lf := ⟨k, by rw [if_neg (by decide), List.append_nil]; exact r, by rw [if_neg (by decide)]⟩
theorem GaV.yes {fe fv fi fr fL fi' fr' : Nat → Int32} {wh to : Int32} {vs md sg lf c : Nat} (k : LieV fe fv fL fi wh md fi' vs c) (hc : ¬ c = 0) (r : RowV wh fL fr fr' sg lf) : GaV fe fv fi fr fL wh to vs md sg fi' (upd fr' lf (nI md)) (upd fL md to) 1 lf := ⟨k.one hc, by rw [if_pos rfl, tb, tb_congr lf (fun k hk => pk_un (by omega)), pk_us]; unfold RowV at r; rw [r], by rw [if_pos rfl]⟩
/-- lies, row, level, made, segments -/
abbrev RSt := (Nat → Int32) × (Nat → Int32) × (Nat → Int32) × Nat × Nat
def GaS (fe fv : Nat → Int32) (wh to : Int32) (vs : Nat) (X Y : RSt) : Prop := ∃ dl lf : Nat, dl ≤ 1 ∧ Y.2.2.2.1 = X.2.2.2.1 + dl ∧ Y.2.2.2.2 = lf + dl ∧ GaV fe fv X.1 X.2.1 X.2.2.1 wh to vs X.2.2.2.1 X.2.2.2.2 Y.1 Y.2.1 Y.2.2.1 dl lf
def FlS (fe fv : Nat → Int32) (vs mo : Nat) : Nat → Nat → RSt → RSt → Prop
  | 0, _, X, Z => X = Z
  | d + 1, l, X, Z => ∃ Y, ((mo < cntE (lev X.2.2.1 X.2.1) X.2.2.2.2 (nI l) ∧ GaS fe fv (nI l) (nI (l + 1)) vs X Y) ∨ (¬ mo < cntE (lev X.2.2.1 X.2.1) X.2.2.2.2 (nI l) ∧ X = Y)) ∧ FlS fe fv vs mo d (l + 1) Y Z
def FluS (fe fv : Nat → Int32) (vs mo : Nat) (X Z : RSt) : Prop := ∃ Y, GaS fe fv (-2) 0 vs X Y ∧ FlS fe fv vs mo 5 0 Y Z
/-- the entries that are pending -/
def pnd (fi fe : Nat → Int32) : Nat → Int32
  | 0 => 0
  | n + 1 => if fi n = -2 then pnd fi fe n + fe n else pnd fi fe n
/-- what a gathering leaves -/
def GaP (m lies_ row_ level_ : Nat) (gs : List Value) (fe fv fi0 fr fL : Nat → Int32) (wh to : Int32) (vs md sg : Nat) (h0 h : xw_A) : Prop :=
  ∃ (dl lf : Nat) (fs : List Value) (fi fr' fL' : Nat → Int32), dl ≤ 1 ∧ fs.length = 62 ∧ h m = some (.inr (11, fs)) ∧ fs[(16 : Nat)]? = some (.int (nI (md + dl))) ∧ fs[(19 : Nat)]? = some (.int (nI (lf + dl))) ∧ (∀ i : Nat, i ∉ [16, 19] → fs[i]? = gs[i]?) ∧ h lies_ = some (.inl (0, 600, .inl fi)) ∧ h row_ = some (.inl (0, 600, .inl fr')) ∧ h level_ = some (.inl (0, 1300, .inl fL')) ∧ (∀ v, v < vs → fi v < 0 ∨ ∃ s, s < md + dl ∧ fi v = nI s) ∧ (∀ k, k < lf + dl → ∃ s, s < md + dl ∧ fr' k = nI s) ∧ (∀ s, s < md → fL' s = fL s) ∧ (dl = 1 → fL' md = to) ∧ (∀ x, cntE (lev fL' fr') (lf + dl) x = (if kpx wh x then cntE (lev fL fr) sg x else 0) + (if to = x then dl else 0)) ∧ (wh = -2 → lf = sg) ∧ (¬ wh < 0 → lf + cntE (lev fL fr) sg wh = sg) ∧ (wh = -1 → lf = 0) ∧ lf ≤ sg ∧ GaV fe fv fi0 fr fL wh to vs md sg fi fr' fL' dl lf ∧ FrO [m, lies_, row_, level_] h0 h
/-- how many segments of level x there are -/
def lvC (fL fr : Nat → Int32) (sg : Nat) (x : Nat) : Nat := cntE (lev fL fr) sg (nI x)
theorem lvStep {i x a dl : Nat} (hi : i < 5) (hx : x < 5) : (if kpx (nI i) (nI x) then a else 0) + (if nI (i + 1) = nI x then dl else 0) = (if x = i then 0 else a) + (if x = i + 1 then dl else 0) := by
  have h1 : ¬ nI i = -2 := fun q => nI_pos (n := i) (by omega) (by rw [q]; decide)
  have e1 : (if kpx (nI i) (nI x) then a else 0) = if x = i then 0 else a := by
    by_cases q : x = i
    · rw [if_pos q, if_neg (fun w => w.elim h1 (fun u => u.2 (by rw [q])))]
    · rw [if_neg q, if_pos (Or.inr ⟨nI_pos (by omega), fun z => q ((nI_eq (by omega) (by omega)).mp z)⟩)]
  have e2 : (if nI (i + 1) = nI x then dl else 0) = if x = i + 1 then dl else 0 := by
    by_cases q : x = i + 1
    · rw [if_pos q, if_pos (by rw [q])]
    · rw [if_neg q, if_neg (fun z => q ((nI_eq (by omega) (by omega)).mp z).symm)]
  rw [e1, e2]
theorem lvZero {x dl : Nat} (hx : x < 5) : (if (0 : Int32) = nI x then dl else 0) = if x = 0 then dl else 0 := by
  by_cases q : x = 0
  · rw [if_pos q, if_pos (by rw [q]; rfl)]
  · rw [if_neg q, if_neg (show ¬ (0 : Int32) = nI x from fun z => q ((nI_eq (a := 0) (by omega) (by omega)).mp z).symm)]
theorem has_f {x : Int32} {j : Nat} (h : b01 (decide (¬ x < 1) && decide (¬ 24 < x)) = 0) (hj : j < 24) (e : x = nI (j + 1)) : False := by
  have q := row_rng (j := j + 1) (by omega) (by omega) e
  have h9 := b01_f h
  rw [decide_eq_true q.1, decide_eq_true q.2] at h9
  exact absurd h9 (by decide)
theorem cinj {h : xw_A} {a n t : Nat} {f g : Nat → Int32} (e1 : h a = some (.inl (t, n, .inl f))) (e2 : h a = some (.inl (t, n, .inl g))) : f = g := by
  have q := e1.symm.trans e2
  simp only [Option.some.injEq, Sum.inl.injEq, Prod.mk.injEq, true_and] at q
  exact q
